theorem dX8_forget_0 : decode cX8_forget 0 = .ok (.iconst 0, 1) := by decide +kernel
theorem dX8_forget_1 : decode cX8_forget 1 = .ok (.istore_n 1, 1) := by decide +kernel
theorem dX8_forget_2 : decode cX8_forget 2 = .ok (.iload_n 1, 1) := by decide +kernel
theorem dX8_forget_3 : decode cX8_forget 3 = .ok (.aload_n 0, 1) := by decide +kernel
theorem q_4_76 : Cond.fieldLink "BeaconDelay$Ways" 56 "BeaconDelay$Ways" "count" "I" ∈ gw := gw_4 (i := 76) (by decide +kernel) rfl
theorem dX8_forget_4 : decode cX8_forget 4 = .ok (.getfield 56, 3) := by decide +kernel
theorem dX8_forget_7 : decode cX8_forget 7 = .ok (.if_icmp .ge 21, 3) := by decide +kernel
theorem dX8_forget_28 : decode cX8_forget 28 = .ok (.aload_n 0, 1) := by decide +kernel
theorem dX8_forget_29 : decode cX8_forget 29 = .ok (.iconst 0, 1) := by decide +kernel
theorem dX8_forget_30 : decode cX8_forget 30 = .ok (.putfield 56, 3) := by decide +kernel
theorem dX8_forget_33 : decode cX8_forget 33 = .ok (.aload_n 0, 1) := by decide +kernel
theorem dX8_forget_34 : decode cX8_forget 34 = .ok (.iconst 0, 1) := by decide +kernel
theorem q_4_90 : Cond.fieldLink "BeaconDelay$Ways" 59 "BeaconDelay$Ways" "opened" "I" ∈ gw := gw_4 (i := 90) (by decide +kernel) rfl
theorem dX8_forget_35 : decode cX8_forget 35 = .ok (.putfield 59, 3) := by decide +kernel
theorem dX8_forget_38 : decode cX8_forget 38 = .ok (.return_, 1) := by decide +kernel
set_option maxHeartbeats 4000000 in
set_option maxRecDepth 100000 in
theorem c_X8_forget_0 (l : Launch) (V : GV) (y : Nat → Nat) (h0 : Nat) (h1 : Nat) (h2 : Nat) (h3 : Nat) (h4 : Nat) (h5 : Nat) (h6 : Nat) (h7 : Nat) (h8 : Nat) (h9 : Nat) : Ct l V yX8_forget (.code yX8_forget cX8_forget 2 none) 1 [.ref h0] [(h0, .inr (8, [.int 0, .int 1, .ref h1, .ref h2, .ref h3, .int 0, .int 0, .ref (y 19), .ref h4, .ref h5, .ref h6, .ref h7, .ref h8, .ref h9, .int 0, .int 0, .int 0]))] 0 0 (QV V (fun (w : va_W) => (w = [(h0, .inr (8, [.int 0, .int 1, .ref h1, .ref h2, .ref h3, .int 0, .int 0, .ref (y 19), .ref h4, .ref h5, .ref h6, .ref h7, .ref h8, .ref h9, .int 0, .int 0, .int 0]))]))) := by
  refine Ct.of (by decide) (Nat.le_of_ble_eq_true rfl) (fun p e s m below meth c A ls hx hb hr hml hown hlk hnm hg hP hK hD hE hA hS hl => ?_)
  have hl : lv_has ls 2 [(0, .ref h0)] := hl
  refine lv_iconst (v := 0) hx hb dX8_forget_0 (by decide) ?_
  refine lv_istore_n (lv' := [(1, .int 0), (0, .ref h0)]) hx hb dX8_forget_1 rfl hl (by decide) rfl (fun ls hl => ?_)
  refine lv_iload_n hx hb dX8_forget_2 rfl (lv_at hl 0 rfl) ?_
  refine lv_aload_n hx hb dX8_forget_3 rfl (lv_at hl 1 rfl) ?_
  refine va_get (ci := 8) (v := .int 0) (C := RX8) (T := TX8) (N := 17) hx hb hg inX8 hown hK hP 0 rfl rfl 5 (by decide) (hg _ q_4_76) (fun _ h9 => h9) rfl dX8_forget_4 ?_
  refine lv_icmp_ge (tgt := 28) hx hb dX8_forget_7 (by decide) (fun _ => ?_) (fun c_1 => absurd c_1 (by decide))
  refine lv_aload_n hx hb dX8_forget_28 rfl (lv_at hl 1 rfl) ?_
  refine lv_iconst (v := 0) hx hb dX8_forget_29 (by decide) ?_
  refine va_put (ci := 8) (v := .int 0) (ty := .int) (C := RX8) (T := TX8) (N := 17) hx hb hg inX8 tyX8 tyX8_ok nmX8 hown hK hP hD hS 0 rfl rfl 5 (by decide) (hg _ q_4_76) (fun _ h9 => h9) rfl (by decide +kernel) rfl rfl (Nat.le_of_ble_eq_true rfl) dX8_forget_30 (fun H locs hP hD hS => ?_)
  have hP : va_P V.1 vwCl [(h0, .inr (8, [.int 0, .int 1, .ref h1, .ref h2, .ref h3, .int 0, .int 0, .ref (y 19), .ref h4, .ref h5, .ref h6, .ref h7, .ref h8, .ref h9, .int 0, .int 0, .int 0]))] H := hP
  have hD : va_D A [(h0, .inr (8, [.int 0, .int 1, .ref h1, .ref h2, .ref h3, .int 0, .int 0, .ref (y 19), .ref h4, .ref h5, .ref h6, .ref h7, .ref h8, .ref h9, .int 0, .int 0, .int 0]))] := hD
  refine lv_aload_n hx hb dX8_forget_33 rfl (lv_at hl 1 rfl) ?_
  refine lv_iconst (v := 0) hx hb dX8_forget_34 (by decide) ?_
  refine va_put (ci := 8) (v := .int 0) (ty := .int) (C := RX8) (T := TX8) (N := 17) hx hb hg inX8 tyX8 tyX8_ok nmX8 hown hK hP hD hS 0 rfl rfl 16 (by decide) (hg _ q_4_90) (fun _ h9 => h9) rfl (by decide +kernel) rfl rfl (Nat.le_of_ble_eq_true rfl) dX8_forget_35 (fun H locs hP hD hS => ?_)
  have hP : va_P V.1 vwCl [(h0, .inr (8, [.int 0, .int 1, .ref h1, .ref h2, .ref h3, .int 0, .int 0, .ref (y 19), .ref h4, .ref h5, .ref h6, .ref h7, .ref h8, .ref h9, .int 0, .int 0, .int 0]))] H := hP
  have hD : va_D A [(h0, .inr (8, [.int 0, .int 1, .ref h1, .ref h2, .ref h3, .int 0, .int 0, .ref (y 19), .ref h4, .ref h5, .ref h6, .ref h7, .ref h8, .ref h9, .int 0, .int 0, .int 0]))] := hD
  exact fiV hx hb hr hlk hK hP hD hS dX8_forget_38 (Nat.le_of_ble_eq_true rfl) (Nat.le_of_ble_eq_true rfl) (rfl)
theorem dX8_meet_0 : decode cX8_meet 0 = .ok (.iload_n 1, 1) := by decide +kernel
theorem dX8_meet_1 : decode cX8_meet 1 = .ok (.ifCond .lt 12, 3) := by decide +kernel
theorem dX8_meet_4 : decode cX8_meet 4 = .ok (.iload_n 1, 1) := by decide +kernel
theorem dX8_meet_5 : decode cX8_meet 5 = .ok (.aload_n 0, 1) := by decide +kernel
theorem dX8_meet_6 : decode cX8_meet 6 = .ok (.getfield 38, 3) := by decide +kernel
theorem dX8_meet_9 : decode cX8_meet 9 = .ok (.arraylength, 1) := by decide +kernel
theorem dX8_meet_10 : decode cX8_meet 10 = .ok (.if_icmp .lt 5, 3) := by decide +kernel
theorem dX8_meet_15 : decode cX8_meet 15 = .ok (.aload_n 0, 1) := by decide +kernel
theorem dX8_meet_16 : decode cX8_meet 16 = .ok (.getfield 38, 3) := by decide +kernel
theorem dX8_meet_19 : decode cX8_meet 19 = .ok (.iload_n 1, 1) := by decide +kernel
theorem dX8_meet_20 : decode cX8_meet 20 = .ok (.iaload, 1) := by decide +kernel
theorem dX8_meet_21 : decode cX8_meet 21 = .ok (.ifCond .ne 69, 3) := by decide +kernel
theorem dX8_meet_24 : decode cX8_meet 24 = .ok (.aload_n 0, 1) := by decide +kernel
theorem dX8_meet_25 : decode cX8_meet 25 = .ok (.getfield 56, 3) := by decide +kernel
theorem dX8_meet_28 : decode cX8_meet 28 = .ok (.aload_n 0, 1) := by decide +kernel
theorem dX8_meet_29 : decode cX8_meet 29 = .ok (.getfield 26, 3) := by decide +kernel
theorem dX8_meet_32 : decode cX8_meet 32 = .ok (.if_icmp .ge 58, 3) := by decide +kernel
theorem dX8_meet_35 : decode cX8_meet 35 = .ok (.aload_n 0, 1) := by decide +kernel
theorem dX8_meet_36 : decode cX8_meet 36 = .ok (.getfield 29, 3) := by decide +kernel
theorem dX8_meet_39 : decode cX8_meet 39 = .ok (.aload_n 0, 1) := by decide +kernel
theorem dX8_meet_40 : decode cX8_meet 40 = .ok (.getfield 56, 3) := by decide +kernel
theorem dX8_meet_43 : decode cX8_meet 43 = .ok (.iload_n 1, 1) := by decide +kernel
theorem dX8_meet_44 : decode cX8_meet 44 = .ok (.iastore, 1) := by decide +kernel
theorem dX8_meet_45 : decode cX8_meet 45 = .ok (.aload_n 0, 1) := by decide +kernel
theorem dX8_meet_46 : decode cX8_meet 46 = .ok (.getfield 41, 3) := by decide +kernel
theorem dX8_meet_49 : decode cX8_meet 49 = .ok (.aload_n 0, 1) := by decide +kernel
theorem dX8_meet_50 : decode cX8_meet 50 = .ok (.getfield 56, 3) := by decide +kernel
theorem dX8_meet_53 : decode cX8_meet 53 = .ok (.iload_n 2, 1) := by decide +kernel
theorem dX8_meet_54 : decode cX8_meet 54 = .ok (.iconst 4, 1) := by decide +kernel
theorem dX8_meet_55 : decode cX8_meet 55 = .ok (.imul, 1) := by decide +kernel
theorem dX8_meet_56 : decode cX8_meet 56 = .ok (.iload_n 3, 1) := by decide +kernel
theorem dX8_meet_57 : decode cX8_meet 57 = .ok (.iadd, 1) := by decide +kernel
theorem dX8_meet_58 : decode cX8_meet 58 = .ok (.iastore, 1) := by decide +kernel
theorem dX8_meet_59 : decode cX8_meet 59 = .ok (.aload_n 0, 1) := by decide +kernel
theorem dX8_meet_60 : decode cX8_meet 60 = .ok (.getfield 32, 3) := by decide +kernel
theorem dX8_meet_63 : decode cX8_meet 63 = .ok (.aload_n 0, 1) := by decide +kernel
theorem dX8_meet_64 : decode cX8_meet 64 = .ok (.getfield 56, 3) := by decide +kernel
theorem dX8_meet_67 : decode cX8_meet 67 = .ok (.iload 4, 2) := by decide +kernel
theorem dX8_meet_69 : decode cX8_meet 69 = .ok (.iastore, 1) := by decide +kernel
theorem dX8_meet_70 : decode cX8_meet 70 = .ok (.aload_n 0, 1) := by decide +kernel
theorem dX8_meet_71 : decode cX8_meet 71 = .ok (.dup, 1) := by decide +kernel
theorem dX8_meet_72 : decode cX8_meet 72 = .ok (.getfield 56, 3) := by decide +kernel
theorem dX8_meet_75 : decode cX8_meet 75 = .ok (.iconst 1, 1) := by decide +kernel
theorem dX8_meet_76 : decode cX8_meet 76 = .ok (.iadd, 1) := by decide +kernel
theorem dX8_meet_77 : decode cX8_meet 77 = .ok (.putfield 56, 3) := by decide +kernel
theorem dX8_meet_80 : decode cX8_meet 80 = .ok (.aload_n 0, 1) := by decide +kernel
theorem dX8_meet_81 : decode cX8_meet 81 = .ok (.getfield 38, 3) := by decide +kernel
theorem dX8_meet_84 : decode cX8_meet 84 = .ok (.iload_n 1, 1) := by decide +kernel
theorem dX8_meet_85 : decode cX8_meet 85 = .ok (.aload_n 0, 1) := by decide +kernel
theorem dX8_meet_86 : decode cX8_meet 86 = .ok (.getfield 56, 3) := by decide +kernel
theorem dX8_meet_89 : decode cX8_meet 89 = .ok (.iastore, 1) := by decide +kernel
theorem dX8_meet_90 : decode cX8_meet 90 = .ok (.iconst 0, 1) := by decide +kernel
theorem dX8_meet_91 : decode cX8_meet 91 = .ok (.aload_n 0, 1) := by decide +kernel
theorem dX8_meet_92 : decode cX8_meet 92 = .ok (.getfield 38, 3) := by decide +kernel
theorem dX8_meet_95 : decode cX8_meet 95 = .ok (.iload_n 1, 1) := by decide +kernel
theorem dX8_meet_96 : decode cX8_meet 96 = .ok (.iaload, 1) := by decide +kernel
theorem dX8_meet_97 : decode cX8_meet 97 = .ok (.iconst 1, 1) := by decide +kernel
theorem dX8_meet_98 : decode cX8_meet 98 = .ok (.isub, 1) := by decide +kernel
theorem q_4_131 : Cond.methodLink "BeaconDelay$Ways" 71 Lib.Math.max.name ∈ gw := gw_4 (i := 131) (by decide +kernel) rfl
theorem dX8_meet_99 : decode cX8_meet 99 = .ok (.invokestatic 71, 3) := by decide +kernel
theorem dX8_meet_102 : decode cX8_meet 102 = .ok (.ireturn, 1) := by decide +kernel
set_option maxHeartbeats 4000000 in
set_option maxRecDepth 100000 in
theorem c_X8_meet_0 (l : Launch) (V : GV) (y : Nat → Nat) (h0 : Nat) (h1 : Nat) (h2 : Nat) (h3 : Nat) (h4 : Nat) (h5 : Nat) (h6 : Nat) (h7 : Nat) (h8 : Nat) (h9 : Nat) : Ct l V yX8_meet (.code yX8_meet cX8_meet 5 (some .int)) 1 [.ref h0, .int 0, .int 0, .int 0, .int 0] [(h2, aI V 1 (fun _ => 0)), (h3, aI V 1 (fun _ => 0)), (h4, aI V 1 (fun _ => 0)), (h5, aI V 1 (fun _ => 0)), (h0, .inr (8, [.int 0, .int 1, .ref h2, .ref h3, .ref h8, .int 0, .int 1, .ref (y 19), .ref h4, .ref h5, .ref h6, .ref h7, .ref h1, .ref h9, .int 0, .int 0, .int 0]))] 0 0 (QI V (fun (r : Int32) (w : va_W) => (r = 0 ∧ w = [(h2, aI V 1 (fun _ => 0)), (h3, aI V 1 (fun _ => 0)), (h4, aI V 1 (upd (fun _ => 0) 0 1)), (h5, aI V 1 (fun _ => 0)), (h0, .inr (8, [.int 0, .int 1, .ref h2, .ref h3, .ref h8, .int 1, .int 1, .ref (y 19), .ref h4, .ref h5, .ref h6, .ref h7, .ref h1, .ref h9, .int 0, .int 0, .int 0]))]))) := by
  refine Ct.of (by decide) (Nat.le_of_ble_eq_true rfl) (fun p e s m below meth c A ls hx hb hr hml hown hlk hnm hg hP hK hD hE hA hS hl => ?_)
  have hl : lv_has ls 5 [(0, .ref h0), (1, .int 0), (2, .int 0), (3, .int 0), (4, .int 0)] := hl
  refine lv_iload_n hx hb dX8_meet_0 rfl (lv_at hl 1 rfl) ?_
  refine lv_if_lt (tgt := 13) hx hb dX8_meet_1 (by decide) (fun c_1 => absurd c_1 (by decide)) (fun _ => ?_)
  refine lv_iload_n hx hb dX8_meet_4 rfl (lv_at hl 1 rfl) ?_
  refine lv_aload_n hx hb dX8_meet_5 rfl (lv_at hl 0 rfl) ?_
  refine va_get (ci := 8) (v := .ref h4) (C := RX8) (T := TX8) (N := 17) hx hb hg inX8 hown hK hP 4 rfl rfl 8 (by decide) (hg _ q_4_82) (fun _ h9 => h9) rfl dX8_meet_6 ?_
  refine va_alen (v := 1) hx hb hK hP 2 0 rfl rfl (by decide) dX8_meet_9 ?_
  refine lv_icmp_lt (tgt := 15) hx hb dX8_meet_10 (by decide) (fun _ => ?_) (fun c_2 => absurd c_2 (by decide))
  refine lv_aload_n hx hb dX8_meet_15 rfl (lv_at hl 0 rfl) ?_
  refine va_get (ci := 8) (v := .ref h4) (C := RX8) (T := TX8) (N := 17) hx hb hg inX8 hown hK hP 4 rfl rfl 8 (by decide) (hg _ q_4_82) (fun _ h9 => h9) rfl dX8_meet_16 ?_
  refine lv_iload_n hx hb dX8_meet_19 rfl (lv_at hl 1 rfl) ?_
  refine va_iald hx hb hK hP 2 0 rfl rfl (vin (by decide +kernel)) dX8_meet_20 ?_
  refine tpi (y := 0) (rfl) ?_
  refine lv_if_ne (tgt := 90) hx hb dX8_meet_21 (by decide) (fun c_3 => absurd c_3 (by decide)) (fun _ => ?_)
  refine lv_aload_n hx hb dX8_meet_24 rfl (lv_at hl 0 rfl) ?_
  refine va_get (ci := 8) (v := .int 0) (C := RX8) (T := TX8) (N := 17) hx hb hg inX8 hown hK hP 4 rfl rfl 5 (by decide) (hg _ q_4_76) (fun _ h9 => h9) rfl dX8_meet_25 ?_
  refine lv_aload_n hx hb dX8_meet_28 rfl (lv_at hl 0 rfl) ?_
  refine va_get (ci := 8) (v := .int 1) (C := RX8) (T := TX8) (N := 17) hx hb hg inX8 hown hK hP 4 rfl rfl 1 (by decide) (hg _ q_4_67) (fun _ h9 => h9) rfl dX8_meet_29 ?_
  refine lv_icmp_ge (tgt := 90) hx hb dX8_meet_32 (by decide) (fun c_4 => absurd c_4 (by decide)) (fun _ => ?_)
  refine lv_aload_n hx hb dX8_meet_35 rfl (lv_at hl 0 rfl) ?_
  refine va_get (ci := 8) (v := .ref h2) (C := RX8) (T := TX8) (N := 17) hx hb hg inX8 hown hK hP 4 rfl rfl 2 (by decide) (hg _ q_4_69) (fun _ h9 => h9) rfl dX8_meet_36 ?_
  refine lv_aload_n hx hb dX8_meet_39 rfl (lv_at hl 0 rfl) ?_
  refine va_get (ci := 8) (v := .int 0) (C := RX8) (T := TX8) (N := 17) hx hb hg inX8 hown hK hP 4 rfl rfl 5 (by decide) (hg _ q_4_76) (fun _ h9 => h9) rfl dX8_meet_40 ?_
  refine lv_iload_n hx hb dX8_meet_43 rfl (lv_at hl 1 rfl) ?_
  refine va_iast hx hb hK hP hD hS 0 0 rfl rfl (vin (by decide +kernel)) dX8_meet_44 (fun H locs hP hD hS => ?_)
  have hP : va_P V.1 vwCl [(h2, aI V 1 (upd (fun _ => 0) 0 0)), (h3, aI V 1 (fun _ => 0)), (h4, aI V 1 (fun _ => 0)), (h5, aI V 1 (fun _ => 0)), (h0, .inr (8, [.int 0, .int 1, .ref h2, .ref h3, .ref h8, .int 0, .int 1, .ref (y 19), .ref h4, .ref h5, .ref h6, .ref h7, .ref h1, .ref h9, .int 0, .int 0, .int 0]))] H := hP
  have hD : va_D A [(h2, aI V 1 (upd (fun _ => 0) 0 0)), (h3, aI V 1 (fun _ => 0)), (h4, aI V 1 (fun _ => 0)), (h5, aI V 1 (fun _ => 0)), (h0, .inr (8, [.int 0, .int 1, .ref h2, .ref h3, .ref h8, .int 0, .int 1, .ref (y 19), .ref h4, .ref h5, .ref h6, .ref h7, .ref h1, .ref h9, .int 0, .int 0, .int 0]))] := hD
  have hP : va_P V.1 vwCl [(h2, aI V 1 (fun _ => 0)), (h3, aI V 1 (fun _ => 0)), (h4, aI V 1 (fun _ => 0)), (h5, aI V 1 (fun _ => 0)), (h0, .inr (8, [.int 0, .int 1, .ref h2, .ref h3, .ref h8, .int 0, .int 1, .ref (y 19), .ref h4, .ref h5, .ref h6, .ref h7, .ref h1, .ref h9, .int 0, .int 0, .int 0]))] H := by rw [upd0] at hP; exact hP
  have hD : va_D A [(h2, aI V 1 (fun _ => 0)), (h3, aI V 1 (fun _ => 0)), (h4, aI V 1 (fun _ => 0)), (h5, aI V 1 (fun _ => 0)), (h0, .inr (8, [.int 0, .int 1, .ref h2, .ref h3, .ref h8, .int 0, .int 1, .ref (y 19), .ref h4, .ref h5, .ref h6, .ref h7, .ref h1, .ref h9, .int 0, .int 0, .int 0]))] := by rw [upd0] at hD; exact hD
  refine lv_aload_n hx hb dX8_meet_45 rfl (lv_at hl 0 rfl) ?_
  refine va_get (ci := 8) (v := .ref h5) (C := RX8) (T := TX8) (N := 17) hx hb hg inX8 hown hK hP 4 rfl rfl 9 (by decide) (hg _ q_4_83) (fun _ h9 => h9) rfl dX8_meet_46 ?_
  refine lv_aload_n hx hb dX8_meet_49 rfl (lv_at hl 0 rfl) ?_
  refine va_get (ci := 8) (v := .int 0) (C := RX8) (T := TX8) (N := 17) hx hb hg inX8 hown hK hP 4 rfl rfl 5 (by decide) (hg _ q_4_76) (fun _ h9 => h9) rfl dX8_meet_50 ?_
  refine lv_iload_n hx hb dX8_meet_53 rfl (lv_at hl 2 rfl) ?_
  refine lv_iconst (v := 4) hx hb dX8_meet_54 (by decide) ?_
  refine lv_imul hx hb dX8_meet_55 ?_
  refine tpi (y := 0) (by decide +kernel) ?_
  refine lv_iload_n hx hb dX8_meet_56 rfl (lv_at hl 3 rfl) ?_
  refine lv_iadd hx hb dX8_meet_57 ?_
  refine tpi (y := 0) (by decide +kernel) ?_
  refine va_iast hx hb hK hP hD hS 3 0 rfl rfl (vin (by decide +kernel)) dX8_meet_58 (fun H locs hP hD hS => ?_)
  have hP : va_P V.1 vwCl [(h2, aI V 1 (fun _ => 0)), (h3, aI V 1 (fun _ => 0)), (h4, aI V 1 (fun _ => 0)), (h5, aI V 1 (upd (fun _ => 0) 0 0)), (h0, .inr (8, [.int 0, .int 1, .ref h2, .ref h3, .ref h8, .int 0, .int 1, .ref (y 19), .ref h4, .ref h5, .ref h6, .ref h7, .ref h1, .ref h9, .int 0, .int 0, .int 0]))] H := hP
  have hD : va_D A [(h2, aI V 1 (fun _ => 0)), (h3, aI V 1 (fun _ => 0)), (h4, aI V 1 (fun _ => 0)), (h5, aI V 1 (upd (fun _ => 0) 0 0)), (h0, .inr (8, [.int 0, .int 1, .ref h2, .ref h3, .ref h8, .int 0, .int 1, .ref (y 19), .ref h4, .ref h5, .ref h6, .ref h7, .ref h1, .ref h9, .int 0, .int 0, .int 0]))] := hD
  have hP : va_P V.1 vwCl [(h2, aI V 1 (fun _ => 0)), (h3, aI V 1 (fun _ => 0)), (h4, aI V 1 (fun _ => 0)), (h5, aI V 1 (fun _ => 0)), (h0, .inr (8, [.int 0, .int 1, .ref h2, .ref h3, .ref h8, .int 0, .int 1, .ref (y 19), .ref h4, .ref h5, .ref h6, .ref h7, .ref h1, .ref h9, .int 0, .int 0, .int 0]))] H := by rw [upd0] at hP; exact hP
  have hD : va_D A [(h2, aI V 1 (fun _ => 0)), (h3, aI V 1 (fun _ => 0)), (h4, aI V 1 (fun _ => 0)), (h5, aI V 1 (fun _ => 0)), (h0, .inr (8, [.int 0, .int 1, .ref h2, .ref h3, .ref h8, .int 0, .int 1, .ref (y 19), .ref h4, .ref h5, .ref h6, .ref h7, .ref h1, .ref h9, .int 0, .int 0, .int 0]))] := by rw [upd0] at hD; exact hD
  refine lv_aload_n hx hb dX8_meet_59 rfl (lv_at hl 0 rfl) ?_
  refine va_get (ci := 8) (v := .ref h3) (C := RX8) (T := TX8) (N := 17) hx hb hg inX8 hown hK hP 4 rfl rfl 3 (by decide) (hg _ q_4_72) (fun _ h9 => h9) rfl dX8_meet_60 ?_
  refine lv_aload_n hx hb dX8_meet_63 rfl (lv_at hl 0 rfl) ?_
  refine va_get (ci := 8) (v := .int 0) (C := RX8) (T := TX8) (N := 17) hx hb hg inX8 hown hK hP 4 rfl rfl 5 (by decide) (hg _ q_4_76) (fun _ h9 => h9) rfl dX8_meet_64 ?_
  refine lv_iload hx hb dX8_meet_67 (lv_at hl 4 rfl) ?_
  refine va_iast hx hb hK hP hD hS 1 0 rfl rfl (vin (by decide +kernel)) dX8_meet_69 (fun H locs hP hD hS => ?_)
  have hP : va_P V.1 vwCl [(h2, aI V 1 (fun _ => 0)), (h3, aI V 1 (upd (fun _ => 0) 0 0)), (h4, aI V 1 (fun _ => 0)), (h5, aI V 1 (fun _ => 0)), (h0, .inr (8, [.int 0, .int 1, .ref h2, .ref h3, .ref h8, .int 0, .int 1, .ref (y 19), .ref h4, .ref h5, .ref h6, .ref h7, .ref h1, .ref h9, .int 0, .int 0, .int 0]))] H := hP
  have hD : va_D A [(h2, aI V 1 (fun _ => 0)), (h3, aI V 1 (upd (fun _ => 0) 0 0)), (h4, aI V 1 (fun _ => 0)), (h5, aI V 1 (fun _ => 0)), (h0, .inr (8, [.int 0, .int 1, .ref h2, .ref h3, .ref h8, .int 0, .int 1, .ref (y 19), .ref h4, .ref h5, .ref h6, .ref h7, .ref h1, .ref h9, .int 0, .int 0, .int 0]))] := hD
  have hP : va_P V.1 vwCl [(h2, aI V 1 (fun _ => 0)), (h3, aI V 1 (fun _ => 0)), (h4, aI V 1 (fun _ => 0)), (h5, aI V 1 (fun _ => 0)), (h0, .inr (8, [.int 0, .int 1, .ref h2, .ref h3, .ref h8, .int 0, .int 1, .ref (y 19), .ref h4, .ref h5, .ref h6, .ref h7, .ref h1, .ref h9, .int 0, .int 0, .int 0]))] H := by rw [upd0] at hP; exact hP
  have hD : va_D A [(h2, aI V 1 (fun _ => 0)), (h3, aI V 1 (fun _ => 0)), (h4, aI V 1 (fun _ => 0)), (h5, aI V 1 (fun _ => 0)), (h0, .inr (8, [.int 0, .int 1, .ref h2, .ref h3, .ref h8, .int 0, .int 1, .ref (y 19), .ref h4, .ref h5, .ref h6, .ref h7, .ref h1, .ref h9, .int 0, .int 0, .int 0]))] := by rw [upd0] at hD; exact hD
  refine lv_aload_n hx hb dX8_meet_70 rfl (lv_at hl 0 rfl) ?_
  refine lv_dup hx hb dX8_meet_71 rfl ?_
  refine va_get (ci := 8) (v := .int 0) (C := RX8) (T := TX8) (N := 17) hx hb hg inX8 hown hK hP 4 rfl rfl 5 (by decide) (hg _ q_4_76) (fun _ h9 => h9) rfl dX8_meet_72 ?_
  refine lv_iconst (v := 1) hx hb dX8_meet_75 (by decide) ?_
  refine lv_iadd hx hb dX8_meet_76 ?_
  refine tpi (y := 1) (by decide +kernel) ?_
  refine va_put (ci := 8) (v := .int 1) (ty := .int) (C := RX8) (T := TX8) (N := 17) hx hb hg inX8 tyX8 tyX8_ok nmX8 hown hK hP hD hS 4 rfl rfl 5 (by decide) (hg _ q_4_76) (fun _ h9 => h9) rfl (by decide +kernel) rfl rfl (Nat.le_of_ble_eq_true rfl) dX8_meet_77 (fun H locs hP hD hS => ?_)
  have hP : va_P V.1 vwCl [(h2, aI V 1 (fun _ => 0)), (h3, aI V 1 (fun _ => 0)), (h4, aI V 1 (fun _ => 0)), (h5, aI V 1 (fun _ => 0)), (h0, .inr (8, [.int 0, .int 1, .ref h2, .ref h3, .ref h8, .int 1, .int 1, .ref (y 19), .ref h4, .ref h5, .ref h6, .ref h7, .ref h1, .ref h9, .int 0, .int 0, .int 0]))] H := hP
  have hD : va_D A [(h2, aI V 1 (fun _ => 0)), (h3, aI V 1 (fun _ => 0)), (h4, aI V 1 (fun _ => 0)), (h5, aI V 1 (fun _ => 0)), (h0, .inr (8, [.int 0, .int 1, .ref h2, .ref h3, .ref h8, .int 1, .int 1, .ref (y 19), .ref h4, .ref h5, .ref h6, .ref h7, .ref h1, .ref h9, .int 0, .int 0, .int 0]))] := hD
  refine lv_aload_n hx hb dX8_meet_80 rfl (lv_at hl 0 rfl) ?_
  refine va_get (ci := 8) (v := .ref h4) (C := RX8) (T := TX8) (N := 17) hx hb hg inX8 hown hK hP 4 rfl rfl 8 (by decide) (hg _ q_4_82) (fun _ h9 => h9) rfl dX8_meet_81 ?_
  refine lv_iload_n hx hb dX8_meet_84 rfl (lv_at hl 1 rfl) ?_
  refine lv_aload_n hx hb dX8_meet_85 rfl (lv_at hl 0 rfl) ?_
  refine va_get (ci := 8) (v := .int 1) (C := RX8) (T := TX8) (N := 17) hx hb hg inX8 hown hK hP 4 rfl rfl 5 (by decide) (hg _ q_4_76) (fun _ h9 => h9) rfl dX8_meet_86 ?_
  refine va_iast hx hb hK hP hD hS 2 0 rfl rfl (vin (by decide +kernel)) dX8_meet_89 (fun H locs hP hD hS => ?_)
  have hP : va_P V.1 vwCl [(h2, aI V 1 (fun _ => 0)), (h3, aI V 1 (fun _ => 0)), (h4, aI V 1 (upd (fun _ => 0) 0 1)), (h5, aI V 1 (fun _ => 0)), (h0, .inr (8, [.int 0, .int 1, .ref h2, .ref h3, .ref h8, .int 1, .int 1, .ref (y 19), .ref h4, .ref h5, .ref h6, .ref h7, .ref h1, .ref h9, .int 0, .int 0, .int 0]))] H := hP
  have hD : va_D A [(h2, aI V 1 (fun _ => 0)), (h3, aI V 1 (fun _ => 0)), (h4, aI V 1 (upd (fun _ => 0) 0 1)), (h5, aI V 1 (fun _ => 0)), (h0, .inr (8, [.int 0, .int 1, .ref h2, .ref h3, .ref h8, .int 1, .int 1, .ref (y 19), .ref h4, .ref h5, .ref h6, .ref h7, .ref h1, .ref h9, .int 0, .int 0, .int 0]))] := hD
  refine lv_iconst (v := 0) hx hb dX8_meet_90 (by decide) ?_
  refine lv_aload_n hx hb dX8_meet_91 rfl (lv_at hl 0 rfl) ?_
  refine va_get (ci := 8) (v := .ref h4) (C := RX8) (T := TX8) (N := 17) hx hb hg inX8 hown hK hP 4 rfl rfl 8 (by decide) (hg _ q_4_82) (fun _ h9 => h9) rfl dX8_meet_92 ?_
  refine lv_iload_n hx hb dX8_meet_95 rfl (lv_at hl 1 rfl) ?_
  refine va_iald hx hb hK hP 2 0 rfl rfl (vin (by decide +kernel)) dX8_meet_96 ?_
  refine tpi (y := 1) (rfl) ?_
  refine lv_iconst (v := 1) hx hb dX8_meet_97 (by decide) ?_
  refine lv_isub hx hb dX8_meet_98 ?_
  refine tpi (y := 0) (by decide +kernel) ?_
  refine va_mmax hx hb (hml.trans hl.1.symm) hown (hg _ q_4_131) (hg _ q_2_102) (hg _ q_1_10) (hg _ q_2_103) (Nat.le_of_ble_eq_true rfl) (Nat.le_of_ble_eq_true rfl) (Nat.le_of_ble_eq_true rfl) (Nat.le_of_ble_eq_true rfl) dX8_meet_99 ?_
  refine tpi (y := 0) (by decide +kernel) ?_
  exact fiI hx hb hr hlk hK hP hD hS dX8_meet_102 (Nat.le_of_ble_eq_true rfl) (Nat.le_of_ble_eq_true rfl) (⟨rfl, rfl⟩)
set_option maxHeartbeats 4000000 in
set_option maxRecDepth 100000 in
theorem c_X8_meet_1 (l : Launch) (V : GV) (y : Nat → Nat) (h0 : Nat) (h1 : Nat) (h2 : Nat) (h3 : Nat) (h4 : Nat) (h5 : Nat) (h6 : Nat) (h7 : Nat) (h8 : Nat) (h9 : Nat) : Ct l V yX8_meet (.code yX8_meet cX8_meet 5 (some .int)) 1 [.ref h0, .int 0, .int 0, .int 0, .int 0] [(h1, aI V 1 (fun _ => 0)), (h2, aI V 1 (fun _ => 0)), (h3, aI V 1 (fun _ => 0)), (h4, aI V 1 (fun _ => 0)), (h0, .inr (8, [.int 0, .int 1, .ref h1, .ref h2, .ref h5, .int 0, .int 1, .ref (y 19), .ref h3, .ref h4, .ref h6, .ref h7, .ref h8, .ref h9, .int 0, .int 0, .int 0]))] 0 0 (QI V (fun (r : Int32) (w : va_W) => (r = 0 ∧ w = [(h1, aI V 1 (fun _ => 0)), (h2, aI V 1 (fun _ => 0)), (h3, aI V 1 (upd (fun _ => 0) 0 1)), (h4, aI V 1 (fun _ => 0)), (h0, .inr (8, [.int 0, .int 1, .ref h1, .ref h2, .ref h5, .int 1, .int 1, .ref (y 19), .ref h3, .ref h4, .ref h6, .ref h7, .ref h8, .ref h9, .int 0, .int 0, .int 0]))]))) := by
  refine Ct.of (by decide) (Nat.le_of_ble_eq_true rfl) (fun p e s m below meth c A ls hx hb hr hml hown hlk hnm hg hP hK hD hE hA hS hl => ?_)
  have hl : lv_has ls 5 [(0, .ref h0), (1, .int 0), (2, .int 0), (3, .int 0), (4, .int 0)] := hl
  refine lv_iload_n hx hb dX8_meet_0 rfl (lv_at hl 1 rfl) ?_
  refine lv_if_lt (tgt := 13) hx hb dX8_meet_1 (by decide) (fun c_1 => absurd c_1 (by decide)) (fun _ => ?_)
  refine lv_iload_n hx hb dX8_meet_4 rfl (lv_at hl 1 rfl) ?_
  refine lv_aload_n hx hb dX8_meet_5 rfl (lv_at hl 0 rfl) ?_
  refine va_get (ci := 8) (v := .ref h3) (C := RX8) (T := TX8) (N := 17) hx hb hg inX8 hown hK hP 4 rfl rfl 8 (by decide) (hg _ q_4_82) (fun _ h9 => h9) rfl dX8_meet_6 ?_
  refine va_alen (v := 1) hx hb hK hP 2 0 rfl rfl (by decide) dX8_meet_9 ?_
  refine lv_icmp_lt (tgt := 15) hx hb dX8_meet_10 (by decide) (fun _ => ?_) (fun c_2 => absurd c_2 (by decide))
  refine lv_aload_n hx hb dX8_meet_15 rfl (lv_at hl 0 rfl) ?_
  refine va_get (ci := 8) (v := .ref h3) (C := RX8) (T := TX8) (N := 17) hx hb hg inX8 hown hK hP 4 rfl rfl 8 (by decide) (hg _ q_4_82) (fun _ h9 => h9) rfl dX8_meet_16 ?_
  refine lv_iload_n hx hb dX8_meet_19 rfl (lv_at hl 1 rfl) ?_
  refine va_iald hx hb hK hP 2 0 rfl rfl (vin (by decide +kernel)) dX8_meet_20 ?_
  refine tpi (y := 0) (rfl) ?_
  refine lv_if_ne (tgt := 90) hx hb dX8_meet_21 (by decide) (fun c_3 => absurd c_3 (by decide)) (fun _ => ?_)
  refine lv_aload_n hx hb dX8_meet_24 rfl (lv_at hl 0 rfl) ?_
  refine va_get (ci := 8) (v := .int 0) (C := RX8) (T := TX8) (N := 17) hx hb hg inX8 hown hK hP 4 rfl rfl 5 (by decide) (hg _ q_4_76) (fun _ h9 => h9) rfl dX8_meet_25 ?_
  refine lv_aload_n hx hb dX8_meet_28 rfl (lv_at hl 0 rfl) ?_
  refine va_get (ci := 8) (v := .int 1) (C := RX8) (T := TX8) (N := 17) hx hb hg inX8 hown hK hP 4 rfl rfl 1 (by decide) (hg _ q_4_67) (fun _ h9 => h9) rfl dX8_meet_29 ?_
  refine lv_icmp_ge (tgt := 90) hx hb dX8_meet_32 (by decide) (fun c_4 => absurd c_4 (by decide)) (fun _ => ?_)
  refine lv_aload_n hx hb dX8_meet_35 rfl (lv_at hl 0 rfl) ?_
  refine va_get (ci := 8) (v := .ref h1) (C := RX8) (T := TX8) (N := 17) hx hb hg inX8 hown hK hP 4 rfl rfl 2 (by decide) (hg _ q_4_69) (fun _ h9 => h9) rfl dX8_meet_36 ?_
  refine lv_aload_n hx hb dX8_meet_39 rfl (lv_at hl 0 rfl) ?_
  refine va_get (ci := 8) (v := .int 0) (C := RX8) (T := TX8) (N := 17) hx hb hg inX8 hown hK hP 4 rfl rfl 5 (by decide) (hg _ q_4_76) (fun _ h9 => h9) rfl dX8_meet_40 ?_
  refine lv_iload_n hx hb dX8_meet_43 rfl (lv_at hl 1 rfl) ?_
  refine va_iast hx hb hK hP hD hS 0 0 rfl rfl (vin (by decide +kernel)) dX8_meet_44 (fun H locs hP hD hS => ?_)
  have hP : va_P V.1 vwCl [(h1, aI V 1 (upd (fun _ => 0) 0 0)), (h2, aI V 1 (fun _ => 0)), (h3, aI V 1 (fun _ => 0)), (h4, aI V 1 (fun _ => 0)), (h0, .inr (8, [.int 0, .int 1, .ref h1, .ref h2, .ref h5, .int 0, .int 1, .ref (y 19), .ref h3, .ref h4, .ref h6, .ref h7, .ref h8, .ref h9, .int 0, .int 0, .int 0]))] H := hP
  have hD : va_D A [(h1, aI V 1 (upd (fun _ => 0) 0 0)), (h2, aI V 1 (fun _ => 0)), (h3, aI V 1 (fun _ => 0)), (h4, aI V 1 (fun _ => 0)), (h0, .inr (8, [.int 0, .int 1, .ref h1, .ref h2, .ref h5, .int 0, .int 1, .ref (y 19), .ref h3, .ref h4, .ref h6, .ref h7, .ref h8, .ref h9, .int 0, .int 0, .int 0]))] := hD
  have hP : va_P V.1 vwCl [(h1, aI V 1 (fun _ => 0)), (h2, aI V 1 (fun _ => 0)), (h3, aI V 1 (fun _ => 0)), (h4, aI V 1 (fun _ => 0)), (h0, .inr (8, [.int 0, .int 1, .ref h1, .ref h2, .ref h5, .int 0, .int 1, .ref (y 19), .ref h3, .ref h4, .ref h6, .ref h7, .ref h8, .ref h9, .int 0, .int 0, .int 0]))] H := by rw [upd0] at hP; exact hP
  have hD : va_D A [(h1, aI V 1 (fun _ => 0)), (h2, aI V 1 (fun _ => 0)), (h3, aI V 1 (fun _ => 0)), (h4, aI V 1 (fun _ => 0)), (h0, .inr (8, [.int 0, .int 1, .ref h1, .ref h2, .ref h5, .int 0, .int 1, .ref (y 19), .ref h3, .ref h4, .ref h6, .ref h7, .ref h8, .ref h9, .int 0, .int 0, .int 0]))] := by rw [upd0] at hD; exact hD
  refine lv_aload_n hx hb dX8_meet_45 rfl (lv_at hl 0 rfl) ?_
  refine va_get (ci := 8) (v := .ref h4) (C := RX8) (T := TX8) (N := 17) hx hb hg inX8 hown hK hP 4 rfl rfl 9 (by decide) (hg _ q_4_83) (fun _ h9 => h9) rfl dX8_meet_46 ?_
  refine lv_aload_n hx hb dX8_meet_49 rfl (lv_at hl 0 rfl) ?_
  refine va_get (ci := 8) (v := .int 0) (C := RX8) (T := TX8) (N := 17) hx hb hg inX8 hown hK hP 4 rfl rfl 5 (by decide) (hg _ q_4_76) (fun _ h9 => h9) rfl dX8_meet_50 ?_
  refine lv_iload_n hx hb dX8_meet_53 rfl (lv_at hl 2 rfl) ?_
  refine lv_iconst (v := 4) hx hb dX8_meet_54 (by decide) ?_
  refine lv_imul hx hb dX8_meet_55 ?_
  refine tpi (y := 0) (by decide +kernel) ?_
  refine lv_iload_n hx hb dX8_meet_56 rfl (lv_at hl 3 rfl) ?_
  refine lv_iadd hx hb dX8_meet_57 ?_
  refine tpi (y := 0) (by decide +kernel) ?_
  refine va_iast hx hb hK hP hD hS 3 0 rfl rfl (vin (by decide +kernel)) dX8_meet_58 (fun H locs hP hD hS => ?_)
  have hP : va_P V.1 vwCl [(h1, aI V 1 (fun _ => 0)), (h2, aI V 1 (fun _ => 0)), (h3, aI V 1 (fun _ => 0)), (h4, aI V 1 (upd (fun _ => 0) 0 0)), (h0, .inr (8, [.int 0, .int 1, .ref h1, .ref h2, .ref h5, .int 0, .int 1, .ref (y 19), .ref h3, .ref h4, .ref h6, .ref h7, .ref h8, .ref h9, .int 0, .int 0, .int 0]))] H := hP
  have hD : va_D A [(h1, aI V 1 (fun _ => 0)), (h2, aI V 1 (fun _ => 0)), (h3, aI V 1 (fun _ => 0)), (h4, aI V 1 (upd (fun _ => 0) 0 0)), (h0, .inr (8, [.int 0, .int 1, .ref h1, .ref h2, .ref h5, .int 0, .int 1, .ref (y 19), .ref h3, .ref h4, .ref h6, .ref h7, .ref h8, .ref h9, .int 0, .int 0, .int 0]))] := hD
  have hP : va_P V.1 vwCl [(h1, aI V 1 (fun _ => 0)), (h2, aI V 1 (fun _ => 0)), (h3, aI V 1 (fun _ => 0)), (h4, aI V 1 (fun _ => 0)), (h0, .inr (8, [.int 0, .int 1, .ref h1, .ref h2, .ref h5, .int 0, .int 1, .ref (y 19), .ref h3, .ref h4, .ref h6, .ref h7, .ref h8, .ref h9, .int 0, .int 0, .int 0]))] H := by rw [upd0] at hP; exact hP
  have hD : va_D A [(h1, aI V 1 (fun _ => 0)), (h2, aI V 1 (fun _ => 0)), (h3, aI V 1 (fun _ => 0)), (h4, aI V 1 (fun _ => 0)), (h0, .inr (8, [.int 0, .int 1, .ref h1, .ref h2, .ref h5, .int 0, .int 1, .ref (y 19), .ref h3, .ref h4, .ref h6, .ref h7, .ref h8, .ref h9, .int 0, .int 0, .int 0]))] := by rw [upd0] at hD; exact hD
  refine lv_aload_n hx hb dX8_meet_59 rfl (lv_at hl 0 rfl) ?_
  refine va_get (ci := 8) (v := .ref h2) (C := RX8) (T := TX8) (N := 17) hx hb hg inX8 hown hK hP 4 rfl rfl 3 (by decide) (hg _ q_4_72) (fun _ h9 => h9) rfl dX8_meet_60 ?_
  refine lv_aload_n hx hb dX8_meet_63 rfl (lv_at hl 0 rfl) ?_
  refine va_get (ci := 8) (v := .int 0) (C := RX8) (T := TX8) (N := 17) hx hb hg inX8 hown hK hP 4 rfl rfl 5 (by decide) (hg _ q_4_76) (fun _ h9 => h9) rfl dX8_meet_64 ?_
  refine lv_iload hx hb dX8_meet_67 (lv_at hl 4 rfl) ?_
  refine va_iast hx hb hK hP hD hS 1 0 rfl rfl (vin (by decide +kernel)) dX8_meet_69 (fun H locs hP hD hS => ?_)
  have hP : va_P V.1 vwCl [(h1, aI V 1 (fun _ => 0)), (h2, aI V 1 (upd (fun _ => 0) 0 0)), (h3, aI V 1 (fun _ => 0)), (h4, aI V 1 (fun _ => 0)), (h0, .inr (8, [.int 0, .int 1, .ref h1, .ref h2, .ref h5, .int 0, .int 1, .ref (y 19), .ref h3, .ref h4, .ref h6, .ref h7, .ref h8, .ref h9, .int 0, .int 0, .int 0]))] H := hP
  have hD : va_D A [(h1, aI V 1 (fun _ => 0)), (h2, aI V 1 (upd (fun _ => 0) 0 0)), (h3, aI V 1 (fun _ => 0)), (h4, aI V 1 (fun _ => 0)), (h0, .inr (8, [.int 0, .int 1, .ref h1, .ref h2, .ref h5, .int 0, .int 1, .ref (y 19), .ref h3, .ref h4, .ref h6, .ref h7, .ref h8, .ref h9, .int 0, .int 0, .int 0]))] := hD
  have hP : va_P V.1 vwCl [(h1, aI V 1 (fun _ => 0)), (h2, aI V 1 (fun _ => 0)), (h3, aI V 1 (fun _ => 0)), (h4, aI V 1 (fun _ => 0)), (h0, .inr (8, [.int 0, .int 1, .ref h1, .ref h2, .ref h5, .int 0, .int 1, .ref (y 19), .ref h3, .ref h4, .ref h6, .ref h7, .ref h8, .ref h9, .int 0, .int 0, .int 0]))] H := by rw [upd0] at hP; exact hP
  have hD : va_D A [(h1, aI V 1 (fun _ => 0)), (h2, aI V 1 (fun _ => 0)), (h3, aI V 1 (fun _ => 0)), (h4, aI V 1 (fun _ => 0)), (h0, .inr (8, [.int 0, .int 1, .ref h1, .ref h2, .ref h5, .int 0, .int 1, .ref (y 19), .ref h3, .ref h4, .ref h6, .ref h7, .ref h8, .ref h9, .int 0, .int 0, .int 0]))] := by rw [upd0] at hD; exact hD
  refine lv_aload_n hx hb dX8_meet_70 rfl (lv_at hl 0 rfl) ?_
  refine lv_dup hx hb dX8_meet_71 rfl ?_
  refine va_get (ci := 8) (v := .int 0) (C := RX8) (T := TX8) (N := 17) hx hb hg inX8 hown hK hP 4 rfl rfl 5 (by decide) (hg _ q_4_76) (fun _ h9 => h9) rfl dX8_meet_72 ?_
  refine lv_iconst (v := 1) hx hb dX8_meet_75 (by decide) ?_
  refine lv_iadd hx hb dX8_meet_76 ?_
  refine tpi (y := 1) (by decide +kernel) ?_
  refine va_put (ci := 8) (v := .int 1) (ty := .int) (C := RX8) (T := TX8) (N := 17) hx hb hg inX8 tyX8 tyX8_ok nmX8 hown hK hP hD hS 4 rfl rfl 5 (by decide) (hg _ q_4_76) (fun _ h9 => h9) rfl (by decide +kernel) rfl rfl (Nat.le_of_ble_eq_true rfl) dX8_meet_77 (fun H locs hP hD hS => ?_)
  have hP : va_P V.1 vwCl [(h1, aI V 1 (fun _ => 0)), (h2, aI V 1 (fun _ => 0)), (h3, aI V 1 (fun _ => 0)), (h4, aI V 1 (fun _ => 0)), (h0, .inr (8, [.int 0, .int 1, .ref h1, .ref h2, .ref h5, .int 1, .int 1, .ref (y 19), .ref h3, .ref h4, .ref h6, .ref h7, .ref h8, .ref h9, .int 0, .int 0, .int 0]))] H := hP
  have hD : va_D A [(h1, aI V 1 (fun _ => 0)), (h2, aI V 1 (fun _ => 0)), (h3, aI V 1 (fun _ => 0)), (h4, aI V 1 (fun _ => 0)), (h0, .inr (8, [.int 0, .int 1, .ref h1, .ref h2, .ref h5, .int 1, .int 1, .ref (y 19), .ref h3, .ref h4, .ref h6, .ref h7, .ref h8, .ref h9, .int 0, .int 0, .int 0]))] := hD
  refine lv_aload_n hx hb dX8_meet_80 rfl (lv_at hl 0 rfl) ?_
  refine va_get (ci := 8) (v := .ref h3) (C := RX8) (T := TX8) (N := 17) hx hb hg inX8 hown hK hP 4 rfl rfl 8 (by decide) (hg _ q_4_82) (fun _ h9 => h9) rfl dX8_meet_81 ?_
  refine lv_iload_n hx hb dX8_meet_84 rfl (lv_at hl 1 rfl) ?_
  refine lv_aload_n hx hb dX8_meet_85 rfl (lv_at hl 0 rfl) ?_
  refine va_get (ci := 8) (v := .int 1) (C := RX8) (T := TX8) (N := 17) hx hb hg inX8 hown hK hP 4 rfl rfl 5 (by decide) (hg _ q_4_76) (fun _ h9 => h9) rfl dX8_meet_86 ?_
  refine va_iast hx hb hK hP hD hS 2 0 rfl rfl (vin (by decide +kernel)) dX8_meet_89 (fun H locs hP hD hS => ?_)
  have hP : va_P V.1 vwCl [(h1, aI V 1 (fun _ => 0)), (h2, aI V 1 (fun _ => 0)), (h3, aI V 1 (upd (fun _ => 0) 0 1)), (h4, aI V 1 (fun _ => 0)), (h0, .inr (8, [.int 0, .int 1, .ref h1, .ref h2, .ref h5, .int 1, .int 1, .ref (y 19), .ref h3, .ref h4, .ref h6, .ref h7, .ref h8, .ref h9, .int 0, .int 0, .int 0]))] H := hP
  have hD : va_D A [(h1, aI V 1 (fun _ => 0)), (h2, aI V 1 (fun _ => 0)), (h3, aI V 1 (upd (fun _ => 0) 0 1)), (h4, aI V 1 (fun _ => 0)), (h0, .inr (8, [.int 0, .int 1, .ref h1, .ref h2, .ref h5, .int 1, .int 1, .ref (y 19), .ref h3, .ref h4, .ref h6, .ref h7, .ref h8, .ref h9, .int 0, .int 0, .int 0]))] := hD
  refine lv_iconst (v := 0) hx hb dX8_meet_90 (by decide) ?_
  refine lv_aload_n hx hb dX8_meet_91 rfl (lv_at hl 0 rfl) ?_
  refine va_get (ci := 8) (v := .ref h3) (C := RX8) (T := TX8) (N := 17) hx hb hg inX8 hown hK hP 4 rfl rfl 8 (by decide) (hg _ q_4_82) (fun _ h9 => h9) rfl dX8_meet_92 ?_
  refine lv_iload_n hx hb dX8_meet_95 rfl (lv_at hl 1 rfl) ?_
  refine va_iald hx hb hK hP 2 0 rfl rfl (vin (by decide +kernel)) dX8_meet_96 ?_
  refine tpi (y := 1) (rfl) ?_
  refine lv_iconst (v := 1) hx hb dX8_meet_97 (by decide) ?_
  refine lv_isub hx hb dX8_meet_98 ?_
  refine tpi (y := 0) (by decide +kernel) ?_
  refine va_mmax hx hb (hml.trans hl.1.symm) hown (hg _ q_4_131) (hg _ q_2_102) (hg _ q_1_10) (hg _ q_2_103) (Nat.le_of_ble_eq_true rfl) (Nat.le_of_ble_eq_true rfl) (Nat.le_of_ble_eq_true rfl) (Nat.le_of_ble_eq_true rfl) dX8_meet_99 ?_
  refine tpi (y := 0) (by decide +kernel) ?_
  exact fiI hx hb hr hlk hK hP hD hS dX8_meet_102 (Nat.le_of_ble_eq_true rfl) (Nat.le_of_ble_eq_true rfl) (⟨rfl, rfl⟩)
theorem dX8_begin_0 : decode cX8_begin 0 = .ok (.aload_n 0, 1) := by decide +kernel
theorem dX8_begin_1 : decode cX8_begin 1 = .ok (.getfield 56, 3) := by decide +kernel
theorem dX8_begin_4 : decode cX8_begin 4 = .ok (.ifCond .le 22, 3) := by decide +kernel
theorem dX8_begin_26 : decode cX8_begin 26 = .ok (.aload_n 0, 1) := by decide +kernel
theorem q_3_113 : Cond.code yX8_forget prog_10_method_2_code 2 none ∈ gw := gw_3 (i := 113) (rfl) rfl
theorem q_1_18 : Cond.initialized "BeaconDelay$Ways" ∈ gw := gw_1 (i := 18) (by decide +kernel) rfl
theorem q_3_111 : Cond.instanceMethod yX8_forget ∈ gw := gw_3 (i := 111) (by decide +kernel) rfl
theorem q_3_112 : Cond.selects "BeaconDelay$Ways" yX8_forget yX8_forget ∈ gw := gw_3 (i := 112) (by decide +kernel) rfl
theorem mt_X8_forget : MtV yX8_forget cX8_forget 2 none 0 := ⟨⟨q_3_113, q_1_18, by decide +kernel, by decide +kernel, by decide +kernel⟩, q_3_111, q_3_112⟩
theorem q_4_130 : Cond.methodLink "BeaconDelay$Ways" 65 yX8_forget ∈ gw := gw_4 (i := 130) (by decide +kernel) rfl
theorem dX8_begin_27 : decode cX8_begin 27 = .ok (.invokevirtual 65, 3) := by decide +kernel
theorem dX8_begin_30 : decode cX8_begin 30 = .ok (.aload_n 0, 1) := by decide +kernel
theorem dX8_begin_31 : decode cX8_begin 31 = .ok (.iload_n 1, 1) := by decide +kernel
theorem q_4_88 : Cond.fieldLink "BeaconDelay$Ways" 68 "BeaconDelay$Ways" "hills" "I" ∈ gw := gw_4 (i := 88) (by decide +kernel) rfl
theorem dX8_begin_32 : decode cX8_begin 32 = .ok (.putfield 68, 3) := by decide +kernel
theorem dX8_begin_35 : decode cX8_begin 35 = .ok (.aload_n 0, 1) := by decide +kernel
theorem dX8_begin_36 : decode cX8_begin 36 = .ok (.iconst 1, 1) := by decide +kernel
theorem dX8_begin_37 : decode cX8_begin 37 = .ok (.iload_n 1, 1) := by decide +kernel
theorem dX8_begin_38 : decode cX8_begin 38 = .ok (.invokestatic 71, 3) := by decide +kernel
theorem q_4_80 : Cond.fieldLink "BeaconDelay$Ways" 77 "BeaconDelay$Ways" "deeds" "I" ∈ gw := gw_4 (i := 80) (by decide +kernel) rfl
theorem dX8_begin_41 : decode cX8_begin 41 = .ok (.putfield 77, 3) := by decide +kernel
theorem dX8_begin_44 : decode cX8_begin 44 = .ok (.aload_n 0, 1) := by decide +kernel
theorem dX8_begin_45 : decode cX8_begin 45 = .ok (.iload_n 3, 1) := by decide +kernel
theorem q_4_89 : Cond.fieldLink "BeaconDelay$Ways" 62 "BeaconDelay$Ways" "weather" "I" ∈ gw := gw_4 (i := 89) (by decide +kernel) rfl
theorem dX8_begin_46 : decode cX8_begin 46 = .ok (.putfield 62, 3) := by decide +kernel
theorem dX8_begin_49 : decode cX8_begin 49 = .ok (.aload_n 0, 1) := by decide +kernel
theorem dX8_begin_50 : decode cX8_begin 50 = .ok (.iload_n 2, 1) := by decide +kernel
theorem dX8_begin_51 : decode cX8_begin 51 = .ok (.iconst 0, 1) := by decide +kernel
theorem dX8_begin_52 : decode cX8_begin 52 = .ok (.iconst 0, 1) := by decide +kernel
theorem dX8_begin_53 : decode cX8_begin 53 = .ok (.iconst 0, 1) := by decide +kernel
theorem q_4_135 : Cond.code yX8_meet prog_10_method_4_code 5 (some FieldType.int) ∈ gw := gw_4 (i := 135) (rfl) rfl
theorem q_4_134 : Cond.instanceMethod yX8_meet ∈ gw := gw_4 (i := 134) (by decide +kernel) rfl
theorem q_s_33 : Cond.selects "BeaconDelay$Ways" yX8_meet yX8_meet ∈ gw := gw_s (i := 33) (by decide +kernel) rfl
theorem mt_X8_meet : MtV yX8_meet cX8_meet 5 (some .int) 4 := ⟨⟨q_4_135, q_1_18, by decide +kernel, by decide +kernel, by decide +kernel⟩, q_4_134, q_s_33⟩
theorem q_4_132 : Cond.methodLink "BeaconDelay$Ways" 80 yX8_meet ∈ gw := gw_4 (i := 132) (by decide +kernel) rfl
theorem dX8_begin_54 : decode cX8_begin 54 = .ok (.invokevirtual 80, 3) := by decide +kernel
theorem dX8_begin_57 : decode cX8_begin 57 = .ok (.pop, 1) := by decide +kernel
theorem dX8_begin_58 : decode cX8_begin 58 = .ok (.return_, 1) := by decide +kernel
set_option maxHeartbeats 4000000 in
set_option maxRecDepth 100000 in
theorem c_X8_begin_0 (l : Launch) (V : GV) (y : Nat → Nat) (h0 : Nat) (h1 : Nat) (h2 : Nat) (h3 : Nat) (h4 : Nat) (h5 : Nat) (h6 : Nat) (h7 : Nat) (h8 : Nat) (h9 : Nat) : Ct l V yX8_begin (.code yX8_begin cX8_begin 4 none) 2 [.ref h0, .int 0, .int 0, .int 0] [(h0, .inr (8, [.int 0, .int 1, .ref h1, .ref h2, .ref h3, .int 0, .int 0, .ref (y 19), .ref h4, .ref h5, .ref h6, .ref h7, .ref h8, .ref h9, .int 0, .int 0, .int 0])), (h1, aI V 1 (fun _ => 0)), (h2, aI V 1 (fun _ => 0)), (h4, aI V 1 (fun _ => 0)), (h5, aI V 1 (fun _ => 0))] 0 0 (QV V (fun (w : va_W) => (w = [(h0, .inr (8, [.int 0, .int 1, .ref h1, .ref h2, .ref h3, .int 1, .int 1, .ref (y 19), .ref h4, .ref h5, .ref h6, .ref h7, .ref h8, .ref h9, .int 0, .int 0, .int 0])), (h1, aI V 1 (fun _ => 0)), (h2, aI V 1 (fun _ => 0)), (h4, aI V 1 (upd (fun _ => 0) 0 1)), (h5, aI V 1 (fun _ => 0))]))) := by
  refine Ct.of (by decide) (Nat.le_of_ble_eq_true rfl) (fun p e s m below meth c A ls hx hb hr hml hown hlk hnm hg hP hK hD hE hA hS hl => ?_)
  have hl : lv_has ls 4 [(0, .ref h0), (1, .int 0), (2, .int 0), (3, .int 0)] := hl
  refine lv_aload_n hx hb dX8_begin_0 rfl (lv_at hl 0 rfl) ?_
  refine va_get (ci := 8) (v := .int 0) (C := RX8) (T := TX8) (N := 17) hx hb hg inX8 hown hK hP 0 rfl rfl 5 (by decide) (hg _ q_4_76) (fun _ h9 => h9) rfl dX8_begin_1 ?_
  refine lv_if_le (tgt := 26) hx hb dX8_begin_4 (by decide) (fun _ => ?_) (fun c_1 => absurd c_1 (by decide))
  refine lv_aload_n hx hb dX8_begin_26 rfl (lv_at hl 0 rfl) ?_
  refine jnV (wr := [(h1, aI V 1 (fun _ => 0)), (h2, aI V 1 (fun _ => 0)), (h4, aI V 1 (fun _ => 0)), (h5, aI V 1 (fun _ => 0))]) (rnV (rest := []) ⟨hx, hb, hml, hown, hg⟩ (c_X8_forget_0 l V y h0 h1 h2 h3 h4 h5 h6 h7 h8 h9) mt_X8_forget q_4_130 ⟨Nat.le_of_ble_eq_true rfl, Nat.le_of_ble_eq_true rfl⟩ hK hP hD hS hA hE [0] rfl rfl 0 rfl rfl rfl rfl hl.1 rfl (Nat.le_of_ble_eq_true rfl) dX8_begin_27 ⟨Nat.le_of_ble_eq_true rfl, Nat.le_of_ble_eq_true rfl⟩) hP hD hS hA [0] [1, 2, 3, 4] rfl rfl rfl (by decide) (fun  w H locs hw hP hD hS => ?_)
  subst hw
  have hP : va_P V.1 vwCl [(h1, aI V 1 (fun _ => 0)), (h2, aI V 1 (fun _ => 0)), (h4, aI V 1 (fun _ => 0)), (h5, aI V 1 (fun _ => 0)), (h0, .inr (8, [.int 0, .int 1, .ref h1, .ref h2, .ref h3, .int 0, .int 0, .ref (y 19), .ref h4, .ref h5, .ref h6, .ref h7, .ref h8, .ref h9, .int 0, .int 0, .int 0]))] H := hP
  have hD : va_D A [(h1, aI V 1 (fun _ => 0)), (h2, aI V 1 (fun _ => 0)), (h4, aI V 1 (fun _ => 0)), (h5, aI V 1 (fun _ => 0)), (h0, .inr (8, [.int 0, .int 1, .ref h1, .ref h2, .ref h3, .int 0, .int 0, .ref (y 19), .ref h4, .ref h5, .ref h6, .ref h7, .ref h8, .ref h9, .int 0, .int 0, .int 0]))] := hD
  refine lv_aload_n hx hb dX8_begin_30 rfl (lv_at hl 0 rfl) ?_
  refine lv_iload_n hx hb dX8_begin_31 rfl (lv_at hl 1 rfl) ?_
  refine va_put (ci := 8) (v := .int 0) (ty := .int) (C := RX8) (T := TX8) (N := 17) hx hb hg inX8 tyX8 tyX8_ok nmX8 hown hK hP hD hS 4 rfl rfl 14 (by decide) (hg _ q_4_88) (fun _ h9 => h9) rfl (by decide +kernel) rfl rfl (Nat.le_of_ble_eq_true rfl) dX8_begin_32 (fun H locs hP hD hS => ?_)
  have hP : va_P V.1 vwCl [(h1, aI V 1 (fun _ => 0)), (h2, aI V 1 (fun _ => 0)), (h4, aI V 1 (fun _ => 0)), (h5, aI V 1 (fun _ => 0)), (h0, .inr (8, [.int 0, .int 1, .ref h1, .ref h2, .ref h3, .int 0, .int 0, .ref (y 19), .ref h4, .ref h5, .ref h6, .ref h7, .ref h8, .ref h9, .int 0, .int 0, .int 0]))] H := hP
  have hD : va_D A [(h1, aI V 1 (fun _ => 0)), (h2, aI V 1 (fun _ => 0)), (h4, aI V 1 (fun _ => 0)), (h5, aI V 1 (fun _ => 0)), (h0, .inr (8, [.int 0, .int 1, .ref h1, .ref h2, .ref h3, .int 0, .int 0, .ref (y 19), .ref h4, .ref h5, .ref h6, .ref h7, .ref h8, .ref h9, .int 0, .int 0, .int 0]))] := hD
  refine lv_aload_n hx hb dX8_begin_35 rfl (lv_at hl 0 rfl) ?_
  refine lv_iconst (v := 1) hx hb dX8_begin_36 (by decide) ?_
  refine lv_iload_n hx hb dX8_begin_37 rfl (lv_at hl 1 rfl) ?_
  refine va_mmax hx hb (hml.trans hl.1.symm) hown (hg _ q_4_131) (hg _ q_2_102) (hg _ q_1_10) (hg _ q_2_103) (Nat.le_of_ble_eq_true rfl) (Nat.le_of_ble_eq_true rfl) (Nat.le_of_ble_eq_true rfl) (Nat.le_of_ble_eq_true rfl) dX8_begin_38 ?_
  refine tpi (y := 1) (by decide +kernel) ?_
  refine va_put (ci := 8) (v := .int 1) (ty := .int) (C := RX8) (T := TX8) (N := 17) hx hb hg inX8 tyX8 tyX8_ok nmX8 hown hK hP hD hS 4 rfl rfl 6 (by decide) (hg _ q_4_80) (fun _ h9 => h9) rfl (by decide +kernel) rfl rfl (Nat.le_of_ble_eq_true rfl) dX8_begin_41 (fun H locs hP hD hS => ?_)
  have hP : va_P V.1 vwCl [(h1, aI V 1 (fun _ => 0)), (h2, aI V 1 (fun _ => 0)), (h4, aI V 1 (fun _ => 0)), (h5, aI V 1 (fun _ => 0)), (h0, .inr (8, [.int 0, .int 1, .ref h1, .ref h2, .ref h3, .int 0, .int 1, .ref (y 19), .ref h4, .ref h5, .ref h6, .ref h7, .ref h8, .ref h9, .int 0, .int 0, .int 0]))] H := hP
  have hD : va_D A [(h1, aI V 1 (fun _ => 0)), (h2, aI V 1 (fun _ => 0)), (h4, aI V 1 (fun _ => 0)), (h5, aI V 1 (fun _ => 0)), (h0, .inr (8, [.int 0, .int 1, .ref h1, .ref h2, .ref h3, .int 0, .int 1, .ref (y 19), .ref h4, .ref h5, .ref h6, .ref h7, .ref h8, .ref h9, .int 0, .int 0, .int 0]))] := hD
  refine lv_aload_n hx hb dX8_begin_44 rfl (lv_at hl 0 rfl) ?_
  refine lv_iload_n hx hb dX8_begin_45 rfl (lv_at hl 3 rfl) ?_
  refine va_put (ci := 8) (v := .int 0) (ty := .int) (C := RX8) (T := TX8) (N := 17) hx hb hg inX8 tyX8 tyX8_ok nmX8 hown hK hP hD hS 4 rfl rfl 15 (by decide) (hg _ q_4_89) (fun _ h9 => h9) rfl (by decide +kernel) rfl rfl (Nat.le_of_ble_eq_true rfl) dX8_begin_46 (fun H locs hP hD hS => ?_)
  have hP : va_P V.1 vwCl [(h1, aI V 1 (fun _ => 0)), (h2, aI V 1 (fun _ => 0)), (h4, aI V 1 (fun _ => 0)), (h5, aI V 1 (fun _ => 0)), (h0, .inr (8, [.int 0, .int 1, .ref h1, .ref h2, .ref h3, .int 0, .int 1, .ref (y 19), .ref h4, .ref h5, .ref h6, .ref h7, .ref h8, .ref h9, .int 0, .int 0, .int 0]))] H := hP
  have hD : va_D A [(h1, aI V 1 (fun _ => 0)), (h2, aI V 1 (fun _ => 0)), (h4, aI V 1 (fun _ => 0)), (h5, aI V 1 (fun _ => 0)), (h0, .inr (8, [.int 0, .int 1, .ref h1, .ref h2, .ref h3, .int 0, .int 1, .ref (y 19), .ref h4, .ref h5, .ref h6, .ref h7, .ref h8, .ref h9, .int 0, .int 0, .int 0]))] := hD
  refine lv_aload_n hx hb dX8_begin_49 rfl (lv_at hl 0 rfl) ?_
  refine lv_iload_n hx hb dX8_begin_50 rfl (lv_at hl 2 rfl) ?_
  refine lv_iconst (v := 0) hx hb dX8_begin_51 (by decide) ?_
  refine lv_iconst (v := 0) hx hb dX8_begin_52 (by decide) ?_
  refine lv_iconst (v := 0) hx hb dX8_begin_53 (by decide) ?_
  refine jnI (wr := []) (rnV (rest := []) ⟨hx, hb, hml, hown, hg⟩ (c_X8_meet_1 l V y h0 h1 h2 h4 h5 h3 h6 h7 h8 h9) mt_X8_meet q_4_132 ⟨Nat.le_of_ble_eq_true rfl, Nat.le_of_ble_eq_true rfl⟩ hK hP hD hS hA hE [0, 1, 2, 3, 4] rfl rfl 4 rfl rfl rfl rfl hl.1 rfl (Nat.le_of_ble_eq_true rfl) dX8_begin_54 ⟨Nat.le_of_ble_eq_true rfl, Nat.le_of_ble_eq_true rfl⟩) hP hD hS hA [0, 1, 2, 3, 4] [] rfl rfl rfl (by decide) (fun r_2 w H locs hw hP hD hS => ?_)
  obtain ⟨rfl, rfl⟩ := hw
  have hP : va_P V.1 vwCl [(h1, aI V 1 (fun _ => 0)), (h2, aI V 1 (fun _ => 0)), (h4, aI V 1 (upd (fun _ => 0) 0 1)), (h5, aI V 1 (fun _ => 0)), (h0, .inr (8, [.int 0, .int 1, .ref h1, .ref h2, .ref h3, .int 1, .int 1, .ref (y 19), .ref h4, .ref h5, .ref h6, .ref h7, .ref h8, .ref h9, .int 0, .int 0, .int 0]))] H := hP
  have hD : va_D A [(h1, aI V 1 (fun _ => 0)), (h2, aI V 1 (fun _ => 0)), (h4, aI V 1 (upd (fun _ => 0) 0 1)), (h5, aI V 1 (fun _ => 0)), (h0, .inr (8, [.int 0, .int 1, .ref h1, .ref h2, .ref h3, .int 1, .int 1, .ref (y 19), .ref h4, .ref h5, .ref h6, .ref h7, .ref h8, .ref h9, .int 0, .int 0, .int 0]))] := hD
  refine lv_pop hx hb dX8_begin_57 rfl ?_
  have hP := subP (ws' := [(h0, .inr (8, [.int 0, .int 1, .ref h1, .ref h2, .ref h3, .int 1, .int 1, .ref (y 19), .ref h4, .ref h5, .ref h6, .ref h7, .ref h8, .ref h9, .int 0, .int 0, .int 0])), (h1, aI V 1 (fun _ => 0)), (h2, aI V 1 (fun _ => 0)), (h4, aI V 1 (upd (fun _ => 0) 0 1)), (h5, aI V 1 (fun _ => 0))]) hP [4, 0, 1, 2, 3] rfl
  have hD := hD.sub (ws' := [(h0, .inr (8, [.int 0, .int 1, .ref h1, .ref h2, .ref h3, .int 1, .int 1, .ref (y 19), .ref h4, .ref h5, .ref h6, .ref h7, .ref h8, .ref h9, .int 0, .int 0, .int 0])), (h1, aI V 1 (fun _ => 0)), (h2, aI V 1 (fun _ => 0)), (h4, aI V 1 (upd (fun _ => 0) 0 1)), (h5, aI V 1 (fun _ => 0))]) [4, 0, 1, 2, 3] rfl rfl
  exact fiV hx hb hr hlk hK hP hD hS dX8_begin_58 (Nat.le_of_ble_eq_true rfl) (Nat.le_of_ble_eq_true rfl) (rfl)
set_option maxHeartbeats 4000000 in
set_option maxRecDepth 100000 in
theorem c_X8_meet_2 (l : Launch) (V : GV) (y : Nat → Nat) (h0 : Nat) (h1 : Nat) (h2 : Nat) (h3 : Nat) (h4 : Nat) (h5 : Nat) (h6 : Nat) (h7 : Nat) (h8 : Nat) (h9 : Nat) : Ct l V yX8_meet (.code yX8_meet cX8_meet 5 (some .int)) 1 [.ref h0, .int 0, .int 0, .int 0, .int 1] [(h0, .inr (8, [.int 0, .int 1, .ref h6, .ref h7, .ref h4, .int 1, .int 1, .ref (y 19), .ref h8, .ref h9, .ref h2, .ref h3, .ref h1, .ref h5, .int 0, .int 0, .int 0])), (h8, aI V 1 (upd (fun _ => 0) 0 1))] 0 0 (QI V (fun (r : Int32) (w : va_W) => (r = 0 ∧ w = [(h0, .inr (8, [.int 0, .int 1, .ref h6, .ref h7, .ref h4, .int 1, .int 1, .ref (y 19), .ref h8, .ref h9, .ref h2, .ref h3, .ref h1, .ref h5, .int 0, .int 0, .int 0])), (h8, aI V 1 (upd (fun _ => 0) 0 1))]))) := by
  refine Ct.of (by decide) (Nat.le_of_ble_eq_true rfl) (fun p e s m below meth c A ls hx hb hr hml hown hlk hnm hg hP hK hD hE hA hS hl => ?_)
  have hl : lv_has ls 5 [(0, .ref h0), (1, .int 0), (2, .int 0), (3, .int 0), (4, .int 1)] := hl
  refine lv_iload_n hx hb dX8_meet_0 rfl (lv_at hl 1 rfl) ?_
  refine lv_if_lt (tgt := 13) hx hb dX8_meet_1 (by decide) (fun c_1 => absurd c_1 (by decide)) (fun _ => ?_)
  refine lv_iload_n hx hb dX8_meet_4 rfl (lv_at hl 1 rfl) ?_
  refine lv_aload_n hx hb dX8_meet_5 rfl (lv_at hl 0 rfl) ?_
  refine va_get (ci := 8) (v := .ref h8) (C := RX8) (T := TX8) (N := 17) hx hb hg inX8 hown hK hP 0 rfl rfl 8 (by decide) (hg _ q_4_82) (fun _ h9 => h9) rfl dX8_meet_6 ?_
  refine va_alen (v := 1) hx hb hK hP 1 0 rfl rfl (by decide) dX8_meet_9 ?_
  refine lv_icmp_lt (tgt := 15) hx hb dX8_meet_10 (by decide) (fun _ => ?_) (fun c_2 => absurd c_2 (by decide))
  refine lv_aload_n hx hb dX8_meet_15 rfl (lv_at hl 0 rfl) ?_
  refine va_get (ci := 8) (v := .ref h8) (C := RX8) (T := TX8) (N := 17) hx hb hg inX8 hown hK hP 0 rfl rfl 8 (by decide) (hg _ q_4_82) (fun _ h9 => h9) rfl dX8_meet_16 ?_
  refine lv_iload_n hx hb dX8_meet_19 rfl (lv_at hl 1 rfl) ?_
  refine va_iald hx hb hK hP 1 0 rfl rfl (vin (by decide +kernel)) dX8_meet_20 ?_
  refine tpi (y := 1) (rfl) ?_
  refine lv_if_ne (tgt := 90) hx hb dX8_meet_21 (by decide) (fun _ => ?_) (fun c_3 => absurd c_3 (by decide))
  refine lv_iconst (v := 0) hx hb dX8_meet_90 (by decide) ?_
  refine lv_aload_n hx hb dX8_meet_91 rfl (lv_at hl 0 rfl) ?_
  refine va_get (ci := 8) (v := .ref h8) (C := RX8) (T := TX8) (N := 17) hx hb hg inX8 hown hK hP 0 rfl rfl 8 (by decide) (hg _ q_4_82) (fun _ h9 => h9) rfl dX8_meet_92 ?_
  refine lv_iload_n hx hb dX8_meet_95 rfl (lv_at hl 1 rfl) ?_
  refine va_iald hx hb hK hP 1 0 rfl rfl (vin (by decide +kernel)) dX8_meet_96 ?_
  refine tpi (y := 1) (rfl) ?_
  refine lv_iconst (v := 1) hx hb dX8_meet_97 (by decide) ?_
  refine lv_isub hx hb dX8_meet_98 ?_
  refine tpi (y := 0) (by decide +kernel) ?_
  refine va_mmax hx hb (hml.trans hl.1.symm) hown (hg _ q_4_131) (hg _ q_2_102) (hg _ q_1_10) (hg _ q_2_103) (Nat.le_of_ble_eq_true rfl) (Nat.le_of_ble_eq_true rfl) (Nat.le_of_ble_eq_true rfl) (Nat.le_of_ble_eq_true rfl) dX8_meet_99 ?_
  refine tpi (y := 0) (by decide +kernel) ?_
  exact fiI hx hb hr hlk hK hP hD hS dX8_meet_102 (Nat.le_of_ble_eq_true rfl) (Nat.le_of_ble_eq_true rfl) (⟨rfl, rfl⟩)
set_option maxHeartbeats 4000000 in
set_option maxRecDepth 100000 in
theorem c_X8_meet_3 (l : Launch) (V : GV) (y : Nat → Nat) (h0 : Nat) (h1 : Nat) (h2 : Nat) (h3 : Nat) (h4 : Nat) (h5 : Nat) (h6 : Nat) (h7 : Nat) (h8 : Nat) (h9 : Nat) : Ct l V yX8_meet (.code yX8_meet cX8_meet 5 (some .int)) 1 [.ref h0, .int 0, .int 0, .int 0, .int 1] [(h0, .inr (8, [.int 0, .int 1, .ref h3, .ref h4, .ref h5, .int 1, .int 1, .ref (y 19), .ref h6, .ref h7, .ref h2, .ref h8, .ref h1, .ref h9, .int 0, .int 0, .int 0])), (h6, aI V 1 (upd (fun _ => 0) 0 1))] 0 0 (QI V (fun (r : Int32) (w : va_W) => (r = 0 ∧ w = [(h0, .inr (8, [.int 0, .int 1, .ref h3, .ref h4, .ref h5, .int 1, .int 1, .ref (y 19), .ref h6, .ref h7, .ref h2, .ref h8, .ref h1, .ref h9, .int 0, .int 0, .int 0])), (h6, aI V 1 (upd (fun _ => 0) 0 1))]))) := by
  refine Ct.of (by decide) (Nat.le_of_ble_eq_true rfl) (fun p e s m below meth c A ls hx hb hr hml hown hlk hnm hg hP hK hD hE hA hS hl => ?_)
  have hl : lv_has ls 5 [(0, .ref h0), (1, .int 0), (2, .int 0), (3, .int 0), (4, .int 1)] := hl
  refine lv_iload_n hx hb dX8_meet_0 rfl (lv_at hl 1 rfl) ?_
  refine lv_if_lt (tgt := 13) hx hb dX8_meet_1 (by decide) (fun c_1 => absurd c_1 (by decide)) (fun _ => ?_)
  refine lv_iload_n hx hb dX8_meet_4 rfl (lv_at hl 1 rfl) ?_
  refine lv_aload_n hx hb dX8_meet_5 rfl (lv_at hl 0 rfl) ?_
  refine va_get (ci := 8) (v := .ref h6) (C := RX8) (T := TX8) (N := 17) hx hb hg inX8 hown hK hP 0 rfl rfl 8 (by decide) (hg _ q_4_82) (fun _ h9 => h9) rfl dX8_meet_6 ?_
  refine va_alen (v := 1) hx hb hK hP 1 0 rfl rfl (by decide) dX8_meet_9 ?_
  refine lv_icmp_lt (tgt := 15) hx hb dX8_meet_10 (by decide) (fun _ => ?_) (fun c_2 => absurd c_2 (by decide))
  refine lv_aload_n hx hb dX8_meet_15 rfl (lv_at hl 0 rfl) ?_
  refine va_get (ci := 8) (v := .ref h6) (C := RX8) (T := TX8) (N := 17) hx hb hg inX8 hown hK hP 0 rfl rfl 8 (by decide) (hg _ q_4_82) (fun _ h9 => h9) rfl dX8_meet_16 ?_
  refine lv_iload_n hx hb dX8_meet_19 rfl (lv_at hl 1 rfl) ?_
  refine va_iald hx hb hK hP 1 0 rfl rfl (vin (by decide +kernel)) dX8_meet_20 ?_
  refine tpi (y := 1) (rfl) ?_
  refine lv_if_ne (tgt := 90) hx hb dX8_meet_21 (by decide) (fun _ => ?_) (fun c_3 => absurd c_3 (by decide))
  refine lv_iconst (v := 0) hx hb dX8_meet_90 (by decide) ?_
  refine lv_aload_n hx hb dX8_meet_91 rfl (lv_at hl 0 rfl) ?_
  refine va_get (ci := 8) (v := .ref h6) (C := RX8) (T := TX8) (N := 17) hx hb hg inX8 hown hK hP 0 rfl rfl 8 (by decide) (hg _ q_4_82) (fun _ h9 => h9) rfl dX8_meet_92 ?_
  refine lv_iload_n hx hb dX8_meet_95 rfl (lv_at hl 1 rfl) ?_
  refine va_iald hx hb hK hP 1 0 rfl rfl (vin (by decide +kernel)) dX8_meet_96 ?_
  refine tpi (y := 1) (rfl) ?_
  refine lv_iconst (v := 1) hx hb dX8_meet_97 (by decide) ?_
  refine lv_isub hx hb dX8_meet_98 ?_
  refine tpi (y := 0) (by decide +kernel) ?_
  refine va_mmax hx hb (hml.trans hl.1.symm) hown (hg _ q_4_131) (hg _ q_2_102) (hg _ q_1_10) (hg _ q_2_103) (Nat.le_of_ble_eq_true rfl) (Nat.le_of_ble_eq_true rfl) (Nat.le_of_ble_eq_true rfl) (Nat.le_of_ble_eq_true rfl) dX8_meet_99 ?_
  refine tpi (y := 0) (by decide +kernel) ?_
  exact fiI hx hb hr hlk hK hP hD hS dX8_meet_102 (Nat.le_of_ble_eq_true rfl) (Nat.le_of_ble_eq_true rfl) (⟨rfl, rfl⟩)
theorem dX8_open_0 : decode cX8_open 0 = .ok (.aload_n 0, 1) := by decide +kernel
theorem dX8_open_1 : decode cX8_open 1 = .ok (.getfield 29, 3) := by decide +kernel
theorem dX8_open_4 : decode cX8_open 4 = .ok (.iload_n 1, 1) := by decide +kernel
theorem dX8_open_5 : decode cX8_open 5 = .ok (.iaload, 1) := by decide +kernel
theorem dX8_open_6 : decode cX8_open 6 = .ok (.istore_n 2, 1) := by decide +kernel
theorem dX8_open_7 : decode cX8_open 7 = .ok (.iconst 0, 1) := by decide +kernel
theorem dX8_open_8 : decode cX8_open 8 = .ok (.istore_n 3, 1) := by decide +kernel
theorem dX8_open_9 : decode cX8_open 9 = .ok (.iconst 0, 1) := by decide +kernel
theorem dX8_open_10 : decode cX8_open 10 = .ok (.istore 4, 2) := by decide +kernel
theorem dX8_open_12 : decode cX8_open 12 = .ok (.iconst 0, 1) := by decide +kernel
theorem dX8_open_13 : decode cX8_open 13 = .ok (.istore 5, 2) := by decide +kernel
theorem dX8_open_15 : decode cX8_open 15 = .ok (.iload 5, 2) := by decide +kernel
theorem dX8_open_17 : decode cX8_open 17 = .ok (.aload_n 0, 1) := by decide +kernel
theorem dX8_open_18 : decode cX8_open 18 = .ok (.getfield 68, 3) := by decide +kernel
theorem dX8_open_21 : decode cX8_open 21 = .ok (.if_icmp .ge 122, 3) := by decide +kernel
theorem dX8_open_143 : decode cX8_open 143 = .ok (.aload_n 0, 1) := by decide +kernel
theorem dX8_open_144 : decode cX8_open 144 = .ok (.getfield 9, 3) := by decide +kernel
theorem dX8_open_147 : decode cX8_open 147 = .ok (.iconst 0, 1) := by decide +kernel
theorem dX8_open_148 : decode cX8_open 148 = .ok (.iconst 0, 1) := by decide +kernel
theorem dX8_open_149 : decode cX8_open 149 = .ok (.iastore, 1) := by decide +kernel
theorem dX8_open_150 : decode cX8_open 150 = .ok (.iconst 0, 1) := by decide +kernel
theorem dX8_open_151 : decode cX8_open 151 = .ok (.istore 5, 2) := by decide +kernel
theorem dX8_open_153 : decode cX8_open 153 = .ok (.iload 5, 2) := by decide +kernel
theorem dX8_open_155 : decode cX8_open 155 = .ok (.aload_n 0, 1) := by decide +kernel
theorem dX8_open_156 : decode cX8_open 156 = .ok (.getfield 77, 3) := by decide +kernel
theorem dX8_open_159 : decode cX8_open 159 = .ok (.if_icmp .ge 44, 3) := by decide +kernel
theorem dX8_open_162 : decode cX8_open 162 = .ok (.aload_n 0, 1) := by decide +kernel
theorem dX8_open_163 : decode cX8_open 163 = .ok (.getfield 44, 3) := by decide +kernel
theorem dX8_open_166 : decode cX8_open 166 = .ok (.iload_n 1, 1) := by decide +kernel
theorem dX8_open_167 : decode cX8_open 167 = .ok (.iconst 4, 1) := by decide +kernel
theorem dX8_open_168 : decode cX8_open 168 = .ok (.imul, 1) := by decide +kernel
theorem dX8_open_169 : decode cX8_open 169 = .ok (.iload 5, 2) := by decide +kernel
theorem dX8_open_171 : decode cX8_open 171 = .ok (.iadd, 1) := by decide +kernel
theorem dX8_open_172 : decode cX8_open 172 = .ok (.aload_n 0, 1) := by decide +kernel
theorem dX8_open_173 : decode cX8_open 173 = .ok (.iload_n 3, 1) := by decide +kernel
theorem dX8_open_174 : decode cX8_open 174 = .ok (.aload_n 0, 1) := by decide +kernel
theorem dX8_open_175 : decode cX8_open 175 = .ok (.getfield 9, 3) := by decide +kernel
theorem dX8_open_178 : decode cX8_open 178 = .ok (.iload 5, 2) := by decide +kernel
theorem dX8_open_180 : decode cX8_open 180 = .ok (.iaload, 1) := by decide +kernel
theorem dX8_open_181 : decode cX8_open 181 = .ok (.iadd, 1) := by decide +kernel
theorem dX8_open_182 : decode cX8_open 182 = .ok (.iload_n 1, 1) := by decide +kernel
theorem dX8_open_183 : decode cX8_open 183 = .ok (.iload 5, 2) := by decide +kernel
theorem dX8_open_185 : decode cX8_open 185 = .ok (.aload_n 0, 1) := by decide +kernel
theorem dX8_open_186 : decode cX8_open 186 = .ok (.getfield 32, 3) := by decide +kernel
theorem dX8_open_189 : decode cX8_open 189 = .ok (.iload_n 1, 1) := by decide +kernel
theorem dX8_open_190 : decode cX8_open 190 = .ok (.iaload, 1) := by decide +kernel
theorem dX8_open_191 : decode cX8_open 191 = .ok (.iconst 1, 1) := by decide +kernel
theorem dX8_open_192 : decode cX8_open 192 = .ok (.iadd, 1) := by decide +kernel
theorem dX8_open_193 : decode cX8_open 193 = .ok (.invokevirtual 80, 3) := by decide +kernel
theorem dX8_open_196 : decode cX8_open 196 = .ok (.iastore, 1) := by decide +kernel
theorem dX8_open_197 : decode cX8_open 197 = .ok (.iinc 5 1, 3) := by decide +kernel
theorem dX8_open_200 : decode cX8_open 200 = .ok (.goto (-47), 3) := by decide +kernel
theorem dX8_open_203 : decode cX8_open 203 = .ok (.aload_n 0, 1) := by decide +kernel
theorem dX8_open_204 : decode cX8_open 204 = .ok (.iload_n 1, 1) := by decide +kernel
theorem dX8_open_205 : decode cX8_open 205 = .ok (.iconst 1, 1) := by decide +kernel
theorem dX8_open_206 : decode cX8_open 206 = .ok (.iadd, 1) := by decide +kernel
theorem dX8_open_207 : decode cX8_open 207 = .ok (.putfield 59, 3) := by decide +kernel
theorem dX8_open_210 : decode cX8_open 210 = .ok (.return_, 1) := by decide +kernel
set_option maxHeartbeats 4000000 in
set_option maxRecDepth 100000 in
theorem c_X8_open_0 (l : Launch) (V : GV) (y : Nat → Nat) (h0 : Nat) (h1 : Nat) (h2 : Nat) (h3 : Nat) (h4 : Nat) (h5 : Nat) (h6 : Nat) (h7 : Nat) (h8 : Nat) (h9 : Nat) : Ct l V yX8_open (.code yX8_open cX8_open 10 none) 2 [.ref h0, .int 0] [(h1, aI V 4 (fun _ => 0)), (h2, aI V 4 (fun _ => 0)), (h0, .inr (8, [.int 0, .int 1, .ref h6, .ref h7, .ref h4, .int 1, .int 1, .ref (y 19), .ref h8, .ref h9, .ref h2, .ref h3, .ref h1, .ref h5, .int 0, .int 0, .int 0])), (h6, aI V 1 (fun _ => 0)), (h7, aI V 1 (fun _ => 0)), (h8, aI V 1 (upd (fun _ => 0) 0 1))] 0 0 (QV V (fun (w : va_W) => (w = [(h1, aI V 4 (fun _ => 0)), (h2, aI V 4 (fun _ => 0)), (h0, .inr (8, [.int 0, .int 1, .ref h6, .ref h7, .ref h4, .int 1, .int 1, .ref (y 19), .ref h8, .ref h9, .ref h2, .ref h3, .ref h1, .ref h5, .int 0, .int 0, .int 1])), (h6, aI V 1 (fun _ => 0)), (h7, aI V 1 (fun _ => 0)), (h8, aI V 1 (upd (fun _ => 0) 0 1))]))) := by
  refine Ct.of (by decide) (Nat.le_of_ble_eq_true rfl) (fun p e s m below meth c A ls hx hb hr hml hown hlk hnm hg hP hK hD hE hA hS hl => ?_)
  have hl : lv_has ls 10 [(0, .ref h0), (1, .int 0)] := hl
  refine lv_aload_n hx hb dX8_open_0 rfl (lv_at hl 0 rfl) ?_
  refine va_get (ci := 8) (v := .ref h6) (C := RX8) (T := TX8) (N := 17) hx hb hg inX8 hown hK hP 2 rfl rfl 2 (by decide) (hg _ q_4_69) (fun _ h9 => h9) rfl dX8_open_1 ?_
  refine lv_iload_n hx hb dX8_open_4 rfl (lv_at hl 1 rfl) ?_
  refine va_iald hx hb hK hP 3 0 rfl rfl (vin (by decide +kernel)) dX8_open_5 ?_
  refine tpi (y := 0) (rfl) ?_
  refine lv_istore_n (lv' := [(2, .int 0), (0, .ref h0), (1, .int 0)]) hx hb dX8_open_6 rfl hl (by decide) rfl (fun ls hl => ?_)
  refine lv_iconst (v := 0) hx hb dX8_open_7 (by decide) ?_
  refine lv_istore_n (lv' := [(3, .int 0), (2, .int 0), (0, .ref h0), (1, .int 0)]) hx hb dX8_open_8 rfl hl (by decide) rfl (fun ls hl => ?_)
  refine lv_iconst (v := 0) hx hb dX8_open_9 (by decide) ?_
  refine lv_istore (lv' := [(4, .int 0), (3, .int 0), (2, .int 0), (0, .ref h0), (1, .int 0)]) hx hb dX8_open_10 hl (by decide) rfl (fun ls hl => ?_)
  refine lv_iconst (v := 0) hx hb dX8_open_12 (by decide) ?_
  refine lv_istore (lv' := [(5, .int 0), (4, .int 0), (3, .int 0), (2, .int 0), (0, .ref h0), (1, .int 0)]) hx hb dX8_open_13 hl (by decide) rfl (fun ls hl => ?_)
  refine lv_iload hx hb dX8_open_15 (lv_at hl 0 rfl) ?_
  refine lv_aload_n hx hb dX8_open_17 rfl (lv_at hl 4 rfl) ?_
  refine va_get (ci := 8) (v := .int 0) (C := RX8) (T := TX8) (N := 17) hx hb hg inX8 hown hK hP 2 rfl rfl 14 (by decide) (hg _ q_4_88) (fun _ h9 => h9) rfl dX8_open_18 ?_
  refine lv_icmp_ge (tgt := 143) hx hb dX8_open_21 (by decide) (fun _ => ?_) (fun c_1 => absurd c_1 (by decide))
  refine lv_aload_n hx hb dX8_open_143 rfl (lv_at hl 4 rfl) ?_
  refine va_get (ci := 8) (v := .ref h1) (C := RX8) (T := TX8) (N := 17) hx hb hg inX8 hown hK hP 2 rfl rfl 12 (by decide) (hg _ q_4_86) (fun _ h9 => h9) rfl dX8_open_144 ?_
  refine lv_iconst (v := 0) hx hb dX8_open_147 (by decide) ?_
  refine lv_iconst (v := 0) hx hb dX8_open_148 (by decide) ?_
  refine va_iast hx hb hK hP hD hS 0 0 rfl rfl (vin (by decide +kernel)) dX8_open_149 (fun H locs hP hD hS => ?_)
  have hP : va_P V.1 vwCl [(h1, aI V 4 (upd (fun _ => 0) 0 0)), (h2, aI V 4 (fun _ => 0)), (h0, .inr (8, [.int 0, .int 1, .ref h6, .ref h7, .ref h4, .int 1, .int 1, .ref (y 19), .ref h8, .ref h9, .ref h2, .ref h3, .ref h1, .ref h5, .int 0, .int 0, .int 0])), (h6, aI V 1 (fun _ => 0)), (h7, aI V 1 (fun _ => 0)), (h8, aI V 1 (upd (fun _ => 0) 0 1))] H := hP
  have hD : va_D A [(h1, aI V 4 (upd (fun _ => 0) 0 0)), (h2, aI V 4 (fun _ => 0)), (h0, .inr (8, [.int 0, .int 1, .ref h6, .ref h7, .ref h4, .int 1, .int 1, .ref (y 19), .ref h8, .ref h9, .ref h2, .ref h3, .ref h1, .ref h5, .int 0, .int 0, .int 0])), (h6, aI V 1 (fun _ => 0)), (h7, aI V 1 (fun _ => 0)), (h8, aI V 1 (upd (fun _ => 0) 0 1))] := hD
  have hP : va_P V.1 vwCl [(h1, aI V 4 (fun _ => 0)), (h2, aI V 4 (fun _ => 0)), (h0, .inr (8, [.int 0, .int 1, .ref h6, .ref h7, .ref h4, .int 1, .int 1, .ref (y 19), .ref h8, .ref h9, .ref h2, .ref h3, .ref h1, .ref h5, .int 0, .int 0, .int 0])), (h6, aI V 1 (fun _ => 0)), (h7, aI V 1 (fun _ => 0)), (h8, aI V 1 (upd (fun _ => 0) 0 1))] H := by rw [upd0] at hP; exact hP
  have hD : va_D A [(h1, aI V 4 (fun _ => 0)), (h2, aI V 4 (fun _ => 0)), (h0, .inr (8, [.int 0, .int 1, .ref h6, .ref h7, .ref h4, .int 1, .int 1, .ref (y 19), .ref h8, .ref h9, .ref h2, .ref h3, .ref h1, .ref h5, .int 0, .int 0, .int 0])), (h6, aI V 1 (fun _ => 0)), (h7, aI V 1 (fun _ => 0)), (h8, aI V 1 (upd (fun _ => 0) 0 1))] := by rw [upd0] at hD; exact hD
  refine lv_iconst (v := 0) hx hb dX8_open_150 (by decide) ?_
  refine lv_istore (lv' := [(5, .int 0), (4, .int 0), (3, .int 0), (2, .int 0), (0, .ref h0), (1, .int 0)]) hx hb dX8_open_151 hl (by decide) rfl (fun ls hl => ?_)
  refine lv_iload hx hb dX8_open_153 (lv_at hl 0 rfl) ?_
  refine lv_aload_n hx hb dX8_open_155 rfl (lv_at hl 4 rfl) ?_
  refine va_get (ci := 8) (v := .int 1) (C := RX8) (T := TX8) (N := 17) hx hb hg inX8 hown hK hP 2 rfl rfl 6 (by decide) (hg _ q_4_80) (fun _ h9 => h9) rfl dX8_open_156 ?_
  refine lv_icmp_ge (tgt := 203) hx hb dX8_open_159 (by decide) (fun c_2 => absurd c_2 (by decide)) (fun _ => ?_)
  refine lv_aload_n hx hb dX8_open_162 rfl (lv_at hl 4 rfl) ?_
  refine va_get (ci := 8) (v := .ref h2) (C := RX8) (T := TX8) (N := 17) hx hb hg inX8 hown hK hP 2 rfl rfl 10 (by decide) (hg _ q_4_84) (fun _ h9 => h9) rfl dX8_open_163 ?_
  refine lv_iload_n hx hb dX8_open_166 rfl (lv_at hl 5 rfl) ?_
  refine lv_iconst (v := 4) hx hb dX8_open_167 (by decide) ?_
  refine lv_imul hx hb dX8_open_168 ?_
  refine tpi (y := 0) (by decide +kernel) ?_
  refine lv_iload hx hb dX8_open_169 (lv_at hl 0 rfl) ?_
  refine lv_iadd hx hb dX8_open_171 ?_
  refine tpi (y := 0) (by decide +kernel) ?_
  refine lv_aload_n hx hb dX8_open_172 rfl (lv_at hl 4 rfl) ?_
  refine lv_iload_n hx hb dX8_open_173 rfl (lv_at hl 2 rfl) ?_
  refine lv_aload_n hx hb dX8_open_174 rfl (lv_at hl 4 rfl) ?_
  refine va_get (ci := 8) (v := .ref h1) (C := RX8) (T := TX8) (N := 17) hx hb hg inX8 hown hK hP 2 rfl rfl 12 (by decide) (hg _ q_4_86) (fun _ h9 => h9) rfl dX8_open_175 ?_
  refine lv_iload hx hb dX8_open_178 (lv_at hl 0 rfl) ?_
  refine va_iald hx hb hK hP 0 0 rfl rfl (vin (by decide +kernel)) dX8_open_180 ?_
  refine tpi (y := 0) (rfl) ?_
  refine lv_iadd hx hb dX8_open_181 ?_
  refine tpi (y := 0) (by decide +kernel) ?_
  refine lv_iload_n hx hb dX8_open_182 rfl (lv_at hl 5 rfl) ?_
  refine lv_iload hx hb dX8_open_183 (lv_at hl 0 rfl) ?_
  refine lv_aload_n hx hb dX8_open_185 rfl (lv_at hl 4 rfl) ?_
  refine va_get (ci := 8) (v := .ref h7) (C := RX8) (T := TX8) (N := 17) hx hb hg inX8 hown hK hP 2 rfl rfl 3 (by decide) (hg _ q_4_72) (fun _ h9 => h9) rfl dX8_open_186 ?_
  refine lv_iload_n hx hb dX8_open_189 rfl (lv_at hl 5 rfl) ?_
  refine va_iald hx hb hK hP 4 0 rfl rfl (vin (by decide +kernel)) dX8_open_190 ?_
  refine tpi (y := 0) (rfl) ?_
  refine lv_iconst (v := 1) hx hb dX8_open_191 (by decide) ?_
  refine lv_iadd hx hb dX8_open_192 ?_
  refine tpi (y := 1) (by decide +kernel) ?_
  refine jnI (wr := [(h1, aI V 4 (fun _ => 0)), (h2, aI V 4 (fun _ => 0)), (h6, aI V 1 (fun _ => 0)), (h7, aI V 1 (fun _ => 0))]) (rnV (rest := [.int 0, .ref h2]) ⟨hx, hb, hml, hown, hg⟩ (c_X8_meet_3 l V y h0 h1 h2 h6 h7 h4 h8 h9 h3 h5) mt_X8_meet q_4_132 ⟨Nat.le_of_ble_eq_true rfl, Nat.le_of_ble_eq_true rfl⟩ hK hP hD hS hA hE [2, 5] rfl rfl 2 rfl rfl rfl rfl hl.1 rfl (Nat.le_of_ble_eq_true rfl) dX8_open_193 ⟨Nat.le_of_ble_eq_true rfl, Nat.le_of_ble_eq_true rfl⟩) hP hD hS hA [2, 5] [0, 1, 3, 4] rfl rfl rfl (by decide) (fun r_3 w H locs hw hP hD hS => ?_)
  obtain ⟨rfl, rfl⟩ := hw
  have hP : va_P V.1 vwCl [(h1, aI V 4 (fun _ => 0)), (h2, aI V 4 (fun _ => 0)), (h6, aI V 1 (fun _ => 0)), (h7, aI V 1 (fun _ => 0)), (h0, .inr (8, [.int 0, .int 1, .ref h6, .ref h7, .ref h4, .int 1, .int 1, .ref (y 19), .ref h8, .ref h9, .ref h2, .ref h3, .ref h1, .ref h5, .int 0, .int 0, .int 0])), (h8, aI V 1 (upd (fun _ => 0) 0 1))] H := hP
  have hD : va_D A [(h1, aI V 4 (fun _ => 0)), (h2, aI V 4 (fun _ => 0)), (h6, aI V 1 (fun _ => 0)), (h7, aI V 1 (fun _ => 0)), (h0, .inr (8, [.int 0, .int 1, .ref h6, .ref h7, .ref h4, .int 1, .int 1, .ref (y 19), .ref h8, .ref h9, .ref h2, .ref h3, .ref h1, .ref h5, .int 0, .int 0, .int 0])), (h8, aI V 1 (upd (fun _ => 0) 0 1))] := hD
  refine va_iast hx hb hK hP hD hS 1 0 rfl rfl (vin (by decide +kernel)) dX8_open_196 (fun H locs hP hD hS => ?_)
  have hP : va_P V.1 vwCl [(h1, aI V 4 (fun _ => 0)), (h2, aI V 4 (upd (fun _ => 0) 0 0)), (h6, aI V 1 (fun _ => 0)), (h7, aI V 1 (fun _ => 0)), (h0, .inr (8, [.int 0, .int 1, .ref h6, .ref h7, .ref h4, .int 1, .int 1, .ref (y 19), .ref h8, .ref h9, .ref h2, .ref h3, .ref h1, .ref h5, .int 0, .int 0, .int 0])), (h8, aI V 1 (upd (fun _ => 0) 0 1))] H := hP
  have hD : va_D A [(h1, aI V 4 (fun _ => 0)), (h2, aI V 4 (upd (fun _ => 0) 0 0)), (h6, aI V 1 (fun _ => 0)), (h7, aI V 1 (fun _ => 0)), (h0, .inr (8, [.int 0, .int 1, .ref h6, .ref h7, .ref h4, .int 1, .int 1, .ref (y 19), .ref h8, .ref h9, .ref h2, .ref h3, .ref h1, .ref h5, .int 0, .int 0, .int 0])), (h8, aI V 1 (upd (fun _ => 0) 0 1))] := hD
  have hP : va_P V.1 vwCl [(h1, aI V 4 (fun _ => 0)), (h2, aI V 4 (fun _ => 0)), (h6, aI V 1 (fun _ => 0)), (h7, aI V 1 (fun _ => 0)), (h0, .inr (8, [.int 0, .int 1, .ref h6, .ref h7, .ref h4, .int 1, .int 1, .ref (y 19), .ref h8, .ref h9, .ref h2, .ref h3, .ref h1, .ref h5, .int 0, .int 0, .int 0])), (h8, aI V 1 (upd (fun _ => 0) 0 1))] H := by rw [upd0] at hP; exact hP
  have hD : va_D A [(h1, aI V 4 (fun _ => 0)), (h2, aI V 4 (fun _ => 0)), (h6, aI V 1 (fun _ => 0)), (h7, aI V 1 (fun _ => 0)), (h0, .inr (8, [.int 0, .int 1, .ref h6, .ref h7, .ref h4, .int 1, .int 1, .ref (y 19), .ref h8, .ref h9, .ref h2, .ref h3, .ref h1, .ref h5, .int 0, .int 0, .int 0])), (h8, aI V 1 (upd (fun _ => 0) 0 1))] := by rw [upd0] at hD; exact hD
  refine lv_iinc (v := 1) (lv' := [(5, .int 1), (4, .int 0), (3, .int 0), (2, .int 0), (0, .ref h0), (1, .int 0)]) hx hb dX8_open_197 hl (k := 0) rfl (by decide +kernel) (by decide) rfl (fun ls hl => ?_)
  refine lv_goto (tgt := 153) hx hb dX8_open_200 (by decide) ?_
  refine lv_iload hx hb dX8_open_153 (lv_at hl 0 rfl) ?_
  refine lv_aload_n hx hb dX8_open_155 rfl (lv_at hl 4 rfl) ?_
  refine va_get (ci := 8) (v := .int 1) (C := RX8) (T := TX8) (N := 17) hx hb hg inX8 hown hK hP 4 rfl rfl 6 (by decide) (hg _ q_4_80) (fun _ h9 => h9) rfl dX8_open_156 ?_
  refine lv_icmp_ge (tgt := 203) hx hb dX8_open_159 (by decide) (fun _ => ?_) (fun c_4 => absurd c_4 (by decide))
  refine lv_aload_n hx hb dX8_open_203 rfl (lv_at hl 4 rfl) ?_
  refine lv_iload_n hx hb dX8_open_204 rfl (lv_at hl 5 rfl) ?_
  refine lv_iconst (v := 1) hx hb dX8_open_205 (by decide) ?_
  refine lv_iadd hx hb dX8_open_206 ?_
  refine tpi (y := 1) (by decide +kernel) ?_
  refine va_put (ci := 8) (v := .int 1) (ty := .int) (C := RX8) (T := TX8) (N := 17) hx hb hg inX8 tyX8 tyX8_ok nmX8 hown hK hP hD hS 4 rfl rfl 16 (by decide) (hg _ q_4_90) (fun _ h9 => h9) rfl (by decide +kernel) rfl rfl (Nat.le_of_ble_eq_true rfl) dX8_open_207 (fun H locs hP hD hS => ?_)
  have hP : va_P V.1 vwCl [(h1, aI V 4 (fun _ => 0)), (h2, aI V 4 (fun _ => 0)), (h6, aI V 1 (fun _ => 0)), (h7, aI V 1 (fun _ => 0)), (h0, .inr (8, [.int 0, .int 1, .ref h6, .ref h7, .ref h4, .int 1, .int 1, .ref (y 19), .ref h8, .ref h9, .ref h2, .ref h3, .ref h1, .ref h5, .int 0, .int 0, .int 1])), (h8, aI V 1 (upd (fun _ => 0) 0 1))] H := hP
  have hD : va_D A [(h1, aI V 4 (fun _ => 0)), (h2, aI V 4 (fun _ => 0)), (h6, aI V 1 (fun _ => 0)), (h7, aI V 1 (fun _ => 0)), (h0, .inr (8, [.int 0, .int 1, .ref h6, .ref h7, .ref h4, .int 1, .int 1, .ref (y 19), .ref h8, .ref h9, .ref h2, .ref h3, .ref h1, .ref h5, .int 0, .int 0, .int 1])), (h8, aI V 1 (upd (fun _ => 0) 0 1))] := hD
  have hP := subP (ws' := [(h1, aI V 4 (fun _ => 0)), (h2, aI V 4 (fun _ => 0)), (h0, .inr (8, [.int 0, .int 1, .ref h6, .ref h7, .ref h4, .int 1, .int 1, .ref (y 19), .ref h8, .ref h9, .ref h2, .ref h3, .ref h1, .ref h5, .int 0, .int 0, .int 1])), (h6, aI V 1 (fun _ => 0)), (h7, aI V 1 (fun _ => 0)), (h8, aI V 1 (upd (fun _ => 0) 0 1))]) hP [0, 1, 4, 2, 3, 5] rfl
  have hD := hD.sub (ws' := [(h1, aI V 4 (fun _ => 0)), (h2, aI V 4 (fun _ => 0)), (h0, .inr (8, [.int 0, .int 1, .ref h6, .ref h7, .ref h4, .int 1, .int 1, .ref (y 19), .ref h8, .ref h9, .ref h2, .ref h3, .ref h1, .ref h5, .int 0, .int 0, .int 1])), (h6, aI V 1 (fun _ => 0)), (h7, aI V 1 (fun _ => 0)), (h8, aI V 1 (upd (fun _ => 0) 0 1))]) [0, 1, 4, 2, 3, 5] rfl rfl
  exact fiV hx hb hr hlk hK hP hD hS dX8_open_210 (Nat.le_of_ble_eq_true rfl) (Nat.le_of_ble_eq_true rfl) (rfl)
set_option maxHeartbeats 4000000 in
set_option maxRecDepth 100000 in
theorem c_X8_open_1 (l : Launch) (V : GV) (y : Nat → Nat) (h0 : Nat) (h1 : Nat) (h2 : Nat) (h3 : Nat) (h4 : Nat) (h5 : Nat) (h6 : Nat) (h7 : Nat) (h8 : Nat) (h9 : Nat) : Ct l V yX8_open (.code yX8_open cX8_open 10 none) 2 [.ref h0, .int 0] [(h1, aI V 4 (fun _ => 0)), (h2, aI V 4 (fun _ => 0)), (h0, .inr (8, [.int 0, .int 1, .ref h3, .ref h4, .ref h5, .int 1, .int 1, .ref (y 19), .ref h6, .ref h7, .ref h2, .ref h8, .ref h1, .ref h9, .int 0, .int 0, .int 0])), (h3, aI V 1 (fun _ => 0)), (h4, aI V 1 (fun _ => 0)), (h6, aI V 1 (upd (fun _ => 0) 0 1))] 0 0 (QV V (fun (w : va_W) => (w = [(h1, aI V 4 (fun _ => 0)), (h2, aI V 4 (fun _ => 0)), (h0, .inr (8, [.int 0, .int 1, .ref h3, .ref h4, .ref h5, .int 1, .int 1, .ref (y 19), .ref h6, .ref h7, .ref h2, .ref h8, .ref h1, .ref h9, .int 0, .int 0, .int 1])), (h3, aI V 1 (fun _ => 0)), (h4, aI V 1 (fun _ => 0)), (h6, aI V 1 (upd (fun _ => 0) 0 1))]))) := by
  refine Ct.of (by decide) (Nat.le_of_ble_eq_true rfl) (fun p e s m below meth c A ls hx hb hr hml hown hlk hnm hg hP hK hD hE hA hS hl => ?_)
  have hl : lv_has ls 10 [(0, .ref h0), (1, .int 0)] := hl
  refine lv_aload_n hx hb dX8_open_0 rfl (lv_at hl 0 rfl) ?_
  refine va_get (ci := 8) (v := .ref h3) (C := RX8) (T := TX8) (N := 17) hx hb hg inX8 hown hK hP 2 rfl rfl 2 (by decide) (hg _ q_4_69) (fun _ h9 => h9) rfl dX8_open_1 ?_
  refine lv_iload_n hx hb dX8_open_4 rfl (lv_at hl 1 rfl) ?_
  refine va_iald hx hb hK hP 3 0 rfl rfl (vin (by decide +kernel)) dX8_open_5 ?_
  refine tpi (y := 0) (rfl) ?_
  refine lv_istore_n (lv' := [(2, .int 0), (0, .ref h0), (1, .int 0)]) hx hb dX8_open_6 rfl hl (by decide) rfl (fun ls hl => ?_)
  refine lv_iconst (v := 0) hx hb dX8_open_7 (by decide) ?_
  refine lv_istore_n (lv' := [(3, .int 0), (2, .int 0), (0, .ref h0), (1, .int 0)]) hx hb dX8_open_8 rfl hl (by decide) rfl (fun ls hl => ?_)
  refine lv_iconst (v := 0) hx hb dX8_open_9 (by decide) ?_
  refine lv_istore (lv' := [(4, .int 0), (3, .int 0), (2, .int 0), (0, .ref h0), (1, .int 0)]) hx hb dX8_open_10 hl (by decide) rfl (fun ls hl => ?_)
  refine lv_iconst (v := 0) hx hb dX8_open_12 (by decide) ?_
  refine lv_istore (lv' := [(5, .int 0), (4, .int 0), (3, .int 0), (2, .int 0), (0, .ref h0), (1, .int 0)]) hx hb dX8_open_13 hl (by decide) rfl (fun ls hl => ?_)
  refine lv_iload hx hb dX8_open_15 (lv_at hl 0 rfl) ?_
  refine lv_aload_n hx hb dX8_open_17 rfl (lv_at hl 4 rfl) ?_
  refine va_get (ci := 8) (v := .int 0) (C := RX8) (T := TX8) (N := 17) hx hb hg inX8 hown hK hP 2 rfl rfl 14 (by decide) (hg _ q_4_88) (fun _ h9 => h9) rfl dX8_open_18 ?_
  refine lv_icmp_ge (tgt := 143) hx hb dX8_open_21 (by decide) (fun _ => ?_) (fun c_1 => absurd c_1 (by decide))
  refine lv_aload_n hx hb dX8_open_143 rfl (lv_at hl 4 rfl) ?_
  refine va_get (ci := 8) (v := .ref h1) (C := RX8) (T := TX8) (N := 17) hx hb hg inX8 hown hK hP 2 rfl rfl 12 (by decide) (hg _ q_4_86) (fun _ h9 => h9) rfl dX8_open_144 ?_
  refine lv_iconst (v := 0) hx hb dX8_open_147 (by decide) ?_
  refine lv_iconst (v := 0) hx hb dX8_open_148 (by decide) ?_
  refine va_iast hx hb hK hP hD hS 0 0 rfl rfl (vin (by decide +kernel)) dX8_open_149 (fun H locs hP hD hS => ?_)
  have hP : va_P V.1 vwCl [(h1, aI V 4 (upd (fun _ => 0) 0 0)), (h2, aI V 4 (fun _ => 0)), (h0, .inr (8, [.int 0, .int 1, .ref h3, .ref h4, .ref h5, .int 1, .int 1, .ref (y 19), .ref h6, .ref h7, .ref h2, .ref h8, .ref h1, .ref h9, .int 0, .int 0, .int 0])), (h3, aI V 1 (fun _ => 0)), (h4, aI V 1 (fun _ => 0)), (h6, aI V 1 (upd (fun _ => 0) 0 1))] H := hP
  have hD : va_D A [(h1, aI V 4 (upd (fun _ => 0) 0 0)), (h2, aI V 4 (fun _ => 0)), (h0, .inr (8, [.int 0, .int 1, .ref h3, .ref h4, .ref h5, .int 1, .int 1, .ref (y 19), .ref h6, .ref h7, .ref h2, .ref h8, .ref h1, .ref h9, .int 0, .int 0, .int 0])), (h3, aI V 1 (fun _ => 0)), (h4, aI V 1 (fun _ => 0)), (h6, aI V 1 (upd (fun _ => 0) 0 1))] := hD
  have hP : va_P V.1 vwCl [(h1, aI V 4 (fun _ => 0)), (h2, aI V 4 (fun _ => 0)), (h0, .inr (8, [.int 0, .int 1, .ref h3, .ref h4, .ref h5, .int 1, .int 1, .ref (y 19), .ref h6, .ref h7, .ref h2, .ref h8, .ref h1, .ref h9, .int 0, .int 0, .int 0])), (h3, aI V 1 (fun _ => 0)), (h4, aI V 1 (fun _ => 0)), (h6, aI V 1 (upd (fun _ => 0) 0 1))] H := by rw [upd0] at hP; exact hP
  have hD : va_D A [(h1, aI V 4 (fun _ => 0)), (h2, aI V 4 (fun _ => 0)), (h0, .inr (8, [.int 0, .int 1, .ref h3, .ref h4, .ref h5, .int 1, .int 1, .ref (y 19), .ref h6, .ref h7, .ref h2, .ref h8, .ref h1, .ref h9, .int 0, .int 0, .int 0])), (h3, aI V 1 (fun _ => 0)), (h4, aI V 1 (fun _ => 0)), (h6, aI V 1 (upd (fun _ => 0) 0 1))] := by rw [upd0] at hD; exact hD
  refine lv_iconst (v := 0) hx hb dX8_open_150 (by decide) ?_
  refine lv_istore (lv' := [(5, .int 0), (4, .int 0), (3, .int 0), (2, .int 0), (0, .ref h0), (1, .int 0)]) hx hb dX8_open_151 hl (by decide) rfl (fun ls hl => ?_)
  refine lv_iload hx hb dX8_open_153 (lv_at hl 0 rfl) ?_
  refine lv_aload_n hx hb dX8_open_155 rfl (lv_at hl 4 rfl) ?_
  refine va_get (ci := 8) (v := .int 1) (C := RX8) (T := TX8) (N := 17) hx hb hg inX8 hown hK hP 2 rfl rfl 6 (by decide) (hg _ q_4_80) (fun _ h9 => h9) rfl dX8_open_156 ?_
  refine lv_icmp_ge (tgt := 203) hx hb dX8_open_159 (by decide) (fun c_2 => absurd c_2 (by decide)) (fun _ => ?_)
  refine lv_aload_n hx hb dX8_open_162 rfl (lv_at hl 4 rfl) ?_
  refine va_get (ci := 8) (v := .ref h2) (C := RX8) (T := TX8) (N := 17) hx hb hg inX8 hown hK hP 2 rfl rfl 10 (by decide) (hg _ q_4_84) (fun _ h9 => h9) rfl dX8_open_163 ?_
  refine lv_iload_n hx hb dX8_open_166 rfl (lv_at hl 5 rfl) ?_
  refine lv_iconst (v := 4) hx hb dX8_open_167 (by decide) ?_
  refine lv_imul hx hb dX8_open_168 ?_
  refine tpi (y := 0) (by decide +kernel) ?_
  refine lv_iload hx hb dX8_open_169 (lv_at hl 0 rfl) ?_
  refine lv_iadd hx hb dX8_open_171 ?_
  refine tpi (y := 0) (by decide +kernel) ?_
  refine lv_aload_n hx hb dX8_open_172 rfl (lv_at hl 4 rfl) ?_
  refine lv_iload_n hx hb dX8_open_173 rfl (lv_at hl 2 rfl) ?_
  refine lv_aload_n hx hb dX8_open_174 rfl (lv_at hl 4 rfl) ?_
  refine va_get (ci := 8) (v := .ref h1) (C := RX8) (T := TX8) (N := 17) hx hb hg inX8 hown hK hP 2 rfl rfl 12 (by decide) (hg _ q_4_86) (fun _ h9 => h9) rfl dX8_open_175 ?_
  refine lv_iload hx hb dX8_open_178 (lv_at hl 0 rfl) ?_
  refine va_iald hx hb hK hP 0 0 rfl rfl (vin (by decide +kernel)) dX8_open_180 ?_
  refine tpi (y := 0) (rfl) ?_
  refine lv_iadd hx hb dX8_open_181 ?_
  refine tpi (y := 0) (by decide +kernel) ?_
  refine lv_iload_n hx hb dX8_open_182 rfl (lv_at hl 5 rfl) ?_
  refine lv_iload hx hb dX8_open_183 (lv_at hl 0 rfl) ?_
  refine lv_aload_n hx hb dX8_open_185 rfl (lv_at hl 4 rfl) ?_
  refine va_get (ci := 8) (v := .ref h4) (C := RX8) (T := TX8) (N := 17) hx hb hg inX8 hown hK hP 2 rfl rfl 3 (by decide) (hg _ q_4_72) (fun _ h9 => h9) rfl dX8_open_186 ?_
  refine lv_iload_n hx hb dX8_open_189 rfl (lv_at hl 5 rfl) ?_
  refine va_iald hx hb hK hP 4 0 rfl rfl (vin (by decide +kernel)) dX8_open_190 ?_
  refine tpi (y := 0) (rfl) ?_
  refine lv_iconst (v := 1) hx hb dX8_open_191 (by decide) ?_
  refine lv_iadd hx hb dX8_open_192 ?_
  refine tpi (y := 1) (by decide +kernel) ?_
  refine jnI (wr := [(h1, aI V 4 (fun _ => 0)), (h2, aI V 4 (fun _ => 0)), (h3, aI V 1 (fun _ => 0)), (h4, aI V 1 (fun _ => 0))]) (rnV (rest := [.int 0, .ref h2]) ⟨hx, hb, hml, hown, hg⟩ (c_X8_meet_3 l V y h0 h1 h2 h3 h4 h5 h6 h7 h8 h9) mt_X8_meet q_4_132 ⟨Nat.le_of_ble_eq_true rfl, Nat.le_of_ble_eq_true rfl⟩ hK hP hD hS hA hE [2, 5] rfl rfl 2 rfl rfl rfl rfl hl.1 rfl (Nat.le_of_ble_eq_true rfl) dX8_open_193 ⟨Nat.le_of_ble_eq_true rfl, Nat.le_of_ble_eq_true rfl⟩) hP hD hS hA [2, 5] [0, 1, 3, 4] rfl rfl rfl (by decide) (fun r_3 w H locs hw hP hD hS => ?_)
  obtain ⟨rfl, rfl⟩ := hw
  have hP : va_P V.1 vwCl [(h1, aI V 4 (fun _ => 0)), (h2, aI V 4 (fun _ => 0)), (h3, aI V 1 (fun _ => 0)), (h4, aI V 1 (fun _ => 0)), (h0, .inr (8, [.int 0, .int 1, .ref h3, .ref h4, .ref h5, .int 1, .int 1, .ref (y 19), .ref h6, .ref h7, .ref h2, .ref h8, .ref h1, .ref h9, .int 0, .int 0, .int 0])), (h6, aI V 1 (upd (fun _ => 0) 0 1))] H := hP
  have hD : va_D A [(h1, aI V 4 (fun _ => 0)), (h2, aI V 4 (fun _ => 0)), (h3, aI V 1 (fun _ => 0)), (h4, aI V 1 (fun _ => 0)), (h0, .inr (8, [.int 0, .int 1, .ref h3, .ref h4, .ref h5, .int 1, .int 1, .ref (y 19), .ref h6, .ref h7, .ref h2, .ref h8, .ref h1, .ref h9, .int 0, .int 0, .int 0])), (h6, aI V 1 (upd (fun _ => 0) 0 1))] := hD
  refine va_iast hx hb hK hP hD hS 1 0 rfl rfl (vin (by decide +kernel)) dX8_open_196 (fun H locs hP hD hS => ?_)
  have hP : va_P V.1 vwCl [(h1, aI V 4 (fun _ => 0)), (h2, aI V 4 (upd (fun _ => 0) 0 0)), (h3, aI V 1 (fun _ => 0)), (h4, aI V 1 (fun _ => 0)), (h0, .inr (8, [.int 0, .int 1, .ref h3, .ref h4, .ref h5, .int 1, .int 1, .ref (y 19), .ref h6, .ref h7, .ref h2, .ref h8, .ref h1, .ref h9, .int 0, .int 0, .int 0])), (h6, aI V 1 (upd (fun _ => 0) 0 1))] H := hP
  have hD : va_D A [(h1, aI V 4 (fun _ => 0)), (h2, aI V 4 (upd (fun _ => 0) 0 0)), (h3, aI V 1 (fun _ => 0)), (h4, aI V 1 (fun _ => 0)), (h0, .inr (8, [.int 0, .int 1, .ref h3, .ref h4, .ref h5, .int 1, .int 1, .ref (y 19), .ref h6, .ref h7, .ref h2, .ref h8, .ref h1, .ref h9, .int 0, .int 0, .int 0])), (h6, aI V 1 (upd (fun _ => 0) 0 1))] := hD
  have hP : va_P V.1 vwCl [(h1, aI V 4 (fun _ => 0)), (h2, aI V 4 (fun _ => 0)), (h3, aI V 1 (fun _ => 0)), (h4, aI V 1 (fun _ => 0)), (h0, .inr (8, [.int 0, .int 1, .ref h3, .ref h4, .ref h5, .int 1, .int 1, .ref (y 19), .ref h6, .ref h7, .ref h2, .ref h8, .ref h1, .ref h9, .int 0, .int 0, .int 0])), (h6, aI V 1 (upd (fun _ => 0) 0 1))] H := by rw [upd0] at hP; exact hP
  have hD : va_D A [(h1, aI V 4 (fun _ => 0)), (h2, aI V 4 (fun _ => 0)), (h3, aI V 1 (fun _ => 0)), (h4, aI V 1 (fun _ => 0)), (h0, .inr (8, [.int 0, .int 1, .ref h3, .ref h4, .ref h5, .int 1, .int 1, .ref (y 19), .ref h6, .ref h7, .ref h2, .ref h8, .ref h1, .ref h9, .int 0, .int 0, .int 0])), (h6, aI V 1 (upd (fun _ => 0) 0 1))] := by rw [upd0] at hD; exact hD
  refine lv_iinc (v := 1) (lv' := [(5, .int 1), (4, .int 0), (3, .int 0), (2, .int 0), (0, .ref h0), (1, .int 0)]) hx hb dX8_open_197 hl (k := 0) rfl (by decide +kernel) (by decide) rfl (fun ls hl => ?_)
  refine lv_goto (tgt := 153) hx hb dX8_open_200 (by decide) ?_
  refine lv_iload hx hb dX8_open_153 (lv_at hl 0 rfl) ?_
  refine lv_aload_n hx hb dX8_open_155 rfl (lv_at hl 4 rfl) ?_
  refine va_get (ci := 8) (v := .int 1) (C := RX8) (T := TX8) (N := 17) hx hb hg inX8 hown hK hP 4 rfl rfl 6 (by decide) (hg _ q_4_80) (fun _ h9 => h9) rfl dX8_open_156 ?_
  refine lv_icmp_ge (tgt := 203) hx hb dX8_open_159 (by decide) (fun _ => ?_) (fun c_4 => absurd c_4 (by decide))
  refine lv_aload_n hx hb dX8_open_203 rfl (lv_at hl 4 rfl) ?_
  refine lv_iload_n hx hb dX8_open_204 rfl (lv_at hl 5 rfl) ?_
  refine lv_iconst (v := 1) hx hb dX8_open_205 (by decide) ?_
  refine lv_iadd hx hb dX8_open_206 ?_
  refine tpi (y := 1) (by decide +kernel) ?_
  refine va_put (ci := 8) (v := .int 1) (ty := .int) (C := RX8) (T := TX8) (N := 17) hx hb hg inX8 tyX8 tyX8_ok nmX8 hown hK hP hD hS 4 rfl rfl 16 (by decide) (hg _ q_4_90) (fun _ h9 => h9) rfl (by decide +kernel) rfl rfl (Nat.le_of_ble_eq_true rfl) dX8_open_207 (fun H locs hP hD hS => ?_)
  have hP : va_P V.1 vwCl [(h1, aI V 4 (fun _ => 0)), (h2, aI V 4 (fun _ => 0)), (h3, aI V 1 (fun _ => 0)), (h4, aI V 1 (fun _ => 0)), (h0, .inr (8, [.int 0, .int 1, .ref h3, .ref h4, .ref h5, .int 1, .int 1, .ref (y 19), .ref h6, .ref h7, .ref h2, .ref h8, .ref h1, .ref h9, .int 0, .int 0, .int 1])), (h6, aI V 1 (upd (fun _ => 0) 0 1))] H := hP
  have hD : va_D A [(h1, aI V 4 (fun _ => 0)), (h2, aI V 4 (fun _ => 0)), (h3, aI V 1 (fun _ => 0)), (h4, aI V 1 (fun _ => 0)), (h0, .inr (8, [.int 0, .int 1, .ref h3, .ref h4, .ref h5, .int 1, .int 1, .ref (y 19), .ref h6, .ref h7, .ref h2, .ref h8, .ref h1, .ref h9, .int 0, .int 0, .int 1])), (h6, aI V 1 (upd (fun _ => 0) 0 1))] := hD
  have hP := subP (ws' := [(h1, aI V 4 (fun _ => 0)), (h2, aI V 4 (fun _ => 0)), (h0, .inr (8, [.int 0, .int 1, .ref h3, .ref h4, .ref h5, .int 1, .int 1, .ref (y 19), .ref h6, .ref h7, .ref h2, .ref h8, .ref h1, .ref h9, .int 0, .int 0, .int 1])), (h3, aI V 1 (fun _ => 0)), (h4, aI V 1 (fun _ => 0)), (h6, aI V 1 (upd (fun _ => 0) 0 1))]) hP [0, 1, 4, 2, 3, 5] rfl
  have hD := hD.sub (ws' := [(h1, aI V 4 (fun _ => 0)), (h2, aI V 4 (fun _ => 0)), (h0, .inr (8, [.int 0, .int 1, .ref h3, .ref h4, .ref h5, .int 1, .int 1, .ref (y 19), .ref h6, .ref h7, .ref h2, .ref h8, .ref h1, .ref h9, .int 0, .int 0, .int 1])), (h3, aI V 1 (fun _ => 0)), (h4, aI V 1 (fun _ => 0)), (h6, aI V 1 (upd (fun _ => 0) 0 1))]) [0, 1, 4, 2, 3, 5] rfl rfl
  exact fiV hx hb hr hlk hK hP hD hS dX8_open_210 (Nat.le_of_ble_eq_true rfl) (Nat.le_of_ble_eq_true rfl) (rfl)
theorem dX8_reachTo_0 : decode cX8_reachTo 0 = .ok (.aload_n 0, 1) := by decide +kernel
theorem dX8_reachTo_1 : decode cX8_reachTo 1 = .ok (.getfield 59, 3) := by decide +kernel
theorem dX8_reachTo_4 : decode cX8_reachTo 4 = .ok (.istore_n 2, 1) := by decide +kernel
theorem dX8_reachTo_5 : decode cX8_reachTo 5 = .ok (.iload_n 2, 1) := by decide +kernel
theorem dX8_reachTo_6 : decode cX8_reachTo 6 = .ok (.aload_n 0, 1) := by decide +kernel
theorem dX8_reachTo_7 : decode cX8_reachTo 7 = .ok (.getfield 26, 3) := by decide +kernel
theorem dX8_reachTo_10 : decode cX8_reachTo 10 = .ok (.if_icmp .ge 32, 3) := by decide +kernel
theorem dX8_reachTo_13 : decode cX8_reachTo 13 = .ok (.iload_n 2, 1) := by decide +kernel
theorem dX8_reachTo_14 : decode cX8_reachTo 14 = .ok (.aload_n 0, 1) := by decide +kernel
theorem dX8_reachTo_15 : decode cX8_reachTo 15 = .ok (.getfield 56, 3) := by decide +kernel
theorem dX8_reachTo_18 : decode cX8_reachTo 18 = .ok (.if_icmp .ge 24, 3) := by decide +kernel
theorem dX8_reachTo_21 : decode cX8_reachTo 21 = .ok (.aload_n 0, 1) := by decide +kernel
theorem dX8_reachTo_22 : decode cX8_reachTo 22 = .ok (.getfield 32, 3) := by decide +kernel
theorem dX8_reachTo_25 : decode cX8_reachTo 25 = .ok (.iload_n 2, 1) := by decide +kernel
theorem dX8_reachTo_26 : decode cX8_reachTo 26 = .ok (.iaload, 1) := by decide +kernel
theorem dX8_reachTo_27 : decode cX8_reachTo 27 = .ok (.iload_n 1, 1) := by decide +kernel
theorem dX8_reachTo_28 : decode cX8_reachTo 28 = .ok (.if_icmp .ge 14, 3) := by decide +kernel
theorem dX8_reachTo_31 : decode cX8_reachTo 31 = .ok (.aload_n 0, 1) := by decide +kernel
theorem dX8_reachTo_32 : decode cX8_reachTo 32 = .ok (.iload_n 2, 1) := by decide +kernel
theorem q_4_143 : Cond.code yX8_open prog_10_method_6_code 10 none ∈ gw := gw_4 (i := 143) (rfl) rfl
theorem q_4_142 : Cond.instanceMethod yX8_open ∈ gw := gw_4 (i := 142) (by decide +kernel) rfl
theorem q_s_34 : Cond.selects "BeaconDelay$Ways" yX8_open yX8_open ∈ gw := gw_s (i := 34) (by decide +kernel) rfl
theorem mt_X8_open : MtV yX8_open cX8_open 10 none 1 := ⟨⟨q_4_143, q_1_18, by decide +kernel, by decide +kernel, by decide +kernel⟩, q_4_142, q_s_34⟩
theorem q_4_140 : Cond.methodLink "BeaconDelay$Ways" 84 yX8_open ∈ gw := gw_4 (i := 140) (by decide +kernel) rfl
theorem dX8_reachTo_33 : decode cX8_reachTo 33 = .ok (.invokevirtual 84, 3) := by decide +kernel
theorem dX8_reachTo_36 : decode cX8_reachTo 36 = .ok (.iinc 2 1, 3) := by decide +kernel
theorem dX8_reachTo_39 : decode cX8_reachTo 39 = .ok (.goto (-34), 3) := by decide +kernel
theorem dX8_reachTo_42 : decode cX8_reachTo 42 = .ok (.return_, 1) := by decide +kernel
set_option maxHeartbeats 4000000 in
set_option maxRecDepth 100000 in
theorem c_X8_reachTo_0 (l : Launch) (V : GV) (y : Nat → Nat) (h0 : Nat) (h1 : Nat) (h2 : Nat) (h3 : Nat) (h4 : Nat) (h5 : Nat) (h6 : Nat) (h7 : Nat) (h8 : Nat) (h9 : Nat) : Ct l V yX8_reachTo (.code yX8_reachTo cX8_reachTo 3 none) 3 [.ref h0, .int 1000000] [(h1, aI V 4 (fun _ => 0)), (h2, aI V 4 (fun _ => 0)), (h0, .inr (8, [.int 0, .int 1, .ref h6, .ref h7, .ref h4, .int 1, .int 1, .ref (y 19), .ref h8, .ref h9, .ref h2, .ref h3, .ref h1, .ref h5, .int 0, .int 0, .int 0])), (h6, aI V 1 (fun _ => 0)), (h7, aI V 1 (fun _ => 0)), (h8, aI V 1 (upd (fun _ => 0) 0 1))] 0 0 (QV V (fun (w : va_W) => (w = [(h1, aI V 4 (fun _ => 0)), (h2, aI V 4 (fun _ => 0)), (h0, .inr (8, [.int 0, .int 1, .ref h6, .ref h7, .ref h4, .int 1, .int 1, .ref (y 19), .ref h8, .ref h9, .ref h2, .ref h3, .ref h1, .ref h5, .int 0, .int 0, .int 1])), (h6, aI V 1 (fun _ => 0)), (h7, aI V 1 (fun _ => 0)), (h8, aI V 1 (upd (fun _ => 0) 0 1))]))) := by
  refine Ct.of (by decide) (Nat.le_of_ble_eq_true rfl) (fun p e s m below meth c A ls hx hb hr hml hown hlk hnm hg hP hK hD hE hA hS hl => ?_)
  have hl : lv_has ls 3 [(0, .ref h0), (1, .int 1000000)] := hl
  refine lv_aload_n hx hb dX8_reachTo_0 rfl (lv_at hl 0 rfl) ?_
  refine va_get (ci := 8) (v := .int 0) (C := RX8) (T := TX8) (N := 17) hx hb hg inX8 hown hK hP 2 rfl rfl 16 (by decide) (hg _ q_4_90) (fun _ h9 => h9) rfl dX8_reachTo_1 ?_
  refine lv_istore_n (lv' := [(2, .int 0), (0, .ref h0), (1, .int 1000000)]) hx hb dX8_reachTo_4 rfl hl (by decide) rfl (fun ls hl => ?_)
  refine lv_iload_n hx hb dX8_reachTo_5 rfl (lv_at hl 0 rfl) ?_
  refine lv_aload_n hx hb dX8_reachTo_6 rfl (lv_at hl 1 rfl) ?_
  refine va_get (ci := 8) (v := .int 1) (C := RX8) (T := TX8) (N := 17) hx hb hg inX8 hown hK hP 2 rfl rfl 1 (by decide) (hg _ q_4_67) (fun _ h9 => h9) rfl dX8_reachTo_7 ?_
  refine lv_icmp_ge (tgt := 42) hx hb dX8_reachTo_10 (by decide) (fun c_1 => absurd c_1 (by decide)) (fun _ => ?_)
  refine lv_iload_n hx hb dX8_reachTo_13 rfl (lv_at hl 0 rfl) ?_
  refine lv_aload_n hx hb dX8_reachTo_14 rfl (lv_at hl 1 rfl) ?_
  refine va_get (ci := 8) (v := .int 1) (C := RX8) (T := TX8) (N := 17) hx hb hg inX8 hown hK hP 2 rfl rfl 5 (by decide) (hg _ q_4_76) (fun _ h9 => h9) rfl dX8_reachTo_15 ?_
  refine lv_icmp_ge (tgt := 42) hx hb dX8_reachTo_18 (by decide) (fun c_2 => absurd c_2 (by decide)) (fun _ => ?_)
  refine lv_aload_n hx hb dX8_reachTo_21 rfl (lv_at hl 1 rfl) ?_
  refine va_get (ci := 8) (v := .ref h7) (C := RX8) (T := TX8) (N := 17) hx hb hg inX8 hown hK hP 2 rfl rfl 3 (by decide) (hg _ q_4_72) (fun _ h9 => h9) rfl dX8_reachTo_22 ?_
  refine lv_iload_n hx hb dX8_reachTo_25 rfl (lv_at hl 0 rfl) ?_
  refine va_iald hx hb hK hP 4 0 rfl rfl (vin (by decide +kernel)) dX8_reachTo_26 ?_
  refine tpi (y := 0) (rfl) ?_
  refine lv_iload_n hx hb dX8_reachTo_27 rfl (lv_at hl 2 rfl) ?_
  refine lv_icmp_ge (tgt := 42) hx hb dX8_reachTo_28 (by decide) (fun c_3 => absurd c_3 (by decide)) (fun _ => ?_)
  refine lv_aload_n hx hb dX8_reachTo_31 rfl (lv_at hl 1 rfl) ?_
  refine lv_iload_n hx hb dX8_reachTo_32 rfl (lv_at hl 0 rfl) ?_
  refine jnV (wr := []) (rnV (rest := []) ⟨hx, hb, hml, hown, hg⟩ (c_X8_open_1 l V y h0 h1 h2 h6 h7 h4 h8 h9 h3 h5) mt_X8_open q_4_140 ⟨Nat.le_of_ble_eq_true rfl, Nat.le_of_ble_eq_true rfl⟩ hK hP hD hS hA hE [0, 1, 2, 3, 4, 5] rfl rfl 2 rfl rfl rfl rfl hl.1 rfl (Nat.le_of_ble_eq_true rfl) dX8_reachTo_33 ⟨Nat.le_of_ble_eq_true rfl, Nat.le_of_ble_eq_true rfl⟩) hP hD hS hA [0, 1, 2, 3, 4, 5] [] rfl rfl rfl (by decide) (fun  w H locs hw hP hD hS => ?_)
  subst hw
  have hP : va_P V.1 vwCl [(h1, aI V 4 (fun _ => 0)), (h2, aI V 4 (fun _ => 0)), (h0, .inr (8, [.int 0, .int 1, .ref h6, .ref h7, .ref h4, .int 1, .int 1, .ref (y 19), .ref h8, .ref h9, .ref h2, .ref h3, .ref h1, .ref h5, .int 0, .int 0, .int 1])), (h6, aI V 1 (fun _ => 0)), (h7, aI V 1 (fun _ => 0)), (h8, aI V 1 (upd (fun _ => 0) 0 1))] H := hP
  have hD : va_D A [(h1, aI V 4 (fun _ => 0)), (h2, aI V 4 (fun _ => 0)), (h0, .inr (8, [.int 0, .int 1, .ref h6, .ref h7, .ref h4, .int 1, .int 1, .ref (y 19), .ref h8, .ref h9, .ref h2, .ref h3, .ref h1, .ref h5, .int 0, .int 0, .int 1])), (h6, aI V 1 (fun _ => 0)), (h7, aI V 1 (fun _ => 0)), (h8, aI V 1 (upd (fun _ => 0) 0 1))] := hD
  refine lv_iinc (v := 1) (lv' := [(2, .int 1), (0, .ref h0), (1, .int 1000000)]) hx hb dX8_reachTo_36 hl (k := 0) rfl (by decide +kernel) (by decide) rfl (fun ls hl => ?_)
  refine lv_goto (tgt := 5) hx hb dX8_reachTo_39 (by decide) ?_
  refine lv_iload_n hx hb dX8_reachTo_5 rfl (lv_at hl 0 rfl) ?_
  refine lv_aload_n hx hb dX8_reachTo_6 rfl (lv_at hl 1 rfl) ?_
  refine va_get (ci := 8) (v := .int 1) (C := RX8) (T := TX8) (N := 17) hx hb hg inX8 hown hK hP 2 rfl rfl 1 (by decide) (hg _ q_4_67) (fun _ h9 => h9) rfl dX8_reachTo_7 ?_
  refine lv_icmp_ge (tgt := 42) hx hb dX8_reachTo_10 (by decide) (fun _ => ?_) (fun c_4 => absurd c_4 (by decide))
  exact fiV hx hb hr hlk hK hP hD hS dX8_reachTo_42 (Nat.le_of_ble_eq_true rfl) (Nat.le_of_ble_eq_true rfl) (rfl)
theorem dX9_waysFromNow_0 : decode cX9_waysFromNow 0 = .ok (.aload_n 0, 1) := by decide +kernel
theorem q_2_46 : Cond.fieldLink "BeaconDelay" 106 "BeaconDelay" "ways" "LBeaconDelay$Ways;" ∈ gw := gw_2 (i := 46) (by decide +kernel) rfl
theorem dX9_waysFromNow_1 : decode cX9_waysFromNow 1 = .ok (.getfield 106, 3) := by decide +kernel
theorem dX9_waysFromNow_4 : decode cX9_waysFromNow 4 = .ok (.ifnull 20, 3) := by decide +kernel
theorem dX9_waysFromNow_24 : decode cX9_waysFromNow 24 = .ok (.aload_n 0, 1) := by decide +kernel
theorem q_4_56 : Cond.classLink "BeaconDelay" 111 "BeaconDelay$Ways" ∈ gw := gw_4 (i := 56) (by decide +kernel) rfl
theorem q_4_57 : Cond.instantiable "BeaconDelay$Ways" 17 ∈ gw := gw_4 (i := 57) (by decide +kernel) rfl
theorem dX9_waysFromNow_25 : decode cX9_waysFromNow 25 = .ok (.new 111, 3) := by decide +kernel
theorem dX9_waysFromNow_28 : decode cX9_waysFromNow 28 = .ok (.dup, 1) := by decide +kernel
theorem dX9_waysFromNow_29 : decode cX9_waysFromNow 29 = .ok (.aload_n 0, 1) := by decide +kernel
theorem dX9_waysFromNow_30 : decode cX9_waysFromNow 30 = .ok (.getfield 34, 3) := by decide +kernel
theorem dX9_waysFromNow_33 : decode cX9_waysFromNow 33 = .ok (.aload_n 0, 1) := by decide +kernel
theorem dX9_waysFromNow_34 : decode cX9_waysFromNow 34 = .ok (.getfield 16, 3) := by decide +kernel
theorem dX9_waysFromNow_37 : decode cX9_waysFromNow 37 = .ok (.getfield 159, 3) := by decide +kernel
theorem q_4_60 : Cond.code yX8_init prog_10_method_1_code 3 none ∈ gw := gw_4 (i := 60) (rfl) rfl
theorem q_4_59 : Cond.instanceMethod yX8_init ∈ gw := gw_4 (i := 59) (by decide +kernel) rfl
theorem mt_X8_init : MtI yX8_init cX8_init 3 none 2 := ⟨⟨q_4_60, q_1_18, by decide +kernel, by decide +kernel, by decide +kernel⟩, rfl, q_4_59⟩
theorem q_4_58 : Cond.methodLink "BeaconDelay" 243 yX8_init ∈ gw := gw_4 (i := 58) (by decide +kernel) rfl
theorem dX9_waysFromNow_40 : decode cX9_waysFromNow 40 = .ok (.invokespecial 243, 3) := by decide +kernel
theorem dX9_waysFromNow_43 : decode cX9_waysFromNow 43 = .ok (.putfield 106, 3) := by decide +kernel
theorem dX9_waysFromNow_46 : decode cX9_waysFromNow 46 = .ok (.aload_n 0, 1) := by decide +kernel
theorem dX9_waysFromNow_47 : decode cX9_waysFromNow 47 = .ok (.getfield 106, 3) := by decide +kernel
theorem dX9_waysFromNow_50 : decode cX9_waysFromNow 50 = .ok (.aload_n 0, 1) := by decide +kernel
theorem dX9_waysFromNow_51 : decode cX9_waysFromNow 51 = .ok (.getfield 16, 3) := by decide +kernel
theorem dX9_waysFromNow_54 : decode cX9_waysFromNow 54 = .ok (.getfield 159, 3) := by decide +kernel
theorem dX9_waysFromNow_57 : decode cX9_waysFromNow 57 = .ok (.aload_n 0, 1) := by decide +kernel
theorem dX9_waysFromNow_58 : decode cX9_waysFromNow 58 = .ok (.getfield 113, 3) := by decide +kernel
theorem dX9_waysFromNow_61 : decode cX9_waysFromNow 61 = .ok (.aload_n 0, 1) := by decide +kernel
theorem dX9_waysFromNow_62 : decode cX9_waysFromNow 62 = .ok (.getfield 116, 3) := by decide +kernel
theorem q_4_129 : Cond.code yX8_begin prog_10_method_3_code 4 none ∈ gw := gw_4 (i := 129) (rfl) rfl
theorem q_4_127 : Cond.instanceMethod yX8_begin ∈ gw := gw_4 (i := 127) (by decide +kernel) rfl
theorem q_4_128 : Cond.selects "BeaconDelay$Ways" yX8_begin yX8_begin ∈ gw := gw_4 (i := 128) (by decide +kernel) rfl
theorem mt_X8_begin : MtV yX8_begin cX8_begin 4 none 3 := ⟨⟨q_4_129, q_1_18, by decide +kernel, by decide +kernel, by decide +kernel⟩, q_4_127, q_4_128⟩
theorem q_4_126 : Cond.methodLink "BeaconDelay" 246 yX8_begin ∈ gw := gw_4 (i := 126) (by decide +kernel) rfl
theorem dX9_waysFromNow_65 : decode cX9_waysFromNow 65 = .ok (.invokevirtual 246, 3) := by decide +kernel
theorem dX9_waysFromNow_68 : decode cX9_waysFromNow 68 = .ok (.aload_n 0, 1) := by decide +kernel
theorem dX9_waysFromNow_69 : decode cX9_waysFromNow 69 = .ok (.getfield 106, 3) := by decide +kernel
theorem dX9_waysFromNow_72 : decode cX9_waysFromNow 72 = .ok (.iload_n 1, 1) := by decide +kernel
theorem q_4_139 : Cond.code yX8_reachTo prog_10_method_5_code 3 none ∈ gw := gw_4 (i := 139) (rfl) rfl
theorem q_4_137 : Cond.instanceMethod yX8_reachTo ∈ gw := gw_4 (i := 137) (by decide +kernel) rfl
theorem q_4_138 : Cond.selects "BeaconDelay$Ways" yX8_reachTo yX8_reachTo ∈ gw := gw_4 (i := 138) (by decide +kernel) rfl
theorem mt_X8_reachTo : MtV yX8_reachTo cX8_reachTo 3 none 1 := ⟨⟨q_4_139, q_1_18, by decide +kernel, by decide +kernel, by decide +kernel⟩, q_4_137, q_4_138⟩
theorem q_4_136 : Cond.methodLink "BeaconDelay" 249 yX8_reachTo ∈ gw := gw_4 (i := 136) (by decide +kernel) rfl
theorem dX9_waysFromNow_73 : decode cX9_waysFromNow 73 = .ok (.invokevirtual 249, 3) := by decide +kernel
theorem dX9_waysFromNow_76 : decode cX9_waysFromNow 76 = .ok (.aload_n 0, 1) := by decide +kernel
theorem dX9_waysFromNow_77 : decode cX9_waysFromNow 77 = .ok (.getfield 106, 3) := by decide +kernel
theorem dX9_waysFromNow_80 : decode cX9_waysFromNow 80 = .ok (.areturn, 1) := by decide +kernel
set_option maxHeartbeats 4000000 in
set_option maxRecDepth 100000 in
theorem c_X9_waysFromNow_0 (l : Launch) (V : GV) (y : Nat → Nat) : Ct l V yX9_waysFromNow (.code yX9_waysFromNow cX9_waysFromNow 2 (some (.object "BeaconDelay$Ways"))) 4 [.ref (y 0), .int 1000000] [(y 0, .inr (9, [.ref (y 1), .int 0, .ref (y 2), .ref (y 10), .ref (y 19), .ref (y 25), .ref (y 26), .ref (y 30), .ref (y 31), .ref (y 32), .null, .null, .int 0, .int 0, .int 0])), (y 2, .inr (1, [.int 0, .int 0, .int 0, .int 0, .int 0, .int 0, .ref (y 3), .ref (y 4), .ref (y 5), .ref (y 6), .ref (y 7), .ref (y 8), .ref (y 9), .int 0, .int 0, .int 0, .int 0, .int 0]))] 10 32 (QR V (fun (r : Nat) (w : va_W) => (∃ (q_1 : Nat) (q_2 : Nat) (q_3 : Nat) (q_4 : Nat) (q_5 : Nat) (q_6 : Nat) (q_7 : Nat) (q_8 : Nat) (q_9 : Nat) (q_10 : Nat), q_1 = r ∧ w = [(y 0, .inr (9, [.ref (y 1), .int 0, .ref (y 2), .ref (y 10), .ref (y 19), .ref (y 25), .ref (y 26), .ref (y 30), .ref (y 31), .ref (y 32), .ref q_1, .null, .int 0, .int 0, .int 0])), (y 2, .inr (1, [.int 0, .int 0, .int 0, .int 0, .int 0, .int 0, .ref (y 3), .ref (y 4), .ref (y 5), .ref (y 6), .ref (y 7), .ref (y 8), .ref (y 9), .int 0, .int 0, .int 0, .int 0, .int 0])), (q_8, aI V 1 (fun _ => 0)), (q_9, aI V 1 (fun _ => 0)), (q_10, aI V 1 (fun _ => 0)), (q_6, aI V 1 (fun _ => 0)), (q_2, aI V 4 (fun _ => 0)), (q_7, aI V 4 (fun _ => 0)), (q_1, .inr (8, [.int 0, .int 1, .ref q_3, .ref q_4, .ref q_9, .int 1, .int 1, .ref (y 19), .ref q_5, .ref q_6, .ref q_7, .ref q_8, .ref q_2, .ref q_10, .int 0, .int 0, .int 1])), (q_3, aI V 1 (fun _ => 0)), (q_4, aI V 1 (fun _ => 0)), (q_5, aI V 1 (upd (fun _ => 0) 0 1))]))) := by
  refine Ct.of (by decide) (Nat.le_of_ble_eq_true rfl) (fun p e s m below meth c A ls hx hb hr hml hown hlk hnm hg hP hK hD hE hA hS hl => ?_)
  have hl : lv_has ls 2 [(0, .ref (y 0)), (1, .int 1000000)] := hl
  refine lv_aload_n hx hb dX9_waysFromNow_0 rfl (lv_at hl 0 rfl) ?_
  refine va_get (ci := 9) (v := .null) (C := RX9) (T := TX9) (N := 15) hx hb hg inX9 hown hK hP 0 rfl rfl 10 (by decide) (hg _ q_2_46) (fun _ h9 => h9) rfl dX9_waysFromNow_1 ?_
  refine lv_ifnullN (tgt := 24) hx hb dX9_waysFromNow_4 (by decide) ?_
  refine lv_aload_n hx hb dX9_waysFromNow_24 rfl (lv_at hl 0 rfl) ?_
  refine va_new (ci := 8) (fs := [.int 0, .int 0, .null, .null, .null, .int 0, .int 0, .null, .null, .null, .null, .null, .null, .null, .int 0, .int 0, .int 0]) (C := RX8) (T := TX8) (N := 17) hx hb hg inX8 tyX8 tyX8_ok hown (hg _ q_4_56) (hg _ q_4_57) (hg _ q_1_18) hK hP hD hS hA rfl dfX8 (Nat.le_of_ble_eq_true rfl) (Nat.le_of_ble_eq_true rfl) dX9_waysFromNow_25 (fun q_1 H hP hD hS => ?_)
  refine W.widen (k := 1) (n := 17) (Nat.le_of_ble_eq_true rfl) (Nat.le_of_ble_eq_true rfl) ?_
  have hP : va_P V.1 vwCl [(y 0, .inr (9, [.ref (y 1), .int 0, .ref (y 2), .ref (y 10), .ref (y 19), .ref (y 25), .ref (y 26), .ref (y 30), .ref (y 31), .ref (y 32), .null, .null, .int 0, .int 0, .int 0])), (y 2, .inr (1, [.int 0, .int 0, .int 0, .int 0, .int 0, .int 0, .ref (y 3), .ref (y 4), .ref (y 5), .ref (y 6), .ref (y 7), .ref (y 8), .ref (y 9), .int 0, .int 0, .int 0, .int 0, .int 0])), (q_1, .inr (8, [.int 0, .int 0, .null, .null, .null, .int 0, .int 0, .null, .null, .null, .null, .null, .null, .null, .int 0, .int 0, .int 0]))] H := hP
  have hD : va_D A [(y 0, .inr (9, [.ref (y 1), .int 0, .ref (y 2), .ref (y 10), .ref (y 19), .ref (y 25), .ref (y 26), .ref (y 30), .ref (y 31), .ref (y 32), .null, .null, .int 0, .int 0, .int 0])), (y 2, .inr (1, [.int 0, .int 0, .int 0, .int 0, .int 0, .int 0, .ref (y 3), .ref (y 4), .ref (y 5), .ref (y 6), .ref (y 7), .ref (y 8), .ref (y 9), .int 0, .int 0, .int 0, .int 0, .int 0])), (q_1, .inr (8, [.int 0, .int 0, .null, .null, .null, .int 0, .int 0, .null, .null, .null, .null, .null, .null, .null, .int 0, .int 0, .int 0]))] := hD
  refine lv_dup hx hb dX9_waysFromNow_28 rfl ?_
  refine lv_aload_n hx hb dX9_waysFromNow_29 rfl (lv_at hl 0 rfl) ?_
  refine va_get (ci := 9) (v := .ref (y 19)) (C := RX9) (T := TX9) (N := 15) hx hb hg inX9 hown hK hP 0 rfl rfl 4 (by decide) (hg _ q_2_40) (fun _ h9 => h9) rfl dX9_waysFromNow_30 ?_
  refine lv_aload_n hx hb dX9_waysFromNow_33 rfl (lv_at hl 0 rfl) ?_
  refine va_get (ci := 9) (v := .ref (y 2)) (C := RX9) (T := TX9) (N := 15) hx hb hg inX9 hown hK hP 0 rfl rfl 2 (by decide) (hg _ q_2_38) (fun _ h9 => h9) rfl dX9_waysFromNow_34 ?_
  refine va_get (ci := 1) (v := .int 0) (C := RX1) (T := TX1) (N := 18) hx hb hg inX1 hown hK hP 1 rfl rfl 1 (by decide) (hg _ q_1_41) (fun _ h9 => h9) rfl dX9_waysFromNow_37 ?_
  refine jnV (wr := [(y 0, .inr (9, [.ref (y 1), .int 0, .ref (y 2), .ref (y 10), .ref (y 19), .ref (y 25), .ref (y 26), .ref (y 30), .ref (y 31), .ref (y 32), .null, .null, .int 0, .int 0, .int 0])), (y 2, .inr (1, [.int 0, .int 0, .int 0, .int 0, .int 0, .int 0, .ref (y 3), .ref (y 4), .ref (y 5), .ref (y 6), .ref (y 7), .ref (y 8), .ref (y 9), .int 0, .int 0, .int 0, .int 0, .int 0]))]) (rnI (rest := [.ref q_1, .ref (y 0)]) ⟨hx, hb, hml, hown, hg⟩ (c_X8_init_0 l V y q_1) mt_X8_init q_4_58 ⟨Nat.le_of_ble_eq_true rfl, Nat.le_of_ble_eq_true rfl⟩ hK hP hD hS hA hE [2] rfl rfl rfl hl.1 rfl (Nat.le_of_ble_eq_true rfl) dX9_waysFromNow_40 ⟨Nat.le_of_ble_eq_true rfl, Nat.le_of_ble_eq_true rfl⟩) hP hD hS hA [2] [0, 1] rfl rfl rfl (by decide) (fun  w H locs hw hP hD hS => ?_)
  refine W.widen (k := 10) (n := 32) (Nat.le_of_ble_eq_true rfl) (Nat.le_of_ble_eq_true rfl) ?_
  obtain ⟨q_2, q_3, q_4, q_5, q_6, q_7, q_8, q_9, q_10, rfl⟩ := hw
  have hP : va_P V.1 vwCl [(y 0, .inr (9, [.ref (y 1), .int 0, .ref (y 2), .ref (y 10), .ref (y 19), .ref (y 25), .ref (y 26), .ref (y 30), .ref (y 31), .ref (y 32), .null, .null, .int 0, .int 0, .int 0])), (y 2, .inr (1, [.int 0, .int 0, .int 0, .int 0, .int 0, .int 0, .ref (y 3), .ref (y 4), .ref (y 5), .ref (y 6), .ref (y 7), .ref (y 8), .ref (y 9), .int 0, .int 0, .int 0, .int 0, .int 0])), (q_1, .inr (8, [.int 0, .int 1, .ref q_3, .ref q_4, .ref q_9, .int 0, .int 0, .ref (y 19), .ref q_5, .ref q_6, .ref q_7, .ref q_8, .ref q_2, .ref q_10, .int 0, .int 0, .int 0])), (q_2, aI V 4 (fun _ => 0)), (q_3, aI V 1 (fun _ => 0)), (q_4, aI V 1 (fun _ => 0)), (q_5, aI V 1 (fun _ => 0)), (q_6, aI V 1 (fun _ => 0)), (q_7, aI V 4 (fun _ => 0)), (q_8, aI V 1 (fun _ => 0)), (q_9, aI V 1 (fun _ => 0)), (q_10, aI V 1 (fun _ => 0))] H := hP
  have hD : va_D A [(y 0, .inr (9, [.ref (y 1), .int 0, .ref (y 2), .ref (y 10), .ref (y 19), .ref (y 25), .ref (y 26), .ref (y 30), .ref (y 31), .ref (y 32), .null, .null, .int 0, .int 0, .int 0])), (y 2, .inr (1, [.int 0, .int 0, .int 0, .int 0, .int 0, .int 0, .ref (y 3), .ref (y 4), .ref (y 5), .ref (y 6), .ref (y 7), .ref (y 8), .ref (y 9), .int 0, .int 0, .int 0, .int 0, .int 0])), (q_1, .inr (8, [.int 0, .int 1, .ref q_3, .ref q_4, .ref q_9, .int 0, .int 0, .ref (y 19), .ref q_5, .ref q_6, .ref q_7, .ref q_8, .ref q_2, .ref q_10, .int 0, .int 0, .int 0])), (q_2, aI V 4 (fun _ => 0)), (q_3, aI V 1 (fun _ => 0)), (q_4, aI V 1 (fun _ => 0)), (q_5, aI V 1 (fun _ => 0)), (q_6, aI V 1 (fun _ => 0)), (q_7, aI V 4 (fun _ => 0)), (q_8, aI V 1 (fun _ => 0)), (q_9, aI V 1 (fun _ => 0)), (q_10, aI V 1 (fun _ => 0))] := hD
  refine va_put (ci := 9) (v := .ref q_1) (ty := (.object "BeaconDelay$Ways")) (C := RX9) (T := TX9) (N := 15) hx hb hg inX9 tyX9 tyX9_ok nmX9 hown hK hP hD hS 0 rfl rfl 10 (by decide) (hg _ q_2_46) (fun _ h9 => h9) rfl (by decide +kernel) rfl rfl (Nat.le_of_ble_eq_true rfl) dX9_waysFromNow_43 (fun H locs hP hD hS => ?_)
  have hP : va_P V.1 vwCl [(y 0, .inr (9, [.ref (y 1), .int 0, .ref (y 2), .ref (y 10), .ref (y 19), .ref (y 25), .ref (y 26), .ref (y 30), .ref (y 31), .ref (y 32), .ref q_1, .null, .int 0, .int 0, .int 0])), (y 2, .inr (1, [.int 0, .int 0, .int 0, .int 0, .int 0, .int 0, .ref (y 3), .ref (y 4), .ref (y 5), .ref (y 6), .ref (y 7), .ref (y 8), .ref (y 9), .int 0, .int 0, .int 0, .int 0, .int 0])), (q_1, .inr (8, [.int 0, .int 1, .ref q_3, .ref q_4, .ref q_9, .int 0, .int 0, .ref (y 19), .ref q_5, .ref q_6, .ref q_7, .ref q_8, .ref q_2, .ref q_10, .int 0, .int 0, .int 0])), (q_2, aI V 4 (fun _ => 0)), (q_3, aI V 1 (fun _ => 0)), (q_4, aI V 1 (fun _ => 0)), (q_5, aI V 1 (fun _ => 0)), (q_6, aI V 1 (fun _ => 0)), (q_7, aI V 4 (fun _ => 0)), (q_8, aI V 1 (fun _ => 0)), (q_9, aI V 1 (fun _ => 0)), (q_10, aI V 1 (fun _ => 0))] H := hP
  have hD : va_D A [(y 0, .inr (9, [.ref (y 1), .int 0, .ref (y 2), .ref (y 10), .ref (y 19), .ref (y 25), .ref (y 26), .ref (y 30), .ref (y 31), .ref (y 32), .ref q_1, .null, .int 0, .int 0, .int 0])), (y 2, .inr (1, [.int 0, .int 0, .int 0, .int 0, .int 0, .int 0, .ref (y 3), .ref (y 4), .ref (y 5), .ref (y 6), .ref (y 7), .ref (y 8), .ref (y 9), .int 0, .int 0, .int 0, .int 0, .int 0])), (q_1, .inr (8, [.int 0, .int 1, .ref q_3, .ref q_4, .ref q_9, .int 0, .int 0, .ref (y 19), .ref q_5, .ref q_6, .ref q_7, .ref q_8, .ref q_2, .ref q_10, .int 0, .int 0, .int 0])), (q_2, aI V 4 (fun _ => 0)), (q_3, aI V 1 (fun _ => 0)), (q_4, aI V 1 (fun _ => 0)), (q_5, aI V 1 (fun _ => 0)), (q_6, aI V 1 (fun _ => 0)), (q_7, aI V 4 (fun _ => 0)), (q_8, aI V 1 (fun _ => 0)), (q_9, aI V 1 (fun _ => 0)), (q_10, aI V 1 (fun _ => 0))] := hD
  refine lv_aload_n hx hb dX9_waysFromNow_46 rfl (lv_at hl 0 rfl) ?_
  refine va_get (ci := 9) (v := .ref q_1) (C := RX9) (T := TX9) (N := 15) hx hb hg inX9 hown hK hP 0 rfl rfl 10 (by decide) (hg _ q_2_46) (fun _ h9 => h9) rfl dX9_waysFromNow_47 ?_
  refine lv_aload_n hx hb dX9_waysFromNow_50 rfl (lv_at hl 0 rfl) ?_
  refine va_get (ci := 9) (v := .ref (y 2)) (C := RX9) (T := TX9) (N := 15) hx hb hg inX9 hown hK hP 0 rfl rfl 2 (by decide) (hg _ q_2_38) (fun _ h9 => h9) rfl dX9_waysFromNow_51 ?_
  refine va_get (ci := 1) (v := .int 0) (C := RX1) (T := TX1) (N := 18) hx hb hg inX1 hown hK hP 1 rfl rfl 1 (by decide) (hg _ q_1_41) (fun _ h9 => h9) rfl dX9_waysFromNow_54 ?_
  refine lv_aload_n hx hb dX9_waysFromNow_57 rfl (lv_at hl 0 rfl) ?_
  refine va_get (ci := 9) (v := .int 0) (C := RX9) (T := TX9) (N := 15) hx hb hg inX9 hown hK hP 0 rfl rfl 12 (by decide) (hg _ q_2_48) (fun _ h9 => h9) rfl dX9_waysFromNow_58 ?_
  refine lv_aload_n hx hb dX9_waysFromNow_61 rfl (lv_at hl 0 rfl) ?_
  refine va_get (ci := 9) (v := .int 0) (C := RX9) (T := TX9) (N := 15) hx hb hg inX9 hown hK hP 0 rfl rfl 13 (by decide) (hg _ q_2_49) (fun _ h9 => h9) rfl dX9_waysFromNow_62 ?_
  refine jnV (wr := [(y 0, .inr (9, [.ref (y 1), .int 0, .ref (y 2), .ref (y 10), .ref (y 19), .ref (y 25), .ref (y 26), .ref (y 30), .ref (y 31), .ref (y 32), .ref q_1, .null, .int 0, .int 0, .int 0])), (y 2, .inr (1, [.int 0, .int 0, .int 0, .int 0, .int 0, .int 0, .ref (y 3), .ref (y 4), .ref (y 5), .ref (y 6), .ref (y 7), .ref (y 8), .ref (y 9), .int 0, .int 0, .int 0, .int 0, .int 0])), (q_2, aI V 4 (fun _ => 0)), (q_7, aI V 4 (fun _ => 0)), (q_8, aI V 1 (fun _ => 0)), (q_9, aI V 1 (fun _ => 0)), (q_10, aI V 1 (fun _ => 0))]) (rnV (rest := []) ⟨hx, hb, hml, hown, hg⟩ (c_X8_begin_0 l V y q_1 q_3 q_4 q_9 q_5 q_6 q_7 q_8 q_2 q_10) mt_X8_begin q_4_126 ⟨Nat.le_of_ble_eq_true rfl, Nat.le_of_ble_eq_true rfl⟩ hK hP hD hS hA hE [2, 4, 5, 6, 7] rfl rfl 2 rfl rfl rfl rfl hl.1 rfl (Nat.le_of_ble_eq_true rfl) dX9_waysFromNow_65 ⟨Nat.le_of_ble_eq_true rfl, Nat.le_of_ble_eq_true rfl⟩) hP hD hS hA [2, 4, 5, 6, 7] [0, 1, 3, 8, 9, 10, 11] rfl rfl rfl (by decide) (fun  w H locs hw hP hD hS => ?_)
  subst hw
  have hP : va_P V.1 vwCl [(y 0, .inr (9, [.ref (y 1), .int 0, .ref (y 2), .ref (y 10), .ref (y 19), .ref (y 25), .ref (y 26), .ref (y 30), .ref (y 31), .ref (y 32), .ref q_1, .null, .int 0, .int 0, .int 0])), (y 2, .inr (1, [.int 0, .int 0, .int 0, .int 0, .int 0, .int 0, .ref (y 3), .ref (y 4), .ref (y 5), .ref (y 6), .ref (y 7), .ref (y 8), .ref (y 9), .int 0, .int 0, .int 0, .int 0, .int 0])), (q_2, aI V 4 (fun _ => 0)), (q_7, aI V 4 (fun _ => 0)), (q_8, aI V 1 (fun _ => 0)), (q_9, aI V 1 (fun _ => 0)), (q_10, aI V 1 (fun _ => 0)), (q_1, .inr (8, [.int 0, .int 1, .ref q_3, .ref q_4, .ref q_9, .int 1, .int 1, .ref (y 19), .ref q_5, .ref q_6, .ref q_7, .ref q_8, .ref q_2, .ref q_10, .int 0, .int 0, .int 0])), (q_3, aI V 1 (fun _ => 0)), (q_4, aI V 1 (fun _ => 0)), (q_5, aI V 1 (upd (fun _ => 0) 0 1)), (q_6, aI V 1 (fun _ => 0))] H := hP
  have hD : va_D A [(y 0, .inr (9, [.ref (y 1), .int 0, .ref (y 2), .ref (y 10), .ref (y 19), .ref (y 25), .ref (y 26), .ref (y 30), .ref (y 31), .ref (y 32), .ref q_1, .null, .int 0, .int 0, .int 0])), (y 2, .inr (1, [.int 0, .int 0, .int 0, .int 0, .int 0, .int 0, .ref (y 3), .ref (y 4), .ref (y 5), .ref (y 6), .ref (y 7), .ref (y 8), .ref (y 9), .int 0, .int 0, .int 0, .int 0, .int 0])), (q_2, aI V 4 (fun _ => 0)), (q_7, aI V 4 (fun _ => 0)), (q_8, aI V 1 (fun _ => 0)), (q_9, aI V 1 (fun _ => 0)), (q_10, aI V 1 (fun _ => 0)), (q_1, .inr (8, [.int 0, .int 1, .ref q_3, .ref q_4, .ref q_9, .int 1, .int 1, .ref (y 19), .ref q_5, .ref q_6, .ref q_7, .ref q_8, .ref q_2, .ref q_10, .int 0, .int 0, .int 0])), (q_3, aI V 1 (fun _ => 0)), (q_4, aI V 1 (fun _ => 0)), (q_5, aI V 1 (upd (fun _ => 0) 0 1)), (q_6, aI V 1 (fun _ => 0))] := hD
  refine lv_aload_n hx hb dX9_waysFromNow_68 rfl (lv_at hl 0 rfl) ?_
  refine va_get (ci := 9) (v := .ref q_1) (C := RX9) (T := TX9) (N := 15) hx hb hg inX9 hown hK hP 0 rfl rfl 10 (by decide) (hg _ q_2_46) (fun _ h9 => h9) rfl dX9_waysFromNow_69 ?_
  refine lv_iload_n hx hb dX9_waysFromNow_72 rfl (lv_at hl 1 rfl) ?_
  refine jnV (wr := [(y 0, .inr (9, [.ref (y 1), .int 0, .ref (y 2), .ref (y 10), .ref (y 19), .ref (y 25), .ref (y 26), .ref (y 30), .ref (y 31), .ref (y 32), .ref q_1, .null, .int 0, .int 0, .int 0])), (y 2, .inr (1, [.int 0, .int 0, .int 0, .int 0, .int 0, .int 0, .ref (y 3), .ref (y 4), .ref (y 5), .ref (y 6), .ref (y 7), .ref (y 8), .ref (y 9), .int 0, .int 0, .int 0, .int 0, .int 0])), (q_8, aI V 1 (fun _ => 0)), (q_9, aI V 1 (fun _ => 0)), (q_10, aI V 1 (fun _ => 0)), (q_6, aI V 1 (fun _ => 0))]) (rnV (rest := []) ⟨hx, hb, hml, hown, hg⟩ (c_X8_reachTo_0 l V y q_1 q_2 q_7 q_8 q_9 q_10 q_3 q_4 q_5 q_6) mt_X8_reachTo q_4_136 ⟨Nat.le_of_ble_eq_true rfl, Nat.le_of_ble_eq_true rfl⟩ hK hP hD hS hA hE [2, 3, 7, 8, 9, 10] rfl rfl 7 rfl rfl rfl rfl hl.1 rfl (Nat.le_of_ble_eq_true rfl) dX9_waysFromNow_73 ⟨Nat.le_of_ble_eq_true rfl, Nat.le_of_ble_eq_true rfl⟩) hP hD hS hA [2, 3, 7, 8, 9, 10] [0, 1, 4, 5, 6, 11] rfl rfl rfl (by decide) (fun  w H locs hw hP hD hS => ?_)
  subst hw
  have hP : va_P V.1 vwCl [(y 0, .inr (9, [.ref (y 1), .int 0, .ref (y 2), .ref (y 10), .ref (y 19), .ref (y 25), .ref (y 26), .ref (y 30), .ref (y 31), .ref (y 32), .ref q_1, .null, .int 0, .int 0, .int 0])), (y 2, .inr (1, [.int 0, .int 0, .int 0, .int 0, .int 0, .int 0, .ref (y 3), .ref (y 4), .ref (y 5), .ref (y 6), .ref (y 7), .ref (y 8), .ref (y 9), .int 0, .int 0, .int 0, .int 0, .int 0])), (q_8, aI V 1 (fun _ => 0)), (q_9, aI V 1 (fun _ => 0)), (q_10, aI V 1 (fun _ => 0)), (q_6, aI V 1 (fun _ => 0)), (q_2, aI V 4 (fun _ => 0)), (q_7, aI V 4 (fun _ => 0)), (q_1, .inr (8, [.int 0, .int 1, .ref q_3, .ref q_4, .ref q_9, .int 1, .int 1, .ref (y 19), .ref q_5, .ref q_6, .ref q_7, .ref q_8, .ref q_2, .ref q_10, .int 0, .int 0, .int 1])), (q_3, aI V 1 (fun _ => 0)), (q_4, aI V 1 (fun _ => 0)), (q_5, aI V 1 (upd (fun _ => 0) 0 1))] H := hP
  have hD : va_D A [(y 0, .inr (9, [.ref (y 1), .int 0, .ref (y 2), .ref (y 10), .ref (y 19), .ref (y 25), .ref (y 26), .ref (y 30), .ref (y 31), .ref (y 32), .ref q_1, .null, .int 0, .int 0, .int 0])), (y 2, .inr (1, [.int 0, .int 0, .int 0, .int 0, .int 0, .int 0, .ref (y 3), .ref (y 4), .ref (y 5), .ref (y 6), .ref (y 7), .ref (y 8), .ref (y 9), .int 0, .int 0, .int 0, .int 0, .int 0])), (q_8, aI V 1 (fun _ => 0)), (q_9, aI V 1 (fun _ => 0)), (q_10, aI V 1 (fun _ => 0)), (q_6, aI V 1 (fun _ => 0)), (q_2, aI V 4 (fun _ => 0)), (q_7, aI V 4 (fun _ => 0)), (q_1, .inr (8, [.int 0, .int 1, .ref q_3, .ref q_4, .ref q_9, .int 1, .int 1, .ref (y 19), .ref q_5, .ref q_6, .ref q_7, .ref q_8, .ref q_2, .ref q_10, .int 0, .int 0, .int 1])), (q_3, aI V 1 (fun _ => 0)), (q_4, aI V 1 (fun _ => 0)), (q_5, aI V 1 (upd (fun _ => 0) 0 1))] := hD
  refine lv_aload_n hx hb dX9_waysFromNow_76 rfl (lv_at hl 0 rfl) ?_
  refine va_get (ci := 9) (v := .ref q_1) (C := RX9) (T := TX9) (N := 15) hx hb hg inX9 hown hK hP 0 rfl rfl 10 (by decide) (hg _ q_2_46) (fun _ h9 => h9) rfl dX9_waysFromNow_77 ?_
  exact fiR (Or.inl ⟨_, rfl⟩) hx hb hr hlk hK hP hD hS dX9_waysFromNow_80 (Nat.le_of_ble_eq_true rfl) (Nat.le_of_ble_eq_true rfl) (⟨q_1, q_2, q_3, q_4, q_5, q_6, q_7, q_8, q_9, q_10, rfl, rfl⟩)
set_option maxHeartbeats 4000000 in
set_option maxRecDepth 100000 in
theorem c_X8_reachTo_1 (l : Launch) (V : GV) (y : Nat → Nat) (h0 : Nat) (h1 : Nat) (h2 : Nat) (h3 : Nat) (h4 : Nat) (h5 : Nat) (h6 : Nat) (h7 : Nat) (h8 : Nat) (h9 : Nat) : Ct l V yX8_reachTo (.code yX8_reachTo cX8_reachTo 3 none) 1 [.ref h0, .int 1000000] [(h0, .inr (8, [.int 0, .int 1, .ref h7, .ref h8, .ref h2, .int 1, .int 1, .ref (y 19), .ref h9, .ref h4, .ref h6, .ref h1, .ref h5, .ref h3, .int 0, .int 0, .int 1]))] 0 0 (QV V (fun (w : va_W) => (w = [(h0, .inr (8, [.int 0, .int 1, .ref h7, .ref h8, .ref h2, .int 1, .int 1, .ref (y 19), .ref h9, .ref h4, .ref h6, .ref h1, .ref h5, .ref h3, .int 0, .int 0, .int 1]))]))) := by
  refine Ct.of (by decide) (Nat.le_of_ble_eq_true rfl) (fun p e s m below meth c A ls hx hb hr hml hown hlk hnm hg hP hK hD hE hA hS hl => ?_)
  have hl : lv_has ls 3 [(0, .ref h0), (1, .int 1000000)] := hl
  refine lv_aload_n hx hb dX8_reachTo_0 rfl (lv_at hl 0 rfl) ?_
  refine va_get (ci := 8) (v := .int 1) (C := RX8) (T := TX8) (N := 17) hx hb hg inX8 hown hK hP 0 rfl rfl 16 (by decide) (hg _ q_4_90) (fun _ h9 => h9) rfl dX8_reachTo_1 ?_
  refine lv_istore_n (lv' := [(2, .int 1), (0, .ref h0), (1, .int 1000000)]) hx hb dX8_reachTo_4 rfl hl (by decide) rfl (fun ls hl => ?_)
  refine lv_iload_n hx hb dX8_reachTo_5 rfl (lv_at hl 0 rfl) ?_
  refine lv_aload_n hx hb dX8_reachTo_6 rfl (lv_at hl 1 rfl) ?_
  refine va_get (ci := 8) (v := .int 1) (C := RX8) (T := TX8) (N := 17) hx hb hg inX8 hown hK hP 0 rfl rfl 1 (by decide) (hg _ q_4_67) (fun _ h9 => h9) rfl dX8_reachTo_7 ?_
  refine lv_icmp_ge (tgt := 42) hx hb dX8_reachTo_10 (by decide) (fun _ => ?_) (fun c_1 => absurd c_1 (by decide))
  exact fiV hx hb hr hlk hK hP hD hS dX8_reachTo_42 (Nat.le_of_ble_eq_true rfl) (Nat.le_of_ble_eq_true rfl) (rfl)
theorem dJ7_rangeCheck_23922_0 : decode cJ7_rangeCheck_23922 0 = .ok (.iload_n 1, 1) := by decide +kernel
theorem dJ7_rangeCheck_23922_1 : decode cJ7_rangeCheck_23922 1 = .ok (.iload_n 2, 1) := by decide +kernel
theorem dJ7_rangeCheck_23922_2 : decode cJ7_rangeCheck_23922 2 = .ok (.if_icmp .le 44, 3) := by decide +kernel
theorem dJ7_rangeCheck_23922_46 : decode cJ7_rangeCheck_23922 46 = .ok (.iload_n 1, 1) := by decide +kernel
theorem dJ7_rangeCheck_23922_47 : decode cJ7_rangeCheck_23922 47 = .ok (.ifCond .ge 12, 3) := by decide +kernel
theorem dJ7_rangeCheck_23922_59 : decode cJ7_rangeCheck_23922 59 = .ok (.iload_n 2, 1) := by decide +kernel
theorem dJ7_rangeCheck_23922_60 : decode cJ7_rangeCheck_23922 60 = .ok (.iload_n 0, 1) := by decide +kernel
theorem dJ7_rangeCheck_23922_61 : decode cJ7_rangeCheck_23922 61 = .ok (.if_icmp .le 12, 3) := by decide +kernel
theorem dJ7_rangeCheck_23922_73 : decode cJ7_rangeCheck_23922 73 = .ok (.return_, 1) := by decide +kernel
set_option maxHeartbeats 4000000 in
set_option maxRecDepth 100000 in
theorem c_J7_rangeCheck_23922_0 (l : Launch) (V : GV) : Ct l V yJ7_rangeCheck_23922 (.code yJ7_rangeCheck_23922 cJ7_rangeCheck_23922 3 none) 1 [.int 1, .int 0, .int 1] [] 0 0 (QV V (fun (w : va_W) => (w = []))) := by
  refine Ct.of (by decide) (Nat.le_of_ble_eq_true rfl) (fun p e s m below meth c A ls hx hb hr hml hown hlk hnm hg hP hK hD hE hA hS hl => ?_)
  have hl : lv_has ls 3 [(0, .int 1), (1, .int 0), (2, .int 1)] := hl
  refine lv_iload_n hx hb dJ7_rangeCheck_23922_0 rfl (lv_at hl 1 rfl) ?_
  refine lv_iload_n hx hb dJ7_rangeCheck_23922_1 rfl (lv_at hl 2 rfl) ?_
  refine lv_icmp_le (tgt := 46) hx hb dJ7_rangeCheck_23922_2 (by decide) (fun _ => ?_) (fun c_1 => absurd c_1 (by decide))
  refine lv_iload_n hx hb dJ7_rangeCheck_23922_46 rfl (lv_at hl 1 rfl) ?_
  refine lv_if_ge (tgt := 59) hx hb dJ7_rangeCheck_23922_47 (by decide) (fun _ => ?_) (fun c_2 => absurd c_2 (by decide))
  refine lv_iload_n hx hb dJ7_rangeCheck_23922_59 rfl (lv_at hl 2 rfl) ?_
  refine lv_iload_n hx hb dJ7_rangeCheck_23922_60 rfl (lv_at hl 0 rfl) ?_
  refine lv_icmp_le (tgt := 73) hx hb dJ7_rangeCheck_23922_61 (by decide) (fun _ => ?_) (fun c_3 => absurd c_3 (by decide))
  exact fiV hx hb hr hlk hK hP hD hS dJ7_rangeCheck_23922_73 (Nat.le_of_ble_eq_true rfl) (Nat.le_of_ble_eq_true rfl) (rfl)
theorem dJ7_fill_fda19_0 : decode cJ7_fill_fda19 0 = .ok (.aload_n 0, 1) := by decide +kernel
theorem dJ7_fill_fda19_1 : decode cJ7_fill_fda19 1 = .ok (.arraylength, 1) := by decide +kernel
theorem dJ7_fill_fda19_2 : decode cJ7_fill_fda19 2 = .ok (.iload_n 1, 1) := by decide +kernel
theorem dJ7_fill_fda19_3 : decode cJ7_fill_fda19 3 = .ok (.iload_n 2, 1) := by decide +kernel
theorem q_4_177 : Cond.code yJ7_rangeCheck_23922 prog_20_method_30_code 3 none ∈ gw := gw_4 (i := 177) (rfl) rfl
theorem q_4_176 : Cond.static yJ7_rangeCheck_23922 ∈ gw := gw_4 (i := 176) (by decide +kernel) rfl
theorem mt_J7_rangeCheck_23922 : MtS yJ7_rangeCheck_23922 cJ7_rangeCheck_23922 3 none 3 := ⟨⟨q_4_177, q_1_17, by decide +kernel, by decide +kernel, by decide +kernel⟩, q_4_176⟩
theorem q_4_175 : Cond.methodLink "java/util/Arrays" 13 yJ7_rangeCheck_23922 ∈ gw := gw_4 (i := 175) (by decide +kernel) rfl
theorem dJ7_fill_fda19_4 : decode cJ7_fill_fda19 4 = .ok (.invokestatic 13, 3) := by decide +kernel
theorem dJ7_fill_fda19_7 : decode cJ7_fill_fda19 7 = .ok (.iload_n 1, 1) := by decide +kernel
theorem dJ7_fill_fda19_8 : decode cJ7_fill_fda19 8 = .ok (.istore 4, 2) := by decide +kernel
theorem dJ7_fill_fda19_10 : decode cJ7_fill_fda19 10 = .ok (.iload 4, 2) := by decide +kernel
theorem dJ7_fill_fda19_12 : decode cJ7_fill_fda19 12 = .ok (.iload_n 2, 1) := by decide +kernel
theorem dJ7_fill_fda19_13 : decode cJ7_fill_fda19 13 = .ok (.if_icmp .ge 14, 3) := by decide +kernel
theorem dJ7_fill_fda19_16 : decode cJ7_fill_fda19 16 = .ok (.aload_n 0, 1) := by decide +kernel
theorem dJ7_fill_fda19_17 : decode cJ7_fill_fda19 17 = .ok (.iload 4, 2) := by decide +kernel
theorem dJ7_fill_fda19_19 : decode cJ7_fill_fda19 19 = .ok (.iload_n 3, 1) := by decide +kernel
theorem dJ7_fill_fda19_20 : decode cJ7_fill_fda19 20 = .ok (.iastore, 1) := by decide +kernel
theorem dJ7_fill_fda19_21 : decode cJ7_fill_fda19 21 = .ok (.iinc 4 1, 3) := by decide +kernel
theorem dJ7_fill_fda19_24 : decode cJ7_fill_fda19 24 = .ok (.goto (-14), 3) := by decide +kernel
theorem dJ7_fill_fda19_27 : decode cJ7_fill_fda19 27 = .ok (.return_, 1) := by decide +kernel
set_option maxHeartbeats 4000000 in
set_option maxRecDepth 100000 in
theorem c_J7_fill_fda19_0 (l : Launch) (V : GV) (h0 : Nat) : Ct l V yJ7_fill_fda19 (.code yJ7_fill_fda19 cJ7_fill_fda19 5 none) 2 [.ref h0, .int 0, .int 1, .int 0] [(h0, aI V 1 (fun _ => 0))] 0 0 (QV V (fun (w : va_W) => (w = [(h0, aI V 1 (fun _ => 0))]))) := by
  refine Ct.of (by decide) (Nat.le_of_ble_eq_true rfl) (fun p e s m below meth c A ls hx hb hr hml hown hlk hnm hg hP hK hD hE hA hS hl => ?_)
  have hl : lv_has ls 5 [(0, .ref h0), (1, .int 0), (2, .int 1), (3, .int 0)] := hl
  refine lv_aload_n hx hb dJ7_fill_fda19_0 rfl (lv_at hl 0 rfl) ?_
  refine va_alen (v := 1) hx hb hK hP 0 0 rfl rfl (by decide) dJ7_fill_fda19_1 ?_
  refine lv_iload_n hx hb dJ7_fill_fda19_2 rfl (lv_at hl 1 rfl) ?_
  refine lv_iload_n hx hb dJ7_fill_fda19_3 rfl (lv_at hl 2 rfl) ?_
  refine jnV (wr := [(h0, aI V 1 (fun _ => 0))]) (rnS (rest := []) ⟨hx, hb, hml, hown, hg⟩ (c_J7_rangeCheck_23922_0 l V) mt_J7_rangeCheck_23922 q_4_175 ⟨Nat.le_of_ble_eq_true rfl, Nat.le_of_ble_eq_true rfl⟩ hK hP hD hS hA hE [] rfl rfl rfl hl.1 rfl (Nat.le_of_ble_eq_true rfl) dJ7_fill_fda19_4 ⟨Nat.le_of_ble_eq_true rfl, Nat.le_of_ble_eq_true rfl⟩) hP hD hS hA [] [0] rfl rfl rfl (by decide) (fun  w H locs hw hP hD hS => ?_)
  subst hw
  have hP : va_P V.1 vwCl [(h0, aI V 1 (fun _ => 0))] H := hP
  have hD : va_D A [(h0, aI V 1 (fun _ => 0))] := hD
  refine lv_iload_n hx hb dJ7_fill_fda19_7 rfl (lv_at hl 1 rfl) ?_
  refine lv_istore (lv' := [(4, .int 0), (0, .ref h0), (1, .int 0), (2, .int 1), (3, .int 0)]) hx hb dJ7_fill_fda19_8 hl (by decide) rfl (fun ls hl => ?_)
  refine lv_iload hx hb dJ7_fill_fda19_10 (lv_at hl 0 rfl) ?_
  refine lv_iload_n hx hb dJ7_fill_fda19_12 rfl (lv_at hl 3 rfl) ?_
  refine lv_icmp_ge (tgt := 27) hx hb dJ7_fill_fda19_13 (by decide) (fun c_1 => absurd c_1 (by decide)) (fun _ => ?_)
  refine lv_aload_n hx hb dJ7_fill_fda19_16 rfl (lv_at hl 1 rfl) ?_
  refine lv_iload hx hb dJ7_fill_fda19_17 (lv_at hl 0 rfl) ?_
  refine lv_iload_n hx hb dJ7_fill_fda19_19 rfl (lv_at hl 4 rfl) ?_
  refine va_iast hx hb hK hP hD hS 0 0 rfl rfl (vin (by decide +kernel)) dJ7_fill_fda19_20 (fun H locs hP hD hS => ?_)
  have hP : va_P V.1 vwCl [(h0, aI V 1 (upd (fun _ => 0) 0 0))] H := hP
  have hD : va_D A [(h0, aI V 1 (upd (fun _ => 0) 0 0))] := hD
  have hP : va_P V.1 vwCl [(h0, aI V 1 (fun _ => 0))] H := by rw [upd0] at hP; exact hP
  have hD : va_D A [(h0, aI V 1 (fun _ => 0))] := by rw [upd0] at hD; exact hD
  refine lv_iinc (v := 1) (lv' := [(4, .int 1), (0, .ref h0), (1, .int 0), (2, .int 1), (3, .int 0)]) hx hb dJ7_fill_fda19_21 hl (k := 0) rfl (by decide +kernel) (by decide) rfl (fun ls hl => ?_)
  refine lv_goto (tgt := 10) hx hb dJ7_fill_fda19_24 (by decide) ?_
  refine lv_iload hx hb dJ7_fill_fda19_10 (lv_at hl 0 rfl) ?_
  refine lv_iload_n hx hb dJ7_fill_fda19_12 rfl (lv_at hl 3 rfl) ?_
  refine lv_icmp_ge (tgt := 27) hx hb dJ7_fill_fda19_13 (by decide) (fun _ => ?_) (fun c_2 => absurd c_2 (by decide))
  exact fiV hx hb hr hlk hK hP hD hS dJ7_fill_fda19_27 (Nat.le_of_ble_eq_true rfl) (Nat.le_of_ble_eq_true rfl) (rfl)
theorem dX8_behind_0 : decode cX8_behind 0 = .ok (.aload_n 0, 1) := by decide +kernel
theorem dX8_behind_1 : decode cX8_behind 1 = .ok (.getfield 44, 3) := by decide +kernel
theorem dX8_behind_4 : decode cX8_behind 4 = .ok (.iload_n 1, 1) := by decide +kernel
theorem dX8_behind_5 : decode cX8_behind 5 = .ok (.iconst 4, 1) := by decide +kernel
theorem dX8_behind_6 : decode cX8_behind 6 = .ok (.imul, 1) := by decide +kernel
theorem dX8_behind_7 : decode cX8_behind 7 = .ok (.iload_n 2, 1) := by decide +kernel
theorem dX8_behind_8 : decode cX8_behind 8 = .ok (.iadd, 1) := by decide +kernel
theorem dX8_behind_9 : decode cX8_behind 9 = .ok (.iaload, 1) := by decide +kernel
theorem dX8_behind_10 : decode cX8_behind 10 = .ok (.ireturn, 1) := by decide +kernel
set_option maxHeartbeats 4000000 in
set_option maxRecDepth 100000 in
theorem c_X8_behind_0 (l : Launch) (V : GV) (y : Nat → Nat) (h0 : Nat) (h1 : Nat) (h2 : Nat) (h3 : Nat) (h4 : Nat) (h5 : Nat) (h6 : Nat) (h7 : Nat) (h8 : Nat) (h9 : Nat) : Ct l V yX8_behind (.code yX8_behind cX8_behind 3 (some .int)) 1 [.ref h0, .int 0, .int 0] [(h4, aI V 4 (fun _ => 0)), (h0, .inr (8, [.int 0, .int 1, .ref h5, .ref h6, .ref h8, .int 1, .int 1, .ref (y 19), .ref h7, .ref h2, .ref h4, .ref h1, .ref h3, .ref h9, .int 0, .int 0, .int 1]))] 0 0 (QI V (fun (r : Int32) (w : va_W) => (r = 0 ∧ w = [(h4, aI V 4 (fun _ => 0)), (h0, .inr (8, [.int 0, .int 1, .ref h5, .ref h6, .ref h8, .int 1, .int 1, .ref (y 19), .ref h7, .ref h2, .ref h4, .ref h1, .ref h3, .ref h9, .int 0, .int 0, .int 1]))]))) := by
  refine Ct.of (by decide) (Nat.le_of_ble_eq_true rfl) (fun p e s m below meth c A ls hx hb hr hml hown hlk hnm hg hP hK hD hE hA hS hl => ?_)
  have hl : lv_has ls 3 [(0, .ref h0), (1, .int 0), (2, .int 0)] := hl
  refine lv_aload_n hx hb dX8_behind_0 rfl (lv_at hl 0 rfl) ?_
  refine va_get (ci := 8) (v := .ref h4) (C := RX8) (T := TX8) (N := 17) hx hb hg inX8 hown hK hP 1 rfl rfl 10 (by decide) (hg _ q_4_84) (fun _ h9 => h9) rfl dX8_behind_1 ?_
  refine lv_iload_n hx hb dX8_behind_4 rfl (lv_at hl 1 rfl) ?_
  refine lv_iconst (v := 4) hx hb dX8_behind_5 (by decide) ?_
  refine lv_imul hx hb dX8_behind_6 ?_
  refine tpi (y := 0) (by decide +kernel) ?_
  refine lv_iload_n hx hb dX8_behind_7 rfl (lv_at hl 2 rfl) ?_
  refine lv_iadd hx hb dX8_behind_8 ?_
  refine tpi (y := 0) (by decide +kernel) ?_
  refine va_iald hx hb hK hP 0 0 rfl rfl (vin (by decide +kernel)) dX8_behind_9 ?_
  refine tpi (y := 0) (rfl) ?_
  exact fiI hx hb hr hlk hK hP hD hS dX8_behind_10 (Nat.le_of_ble_eq_true rfl) (Nat.le_of_ble_eq_true rfl) (⟨rfl, rfl⟩)
theorem dX8_isAbove_0 : decode cX8_isAbove 0 = .ok (.iconst 0, 1) := by decide +kernel
theorem dX8_isAbove_1 : decode cX8_isAbove 1 = .ok (.istore_n 3, 1) := by decide +kernel
theorem dX8_isAbove_2 : decode cX8_isAbove 2 = .ok (.iload_n 3, 1) := by decide +kernel
theorem dX8_isAbove_3 : decode cX8_isAbove 3 = .ok (.aload_n 0, 1) := by decide +kernel
theorem dX8_isAbove_4 : decode cX8_isAbove 4 = .ok (.getfield 68, 3) := by decide +kernel
theorem dX8_isAbove_7 : decode cX8_isAbove 7 = .ok (.if_icmp .ge 25, 3) := by decide +kernel
theorem dX8_isAbove_32 : decode cX8_isAbove 32 = .ok (.iconst 1, 1) := by decide +kernel
theorem dX8_isAbove_33 : decode cX8_isAbove 33 = .ok (.ireturn, 1) := by decide +kernel
set_option maxHeartbeats 4000000 in
set_option maxRecDepth 100000 in
theorem c_X8_isAbove_0 (l : Launch) (V : GV) (y : Nat → Nat) (h0 : Nat) (p1 : Int32) (h2 : Nat) (h3 : Nat) (h4 : Nat) (h5 : Nat) (h6 : Nat) (h7 : Nat) (h8 : Nat) (h9 : Nat) (h10 : Nat) : Ct l V yX8_isAbove (.code yX8_isAbove cX8_isAbove 4 (some .boolean)) 1 [.ref h0, .int 0, .int p1] [(h0, .inr (8, [.int 0, .int 1, .ref h5, .ref h6, .ref h8, .int 1, .int 1, .ref (y 19), .ref h7, .ref h3, .ref h10, .ref h2, .ref h4, .ref h9, .int 0, .int 0, .int 1]))] 0 0 (QI V (fun (r : Int32) (w : va_W) => (r = 1 ∧ w = [(h0, .inr (8, [.int 0, .int 1, .ref h5, .ref h6, .ref h8, .int 1, .int 1, .ref (y 19), .ref h7, .ref h3, .ref h10, .ref h2, .ref h4, .ref h9, .int 0, .int 0, .int 1]))]))) := by
  refine Ct.of (by decide) (Nat.le_of_ble_eq_true rfl) (fun p e s m below meth c A ls hx hb hr hml hown hlk hnm hg hP hK hD hE hA hS hl => ?_)
  have hl : lv_has ls 4 [(0, .ref h0), (1, .int 0), (2, .int p1)] := hl
  refine lv_iconst (v := 0) hx hb dX8_isAbove_0 (by decide) ?_
  refine lv_istore_n (lv' := [(3, .int 0), (0, .ref h0), (1, .int 0), (2, .int p1)]) hx hb dX8_isAbove_1 rfl hl (by decide) rfl (fun ls hl => ?_)
  refine lv_iload_n hx hb dX8_isAbove_2 rfl (lv_at hl 0 rfl) ?_
  refine lv_aload_n hx hb dX8_isAbove_3 rfl (lv_at hl 1 rfl) ?_
  refine va_get (ci := 8) (v := .int 0) (C := RX8) (T := TX8) (N := 17) hx hb hg inX8 hown hK hP 0 rfl rfl 14 (by decide) (hg _ q_4_88) (fun _ h9 => h9) rfl dX8_isAbove_4 ?_
  refine lv_icmp_ge (tgt := 32) hx hb dX8_isAbove_7 (by decide) (fun _ => ?_) (fun c_1 => absurd c_1 (by decide))
  refine lv_iconst (v := 1) hx hb dX8_isAbove_32 (by decide) ?_
  exact fiZ rfl hx hb hr hlk hK hP hD hS dX8_isAbove_33 (Nat.le_of_ble_eq_true rfl) (Nat.le_of_ble_eq_true rfl) (⟨rfl, rfl⟩)
set_option maxHeartbeats 4000000 in
set_option maxRecDepth 100000 in
theorem c_X8_behind_1 (l : Launch) (V : GV) (y : Nat → Nat) (h0 : Nat) (h1 : Nat) (h2 : Nat) (h3 : Nat) (h4 : Nat) (h5 : Nat) (h6 : Nat) (h7 : Nat) (h8 : Nat) (h9 : Nat) : Ct l V yX8_behind (.code yX8_behind cX8_behind 3 (some .int)) 1 [.ref h0, .int 0, .int 0] [(h2, aI V 4 (fun _ => 0)), (h0, .inr (8, [.int 0, .int 1, .ref h3, .ref h4, .ref h5, .int 1, .int 1, .ref (y 19), .ref h6, .ref h7, .ref h2, .ref h1, .ref h8, .ref h9, .int 0, .int 0, .int 1]))] 0 0 (QI V (fun (r : Int32) (w : va_W) => (r = 0 ∧ w = [(h2, aI V 4 (fun _ => 0)), (h0, .inr (8, [.int 0, .int 1, .ref h3, .ref h4, .ref h5, .int 1, .int 1, .ref (y 19), .ref h6, .ref h7, .ref h2, .ref h1, .ref h8, .ref h9, .int 0, .int 0, .int 1]))]))) := by
  refine Ct.of (by decide) (Nat.le_of_ble_eq_true rfl) (fun p e s m below meth c A ls hx hb hr hml hown hlk hnm hg hP hK hD hE hA hS hl => ?_)
  have hl : lv_has ls 3 [(0, .ref h0), (1, .int 0), (2, .int 0)] := hl
  refine lv_aload_n hx hb dX8_behind_0 rfl (lv_at hl 0 rfl) ?_
  refine va_get (ci := 8) (v := .ref h2) (C := RX8) (T := TX8) (N := 17) hx hb hg inX8 hown hK hP 1 rfl rfl 10 (by decide) (hg _ q_4_84) (fun _ h9 => h9) rfl dX8_behind_1 ?_
  refine lv_iload_n hx hb dX8_behind_4 rfl (lv_at hl 1 rfl) ?_
  refine lv_iconst (v := 4) hx hb dX8_behind_5 (by decide) ?_
  refine lv_imul hx hb dX8_behind_6 ?_
  refine tpi (y := 0) (by decide +kernel) ?_
  refine lv_iload_n hx hb dX8_behind_7 rfl (lv_at hl 2 rfl) ?_
  refine lv_iadd hx hb dX8_behind_8 ?_
  refine tpi (y := 0) (by decide +kernel) ?_
  refine va_iald hx hb hK hP 0 0 rfl rfl (vin (by decide +kernel)) dX8_behind_9 ?_
  refine tpi (y := 0) (rfl) ?_
  exact fiI hx hb hr hlk hK hP hD hS dX8_behind_10 (Nat.le_of_ble_eq_true rfl) (Nat.le_of_ble_eq_true rfl) (⟨rfl, rfl⟩)
set_option maxHeartbeats 4000000 in
set_option maxRecDepth 100000 in
theorem c_X8_isAbove_1 (l : Launch) (V : GV) (y : Nat → Nat) (h0 : Nat) (p1 : Int32) (h2 : Nat) (h3 : Nat) (h4 : Nat) (h5 : Nat) (h6 : Nat) (h7 : Nat) (h8 : Nat) (h9 : Nat) (h10 : Nat) : Ct l V yX8_isAbove (.code yX8_isAbove cX8_isAbove 4 (some .boolean)) 1 [.ref h0, .int 0, .int p1] [(h0, .inr (8, [.int 0, .int 1, .ref h6, .ref h7, .ref h3, .int 1, .int 1, .ref (y 19), .ref h8, .ref h9, .ref h5, .ref h2, .ref h10, .ref h4, .int 0, .int 0, .int 1]))] 0 0 (QI V (fun (r : Int32) (w : va_W) => (r = 1 ∧ w = [(h0, .inr (8, [.int 0, .int 1, .ref h6, .ref h7, .ref h3, .int 1, .int 1, .ref (y 19), .ref h8, .ref h9, .ref h5, .ref h2, .ref h10, .ref h4, .int 0, .int 0, .int 1]))]))) := by
  refine Ct.of (by decide) (Nat.le_of_ble_eq_true rfl) (fun p e s m below meth c A ls hx hb hr hml hown hlk hnm hg hP hK hD hE hA hS hl => ?_)
  have hl : lv_has ls 4 [(0, .ref h0), (1, .int 0), (2, .int p1)] := hl
  refine lv_iconst (v := 0) hx hb dX8_isAbove_0 (by decide) ?_
  refine lv_istore_n (lv' := [(3, .int 0), (0, .ref h0), (1, .int 0), (2, .int p1)]) hx hb dX8_isAbove_1 rfl hl (by decide) rfl (fun ls hl => ?_)
  refine lv_iload_n hx hb dX8_isAbove_2 rfl (lv_at hl 0 rfl) ?_
  refine lv_aload_n hx hb dX8_isAbove_3 rfl (lv_at hl 1 rfl) ?_
  refine va_get (ci := 8) (v := .int 0) (C := RX8) (T := TX8) (N := 17) hx hb hg inX8 hown hK hP 0 rfl rfl 14 (by decide) (hg _ q_4_88) (fun _ h9 => h9) rfl dX8_isAbove_4 ?_
  refine lv_icmp_ge (tgt := 32) hx hb dX8_isAbove_7 (by decide) (fun _ => ?_) (fun c_1 => absurd c_1 (by decide))
  refine lv_iconst (v := 1) hx hb dX8_isAbove_32 (by decide) ?_
  exact fiZ rfl hx hb hr hlk hK hP hD hS dX8_isAbove_33 (Nat.le_of_ble_eq_true rfl) (Nat.le_of_ble_eq_true rfl) (⟨rfl, rfl⟩)
theorem dX8_countComersAbove_0 : decode cX8_countComersAbove 0 = .ok (.aload_n 0, 1) := by decide +kernel
theorem dX8_countComersAbove_1 : decode cX8_countComersAbove 1 = .ok (.getfield 50, 3) := by decide +kernel
theorem dX8_countComersAbove_4 : decode cX8_countComersAbove 4 = .ok (.iconst 0, 1) := by decide +kernel
theorem dX8_countComersAbove_5 : decode cX8_countComersAbove 5 = .ok (.aload_n 0, 1) := by decide +kernel
theorem dX8_countComersAbove_6 : decode cX8_countComersAbove 6 = .ok (.getfield 56, 3) := by decide +kernel
theorem dX8_countComersAbove_9 : decode cX8_countComersAbove 9 = .ok (.iconst 0, 1) := by decide +kernel
theorem q_4_174 : Cond.code yJ7_fill_fda19 prog_20_method_104_code 5 none ∈ gw := gw_4 (i := 174) (rfl) rfl
theorem q_4_173 : Cond.static yJ7_fill_fda19 ∈ gw := gw_4 (i := 173) (by decide +kernel) rfl
theorem mt_J7_fill_fda19 : MtS yJ7_fill_fda19 cJ7_fill_fda19 5 none 4 := ⟨⟨q_4_174, q_1_17, by decide +kernel, by decide +kernel, by decide +kernel⟩, q_4_173⟩
theorem q_4_172 : Cond.methodLink "BeaconDelay$Ways" 118 yJ7_fill_fda19 ∈ gw := gw_4 (i := 172) (by decide +kernel) rfl
theorem dX8_countComersAbove_10 : decode cX8_countComersAbove 10 = .ok (.invokestatic 118, 3) := by decide +kernel
theorem dX8_countComersAbove_13 : decode cX8_countComersAbove 13 = .ok (.aload_n 0, 1) := by decide +kernel
theorem dX8_countComersAbove_14 : decode cX8_countComersAbove 14 = .ok (.getfield 53, 3) := by decide +kernel
theorem dX8_countComersAbove_17 : decode cX8_countComersAbove 17 = .ok (.iconst 0, 1) := by decide +kernel
theorem dX8_countComersAbove_18 : decode cX8_countComersAbove 18 = .ok (.aload_n 0, 1) := by decide +kernel
theorem dX8_countComersAbove_19 : decode cX8_countComersAbove 19 = .ok (.getfield 56, 3) := by decide +kernel
theorem dX8_countComersAbove_22 : decode cX8_countComersAbove 22 = .ok (.iconst 0, 1) := by decide +kernel
theorem dX8_countComersAbove_23 : decode cX8_countComersAbove 23 = .ok (.invokestatic 118, 3) := by decide +kernel
theorem dX8_countComersAbove_26 : decode cX8_countComersAbove 26 = .ok (.aload_n 0, 1) := by decide +kernel
theorem dX8_countComersAbove_27 : decode cX8_countComersAbove 27 = .ok (.getfield 47, 3) := by decide +kernel
theorem dX8_countComersAbove_30 : decode cX8_countComersAbove 30 = .ok (.iconst 0, 1) := by decide +kernel
theorem dX8_countComersAbove_31 : decode cX8_countComersAbove 31 = .ok (.iconst 0, 1) := by decide +kernel
theorem dX8_countComersAbove_32 : decode cX8_countComersAbove 32 = .ok (.iastore, 1) := by decide +kernel
theorem dX8_countComersAbove_33 : decode cX8_countComersAbove 33 = .ok (.iconst 1, 1) := by decide +kernel
theorem dX8_countComersAbove_34 : decode cX8_countComersAbove 34 = .ok (.istore_n 2, 1) := by decide +kernel
theorem dX8_countComersAbove_35 : decode cX8_countComersAbove 35 = .ok (.iconst 0, 1) := by decide +kernel
theorem dX8_countComersAbove_36 : decode cX8_countComersAbove 36 = .ok (.istore_n 3, 1) := by decide +kernel
theorem dX8_countComersAbove_37 : decode cX8_countComersAbove 37 = .ok (.iload_n 3, 1) := by decide +kernel
theorem dX8_countComersAbove_38 : decode cX8_countComersAbove 38 = .ok (.iload_n 2, 1) := by decide +kernel
theorem dX8_countComersAbove_39 : decode cX8_countComersAbove 39 = .ok (.if_icmp .ge 104, 3) := by decide +kernel
theorem dX8_countComersAbove_42 : decode cX8_countComersAbove 42 = .ok (.iload_n 3, 1) := by decide +kernel
theorem dX8_countComersAbove_43 : decode cX8_countComersAbove 43 = .ok (.aload_n 0, 1) := by decide +kernel
theorem dX8_countComersAbove_44 : decode cX8_countComersAbove 44 = .ok (.getfield 26, 3) := by decide +kernel
theorem dX8_countComersAbove_47 : decode cX8_countComersAbove 47 = .ok (.if_icmp .ge 96, 3) := by decide +kernel
theorem dX8_countComersAbove_50 : decode cX8_countComersAbove 50 = .ok (.iconst 0, 1) := by decide +kernel
theorem dX8_countComersAbove_51 : decode cX8_countComersAbove 51 = .ok (.istore 4, 2) := by decide +kernel
theorem dX8_countComersAbove_53 : decode cX8_countComersAbove 53 = .ok (.iload 4, 2) := by decide +kernel
theorem dX8_countComersAbove_55 : decode cX8_countComersAbove 55 = .ok (.aload_n 0, 1) := by decide +kernel
theorem dX8_countComersAbove_56 : decode cX8_countComersAbove 56 = .ok (.getfield 77, 3) := by decide +kernel
theorem dX8_countComersAbove_59 : decode cX8_countComersAbove 59 = .ok (.if_icmp .ge 78, 3) := by decide +kernel
theorem dX8_countComersAbove_62 : decode cX8_countComersAbove 62 = .ok (.aload_n 0, 1) := by decide +kernel
theorem dX8_countComersAbove_63 : decode cX8_countComersAbove 63 = .ok (.aload_n 0, 1) := by decide +kernel
theorem dX8_countComersAbove_64 : decode cX8_countComersAbove 64 = .ok (.getfield 47, 3) := by decide +kernel
theorem dX8_countComersAbove_67 : decode cX8_countComersAbove 67 = .ok (.iload_n 3, 1) := by decide +kernel
theorem dX8_countComersAbove_68 : decode cX8_countComersAbove 68 = .ok (.iaload, 1) := by decide +kernel
theorem dX8_countComersAbove_69 : decode cX8_countComersAbove 69 = .ok (.iload 4, 2) := by decide +kernel
theorem q_4_185 : Cond.code yX8_behind prog_10_method_7_code 3 (some FieldType.int) ∈ gw := gw_4 (i := 185) (rfl) rfl
theorem q_4_183 : Cond.instanceMethod yX8_behind ∈ gw := gw_4 (i := 183) (by decide +kernel) rfl
theorem q_4_184 : Cond.selects "BeaconDelay$Ways" yX8_behind yX8_behind ∈ gw := gw_4 (i := 184) (by decide +kernel) rfl
theorem mt_X8_behind : MtV yX8_behind cX8_behind 3 (some .int) 2 := ⟨⟨q_4_185, q_1_18, by decide +kernel, by decide +kernel, by decide +kernel⟩, q_4_183, q_4_184⟩
theorem q_4_182 : Cond.methodLink "BeaconDelay$Ways" 124 yX8_behind ∈ gw := gw_4 (i := 182) (by decide +kernel) rfl
theorem dX8_countComersAbove_71 : decode cX8_countComersAbove 71 = .ok (.invokevirtual 124, 3) := by decide +kernel
theorem dX8_countComersAbove_74 : decode cX8_countComersAbove 74 = .ok (.istore 5, 2) := by decide +kernel
theorem dX8_countComersAbove_76 : decode cX8_countComersAbove 76 = .ok (.aload_n 0, 1) := by decide +kernel
theorem dX8_countComersAbove_77 : decode cX8_countComersAbove 77 = .ok (.iload 5, 2) := by decide +kernel
theorem dX8_countComersAbove_79 : decode cX8_countComersAbove 79 = .ok (.iload_n 1, 1) := by decide +kernel
theorem q_4_208 : Cond.code yX8_isAbove prog_10_method_22_code 4 (some FieldType.boolean) ∈ gw := gw_4 (i := 208) (rfl) rfl
theorem q_4_207 : Cond.instanceMethod yX8_isAbove ∈ gw := gw_4 (i := 207) (by decide +kernel) rfl
theorem q_s_38 : Cond.selects "BeaconDelay$Ways" yX8_isAbove yX8_isAbove ∈ gw := gw_s (i := 38) (by decide +kernel) rfl
theorem mt_X8_isAbove : MtV yX8_isAbove cX8_isAbove 4 (some .boolean) 2 := ⟨⟨q_4_208, q_1_18, by decide +kernel, by decide +kernel, by decide +kernel⟩, q_4_207, q_s_38⟩
theorem q_4_205 : Cond.methodLink "BeaconDelay$Ways" 144 yX8_isAbove ∈ gw := gw_4 (i := 205) (by decide +kernel) rfl
theorem dX8_countComersAbove_80 : decode cX8_countComersAbove 80 = .ok (.invokevirtual 144, 3) := by decide +kernel
theorem dX8_countComersAbove_83 : decode cX8_countComersAbove 83 = .ok (.ifCond .eq 48, 3) := by decide +kernel
theorem dX8_countComersAbove_86 : decode cX8_countComersAbove 86 = .ok (.aload_n 0, 1) := by decide +kernel
theorem dX8_countComersAbove_87 : decode cX8_countComersAbove 87 = .ok (.getfield 50, 3) := by decide +kernel
theorem dX8_countComersAbove_90 : decode cX8_countComersAbove 90 = .ok (.iload 5, 2) := by decide +kernel
theorem dX8_countComersAbove_92 : decode cX8_countComersAbove 92 = .ok (.iaload, 1) := by decide +kernel
theorem dX8_countComersAbove_93 : decode cX8_countComersAbove 93 = .ok (.ifCond .ne 27, 3) := by decide +kernel
theorem dX8_countComersAbove_96 : decode cX8_countComersAbove 96 = .ok (.iload 5, 2) := by decide +kernel
theorem dX8_countComersAbove_98 : decode cX8_countComersAbove 98 = .ok (.ifCond .eq 22, 3) := by decide +kernel
theorem dX8_countComersAbove_120 : decode cX8_countComersAbove 120 = .ok (.aload_n 0, 1) := by decide +kernel
theorem dX8_countComersAbove_121 : decode cX8_countComersAbove 121 = .ok (.getfield 50, 3) := by decide +kernel
theorem dX8_countComersAbove_124 : decode cX8_countComersAbove 124 = .ok (.iload 5, 2) := by decide +kernel
theorem dX8_countComersAbove_126 : decode cX8_countComersAbove 126 = .ok (.dup2, 1) := by decide +kernel
theorem dX8_countComersAbove_127 : decode cX8_countComersAbove 127 = .ok (.iaload, 1) := by decide +kernel
theorem dX8_countComersAbove_128 : decode cX8_countComersAbove 128 = .ok (.iconst 1, 1) := by decide +kernel
theorem dX8_countComersAbove_129 : decode cX8_countComersAbove 129 = .ok (.iadd, 1) := by decide +kernel
theorem dX8_countComersAbove_130 : decode cX8_countComersAbove 130 = .ok (.iastore, 1) := by decide +kernel
theorem dX8_countComersAbove_131 : decode cX8_countComersAbove 131 = .ok (.iinc 4 1, 3) := by decide +kernel
theorem dX8_countComersAbove_134 : decode cX8_countComersAbove 134 = .ok (.goto (-81), 3) := by decide +kernel
theorem dX8_countComersAbove_137 : decode cX8_countComersAbove 137 = .ok (.iinc 3 1, 3) := by decide +kernel
theorem dX8_countComersAbove_140 : decode cX8_countComersAbove 140 = .ok (.goto (-103), 3) := by decide +kernel
theorem dX8_countComersAbove_143 : decode cX8_countComersAbove 143 = .ok (.iload_n 2, 1) := by decide +kernel
theorem dX8_countComersAbove_144 : decode cX8_countComersAbove 144 = .ok (.ireturn, 1) := by decide +kernel
set_option maxHeartbeats 4000000 in
set_option maxRecDepth 100000 in
theorem c_X8_countComersAbove_0 (l : Launch) (V : GV) (y : Nat → Nat) (h0 : Nat) (p1 : Int32) (h2 : Nat) (h3 : Nat) (h4 : Nat) (h5 : Nat) (h6 : Nat) (h7 : Nat) (h8 : Nat) (h9 : Nat) (h10 : Nat) : Ct l V yX8_countComersAbove (.code yX8_countComersAbove cX8_countComersAbove 6 (some .int)) 3 [.ref h0, .int p1] [(h2, aI V 1 (fun _ => 0)), (h3, aI V 1 (fun _ => 0)), (h4, aI V 1 (fun _ => 0)), (h7, aI V 4 (fun _ => 0)), (h0, .inr (8, [.int 0, .int 1, .ref h8, .ref h9, .ref h3, .int 1, .int 1, .ref (y 19), .ref h10, .ref h5, .ref h7, .ref h2, .ref h6, .ref h4, .int 0, .int 0, .int 1]))] 0 0 (QI V (fun (r : Int32) (w : va_W) => (r = 1 ∧ w = [(h2, aI V 1 (fun _ => 0)), (h3, aI V 1 (upd (fun _ => 0) 0 1)), (h4, aI V 1 (fun _ => 0)), (h7, aI V 4 (fun _ => 0)), (h0, .inr (8, [.int 0, .int 1, .ref h8, .ref h9, .ref h3, .int 1, .int 1, .ref (y 19), .ref h10, .ref h5, .ref h7, .ref h2, .ref h6, .ref h4, .int 0, .int 0, .int 1]))]))) := by
  refine Ct.of (by decide) (Nat.le_of_ble_eq_true rfl) (fun p e s m below meth c A ls hx hb hr hml hown hlk hnm hg hP hK hD hE hA hS hl => ?_)
  have hl : lv_has ls 6 [(0, .ref h0), (1, .int p1)] := hl
  refine lv_aload_n hx hb dX8_countComersAbove_0 rfl (lv_at hl 0 rfl) ?_
  refine va_get (ci := 8) (v := .ref h3) (C := RX8) (T := TX8) (N := 17) hx hb hg inX8 hown hK hP 4 rfl rfl 4 (by decide) (hg _ q_4_74) (fun _ h9 => h9) rfl dX8_countComersAbove_1 ?_
  refine lv_iconst (v := 0) hx hb dX8_countComersAbove_4 (by decide) ?_
  refine lv_aload_n hx hb dX8_countComersAbove_5 rfl (lv_at hl 0 rfl) ?_
  refine va_get (ci := 8) (v := .int 1) (C := RX8) (T := TX8) (N := 17) hx hb hg inX8 hown hK hP 4 rfl rfl 5 (by decide) (hg _ q_4_76) (fun _ h9 => h9) rfl dX8_countComersAbove_6 ?_
  refine lv_iconst (v := 0) hx hb dX8_countComersAbove_9 (by decide) ?_
  refine jnV (wr := [(h2, aI V 1 (fun _ => 0)), (h4, aI V 1 (fun _ => 0)), (h7, aI V 4 (fun _ => 0)), (h0, .inr (8, [.int 0, .int 1, .ref h8, .ref h9, .ref h3, .int 1, .int 1, .ref (y 19), .ref h10, .ref h5, .ref h7, .ref h2, .ref h6, .ref h4, .int 0, .int 0, .int 1]))]) (rnS (rest := []) ⟨hx, hb, hml, hown, hg⟩ (c_J7_fill_fda19_0 l V h3) mt_J7_fill_fda19 q_4_172 ⟨Nat.le_of_ble_eq_true rfl, Nat.le_of_ble_eq_true rfl⟩ hK hP hD hS hA hE [1] rfl rfl rfl hl.1 rfl (Nat.le_of_ble_eq_true rfl) dX8_countComersAbove_10 ⟨Nat.le_of_ble_eq_true rfl, Nat.le_of_ble_eq_true rfl⟩) hP hD hS hA [1] [0, 2, 3, 4] rfl rfl rfl (by decide) (fun  w H locs hw hP hD hS => ?_)
  subst hw
  have hP : va_P V.1 vwCl [(h2, aI V 1 (fun _ => 0)), (h4, aI V 1 (fun _ => 0)), (h7, aI V 4 (fun _ => 0)), (h0, .inr (8, [.int 0, .int 1, .ref h8, .ref h9, .ref h3, .int 1, .int 1, .ref (y 19), .ref h10, .ref h5, .ref h7, .ref h2, .ref h6, .ref h4, .int 0, .int 0, .int 1])), (h3, aI V 1 (fun _ => 0))] H := hP
  have hD : va_D A [(h2, aI V 1 (fun _ => 0)), (h4, aI V 1 (fun _ => 0)), (h7, aI V 4 (fun _ => 0)), (h0, .inr (8, [.int 0, .int 1, .ref h8, .ref h9, .ref h3, .int 1, .int 1, .ref (y 19), .ref h10, .ref h5, .ref h7, .ref h2, .ref h6, .ref h4, .int 0, .int 0, .int 1])), (h3, aI V 1 (fun _ => 0))] := hD
  refine lv_aload_n hx hb dX8_countComersAbove_13 rfl (lv_at hl 0 rfl) ?_
  refine va_get (ci := 8) (v := .ref h4) (C := RX8) (T := TX8) (N := 17) hx hb hg inX8 hown hK hP 3 rfl rfl 13 (by decide) (hg _ q_4_87) (fun _ h9 => h9) rfl dX8_countComersAbove_14 ?_
  refine lv_iconst (v := 0) hx hb dX8_countComersAbove_17 (by decide) ?_
  refine lv_aload_n hx hb dX8_countComersAbove_18 rfl (lv_at hl 0 rfl) ?_
  refine va_get (ci := 8) (v := .int 1) (C := RX8) (T := TX8) (N := 17) hx hb hg inX8 hown hK hP 3 rfl rfl 5 (by decide) (hg _ q_4_76) (fun _ h9 => h9) rfl dX8_countComersAbove_19 ?_
  refine lv_iconst (v := 0) hx hb dX8_countComersAbove_22 (by decide) ?_
  refine jnV (wr := [(h2, aI V 1 (fun _ => 0)), (h7, aI V 4 (fun _ => 0)), (h0, .inr (8, [.int 0, .int 1, .ref h8, .ref h9, .ref h3, .int 1, .int 1, .ref (y 19), .ref h10, .ref h5, .ref h7, .ref h2, .ref h6, .ref h4, .int 0, .int 0, .int 1])), (h3, aI V 1 (fun _ => 0))]) (rnS (rest := []) ⟨hx, hb, hml, hown, hg⟩ (c_J7_fill_fda19_0 l V h4) mt_J7_fill_fda19 q_4_172 ⟨Nat.le_of_ble_eq_true rfl, Nat.le_of_ble_eq_true rfl⟩ hK hP hD hS hA hE [1] rfl rfl rfl hl.1 rfl (Nat.le_of_ble_eq_true rfl) dX8_countComersAbove_23 ⟨Nat.le_of_ble_eq_true rfl, Nat.le_of_ble_eq_true rfl⟩) hP hD hS hA [1] [0, 2, 3, 4] rfl rfl rfl (by decide) (fun  w H locs hw hP hD hS => ?_)
  subst hw
  have hP : va_P V.1 vwCl [(h2, aI V 1 (fun _ => 0)), (h7, aI V 4 (fun _ => 0)), (h0, .inr (8, [.int 0, .int 1, .ref h8, .ref h9, .ref h3, .int 1, .int 1, .ref (y 19), .ref h10, .ref h5, .ref h7, .ref h2, .ref h6, .ref h4, .int 0, .int 0, .int 1])), (h3, aI V 1 (fun _ => 0)), (h4, aI V 1 (fun _ => 0))] H := hP
  have hD : va_D A [(h2, aI V 1 (fun _ => 0)), (h7, aI V 4 (fun _ => 0)), (h0, .inr (8, [.int 0, .int 1, .ref h8, .ref h9, .ref h3, .int 1, .int 1, .ref (y 19), .ref h10, .ref h5, .ref h7, .ref h2, .ref h6, .ref h4, .int 0, .int 0, .int 1])), (h3, aI V 1 (fun _ => 0)), (h4, aI V 1 (fun _ => 0))] := hD
  refine lv_aload_n hx hb dX8_countComersAbove_26 rfl (lv_at hl 0 rfl) ?_
  refine va_get (ci := 8) (v := .ref h2) (C := RX8) (T := TX8) (N := 17) hx hb hg inX8 hown hK hP 2 rfl rfl 11 (by decide) (hg _ q_4_85) (fun _ h9 => h9) rfl dX8_countComersAbove_27 ?_
  refine lv_iconst (v := 0) hx hb dX8_countComersAbove_30 (by decide) ?_
  refine lv_iconst (v := 0) hx hb dX8_countComersAbove_31 (by decide) ?_
  refine va_iast hx hb hK hP hD hS 0 0 rfl rfl (vin (by decide +kernel)) dX8_countComersAbove_32 (fun H locs hP hD hS => ?_)
  have hP : va_P V.1 vwCl [(h2, aI V 1 (upd (fun _ => 0) 0 0)), (h7, aI V 4 (fun _ => 0)), (h0, .inr (8, [.int 0, .int 1, .ref h8, .ref h9, .ref h3, .int 1, .int 1, .ref (y 19), .ref h10, .ref h5, .ref h7, .ref h2, .ref h6, .ref h4, .int 0, .int 0, .int 1])), (h3, aI V 1 (fun _ => 0)), (h4, aI V 1 (fun _ => 0))] H := hP
  have hD : va_D A [(h2, aI V 1 (upd (fun _ => 0) 0 0)), (h7, aI V 4 (fun _ => 0)), (h0, .inr (8, [.int 0, .int 1, .ref h8, .ref h9, .ref h3, .int 1, .int 1, .ref (y 19), .ref h10, .ref h5, .ref h7, .ref h2, .ref h6, .ref h4, .int 0, .int 0, .int 1])), (h3, aI V 1 (fun _ => 0)), (h4, aI V 1 (fun _ => 0))] := hD
  have hP : va_P V.1 vwCl [(h2, aI V 1 (fun _ => 0)), (h7, aI V 4 (fun _ => 0)), (h0, .inr (8, [.int 0, .int 1, .ref h8, .ref h9, .ref h3, .int 1, .int 1, .ref (y 19), .ref h10, .ref h5, .ref h7, .ref h2, .ref h6, .ref h4, .int 0, .int 0, .int 1])), (h3, aI V 1 (fun _ => 0)), (h4, aI V 1 (fun _ => 0))] H := by rw [upd0] at hP; exact hP
  have hD : va_D A [(h2, aI V 1 (fun _ => 0)), (h7, aI V 4 (fun _ => 0)), (h0, .inr (8, [.int 0, .int 1, .ref h8, .ref h9, .ref h3, .int 1, .int 1, .ref (y 19), .ref h10, .ref h5, .ref h7, .ref h2, .ref h6, .ref h4, .int 0, .int 0, .int 1])), (h3, aI V 1 (fun _ => 0)), (h4, aI V 1 (fun _ => 0))] := by rw [upd0] at hD; exact hD
  refine lv_iconst (v := 1) hx hb dX8_countComersAbove_33 (by decide) ?_
  refine lv_istore_n (lv' := [(2, .int 1), (0, .ref h0), (1, .int p1)]) hx hb dX8_countComersAbove_34 rfl hl (by decide) rfl (fun ls hl => ?_)
  refine lv_iconst (v := 0) hx hb dX8_countComersAbove_35 (by decide) ?_
  refine lv_istore_n (lv' := [(3, .int 0), (2, .int 1), (0, .ref h0), (1, .int p1)]) hx hb dX8_countComersAbove_36 rfl hl (by decide) rfl (fun ls hl => ?_)
  refine lv_iload_n hx hb dX8_countComersAbove_37 rfl (lv_at hl 0 rfl) ?_
  refine lv_iload_n hx hb dX8_countComersAbove_38 rfl (lv_at hl 1 rfl) ?_
  refine lv_icmp_ge (tgt := 143) hx hb dX8_countComersAbove_39 (by decide) (fun c_1 => absurd c_1 (by decide)) (fun _ => ?_)
  refine lv_iload_n hx hb dX8_countComersAbove_42 rfl (lv_at hl 0 rfl) ?_
  refine lv_aload_n hx hb dX8_countComersAbove_43 rfl (lv_at hl 2 rfl) ?_
  refine va_get (ci := 8) (v := .int 1) (C := RX8) (T := TX8) (N := 17) hx hb hg inX8 hown hK hP 2 rfl rfl 1 (by decide) (hg _ q_4_67) (fun _ h9 => h9) rfl dX8_countComersAbove_44 ?_
  refine lv_icmp_ge (tgt := 143) hx hb dX8_countComersAbove_47 (by decide) (fun c_2 => absurd c_2 (by decide)) (fun _ => ?_)
  refine lv_iconst (v := 0) hx hb dX8_countComersAbove_50 (by decide) ?_
  refine lv_istore (lv' := [(4, .int 0), (3, .int 0), (2, .int 1), (0, .ref h0), (1, .int p1)]) hx hb dX8_countComersAbove_51 hl (by decide) rfl (fun ls hl => ?_)
  refine lv_iload hx hb dX8_countComersAbove_53 (lv_at hl 0 rfl) ?_
  refine lv_aload_n hx hb dX8_countComersAbove_55 rfl (lv_at hl 3 rfl) ?_
  refine va_get (ci := 8) (v := .int 1) (C := RX8) (T := TX8) (N := 17) hx hb hg inX8 hown hK hP 2 rfl rfl 6 (by decide) (hg _ q_4_80) (fun _ h9 => h9) rfl dX8_countComersAbove_56 ?_
  refine lv_icmp_ge (tgt := 137) hx hb dX8_countComersAbove_59 (by decide) (fun c_3 => absurd c_3 (by decide)) (fun _ => ?_)
  refine lv_aload_n hx hb dX8_countComersAbove_62 rfl (lv_at hl 3 rfl) ?_
  refine lv_aload_n hx hb dX8_countComersAbove_63 rfl (lv_at hl 3 rfl) ?_
  refine va_get (ci := 8) (v := .ref h2) (C := RX8) (T := TX8) (N := 17) hx hb hg inX8 hown hK hP 2 rfl rfl 11 (by decide) (hg _ q_4_85) (fun _ h9 => h9) rfl dX8_countComersAbove_64 ?_
  refine lv_iload_n hx hb dX8_countComersAbove_67 rfl (lv_at hl 1 rfl) ?_
  refine va_iald hx hb hK hP 0 0 rfl rfl (vin (by decide +kernel)) dX8_countComersAbove_68 ?_
  refine tpi (y := 0) (rfl) ?_
  refine lv_iload hx hb dX8_countComersAbove_69 (lv_at hl 0 rfl) ?_
  refine jnI (wr := [(h2, aI V 1 (fun _ => 0)), (h3, aI V 1 (fun _ => 0)), (h4, aI V 1 (fun _ => 0))]) (rnV (rest := []) ⟨hx, hb, hml, hown, hg⟩ (c_X8_behind_1 l V y h0 h2 h7 h8 h9 h3 h10 h5 h6 h4) mt_X8_behind q_4_182 ⟨Nat.le_of_ble_eq_true rfl, Nat.le_of_ble_eq_true rfl⟩ hK hP hD hS hA hE [1, 2] rfl rfl 2 rfl rfl rfl rfl hl.1 rfl (Nat.le_of_ble_eq_true rfl) dX8_countComersAbove_71 ⟨Nat.le_of_ble_eq_true rfl, Nat.le_of_ble_eq_true rfl⟩) hP hD hS hA [1, 2] [0, 3, 4] rfl rfl rfl (by decide) (fun r_4 w H locs hw hP hD hS => ?_)
  obtain ⟨rfl, rfl⟩ := hw
  have hP : va_P V.1 vwCl [(h2, aI V 1 (fun _ => 0)), (h3, aI V 1 (fun _ => 0)), (h4, aI V 1 (fun _ => 0)), (h7, aI V 4 (fun _ => 0)), (h0, .inr (8, [.int 0, .int 1, .ref h8, .ref h9, .ref h3, .int 1, .int 1, .ref (y 19), .ref h10, .ref h5, .ref h7, .ref h2, .ref h6, .ref h4, .int 0, .int 0, .int 1]))] H := hP
  have hD : va_D A [(h2, aI V 1 (fun _ => 0)), (h3, aI V 1 (fun _ => 0)), (h4, aI V 1 (fun _ => 0)), (h7, aI V 4 (fun _ => 0)), (h0, .inr (8, [.int 0, .int 1, .ref h8, .ref h9, .ref h3, .int 1, .int 1, .ref (y 19), .ref h10, .ref h5, .ref h7, .ref h2, .ref h6, .ref h4, .int 0, .int 0, .int 1]))] := hD
  refine lv_istore (lv' := [(5, .int 0), (4, .int 0), (3, .int 0), (2, .int 1), (0, .ref h0), (1, .int p1)]) hx hb dX8_countComersAbove_74 hl (by decide) rfl (fun ls hl => ?_)
  refine lv_aload_n hx hb dX8_countComersAbove_76 rfl (lv_at hl 4 rfl) ?_
  refine lv_iload hx hb dX8_countComersAbove_77 (lv_at hl 0 rfl) ?_
  refine lv_iload_n hx hb dX8_countComersAbove_79 rfl (lv_at hl 5 rfl) ?_
  refine jnI (wr := [(h2, aI V 1 (fun _ => 0)), (h3, aI V 1 (fun _ => 0)), (h4, aI V 1 (fun _ => 0)), (h7, aI V 4 (fun _ => 0))]) (rnV (rest := []) ⟨hx, hb, hml, hown, hg⟩ (c_X8_isAbove_1 l V y h0 p1 h2 h3 h4 h7 h8 h9 h10 h5 h6) mt_X8_isAbove q_4_205 ⟨Nat.le_of_ble_eq_true rfl, Nat.le_of_ble_eq_true rfl⟩ hK hP hD hS hA hE [4] rfl rfl 4 rfl rfl rfl rfl hl.1 rfl (Nat.le_of_ble_eq_true rfl) dX8_countComersAbove_80 ⟨Nat.le_of_ble_eq_true rfl, Nat.le_of_ble_eq_true rfl⟩) hP hD hS hA [4] [0, 1, 2, 3] rfl rfl rfl (by decide) (fun r_5 w H locs hw hP hD hS => ?_)
  obtain ⟨rfl, rfl⟩ := hw
  have hP : va_P V.1 vwCl [(h2, aI V 1 (fun _ => 0)), (h3, aI V 1 (fun _ => 0)), (h4, aI V 1 (fun _ => 0)), (h7, aI V 4 (fun _ => 0)), (h0, .inr (8, [.int 0, .int 1, .ref h8, .ref h9, .ref h3, .int 1, .int 1, .ref (y 19), .ref h10, .ref h5, .ref h7, .ref h2, .ref h6, .ref h4, .int 0, .int 0, .int 1]))] H := hP
  have hD : va_D A [(h2, aI V 1 (fun _ => 0)), (h3, aI V 1 (fun _ => 0)), (h4, aI V 1 (fun _ => 0)), (h7, aI V 4 (fun _ => 0)), (h0, .inr (8, [.int 0, .int 1, .ref h8, .ref h9, .ref h3, .int 1, .int 1, .ref (y 19), .ref h10, .ref h5, .ref h7, .ref h2, .ref h6, .ref h4, .int 0, .int 0, .int 1]))] := hD
  refine lv_if_eq (tgt := 131) hx hb dX8_countComersAbove_83 (by decide) (fun c_6 => absurd c_6 (by decide)) (fun _ => ?_)
  refine lv_aload_n hx hb dX8_countComersAbove_86 rfl (lv_at hl 4 rfl) ?_
  refine va_get (ci := 8) (v := .ref h3) (C := RX8) (T := TX8) (N := 17) hx hb hg inX8 hown hK hP 4 rfl rfl 4 (by decide) (hg _ q_4_74) (fun _ h9 => h9) rfl dX8_countComersAbove_87 ?_
  refine lv_iload hx hb dX8_countComersAbove_90 (lv_at hl 0 rfl) ?_
  refine va_iald hx hb hK hP 1 0 rfl rfl (vin (by decide +kernel)) dX8_countComersAbove_92 ?_
  refine tpi (y := 0) (rfl) ?_
  refine lv_if_ne (tgt := 120) hx hb dX8_countComersAbove_93 (by decide) (fun c_7 => absurd c_7 (by decide)) (fun _ => ?_)
  refine lv_iload hx hb dX8_countComersAbove_96 (lv_at hl 0 rfl) ?_
  refine lv_if_eq (tgt := 120) hx hb dX8_countComersAbove_98 (by decide) (fun _ => ?_) (fun c_8 => absurd c_8 (by decide))
  refine lv_aload_n hx hb dX8_countComersAbove_120 rfl (lv_at hl 4 rfl) ?_
  refine va_get (ci := 8) (v := .ref h3) (C := RX8) (T := TX8) (N := 17) hx hb hg inX8 hown hK hP 4 rfl rfl 4 (by decide) (hg _ q_4_74) (fun _ h9 => h9) rfl dX8_countComersAbove_121 ?_
  refine lv_iload hx hb dX8_countComersAbove_124 (lv_at hl 0 rfl) ?_
  refine lv_dup2_11 hx hb dX8_countComersAbove_126 rfl rfl ?_
  refine va_iald hx hb hK hP 1 0 rfl rfl (vin (by decide +kernel)) dX8_countComersAbove_127 ?_
  refine tpi (y := 0) (rfl) ?_
  refine lv_iconst (v := 1) hx hb dX8_countComersAbove_128 (by decide) ?_
  refine lv_iadd hx hb dX8_countComersAbove_129 ?_
  refine tpi (y := 1) (by decide +kernel) ?_
  refine va_iast hx hb hK hP hD hS 1 0 rfl rfl (vin (by decide +kernel)) dX8_countComersAbove_130 (fun H locs hP hD hS => ?_)
  have hP : va_P V.1 vwCl [(h2, aI V 1 (fun _ => 0)), (h3, aI V 1 (upd (fun _ => 0) 0 1)), (h4, aI V 1 (fun _ => 0)), (h7, aI V 4 (fun _ => 0)), (h0, .inr (8, [.int 0, .int 1, .ref h8, .ref h9, .ref h3, .int 1, .int 1, .ref (y 19), .ref h10, .ref h5, .ref h7, .ref h2, .ref h6, .ref h4, .int 0, .int 0, .int 1]))] H := hP
  have hD : va_D A [(h2, aI V 1 (fun _ => 0)), (h3, aI V 1 (upd (fun _ => 0) 0 1)), (h4, aI V 1 (fun _ => 0)), (h7, aI V 4 (fun _ => 0)), (h0, .inr (8, [.int 0, .int 1, .ref h8, .ref h9, .ref h3, .int 1, .int 1, .ref (y 19), .ref h10, .ref h5, .ref h7, .ref h2, .ref h6, .ref h4, .int 0, .int 0, .int 1]))] := hD
  refine lv_iinc (v := 1) (lv' := [(4, .int 1), (5, .int 0), (3, .int 0), (2, .int 1), (0, .ref h0), (1, .int p1)]) hx hb dX8_countComersAbove_131 hl (k := 1) rfl (by decide +kernel) (by decide) rfl (fun ls hl => ?_)
  refine lv_goto (tgt := 53) hx hb dX8_countComersAbove_134 (by decide) ?_
  refine lv_iload hx hb dX8_countComersAbove_53 (lv_at hl 0 rfl) ?_
  refine lv_aload_n hx hb dX8_countComersAbove_55 rfl (lv_at hl 4 rfl) ?_
  refine va_get (ci := 8) (v := .int 1) (C := RX8) (T := TX8) (N := 17) hx hb hg inX8 hown hK hP 4 rfl rfl 6 (by decide) (hg _ q_4_80) (fun _ h9 => h9) rfl dX8_countComersAbove_56 ?_
  refine lv_icmp_ge (tgt := 137) hx hb dX8_countComersAbove_59 (by decide) (fun _ => ?_) (fun c_9 => absurd c_9 (by decide))
  refine lv_iinc (v := 1) (lv' := [(3, .int 1), (4, .int 1), (5, .int 0), (2, .int 1), (0, .ref h0), (1, .int p1)]) hx hb dX8_countComersAbove_137 hl (k := 2) rfl (by decide +kernel) (by decide) rfl (fun ls hl => ?_)
  refine lv_goto (tgt := 37) hx hb dX8_countComersAbove_140 (by decide) ?_
  refine lv_iload_n hx hb dX8_countComersAbove_37 rfl (lv_at hl 0 rfl) ?_
  refine lv_iload_n hx hb dX8_countComersAbove_38 rfl (lv_at hl 3 rfl) ?_
  refine lv_icmp_ge (tgt := 143) hx hb dX8_countComersAbove_39 (by decide) (fun _ => ?_) (fun c_10 => absurd c_10 (by decide))
  refine lv_iload_n hx hb dX8_countComersAbove_143 rfl (lv_at hl 3 rfl) ?_
  exact fiI hx hb hr hlk hK hP hD hS dX8_countComersAbove_144 (Nat.le_of_ble_eq_true rfl) (Nat.le_of_ble_eq_true rfl) (⟨rfl, rfl⟩)
set_option maxHeartbeats 4000000 in
set_option maxRecDepth 100000 in
theorem c_X8_reachTo_2 (l : Launch) (V : GV) (y : Nat → Nat) (h0 : Nat) (h1 : Nat) (h2 : Nat) (h3 : Nat) (h4 : Nat) (h5 : Nat) (h6 : Nat) (h7 : Nat) (h8 : Nat) (h9 : Nat) : Ct l V yX8_reachTo (.code yX8_reachTo cX8_reachTo 3 none) 1 [.ref h0, .int 1000000] [(h0, .inr (8, [.int 0, .int 1, .ref h5, .ref h6, .ref h2, .int 1, .int 1, .ref (y 19), .ref h7, .ref h8, .ref h4, .ref h1, .ref h9, .ref h3, .int 0, .int 0, .int 1]))] 0 0 (QV V (fun (w : va_W) => (w = [(h0, .inr (8, [.int 0, .int 1, .ref h5, .ref h6, .ref h2, .int 1, .int 1, .ref (y 19), .ref h7, .ref h8, .ref h4, .ref h1, .ref h9, .ref h3, .int 0, .int 0, .int 1]))]))) := by
  refine Ct.of (by decide) (Nat.le_of_ble_eq_true rfl) (fun p e s m below meth c A ls hx hb hr hml hown hlk hnm hg hP hK hD hE hA hS hl => ?_)
  have hl : lv_has ls 3 [(0, .ref h0), (1, .int 1000000)] := hl
  refine lv_aload_n hx hb dX8_reachTo_0 rfl (lv_at hl 0 rfl) ?_
  refine va_get (ci := 8) (v := .int 1) (C := RX8) (T := TX8) (N := 17) hx hb hg inX8 hown hK hP 0 rfl rfl 16 (by decide) (hg _ q_4_90) (fun _ h9 => h9) rfl dX8_reachTo_1 ?_
  refine lv_istore_n (lv' := [(2, .int 1), (0, .ref h0), (1, .int 1000000)]) hx hb dX8_reachTo_4 rfl hl (by decide) rfl (fun ls hl => ?_)
  refine lv_iload_n hx hb dX8_reachTo_5 rfl (lv_at hl 0 rfl) ?_
  refine lv_aload_n hx hb dX8_reachTo_6 rfl (lv_at hl 1 rfl) ?_
  refine va_get (ci := 8) (v := .int 1) (C := RX8) (T := TX8) (N := 17) hx hb hg inX8 hown hK hP 0 rfl rfl 1 (by decide) (hg _ q_4_67) (fun _ h9 => h9) rfl dX8_reachTo_7 ?_
  refine lv_icmp_ge (tgt := 42) hx hb dX8_reachTo_10 (by decide) (fun _ => ?_) (fun c_1 => absurd c_1 (by decide))
  exact fiV hx hb hr hlk hK hP hD hS dX8_reachTo_42 (Nat.le_of_ble_eq_true rfl) (Nat.le_of_ble_eq_true rfl) (rfl)
set_option maxHeartbeats 4000000 in
set_option maxRecDepth 100000 in
theorem c_X8_countComersAbove_1 (l : Launch) (V : GV) (y : Nat → Nat) (h0 : Nat) (p1 : Int32) (h2 : Nat) (h3 : Nat) (h4 : Nat) (h5 : Nat) (h6 : Nat) (h7 : Nat) (h8 : Nat) (h9 : Nat) (h10 : Nat) : Ct l V yX8_countComersAbove (.code yX8_countComersAbove cX8_countComersAbove 6 (some .int)) 3 [.ref h0, .int p1] [(h2, aI V 1 (fun _ => 0)), (h3, aI V 1 (fun _ => 0)), (h4, aI V 1 (fun _ => 0)), (h5, aI V 4 (fun _ => 0)), (h0, .inr (8, [.int 0, .int 1, .ref h6, .ref h7, .ref h3, .int 1, .int 1, .ref (y 19), .ref h8, .ref h9, .ref h5, .ref h2, .ref h10, .ref h4, .int 0, .int 0, .int 1]))] 0 0 (QI V (fun (r : Int32) (w : va_W) => (r = 1 ∧ w = [(h2, aI V 1 (fun _ => 0)), (h3, aI V 1 (upd (fun _ => 0) 0 1)), (h4, aI V 1 (fun _ => 0)), (h5, aI V 4 (fun _ => 0)), (h0, .inr (8, [.int 0, .int 1, .ref h6, .ref h7, .ref h3, .int 1, .int 1, .ref (y 19), .ref h8, .ref h9, .ref h5, .ref h2, .ref h10, .ref h4, .int 0, .int 0, .int 1]))]))) := by
  refine Ct.of (by decide) (Nat.le_of_ble_eq_true rfl) (fun p e s m below meth c A ls hx hb hr hml hown hlk hnm hg hP hK hD hE hA hS hl => ?_)
  have hl : lv_has ls 6 [(0, .ref h0), (1, .int p1)] := hl
  refine lv_aload_n hx hb dX8_countComersAbove_0 rfl (lv_at hl 0 rfl) ?_
  refine va_get (ci := 8) (v := .ref h3) (C := RX8) (T := TX8) (N := 17) hx hb hg inX8 hown hK hP 4 rfl rfl 4 (by decide) (hg _ q_4_74) (fun _ h9 => h9) rfl dX8_countComersAbove_1 ?_
  refine lv_iconst (v := 0) hx hb dX8_countComersAbove_4 (by decide) ?_
  refine lv_aload_n hx hb dX8_countComersAbove_5 rfl (lv_at hl 0 rfl) ?_
  refine va_get (ci := 8) (v := .int 1) (C := RX8) (T := TX8) (N := 17) hx hb hg inX8 hown hK hP 4 rfl rfl 5 (by decide) (hg _ q_4_76) (fun _ h9 => h9) rfl dX8_countComersAbove_6 ?_
  refine lv_iconst (v := 0) hx hb dX8_countComersAbove_9 (by decide) ?_
  refine jnV (wr := [(h2, aI V 1 (fun _ => 0)), (h4, aI V 1 (fun _ => 0)), (h5, aI V 4 (fun _ => 0)), (h0, .inr (8, [.int 0, .int 1, .ref h6, .ref h7, .ref h3, .int 1, .int 1, .ref (y 19), .ref h8, .ref h9, .ref h5, .ref h2, .ref h10, .ref h4, .int 0, .int 0, .int 1]))]) (rnS (rest := []) ⟨hx, hb, hml, hown, hg⟩ (c_J7_fill_fda19_0 l V h3) mt_J7_fill_fda19 q_4_172 ⟨Nat.le_of_ble_eq_true rfl, Nat.le_of_ble_eq_true rfl⟩ hK hP hD hS hA hE [1] rfl rfl rfl hl.1 rfl (Nat.le_of_ble_eq_true rfl) dX8_countComersAbove_10 ⟨Nat.le_of_ble_eq_true rfl, Nat.le_of_ble_eq_true rfl⟩) hP hD hS hA [1] [0, 2, 3, 4] rfl rfl rfl (by decide) (fun  w H locs hw hP hD hS => ?_)
  subst hw
  have hP : va_P V.1 vwCl [(h2, aI V 1 (fun _ => 0)), (h4, aI V 1 (fun _ => 0)), (h5, aI V 4 (fun _ => 0)), (h0, .inr (8, [.int 0, .int 1, .ref h6, .ref h7, .ref h3, .int 1, .int 1, .ref (y 19), .ref h8, .ref h9, .ref h5, .ref h2, .ref h10, .ref h4, .int 0, .int 0, .int 1])), (h3, aI V 1 (fun _ => 0))] H := hP
  have hD : va_D A [(h2, aI V 1 (fun _ => 0)), (h4, aI V 1 (fun _ => 0)), (h5, aI V 4 (fun _ => 0)), (h0, .inr (8, [.int 0, .int 1, .ref h6, .ref h7, .ref h3, .int 1, .int 1, .ref (y 19), .ref h8, .ref h9, .ref h5, .ref h2, .ref h10, .ref h4, .int 0, .int 0, .int 1])), (h3, aI V 1 (fun _ => 0))] := hD
  refine lv_aload_n hx hb dX8_countComersAbove_13 rfl (lv_at hl 0 rfl) ?_
  refine va_get (ci := 8) (v := .ref h4) (C := RX8) (T := TX8) (N := 17) hx hb hg inX8 hown hK hP 3 rfl rfl 13 (by decide) (hg _ q_4_87) (fun _ h9 => h9) rfl dX8_countComersAbove_14 ?_
  refine lv_iconst (v := 0) hx hb dX8_countComersAbove_17 (by decide) ?_
  refine lv_aload_n hx hb dX8_countComersAbove_18 rfl (lv_at hl 0 rfl) ?_
  refine va_get (ci := 8) (v := .int 1) (C := RX8) (T := TX8) (N := 17) hx hb hg inX8 hown hK hP 3 rfl rfl 5 (by decide) (hg _ q_4_76) (fun _ h9 => h9) rfl dX8_countComersAbove_19 ?_
  refine lv_iconst (v := 0) hx hb dX8_countComersAbove_22 (by decide) ?_
  refine jnV (wr := [(h2, aI V 1 (fun _ => 0)), (h5, aI V 4 (fun _ => 0)), (h0, .inr (8, [.int 0, .int 1, .ref h6, .ref h7, .ref h3, .int 1, .int 1, .ref (y 19), .ref h8, .ref h9, .ref h5, .ref h2, .ref h10, .ref h4, .int 0, .int 0, .int 1])), (h3, aI V 1 (fun _ => 0))]) (rnS (rest := []) ⟨hx, hb, hml, hown, hg⟩ (c_J7_fill_fda19_0 l V h4) mt_J7_fill_fda19 q_4_172 ⟨Nat.le_of_ble_eq_true rfl, Nat.le_of_ble_eq_true rfl⟩ hK hP hD hS hA hE [1] rfl rfl rfl hl.1 rfl (Nat.le_of_ble_eq_true rfl) dX8_countComersAbove_23 ⟨Nat.le_of_ble_eq_true rfl, Nat.le_of_ble_eq_true rfl⟩) hP hD hS hA [1] [0, 2, 3, 4] rfl rfl rfl (by decide) (fun  w H locs hw hP hD hS => ?_)
  subst hw
  have hP : va_P V.1 vwCl [(h2, aI V 1 (fun _ => 0)), (h5, aI V 4 (fun _ => 0)), (h0, .inr (8, [.int 0, .int 1, .ref h6, .ref h7, .ref h3, .int 1, .int 1, .ref (y 19), .ref h8, .ref h9, .ref h5, .ref h2, .ref h10, .ref h4, .int 0, .int 0, .int 1])), (h3, aI V 1 (fun _ => 0)), (h4, aI V 1 (fun _ => 0))] H := hP
  have hD : va_D A [(h2, aI V 1 (fun _ => 0)), (h5, aI V 4 (fun _ => 0)), (h0, .inr (8, [.int 0, .int 1, .ref h6, .ref h7, .ref h3, .int 1, .int 1, .ref (y 19), .ref h8, .ref h9, .ref h5, .ref h2, .ref h10, .ref h4, .int 0, .int 0, .int 1])), (h3, aI V 1 (fun _ => 0)), (h4, aI V 1 (fun _ => 0))] := hD
  refine lv_aload_n hx hb dX8_countComersAbove_26 rfl (lv_at hl 0 rfl) ?_
  refine va_get (ci := 8) (v := .ref h2) (C := RX8) (T := TX8) (N := 17) hx hb hg inX8 hown hK hP 2 rfl rfl 11 (by decide) (hg _ q_4_85) (fun _ h9 => h9) rfl dX8_countComersAbove_27 ?_
  refine lv_iconst (v := 0) hx hb dX8_countComersAbove_30 (by decide) ?_
  refine lv_iconst (v := 0) hx hb dX8_countComersAbove_31 (by decide) ?_
  refine va_iast hx hb hK hP hD hS 0 0 rfl rfl (vin (by decide +kernel)) dX8_countComersAbove_32 (fun H locs hP hD hS => ?_)
  have hP : va_P V.1 vwCl [(h2, aI V 1 (upd (fun _ => 0) 0 0)), (h5, aI V 4 (fun _ => 0)), (h0, .inr (8, [.int 0, .int 1, .ref h6, .ref h7, .ref h3, .int 1, .int 1, .ref (y 19), .ref h8, .ref h9, .ref h5, .ref h2, .ref h10, .ref h4, .int 0, .int 0, .int 1])), (h3, aI V 1 (fun _ => 0)), (h4, aI V 1 (fun _ => 0))] H := hP
  have hD : va_D A [(h2, aI V 1 (upd (fun _ => 0) 0 0)), (h5, aI V 4 (fun _ => 0)), (h0, .inr (8, [.int 0, .int 1, .ref h6, .ref h7, .ref h3, .int 1, .int 1, .ref (y 19), .ref h8, .ref h9, .ref h5, .ref h2, .ref h10, .ref h4, .int 0, .int 0, .int 1])), (h3, aI V 1 (fun _ => 0)), (h4, aI V 1 (fun _ => 0))] := hD
  have hP : va_P V.1 vwCl [(h2, aI V 1 (fun _ => 0)), (h5, aI V 4 (fun _ => 0)), (h0, .inr (8, [.int 0, .int 1, .ref h6, .ref h7, .ref h3, .int 1, .int 1, .ref (y 19), .ref h8, .ref h9, .ref h5, .ref h2, .ref h10, .ref h4, .int 0, .int 0, .int 1])), (h3, aI V 1 (fun _ => 0)), (h4, aI V 1 (fun _ => 0))] H := by rw [upd0] at hP; exact hP
  have hD : va_D A [(h2, aI V 1 (fun _ => 0)), (h5, aI V 4 (fun _ => 0)), (h0, .inr (8, [.int 0, .int 1, .ref h6, .ref h7, .ref h3, .int 1, .int 1, .ref (y 19), .ref h8, .ref h9, .ref h5, .ref h2, .ref h10, .ref h4, .int 0, .int 0, .int 1])), (h3, aI V 1 (fun _ => 0)), (h4, aI V 1 (fun _ => 0))] := by rw [upd0] at hD; exact hD
  refine lv_iconst (v := 1) hx hb dX8_countComersAbove_33 (by decide) ?_
  refine lv_istore_n (lv' := [(2, .int 1), (0, .ref h0), (1, .int p1)]) hx hb dX8_countComersAbove_34 rfl hl (by decide) rfl (fun ls hl => ?_)
  refine lv_iconst (v := 0) hx hb dX8_countComersAbove_35 (by decide) ?_
  refine lv_istore_n (lv' := [(3, .int 0), (2, .int 1), (0, .ref h0), (1, .int p1)]) hx hb dX8_countComersAbove_36 rfl hl (by decide) rfl (fun ls hl => ?_)
  refine lv_iload_n hx hb dX8_countComersAbove_37 rfl (lv_at hl 0 rfl) ?_
  refine lv_iload_n hx hb dX8_countComersAbove_38 rfl (lv_at hl 1 rfl) ?_
  refine lv_icmp_ge (tgt := 143) hx hb dX8_countComersAbove_39 (by decide) (fun c_1 => absurd c_1 (by decide)) (fun _ => ?_)
  refine lv_iload_n hx hb dX8_countComersAbove_42 rfl (lv_at hl 0 rfl) ?_
  refine lv_aload_n hx hb dX8_countComersAbove_43 rfl (lv_at hl 2 rfl) ?_
  refine va_get (ci := 8) (v := .int 1) (C := RX8) (T := TX8) (N := 17) hx hb hg inX8 hown hK hP 2 rfl rfl 1 (by decide) (hg _ q_4_67) (fun _ h9 => h9) rfl dX8_countComersAbove_44 ?_
  refine lv_icmp_ge (tgt := 143) hx hb dX8_countComersAbove_47 (by decide) (fun c_2 => absurd c_2 (by decide)) (fun _ => ?_)
  refine lv_iconst (v := 0) hx hb dX8_countComersAbove_50 (by decide) ?_
  refine lv_istore (lv' := [(4, .int 0), (3, .int 0), (2, .int 1), (0, .ref h0), (1, .int p1)]) hx hb dX8_countComersAbove_51 hl (by decide) rfl (fun ls hl => ?_)
  refine lv_iload hx hb dX8_countComersAbove_53 (lv_at hl 0 rfl) ?_
  refine lv_aload_n hx hb dX8_countComersAbove_55 rfl (lv_at hl 3 rfl) ?_
  refine va_get (ci := 8) (v := .int 1) (C := RX8) (T := TX8) (N := 17) hx hb hg inX8 hown hK hP 2 rfl rfl 6 (by decide) (hg _ q_4_80) (fun _ h9 => h9) rfl dX8_countComersAbove_56 ?_
  refine lv_icmp_ge (tgt := 137) hx hb dX8_countComersAbove_59 (by decide) (fun c_3 => absurd c_3 (by decide)) (fun _ => ?_)
  refine lv_aload_n hx hb dX8_countComersAbove_62 rfl (lv_at hl 3 rfl) ?_
  refine lv_aload_n hx hb dX8_countComersAbove_63 rfl (lv_at hl 3 rfl) ?_
  refine va_get (ci := 8) (v := .ref h2) (C := RX8) (T := TX8) (N := 17) hx hb hg inX8 hown hK hP 2 rfl rfl 11 (by decide) (hg _ q_4_85) (fun _ h9 => h9) rfl dX8_countComersAbove_64 ?_
  refine lv_iload_n hx hb dX8_countComersAbove_67 rfl (lv_at hl 1 rfl) ?_
  refine va_iald hx hb hK hP 0 0 rfl rfl (vin (by decide +kernel)) dX8_countComersAbove_68 ?_
  refine tpi (y := 0) (rfl) ?_
  refine lv_iload hx hb dX8_countComersAbove_69 (lv_at hl 0 rfl) ?_
  refine jnI (wr := [(h2, aI V 1 (fun _ => 0)), (h3, aI V 1 (fun _ => 0)), (h4, aI V 1 (fun _ => 0))]) (rnV (rest := []) ⟨hx, hb, hml, hown, hg⟩ (c_X8_behind_1 l V y h0 h2 h5 h6 h7 h3 h8 h9 h10 h4) mt_X8_behind q_4_182 ⟨Nat.le_of_ble_eq_true rfl, Nat.le_of_ble_eq_true rfl⟩ hK hP hD hS hA hE [1, 2] rfl rfl 2 rfl rfl rfl rfl hl.1 rfl (Nat.le_of_ble_eq_true rfl) dX8_countComersAbove_71 ⟨Nat.le_of_ble_eq_true rfl, Nat.le_of_ble_eq_true rfl⟩) hP hD hS hA [1, 2] [0, 3, 4] rfl rfl rfl (by decide) (fun r_4 w H locs hw hP hD hS => ?_)
  obtain ⟨rfl, rfl⟩ := hw
  have hP : va_P V.1 vwCl [(h2, aI V 1 (fun _ => 0)), (h3, aI V 1 (fun _ => 0)), (h4, aI V 1 (fun _ => 0)), (h5, aI V 4 (fun _ => 0)), (h0, .inr (8, [.int 0, .int 1, .ref h6, .ref h7, .ref h3, .int 1, .int 1, .ref (y 19), .ref h8, .ref h9, .ref h5, .ref h2, .ref h10, .ref h4, .int 0, .int 0, .int 1]))] H := hP
  have hD : va_D A [(h2, aI V 1 (fun _ => 0)), (h3, aI V 1 (fun _ => 0)), (h4, aI V 1 (fun _ => 0)), (h5, aI V 4 (fun _ => 0)), (h0, .inr (8, [.int 0, .int 1, .ref h6, .ref h7, .ref h3, .int 1, .int 1, .ref (y 19), .ref h8, .ref h9, .ref h5, .ref h2, .ref h10, .ref h4, .int 0, .int 0, .int 1]))] := hD
  refine lv_istore (lv' := [(5, .int 0), (4, .int 0), (3, .int 0), (2, .int 1), (0, .ref h0), (1, .int p1)]) hx hb dX8_countComersAbove_74 hl (by decide) rfl (fun ls hl => ?_)
  refine lv_aload_n hx hb dX8_countComersAbove_76 rfl (lv_at hl 4 rfl) ?_
  refine lv_iload hx hb dX8_countComersAbove_77 (lv_at hl 0 rfl) ?_
  refine lv_iload_n hx hb dX8_countComersAbove_79 rfl (lv_at hl 5 rfl) ?_
  refine jnI (wr := [(h2, aI V 1 (fun _ => 0)), (h3, aI V 1 (fun _ => 0)), (h4, aI V 1 (fun _ => 0)), (h5, aI V 4 (fun _ => 0))]) (rnV (rest := []) ⟨hx, hb, hml, hown, hg⟩ (c_X8_isAbove_1 l V y h0 p1 h2 h3 h4 h5 h6 h7 h8 h9 h10) mt_X8_isAbove q_4_205 ⟨Nat.le_of_ble_eq_true rfl, Nat.le_of_ble_eq_true rfl⟩ hK hP hD hS hA hE [4] rfl rfl 4 rfl rfl rfl rfl hl.1 rfl (Nat.le_of_ble_eq_true rfl) dX8_countComersAbove_80 ⟨Nat.le_of_ble_eq_true rfl, Nat.le_of_ble_eq_true rfl⟩) hP hD hS hA [4] [0, 1, 2, 3] rfl rfl rfl (by decide) (fun r_5 w H locs hw hP hD hS => ?_)
  obtain ⟨rfl, rfl⟩ := hw
  have hP : va_P V.1 vwCl [(h2, aI V 1 (fun _ => 0)), (h3, aI V 1 (fun _ => 0)), (h4, aI V 1 (fun _ => 0)), (h5, aI V 4 (fun _ => 0)), (h0, .inr (8, [.int 0, .int 1, .ref h6, .ref h7, .ref h3, .int 1, .int 1, .ref (y 19), .ref h8, .ref h9, .ref h5, .ref h2, .ref h10, .ref h4, .int 0, .int 0, .int 1]))] H := hP
  have hD : va_D A [(h2, aI V 1 (fun _ => 0)), (h3, aI V 1 (fun _ => 0)), (h4, aI V 1 (fun _ => 0)), (h5, aI V 4 (fun _ => 0)), (h0, .inr (8, [.int 0, .int 1, .ref h6, .ref h7, .ref h3, .int 1, .int 1, .ref (y 19), .ref h8, .ref h9, .ref h5, .ref h2, .ref h10, .ref h4, .int 0, .int 0, .int 1]))] := hD
  refine lv_if_eq (tgt := 131) hx hb dX8_countComersAbove_83 (by decide) (fun c_6 => absurd c_6 (by decide)) (fun _ => ?_)
  refine lv_aload_n hx hb dX8_countComersAbove_86 rfl (lv_at hl 4 rfl) ?_
  refine va_get (ci := 8) (v := .ref h3) (C := RX8) (T := TX8) (N := 17) hx hb hg inX8 hown hK hP 4 rfl rfl 4 (by decide) (hg _ q_4_74) (fun _ h9 => h9) rfl dX8_countComersAbove_87 ?_
  refine lv_iload hx hb dX8_countComersAbove_90 (lv_at hl 0 rfl) ?_
  refine va_iald hx hb hK hP 1 0 rfl rfl (vin (by decide +kernel)) dX8_countComersAbove_92 ?_
  refine tpi (y := 0) (rfl) ?_
  refine lv_if_ne (tgt := 120) hx hb dX8_countComersAbove_93 (by decide) (fun c_7 => absurd c_7 (by decide)) (fun _ => ?_)
  refine lv_iload hx hb dX8_countComersAbove_96 (lv_at hl 0 rfl) ?_
  refine lv_if_eq (tgt := 120) hx hb dX8_countComersAbove_98 (by decide) (fun _ => ?_) (fun c_8 => absurd c_8 (by decide))
  refine lv_aload_n hx hb dX8_countComersAbove_120 rfl (lv_at hl 4 rfl) ?_
  refine va_get (ci := 8) (v := .ref h3) (C := RX8) (T := TX8) (N := 17) hx hb hg inX8 hown hK hP 4 rfl rfl 4 (by decide) (hg _ q_4_74) (fun _ h9 => h9) rfl dX8_countComersAbove_121 ?_
  refine lv_iload hx hb dX8_countComersAbove_124 (lv_at hl 0 rfl) ?_
  refine lv_dup2_11 hx hb dX8_countComersAbove_126 rfl rfl ?_
  refine va_iald hx hb hK hP 1 0 rfl rfl (vin (by decide +kernel)) dX8_countComersAbove_127 ?_
  refine tpi (y := 0) (rfl) ?_
  refine lv_iconst (v := 1) hx hb dX8_countComersAbove_128 (by decide) ?_
  refine lv_iadd hx hb dX8_countComersAbove_129 ?_
  refine tpi (y := 1) (by decide +kernel) ?_
  refine va_iast hx hb hK hP hD hS 1 0 rfl rfl (vin (by decide +kernel)) dX8_countComersAbove_130 (fun H locs hP hD hS => ?_)
  have hP : va_P V.1 vwCl [(h2, aI V 1 (fun _ => 0)), (h3, aI V 1 (upd (fun _ => 0) 0 1)), (h4, aI V 1 (fun _ => 0)), (h5, aI V 4 (fun _ => 0)), (h0, .inr (8, [.int 0, .int 1, .ref h6, .ref h7, .ref h3, .int 1, .int 1, .ref (y 19), .ref h8, .ref h9, .ref h5, .ref h2, .ref h10, .ref h4, .int 0, .int 0, .int 1]))] H := hP
  have hD : va_D A [(h2, aI V 1 (fun _ => 0)), (h3, aI V 1 (upd (fun _ => 0) 0 1)), (h4, aI V 1 (fun _ => 0)), (h5, aI V 4 (fun _ => 0)), (h0, .inr (8, [.int 0, .int 1, .ref h6, .ref h7, .ref h3, .int 1, .int 1, .ref (y 19), .ref h8, .ref h9, .ref h5, .ref h2, .ref h10, .ref h4, .int 0, .int 0, .int 1]))] := hD
  refine lv_iinc (v := 1) (lv' := [(4, .int 1), (5, .int 0), (3, .int 0), (2, .int 1), (0, .ref h0), (1, .int p1)]) hx hb dX8_countComersAbove_131 hl (k := 1) rfl (by decide +kernel) (by decide) rfl (fun ls hl => ?_)
  refine lv_goto (tgt := 53) hx hb dX8_countComersAbove_134 (by decide) ?_
  refine lv_iload hx hb dX8_countComersAbove_53 (lv_at hl 0 rfl) ?_
  refine lv_aload_n hx hb dX8_countComersAbove_55 rfl (lv_at hl 4 rfl) ?_
  refine va_get (ci := 8) (v := .int 1) (C := RX8) (T := TX8) (N := 17) hx hb hg inX8 hown hK hP 4 rfl rfl 6 (by decide) (hg _ q_4_80) (fun _ h9 => h9) rfl dX8_countComersAbove_56 ?_
  refine lv_icmp_ge (tgt := 137) hx hb dX8_countComersAbove_59 (by decide) (fun _ => ?_) (fun c_9 => absurd c_9 (by decide))
  refine lv_iinc (v := 1) (lv' := [(3, .int 1), (4, .int 1), (5, .int 0), (2, .int 1), (0, .ref h0), (1, .int p1)]) hx hb dX8_countComersAbove_137 hl (k := 2) rfl (by decide +kernel) (by decide) rfl (fun ls hl => ?_)
  refine lv_goto (tgt := 37) hx hb dX8_countComersAbove_140 (by decide) ?_
  refine lv_iload_n hx hb dX8_countComersAbove_37 rfl (lv_at hl 0 rfl) ?_
  refine lv_iload_n hx hb dX8_countComersAbove_38 rfl (lv_at hl 3 rfl) ?_
  refine lv_icmp_ge (tgt := 143) hx hb dX8_countComersAbove_39 (by decide) (fun _ => ?_) (fun c_10 => absurd c_10 (by decide))
  refine lv_iload_n hx hb dX8_countComersAbove_143 rfl (lv_at hl 3 rfl) ?_
  exact fiI hx hb hr hlk hK hP hD hS dX8_countComersAbove_144 (Nat.le_of_ble_eq_true rfl) (Nat.le_of_ble_eq_true rfl) (⟨rfl, rfl⟩)
theorem dX8_longestAbove_0 : decode cX8_longestAbove 0 = .ok (.aload_n 0, 1) := by decide +kernel
theorem q_4_199 : Cond.constant "BeaconDelay$Ways" 136 (1000000 : Int32) ∈ gw := gw_4 (i := 199) (by decide +kernel) rfl
theorem dX8_longestAbove_1 : decode cX8_longestAbove 1 = .ok (.ldc 136, 2) := by decide +kernel
theorem q_4_200 : Cond.methodLink "BeaconDelay$Ways" 137 yX8_reachTo ∈ gw := gw_4 (i := 200) (by decide +kernel) rfl
theorem dX8_longestAbove_3 : decode cX8_longestAbove 3 = .ok (.invokevirtual 137, 3) := by decide +kernel
theorem dX8_longestAbove_6 : decode cX8_longestAbove 6 = .ok (.aload_n 0, 1) := by decide +kernel
theorem dX8_longestAbove_7 : decode cX8_longestAbove 7 = .ok (.iload_n 1, 1) := by decide +kernel
theorem q_4_204 : Cond.code yX8_countComersAbove prog_10_method_24_code 6 (some FieldType.int) ∈ gw := gw_4 (i := 204) (rfl) rfl
theorem q_4_203 : Cond.instanceMethod yX8_countComersAbove ∈ gw := gw_4 (i := 203) (by decide +kernel) rfl
theorem q_s_37 : Cond.selects "BeaconDelay$Ways" yX8_countComersAbove yX8_countComersAbove ∈ gw := gw_s (i := 37) (by decide +kernel) rfl
theorem mt_X8_countComersAbove : MtV yX8_countComersAbove cX8_countComersAbove 6 (some .int) 1 := ⟨⟨q_4_204, q_1_18, by decide +kernel, by decide +kernel, by decide +kernel⟩, q_4_203, q_s_37⟩
theorem q_4_201 : Cond.methodLink "BeaconDelay$Ways" 140 yX8_countComersAbove ∈ gw := gw_4 (i := 201) (by decide +kernel) rfl
theorem dX8_longestAbove_8 : decode cX8_longestAbove 8 = .ok (.invokevirtual 140, 3) := by decide +kernel
theorem dX8_longestAbove_11 : decode cX8_longestAbove 11 = .ok (.istore_n 2, 1) := by decide +kernel
theorem dX8_longestAbove_12 : decode cX8_longestAbove 12 = .ok (.iconst 0, 1) := by decide +kernel
theorem dX8_longestAbove_13 : decode cX8_longestAbove 13 = .ok (.istore_n 3, 1) := by decide +kernel
theorem dX8_longestAbove_14 : decode cX8_longestAbove 14 = .ok (.iconst 0, 1) := by decide +kernel
theorem dX8_longestAbove_15 : decode cX8_longestAbove 15 = .ok (.istore 4, 2) := by decide +kernel
theorem dX8_longestAbove_17 : decode cX8_longestAbove 17 = .ok (.aload_n 0, 1) := by decide +kernel
theorem dX8_longestAbove_18 : decode cX8_longestAbove 18 = .ok (.getfield 50, 3) := by decide +kernel
theorem dX8_longestAbove_21 : decode cX8_longestAbove 21 = .ok (.iconst 0, 1) := by decide +kernel
theorem dX8_longestAbove_22 : decode cX8_longestAbove 22 = .ok (.iaload, 1) := by decide +kernel
theorem dX8_longestAbove_23 : decode cX8_longestAbove 23 = .ok (.ifCond .ne 7, 3) := by decide +kernel
theorem dX8_longestAbove_30 : decode cX8_longestAbove 30 = .ok (.iconst 0, 1) := by decide +kernel
theorem dX8_longestAbove_31 : decode cX8_longestAbove 31 = .ok (.istore 5, 2) := by decide +kernel
theorem dX8_longestAbove_33 : decode cX8_longestAbove 33 = .ok (.aload_n 0, 1) := by decide +kernel
theorem dX8_longestAbove_34 : decode cX8_longestAbove 34 = .ok (.getfield 47, 3) := by decide +kernel
theorem dX8_longestAbove_37 : decode cX8_longestAbove 37 = .ok (.iconst 0, 1) := by decide +kernel
theorem dX8_longestAbove_38 : decode cX8_longestAbove 38 = .ok (.iconst 0, 1) := by decide +kernel
theorem dX8_longestAbove_39 : decode cX8_longestAbove 39 = .ok (.iastore, 1) := by decide +kernel
theorem dX8_longestAbove_40 : decode cX8_longestAbove 40 = .ok (.iload 4, 2) := by decide +kernel
theorem dX8_longestAbove_42 : decode cX8_longestAbove 42 = .ok (.iload 5, 2) := by decide +kernel
theorem dX8_longestAbove_44 : decode cX8_longestAbove 44 = .ok (.if_icmp .ge 145, 3) := by decide +kernel
theorem dX8_longestAbove_189 : decode cX8_longestAbove 189 = .ok (.iload 4, 2) := by decide +kernel
theorem dX8_longestAbove_191 : decode cX8_longestAbove 191 = .ok (.iload_n 2, 1) := by decide +kernel
theorem dX8_longestAbove_192 : decode cX8_longestAbove 192 = .ok (.if_icmp .ge 7, 3) := by decide +kernel
theorem dX8_longestAbove_195 : decode cX8_longestAbove 195 = .ok (.iconst (-1), 1) := by decide +kernel
theorem dX8_longestAbove_196 : decode cX8_longestAbove 196 = .ok (.goto 4, 3) := by decide +kernel
theorem dX8_longestAbove_200 : decode cX8_longestAbove 200 = .ok (.ireturn, 1) := by decide +kernel
set_option maxHeartbeats 4000000 in
set_option maxRecDepth 100000 in
theorem c_X8_longestAbove_0 (l : Launch) (V : GV) (y : Nat → Nat) (h0 : Nat) (p1 : Int32) (h2 : Nat) (h3 : Nat) (h4 : Nat) (h5 : Nat) (h6 : Nat) (h7 : Nat) (h8 : Nat) (h9 : Nat) (h10 : Nat) : Ct l V yX8_longestAbove (.code yX8_longestAbove cX8_longestAbove 9 (some .int)) 4 [.ref h0, .int p1] [(h2, aI V 1 (fun _ => 0)), (h3, aI V 1 (fun _ => 0)), (h4, aI V 1 (fun _ => 0)), (h7, aI V 4 (fun _ => 0)), (h0, .inr (8, [.int 0, .int 1, .ref h8, .ref h9, .ref h3, .int 1, .int 1, .ref (y 19), .ref h10, .ref h5, .ref h7, .ref h2, .ref h6, .ref h4, .int 0, .int 0, .int 1]))] 0 0 (QI V (fun (r : Int32) (w : va_W) => (r = (-1) ∧ w = [(h2, aI V 1 (fun _ => 0)), (h3, aI V 1 (upd (fun _ => 0) 0 1)), (h4, aI V 1 (fun _ => 0)), (h7, aI V 4 (fun _ => 0)), (h0, .inr (8, [.int 0, .int 1, .ref h8, .ref h9, .ref h3, .int 1, .int 1, .ref (y 19), .ref h10, .ref h5, .ref h7, .ref h2, .ref h6, .ref h4, .int 0, .int 0, .int 1]))]))) := by
  refine Ct.of (by decide) (Nat.le_of_ble_eq_true rfl) (fun p e s m below meth c A ls hx hb hr hml hown hlk hnm hg hP hK hD hE hA hS hl => ?_)
  have hl : lv_has ls 9 [(0, .ref h0), (1, .int p1)] := hl
  refine lv_aload_n hx hb dX8_longestAbove_0 rfl (lv_at hl 0 rfl) ?_
  refine lv_ldc (v := 1000000) hx hb hown (hg _ q_4_199) dX8_longestAbove_1 ?_
  refine jnV (wr := [(h2, aI V 1 (fun _ => 0)), (h3, aI V 1 (fun _ => 0)), (h4, aI V 1 (fun _ => 0)), (h7, aI V 4 (fun _ => 0))]) (rnV (rest := []) ⟨hx, hb, hml, hown, hg⟩ (c_X8_reachTo_2 l V y h0 h2 h3 h4 h7 h8 h9 h10 h5 h6) mt_X8_reachTo q_4_200 ⟨Nat.le_of_ble_eq_true rfl, Nat.le_of_ble_eq_true rfl⟩ hK hP hD hS hA hE [4] rfl rfl 4 rfl rfl rfl rfl hl.1 rfl (Nat.le_of_ble_eq_true rfl) dX8_longestAbove_3 ⟨Nat.le_of_ble_eq_true rfl, Nat.le_of_ble_eq_true rfl⟩) hP hD hS hA [4] [0, 1, 2, 3] rfl rfl rfl (by decide) (fun  w H locs hw hP hD hS => ?_)
  subst hw
  have hP : va_P V.1 vwCl [(h2, aI V 1 (fun _ => 0)), (h3, aI V 1 (fun _ => 0)), (h4, aI V 1 (fun _ => 0)), (h7, aI V 4 (fun _ => 0)), (h0, .inr (8, [.int 0, .int 1, .ref h8, .ref h9, .ref h3, .int 1, .int 1, .ref (y 19), .ref h10, .ref h5, .ref h7, .ref h2, .ref h6, .ref h4, .int 0, .int 0, .int 1]))] H := hP
  have hD : va_D A [(h2, aI V 1 (fun _ => 0)), (h3, aI V 1 (fun _ => 0)), (h4, aI V 1 (fun _ => 0)), (h7, aI V 4 (fun _ => 0)), (h0, .inr (8, [.int 0, .int 1, .ref h8, .ref h9, .ref h3, .int 1, .int 1, .ref (y 19), .ref h10, .ref h5, .ref h7, .ref h2, .ref h6, .ref h4, .int 0, .int 0, .int 1]))] := hD
  refine lv_aload_n hx hb dX8_longestAbove_6 rfl (lv_at hl 0 rfl) ?_
  refine lv_iload_n hx hb dX8_longestAbove_7 rfl (lv_at hl 1 rfl) ?_
  refine jnI (wr := []) (rnV (rest := []) ⟨hx, hb, hml, hown, hg⟩ (c_X8_countComersAbove_1 l V y h0 p1 h2 h3 h4 h7 h8 h9 h10 h5 h6) mt_X8_countComersAbove q_4_201 ⟨Nat.le_of_ble_eq_true rfl, Nat.le_of_ble_eq_true rfl⟩ hK hP hD hS hA hE [0, 1, 2, 3, 4] rfl rfl 4 rfl rfl rfl rfl hl.1 rfl (Nat.le_of_ble_eq_true rfl) dX8_longestAbove_8 ⟨Nat.le_of_ble_eq_true rfl, Nat.le_of_ble_eq_true rfl⟩) hP hD hS hA [0, 1, 2, 3, 4] [] rfl rfl rfl (by decide) (fun r_1 w H locs hw hP hD hS => ?_)
  obtain ⟨rfl, rfl⟩ := hw
  have hP : va_P V.1 vwCl [(h2, aI V 1 (fun _ => 0)), (h3, aI V 1 (upd (fun _ => 0) 0 1)), (h4, aI V 1 (fun _ => 0)), (h7, aI V 4 (fun _ => 0)), (h0, .inr (8, [.int 0, .int 1, .ref h8, .ref h9, .ref h3, .int 1, .int 1, .ref (y 19), .ref h10, .ref h5, .ref h7, .ref h2, .ref h6, .ref h4, .int 0, .int 0, .int 1]))] H := hP
  have hD : va_D A [(h2, aI V 1 (fun _ => 0)), (h3, aI V 1 (upd (fun _ => 0) 0 1)), (h4, aI V 1 (fun _ => 0)), (h7, aI V 4 (fun _ => 0)), (h0, .inr (8, [.int 0, .int 1, .ref h8, .ref h9, .ref h3, .int 1, .int 1, .ref (y 19), .ref h10, .ref h5, .ref h7, .ref h2, .ref h6, .ref h4, .int 0, .int 0, .int 1]))] := hD
  refine lv_istore_n (lv' := [(2, .int 1), (0, .ref h0), (1, .int p1)]) hx hb dX8_longestAbove_11 rfl hl (by decide) rfl (fun ls hl => ?_)
  refine lv_iconst (v := 0) hx hb dX8_longestAbove_12 (by decide) ?_
  refine lv_istore_n (lv' := [(3, .int 0), (2, .int 1), (0, .ref h0), (1, .int p1)]) hx hb dX8_longestAbove_13 rfl hl (by decide) rfl (fun ls hl => ?_)
  refine lv_iconst (v := 0) hx hb dX8_longestAbove_14 (by decide) ?_
  refine lv_istore (lv' := [(4, .int 0), (3, .int 0), (2, .int 1), (0, .ref h0), (1, .int p1)]) hx hb dX8_longestAbove_15 hl (by decide) rfl (fun ls hl => ?_)
  refine lv_aload_n hx hb dX8_longestAbove_17 rfl (lv_at hl 3 rfl) ?_
  refine va_get (ci := 8) (v := .ref h3) (C := RX8) (T := TX8) (N := 17) hx hb hg inX8 hown hK hP 4 rfl rfl 4 (by decide) (hg _ q_4_74) (fun _ h9 => h9) rfl dX8_longestAbove_18 ?_
  refine lv_iconst (v := 0) hx hb dX8_longestAbove_21 (by decide) ?_
  refine va_iald hx hb hK hP 1 0 rfl rfl (vin (by decide +kernel)) dX8_longestAbove_22 ?_
  refine tpi (y := 1) (rfl) ?_
  refine lv_if_ne (tgt := 30) hx hb dX8_longestAbove_23 (by decide) (fun _ => ?_) (fun c_2 => absurd c_2 (by decide))
  refine lv_iconst (v := 0) hx hb dX8_longestAbove_30 (by decide) ?_
  refine lv_istore (lv' := [(5, .int 0), (4, .int 0), (3, .int 0), (2, .int 1), (0, .ref h0), (1, .int p1)]) hx hb dX8_longestAbove_31 hl (by decide) rfl (fun ls hl => ?_)
  refine lv_aload_n hx hb dX8_longestAbove_33 rfl (lv_at hl 4 rfl) ?_
  refine va_get (ci := 8) (v := .ref h2) (C := RX8) (T := TX8) (N := 17) hx hb hg inX8 hown hK hP 4 rfl rfl 11 (by decide) (hg _ q_4_85) (fun _ h9 => h9) rfl dX8_longestAbove_34 ?_
  refine lv_iconst (v := 0) hx hb dX8_longestAbove_37 (by decide) ?_
  refine lv_iconst (v := 0) hx hb dX8_longestAbove_38 (by decide) ?_
  refine va_iast hx hb hK hP hD hS 0 0 rfl rfl (vin (by decide +kernel)) dX8_longestAbove_39 (fun H locs hP hD hS => ?_)
  have hP : va_P V.1 vwCl [(h2, aI V 1 (upd (fun _ => 0) 0 0)), (h3, aI V 1 (upd (fun _ => 0) 0 1)), (h4, aI V 1 (fun _ => 0)), (h7, aI V 4 (fun _ => 0)), (h0, .inr (8, [.int 0, .int 1, .ref h8, .ref h9, .ref h3, .int 1, .int 1, .ref (y 19), .ref h10, .ref h5, .ref h7, .ref h2, .ref h6, .ref h4, .int 0, .int 0, .int 1]))] H := hP
  have hD : va_D A [(h2, aI V 1 (upd (fun _ => 0) 0 0)), (h3, aI V 1 (upd (fun _ => 0) 0 1)), (h4, aI V 1 (fun _ => 0)), (h7, aI V 4 (fun _ => 0)), (h0, .inr (8, [.int 0, .int 1, .ref h8, .ref h9, .ref h3, .int 1, .int 1, .ref (y 19), .ref h10, .ref h5, .ref h7, .ref h2, .ref h6, .ref h4, .int 0, .int 0, .int 1]))] := hD
  have hP : va_P V.1 vwCl [(h2, aI V 1 (fun _ => 0)), (h3, aI V 1 (upd (fun _ => 0) 0 1)), (h4, aI V 1 (fun _ => 0)), (h7, aI V 4 (fun _ => 0)), (h0, .inr (8, [.int 0, .int 1, .ref h8, .ref h9, .ref h3, .int 1, .int 1, .ref (y 19), .ref h10, .ref h5, .ref h7, .ref h2, .ref h6, .ref h4, .int 0, .int 0, .int 1]))] H := by rw [upd0] at hP; exact hP
  have hD : va_D A [(h2, aI V 1 (fun _ => 0)), (h3, aI V 1 (upd (fun _ => 0) 0 1)), (h4, aI V 1 (fun _ => 0)), (h7, aI V 4 (fun _ => 0)), (h0, .inr (8, [.int 0, .int 1, .ref h8, .ref h9, .ref h3, .int 1, .int 1, .ref (y 19), .ref h10, .ref h5, .ref h7, .ref h2, .ref h6, .ref h4, .int 0, .int 0, .int 1]))] := by rw [upd0] at hD; exact hD
  refine lv_iload hx hb dX8_longestAbove_40 (lv_at hl 1 rfl) ?_
  refine lv_iload hx hb dX8_longestAbove_42 (lv_at hl 0 rfl) ?_
  refine lv_icmp_ge (tgt := 189) hx hb dX8_longestAbove_44 (by decide) (fun _ => ?_) (fun c_3 => absurd c_3 (by decide))
  refine lv_iload hx hb dX8_longestAbove_189 (lv_at hl 1 rfl) ?_
  refine lv_iload_n hx hb dX8_longestAbove_191 rfl (lv_at hl 3 rfl) ?_
  refine lv_icmp_ge (tgt := 199) hx hb dX8_longestAbove_192 (by decide) (fun c_4 => absurd c_4 (by decide)) (fun _ => ?_)
  refine lv_iconst (v := (-1)) hx hb dX8_longestAbove_195 (by decide) ?_
  refine lv_goto (tgt := 200) hx hb dX8_longestAbove_196 (by decide) ?_
  exact fiI hx hb hr hlk hK hP hD hS dX8_longestAbove_200 (Nat.le_of_ble_eq_true rfl) (Nat.le_of_ble_eq_true rfl) (⟨rfl, rfl⟩)
theorem dX9_keeps_0 : decode cX9_keeps 0 = .ok (.iload_n 1, 1) := by decide +kernel
theorem q_4_51 : Cond.code yX9_isHeight prog_1_method_38_code 1 (some FieldType.boolean) ∈ gw := gw_4 (i := 51) (rfl) rfl
theorem q_4_50 : Cond.static yX9_isHeight ∈ gw := gw_4 (i := 50) (by decide +kernel) rfl
theorem mt_X9_isHeight : MtS yX9_isHeight cX9_isHeight 1 (some .boolean) 1 := ⟨⟨q_4_51, q_1_1, by decide +kernel, by decide +kernel, by decide +kernel⟩, q_4_50⟩
theorem q_4_49 : Cond.methodLink "BeaconDelay" 252 yX9_isHeight ∈ gw := gw_4 (i := 49) (by decide +kernel) rfl
theorem dX9_keeps_1 : decode cX9_keeps 1 = .ok (.invokestatic 252, 3) := by decide +kernel
theorem dX9_keeps_4 : decode cX9_keeps 4 = .ok (.ifCond .eq 17, 3) := by decide +kernel
theorem dX9_keeps_21 : decode cX9_keeps 21 = .ok (.bipush (-3), 2) := by decide +kernel
theorem dX9_keeps_23 : decode cX9_keeps 23 = .ok (.ireturn, 1) := by decide +kernel
theorem dX9_keeps_7 : decode cX9_keeps 7 = .ok (.aload_n 0, 1) := by decide +kernel
theorem q_4_194 : Cond.constant "BeaconDelay" 279 (1000000 : Int32) ∈ gw := gw_4 (i := 194) (by decide +kernel) rfl
theorem dX9_keeps_8 : decode cX9_keeps 8 = .ok (.ldc_w 279, 3) := by decide +kernel
theorem q_4_55 : Cond.code yX9_waysFromNow prog_1_method_37_code 2 (some (FieldType.object "BeaconDelay$Ways")) ∈ gw := gw_4 (i := 55) (rfl) rfl
theorem q_4_54 : Cond.instanceMethod yX9_waysFromNow ∈ gw := gw_4 (i := 54) (by decide +kernel) rfl
theorem q_s_32 : Cond.selects "BeaconDelay" yX9_waysFromNow yX9_waysFromNow ∈ gw := gw_s (i := 32) (by decide +kernel) rfl
theorem mt_X9_waysFromNow : MtV yX9_waysFromNow cX9_waysFromNow 2 (some (.object "BeaconDelay$Ways")) 1 := ⟨⟨q_4_55, q_1_1, by decide +kernel, by decide +kernel, by decide +kernel⟩, q_4_54, q_s_32⟩
theorem q_4_52 : Cond.methodLink "BeaconDelay" 255 yX9_waysFromNow ∈ gw := gw_4 (i := 52) (by decide +kernel) rfl
theorem dX9_keeps_11 : decode cX9_keeps 11 = .ok (.invokevirtual 255, 3) := by decide +kernel
theorem dX9_keeps_14 : decode cX9_keeps 14 = .ok (.iload_n 1, 1) := by decide +kernel
theorem q_4_198 : Cond.code yX8_longestAbove prog_10_method_23_code 9 (some FieldType.int) ∈ gw := gw_4 (i := 198) (rfl) rfl
theorem q_4_196 : Cond.instanceMethod yX8_longestAbove ∈ gw := gw_4 (i := 196) (by decide +kernel) rfl
theorem q_4_197 : Cond.selects "BeaconDelay$Ways" yX8_longestAbove yX8_longestAbove ∈ gw := gw_4 (i := 197) (by decide +kernel) rfl
theorem mt_X8_longestAbove : MtV yX8_longestAbove cX8_longestAbove 9 (some .int) 1 := ⟨⟨q_4_198, q_1_18, by decide +kernel, by decide +kernel, by decide +kernel⟩, q_4_196, q_4_197⟩
theorem q_4_195 : Cond.methodLink "BeaconDelay" 280 yX8_longestAbove ∈ gw := gw_4 (i := 195) (by decide +kernel) rfl
theorem dX9_keeps_15 : decode cX9_keeps 15 = .ok (.invokevirtual 280, 3) := by decide +kernel
theorem dX9_keeps_18 : decode cX9_keeps 18 = .ok (.goto 5, 3) := by decide +kernel
set_option maxHeartbeats 4000000 in
set_option maxRecDepth 100000 in
theorem c_X9_keeps_0 (l : Launch) (V : GV) (y : Nat → Nat) (p0 : Int32) : Ct l V yX9_keeps (.code yX9_keeps cX9_keeps 2 (some .int)) 5 [.ref (y 0), .int p0] [(y 0, .inr (9, [.ref (y 1), .int 0, .ref (y 2), .ref (y 10), .ref (y 19), .ref (y 25), .ref (y 26), .ref (y 30), .ref (y 31), .ref (y 32), .null, .null, .int 0, .int 0, .int 0])), (y 2, .inr (1, [.int 0, .int 0, .int 0, .int 0, .int 0, .int 0, .ref (y 3), .ref (y 4), .ref (y 5), .ref (y 6), .ref (y 7), .ref (y 8), .ref (y 9), .int 0, .int 0, .int 0, .int 0, .int 0]))] 10 32 (QI V (fun (r : Int32) (w : va_W) => (p0 < 0 ∧ r = (-3) ∧ w = [(y 0, .inr (9, [.ref (y 1), .int 0, .ref (y 2), .ref (y 10), .ref (y 19), .ref (y 25), .ref (y 26), .ref (y 30), .ref (y 31), .ref (y 32), .null, .null, .int 0, .int 0, .int 0])), (y 2, .inr (1, [.int 0, .int 0, .int 0, .int 0, .int 0, .int 0, .ref (y 3), .ref (y 4), .ref (y 5), .ref (y 6), .ref (y 7), .ref (y 8), .ref (y 9), .int 0, .int 0, .int 0, .int 0, .int 0]))]) ∨ ((¬ p0 < 0) ∧ 4 < p0 ∧ r = (-3) ∧ w = [(y 0, .inr (9, [.ref (y 1), .int 0, .ref (y 2), .ref (y 10), .ref (y 19), .ref (y 25), .ref (y 26), .ref (y 30), .ref (y 31), .ref (y 32), .null, .null, .int 0, .int 0, .int 0])), (y 2, .inr (1, [.int 0, .int 0, .int 0, .int 0, .int 0, .int 0, .ref (y 3), .ref (y 4), .ref (y 5), .ref (y 6), .ref (y 7), .ref (y 8), .ref (y 9), .int 0, .int 0, .int 0, .int 0, .int 0]))]) ∨ (∃ (q_11 : Nat) (q_12 : Nat) (q_13 : Nat) (q_14 : Nat) (q_15 : Nat) (q_16 : Nat) (q_17 : Nat) (q_18 : Nat) (q_19 : Nat) (q_20 : Nat), (¬ p0 < 0) ∧ (¬ 4 < p0) ∧ r = (-1) ∧ w = [(y 0, .inr (9, [.ref (y 1), .int 0, .ref (y 2), .ref (y 10), .ref (y 19), .ref (y 25), .ref (y 26), .ref (y 30), .ref (y 31), .ref (y 32), .ref q_11, .null, .int 0, .int 0, .int 0])), (y 2, .inr (1, [.int 0, .int 0, .int 0, .int 0, .int 0, .int 0, .ref (y 3), .ref (y 4), .ref (y 5), .ref (y 6), .ref (y 7), .ref (y 8), .ref (y 9), .int 0, .int 0, .int 0, .int 0, .int 0])), (q_16, aI V 1 (fun _ => 0)), (q_12, aI V 4 (fun _ => 0)), (q_13, aI V 1 (fun _ => 0)), (q_14, aI V 1 (fun _ => 0)), (q_15, aI V 1 (upd (fun _ => 0) 0 1)), (q_18, aI V 1 (fun _ => 0)), (q_19, aI V 1 (upd (fun _ => 0) 0 1)), (q_20, aI V 1 (fun _ => 0)), (q_17, aI V 4 (fun _ => 0)), (q_11, .inr (8, [.int 0, .int 1, .ref q_13, .ref q_14, .ref q_19, .int 1, .int 1, .ref (y 19), .ref q_15, .ref q_16, .ref q_17, .ref q_18, .ref q_12, .ref q_20, .int 0, .int 0, .int 1]))]))) := by
  refine Ct.of (by decide) (Nat.le_of_ble_eq_true rfl) (fun p e s m below meth c A ls hx hb hr hml hown hlk hnm hg hP hK hD hE hA hS hl => ?_)
  have hl : lv_has ls 2 [(0, .ref (y 0)), (1, .int p0)] := hl
  refine lv_iload_n hx hb dX9_keeps_0 rfl (lv_at hl 1 rfl) ?_
  refine jnI (wr := [(y 0, .inr (9, [.ref (y 1), .int 0, .ref (y 2), .ref (y 10), .ref (y 19), .ref (y 25), .ref (y 26), .ref (y 30), .ref (y 31), .ref (y 32), .null, .null, .int 0, .int 0, .int 0])), (y 2, .inr (1, [.int 0, .int 0, .int 0, .int 0, .int 0, .int 0, .ref (y 3), .ref (y 4), .ref (y 5), .ref (y 6), .ref (y 7), .ref (y 8), .ref (y 9), .int 0, .int 0, .int 0, .int 0, .int 0]))]) (rnS (rest := []) ⟨hx, hb, hml, hown, hg⟩ (c_X9_isHeight_0 l V p0) mt_X9_isHeight q_4_49 ⟨Nat.le_of_ble_eq_true rfl, Nat.le_of_ble_eq_true rfl⟩ hK hP hD hS hA hE [] rfl rfl rfl hl.1 rfl (Nat.le_of_ble_eq_true rfl) dX9_keeps_1 ⟨Nat.le_of_ble_eq_true rfl, Nat.le_of_ble_eq_true rfl⟩) hP hD hS hA [] [0, 1] rfl rfl rfl (by decide) (fun r_1 w H locs hw hP hD hS => ?_)
  rcases hw with ⟨c_2, rfl, rfl⟩ | ⟨c_3, c_4, rfl, rfl⟩ | ⟨c_5, c_6, rfl, rfl⟩
  · have hP : va_P V.1 vwCl [(y 0, .inr (9, [.ref (y 1), .int 0, .ref (y 2), .ref (y 10), .ref (y 19), .ref (y 25), .ref (y 26), .ref (y 30), .ref (y 31), .ref (y 32), .null, .null, .int 0, .int 0, .int 0])), (y 2, .inr (1, [.int 0, .int 0, .int 0, .int 0, .int 0, .int 0, .ref (y 3), .ref (y 4), .ref (y 5), .ref (y 6), .ref (y 7), .ref (y 8), .ref (y 9), .int 0, .int 0, .int 0, .int 0, .int 0]))] H := hP
    have hD : va_D A [(y 0, .inr (9, [.ref (y 1), .int 0, .ref (y 2), .ref (y 10), .ref (y 19), .ref (y 25), .ref (y 26), .ref (y 30), .ref (y 31), .ref (y 32), .null, .null, .int 0, .int 0, .int 0])), (y 2, .inr (1, [.int 0, .int 0, .int 0, .int 0, .int 0, .int 0, .ref (y 3), .ref (y 4), .ref (y 5), .ref (y 6), .ref (y 7), .ref (y 8), .ref (y 9), .int 0, .int 0, .int 0, .int 0, .int 0]))] := hD
    refine lv_if_eq (tgt := 21) hx hb dX9_keeps_4 (by decide) (fun _ => ?_) (fun c_7 => absurd c_7 (by decide))
    refine lv_bipush (v := (-3)) hx hb dX9_keeps_21 (by decide) ?_
    exact fiI hx hb hr hlk hK hP hD hS dX9_keeps_23 (Nat.le_of_ble_eq_true rfl) (Nat.le_of_ble_eq_true rfl) (Or.inl ⟨c_2, rfl, rfl⟩)
  · have hP : va_P V.1 vwCl [(y 0, .inr (9, [.ref (y 1), .int 0, .ref (y 2), .ref (y 10), .ref (y 19), .ref (y 25), .ref (y 26), .ref (y 30), .ref (y 31), .ref (y 32), .null, .null, .int 0, .int 0, .int 0])), (y 2, .inr (1, [.int 0, .int 0, .int 0, .int 0, .int 0, .int 0, .ref (y 3), .ref (y 4), .ref (y 5), .ref (y 6), .ref (y 7), .ref (y 8), .ref (y 9), .int 0, .int 0, .int 0, .int 0, .int 0]))] H := hP
    have hD : va_D A [(y 0, .inr (9, [.ref (y 1), .int 0, .ref (y 2), .ref (y 10), .ref (y 19), .ref (y 25), .ref (y 26), .ref (y 30), .ref (y 31), .ref (y 32), .null, .null, .int 0, .int 0, .int 0])), (y 2, .inr (1, [.int 0, .int 0, .int 0, .int 0, .int 0, .int 0, .ref (y 3), .ref (y 4), .ref (y 5), .ref (y 6), .ref (y 7), .ref (y 8), .ref (y 9), .int 0, .int 0, .int 0, .int 0, .int 0]))] := hD
    refine lv_if_eq (tgt := 21) hx hb dX9_keeps_4 (by decide) (fun _ => ?_) (fun c_8 => absurd c_8 (by decide))
    refine lv_bipush (v := (-3)) hx hb dX9_keeps_21 (by decide) ?_
    exact fiI hx hb hr hlk hK hP hD hS dX9_keeps_23 (Nat.le_of_ble_eq_true rfl) (Nat.le_of_ble_eq_true rfl) (Or.inr (Or.inl ⟨c_3, c_4, rfl, rfl⟩))
  · have hP : va_P V.1 vwCl [(y 0, .inr (9, [.ref (y 1), .int 0, .ref (y 2), .ref (y 10), .ref (y 19), .ref (y 25), .ref (y 26), .ref (y 30), .ref (y 31), .ref (y 32), .null, .null, .int 0, .int 0, .int 0])), (y 2, .inr (1, [.int 0, .int 0, .int 0, .int 0, .int 0, .int 0, .ref (y 3), .ref (y 4), .ref (y 5), .ref (y 6), .ref (y 7), .ref (y 8), .ref (y 9), .int 0, .int 0, .int 0, .int 0, .int 0]))] H := hP
    have hD : va_D A [(y 0, .inr (9, [.ref (y 1), .int 0, .ref (y 2), .ref (y 10), .ref (y 19), .ref (y 25), .ref (y 26), .ref (y 30), .ref (y 31), .ref (y 32), .null, .null, .int 0, .int 0, .int 0])), (y 2, .inr (1, [.int 0, .int 0, .int 0, .int 0, .int 0, .int 0, .ref (y 3), .ref (y 4), .ref (y 5), .ref (y 6), .ref (y 7), .ref (y 8), .ref (y 9), .int 0, .int 0, .int 0, .int 0, .int 0]))] := hD
    refine lv_if_eq (tgt := 21) hx hb dX9_keeps_4 (by decide) (fun c_9 => absurd c_9 (by decide)) (fun _ => ?_)
    refine lv_aload_n hx hb dX9_keeps_7 rfl (lv_at hl 0 rfl) ?_
    refine lv_ldcw (v := 1000000) hx hb hown (hg _ q_4_194) dX9_keeps_8 ?_
    refine jnR (wr := []) (rnV (rest := []) ⟨hx, hb, hml, hown, hg⟩ (c_X9_waysFromNow_0 l V y) mt_X9_waysFromNow q_4_52 ⟨Nat.le_of_ble_eq_true rfl, Nat.le_of_ble_eq_true rfl⟩ hK hP hD hS hA hE [0, 1] rfl rfl 0 rfl rfl rfl rfl hl.1 rfl (Nat.le_of_ble_eq_true rfl) dX9_keeps_11 ⟨Nat.le_of_ble_eq_true rfl, Nat.le_of_ble_eq_true rfl⟩) hP hD hS hA [0, 1] [] rfl rfl rfl (by decide) (fun r_10 w H locs hw hP hD hS => ?_)
    refine W.widen (k := 10) (n := 32) (Nat.le_of_ble_eq_true rfl) (Nat.le_of_ble_eq_true rfl) ?_
    obtain ⟨q_11, q_12, q_13, q_14, q_15, q_16, q_17, q_18, q_19, q_20, rfl, rfl⟩ := hw
    have hP : va_P V.1 vwCl [(y 0, .inr (9, [.ref (y 1), .int 0, .ref (y 2), .ref (y 10), .ref (y 19), .ref (y 25), .ref (y 26), .ref (y 30), .ref (y 31), .ref (y 32), .ref q_11, .null, .int 0, .int 0, .int 0])), (y 2, .inr (1, [.int 0, .int 0, .int 0, .int 0, .int 0, .int 0, .ref (y 3), .ref (y 4), .ref (y 5), .ref (y 6), .ref (y 7), .ref (y 8), .ref (y 9), .int 0, .int 0, .int 0, .int 0, .int 0])), (q_18, aI V 1 (fun _ => 0)), (q_19, aI V 1 (fun _ => 0)), (q_20, aI V 1 (fun _ => 0)), (q_16, aI V 1 (fun _ => 0)), (q_12, aI V 4 (fun _ => 0)), (q_17, aI V 4 (fun _ => 0)), (q_11, .inr (8, [.int 0, .int 1, .ref q_13, .ref q_14, .ref q_19, .int 1, .int 1, .ref (y 19), .ref q_15, .ref q_16, .ref q_17, .ref q_18, .ref q_12, .ref q_20, .int 0, .int 0, .int 1])), (q_13, aI V 1 (fun _ => 0)), (q_14, aI V 1 (fun _ => 0)), (q_15, aI V 1 (upd (fun _ => 0) 0 1))] H := hP
    have hD : va_D A [(y 0, .inr (9, [.ref (y 1), .int 0, .ref (y 2), .ref (y 10), .ref (y 19), .ref (y 25), .ref (y 26), .ref (y 30), .ref (y 31), .ref (y 32), .ref q_11, .null, .int 0, .int 0, .int 0])), (y 2, .inr (1, [.int 0, .int 0, .int 0, .int 0, .int 0, .int 0, .ref (y 3), .ref (y 4), .ref (y 5), .ref (y 6), .ref (y 7), .ref (y 8), .ref (y 9), .int 0, .int 0, .int 0, .int 0, .int 0])), (q_18, aI V 1 (fun _ => 0)), (q_19, aI V 1 (fun _ => 0)), (q_20, aI V 1 (fun _ => 0)), (q_16, aI V 1 (fun _ => 0)), (q_12, aI V 4 (fun _ => 0)), (q_17, aI V 4 (fun _ => 0)), (q_11, .inr (8, [.int 0, .int 1, .ref q_13, .ref q_14, .ref q_19, .int 1, .int 1, .ref (y 19), .ref q_15, .ref q_16, .ref q_17, .ref q_18, .ref q_12, .ref q_20, .int 0, .int 0, .int 1])), (q_13, aI V 1 (fun _ => 0)), (q_14, aI V 1 (fun _ => 0)), (q_15, aI V 1 (upd (fun _ => 0) 0 1))] := hD
    refine lv_iload_n hx hb dX9_keeps_14 rfl (lv_at hl 1 rfl) ?_
    refine jnI (wr := [(y 0, .inr (9, [.ref (y 1), .int 0, .ref (y 2), .ref (y 10), .ref (y 19), .ref (y 25), .ref (y 26), .ref (y 30), .ref (y 31), .ref (y 32), .ref q_11, .null, .int 0, .int 0, .int 0])), (y 2, .inr (1, [.int 0, .int 0, .int 0, .int 0, .int 0, .int 0, .ref (y 3), .ref (y 4), .ref (y 5), .ref (y 6), .ref (y 7), .ref (y 8), .ref (y 9), .int 0, .int 0, .int 0, .int 0, .int 0])), (q_16, aI V 1 (fun _ => 0)), (q_12, aI V 4 (fun _ => 0)), (q_13, aI V 1 (fun _ => 0)), (q_14, aI V 1 (fun _ => 0)), (q_15, aI V 1 (upd (fun _ => 0) 0 1))]) (rnV (rest := []) ⟨hx, hb, hml, hown, hg⟩ (c_X8_longestAbove_0 l V y q_11 p0 q_18 q_19 q_20 q_16 q_12 q_17 q_13 q_14 q_15) mt_X8_longestAbove q_4_195 ⟨Nat.le_of_ble_eq_true rfl, Nat.le_of_ble_eq_true rfl⟩ hK hP hD hS hA hE [2, 3, 4, 7, 8] rfl rfl 8 rfl rfl rfl rfl hl.1 rfl (Nat.le_of_ble_eq_true rfl) dX9_keeps_15 ⟨Nat.le_of_ble_eq_true rfl, Nat.le_of_ble_eq_true rfl⟩) hP hD hS hA [2, 3, 4, 7, 8] [0, 1, 5, 6, 9, 10, 11] rfl rfl rfl (by decide) (fun r_21 w H locs hw hP hD hS => ?_)
    obtain ⟨rfl, rfl⟩ := hw
    have hP : va_P V.1 vwCl [(y 0, .inr (9, [.ref (y 1), .int 0, .ref (y 2), .ref (y 10), .ref (y 19), .ref (y 25), .ref (y 26), .ref (y 30), .ref (y 31), .ref (y 32), .ref q_11, .null, .int 0, .int 0, .int 0])), (y 2, .inr (1, [.int 0, .int 0, .int 0, .int 0, .int 0, .int 0, .ref (y 3), .ref (y 4), .ref (y 5), .ref (y 6), .ref (y 7), .ref (y 8), .ref (y 9), .int 0, .int 0, .int 0, .int 0, .int 0])), (q_16, aI V 1 (fun _ => 0)), (q_12, aI V 4 (fun _ => 0)), (q_13, aI V 1 (fun _ => 0)), (q_14, aI V 1 (fun _ => 0)), (q_15, aI V 1 (upd (fun _ => 0) 0 1)), (q_18, aI V 1 (fun _ => 0)), (q_19, aI V 1 (upd (fun _ => 0) 0 1)), (q_20, aI V 1 (fun _ => 0)), (q_17, aI V 4 (fun _ => 0)), (q_11, .inr (8, [.int 0, .int 1, .ref q_13, .ref q_14, .ref q_19, .int 1, .int 1, .ref (y 19), .ref q_15, .ref q_16, .ref q_17, .ref q_18, .ref q_12, .ref q_20, .int 0, .int 0, .int 1]))] H := hP
    have hD : va_D A [(y 0, .inr (9, [.ref (y 1), .int 0, .ref (y 2), .ref (y 10), .ref (y 19), .ref (y 25), .ref (y 26), .ref (y 30), .ref (y 31), .ref (y 32), .ref q_11, .null, .int 0, .int 0, .int 0])), (y 2, .inr (1, [.int 0, .int 0, .int 0, .int 0, .int 0, .int 0, .ref (y 3), .ref (y 4), .ref (y 5), .ref (y 6), .ref (y 7), .ref (y 8), .ref (y 9), .int 0, .int 0, .int 0, .int 0, .int 0])), (q_16, aI V 1 (fun _ => 0)), (q_12, aI V 4 (fun _ => 0)), (q_13, aI V 1 (fun _ => 0)), (q_14, aI V 1 (fun _ => 0)), (q_15, aI V 1 (upd (fun _ => 0) 0 1)), (q_18, aI V 1 (fun _ => 0)), (q_19, aI V 1 (upd (fun _ => 0) 0 1)), (q_20, aI V 1 (fun _ => 0)), (q_17, aI V 4 (fun _ => 0)), (q_11, .inr (8, [.int 0, .int 1, .ref q_13, .ref q_14, .ref q_19, .int 1, .int 1, .ref (y 19), .ref q_15, .ref q_16, .ref q_17, .ref q_18, .ref q_12, .ref q_20, .int 0, .int 0, .int 1]))] := hD
    refine lv_goto (tgt := 23) hx hb dX9_keeps_18 (by decide) ?_
    exact fiI hx hb hr hlk hK hP hD hS dX9_keeps_23 (Nat.le_of_ble_eq_true rfl) (Nat.le_of_ble_eq_true rfl) (Or.inr (Or.inr (⟨q_11, q_12, q_13, q_14, q_15, q_16, q_17, q_18, q_19, q_20, c_5, c_6, rfl, rfl⟩)))
theorem dX10_reaches_0 : decode cX10_reaches 0 = .ok (.aload_n 0, 1) := by decide +kernel
theorem dX10_reaches_1 : decode cX10_reaches 1 = .ok (.iconst 0, 1) := by decide +kernel
theorem dX10_reaches_2 : decode cX10_reaches 2 = .ok (.putfield 1, 3) := by decide +kernel
theorem dX10_reaches_5 : decode cX10_reaches 5 = .ok (.aload_n 0, 1) := by decide +kernel
theorem dX10_reaches_6 : decode cX10_reaches 6 = .ok (.iload_n 1, 1) := by decide +kernel
theorem dX10_reaches_7 : decode cX10_reaches 7 = .ok (.i2l, 1) := by decide +kernel
theorem dX10_reaches_8 : decode cX10_reaches 8 = .ok (.invokevirtual 262, 3) := by decide +kernel
theorem dX10_reaches_11 : decode cX10_reaches 11 = .ok (.ifCond .eq 13, 3) := by decide +kernel
theorem dX10_reaches_24 : decode cX10_reaches 24 = .ok (.bipush (-2), 2) := by decide +kernel
theorem dX10_reaches_26 : decode cX10_reaches 26 = .ok (.ireturn, 1) := by decide +kernel
set_option maxHeartbeats 4000000 in
set_option maxRecDepth 100000 in
theorem c_X10_reaches_0 (l : Launch) (V : GV) (z : Nat → Nat) (p0 : Int32) (p1 : Int32) : Ct l V yX10_reaches (.code yX10_reaches cX10_reaches 6 (some .int)) 3 [.ref (z 0), .int p0, .int p1] [(z 0, .inr (10, mo z 0 0 0 0 0 0 0 0 0 0 (-1) 0 0 0 0 0)), (z 1, aI V 3075 (fun _ => 0))] 0 0 (QI V (fun (r : Int32) (w : va_W) => (r = (-2) ∧ w = [(z 0, .inr (10, mo z 0 0 0 0 0 0 0 0 0 0 (-1) 0 0 0 0 0)), (z 1, aI V 3075 (fun _ => 0))]))) := by
  refine Ct.of (by decide) (Nat.le_of_ble_eq_true rfl) (fun p e s m below meth c A ls hx hb hr hml hown hlk hnm hg hP hK hD hE hA hS hl => ?_)
  have hl : lv_has ls 6 [(0, .ref (z 0)), (1, .int p0), (2, .int p1)] := hl
  refine lv_aload_n hx hb dX10_reaches_0 rfl (lv_at hl 0 rfl) ?_
  refine lv_iconst (v := 0) hx hb dX10_reaches_1 (by decide) ?_
  refine va_put (ci := 10) (v := .int 0) (ty := .int) (C := RX10) (T := TX10) (N := 40) hx hb hg inX10 tyX10 tyX10_ok nmX10 hown hK hP hD hS 0 rfl rfl 0 (by decide) (hg _ q_5_224) (fun _ h9 => h9) rfl (by decide +kernel) rfl rfl (Nat.le_of_ble_eq_true rfl) dX10_reaches_2 (fun H locs hP hD hS => ?_)
  have hP : va_P V.1 vwCl [(z 0, .inr (10, mo z 0 0 0 0 0 0 0 0 0 0 (-1) 0 0 0 0 0)), (z 1, aI V 3075 (fun _ => 0))] H := hP
  have hD : va_D A [(z 0, .inr (10, mo z 0 0 0 0 0 0 0 0 0 0 (-1) 0 0 0 0 0)), (z 1, aI V 3075 (fun _ => 0))] := hD
  refine lv_aload_n hx hb dX10_reaches_5 rfl (lv_at hl 0 rfl) ?_
  refine lv_iload_n hx hb dX10_reaches_6 rfl (lv_at hl 1 rfl) ?_
  refine lv_i2l (v := p0.toInt64) hx hb dX10_reaches_7 rfl ?_
  refine jnI (wr := []) (rnV (rest := []) ⟨hx, hb, hml, hown, hg⟩ (c_X10_isHill_0 l V z p0.toInt64) mt_X10_isHill q_6_235 ⟨Nat.le_of_ble_eq_true rfl, Nat.le_of_ble_eq_true rfl⟩ hK hP hD hS hA hE [0, 1] rfl rfl 0 rfl rfl rfl rfl hl.1 rfl (Nat.le_of_ble_eq_true rfl) dX10_reaches_8 ⟨Nat.le_of_ble_eq_true rfl, Nat.le_of_ble_eq_true rfl⟩) hP hD hS hA [0, 1] [] rfl rfl rfl (by decide) (fun r_1 w H locs hw hP hD hS => ?_)
  obtain ⟨rfl, rfl⟩ := hw
  have hP : va_P V.1 vwCl [(z 0, .inr (10, mo z 0 0 0 0 0 0 0 0 0 0 (-1) 0 0 0 0 0)), (z 1, aI V 3075 (fun _ => 0))] H := hP
  have hD : va_D A [(z 0, .inr (10, mo z 0 0 0 0 0 0 0 0 0 0 (-1) 0 0 0 0 0)), (z 1, aI V 3075 (fun _ => 0))] := hD
  refine lv_if_eq (tgt := 24) hx hb dX10_reaches_11 (by decide) (fun _ => ?_) (fun c_2 => absurd c_2 (by decide))
  refine lv_bipush (v := (-2)) hx hb dX10_reaches_24 (by decide) ?_
  exact fiI hx hb hr hlk hK hP hD hS dX10_reaches_26 (Nat.le_of_ble_eq_true rfl) (Nat.le_of_ble_eq_true rfl) (⟨rfl, rfl⟩)
theorem dX9_reaches_0 : decode cX9_reaches 0 = .ok (.aload_n 0, 1) := by decide +kernel
theorem dX9_reaches_1 : decode cX9_reaches 1 = .ok (.iload_n 1, 1) := by decide +kernel
theorem dX9_reaches_2 : decode cX9_reaches 2 = .ok (.invokevirtual 128, 3) := by decide +kernel
theorem dX9_reaches_5 : decode cX9_reaches 5 = .ok (.ifCond .eq 12, 3) := by decide +kernel
theorem dX9_reaches_17 : decode cX9_reaches 17 = .ok (.bipush (-2), 2) := by decide +kernel
theorem dX9_reaches_19 : decode cX9_reaches 19 = .ok (.ireturn, 1) := by decide +kernel
set_option maxHeartbeats 4000000 in
set_option maxRecDepth 100000 in
theorem c_X9_reaches_0 (l : Launch) (V : GV) (y : Nat → Nat) (p0 : Int32) (p1 : Int32) : Ct l V yX9_reaches (.code yX9_reaches cX9_reaches 7 (some .int)) 2 [.ref (y 0), .int p0, .int p1] [(y 0, .inr (9, [.ref (y 1), .int 0, .ref (y 2), .ref (y 10), .ref (y 19), .ref (y 25), .ref (y 26), .ref (y 30), .ref (y 31), .ref (y 32), .null, .null, .int 0, .int 0, .int 0])), (y 2, .inr (1, [.int 0, .int 0, .int 0, .int 0, .int 0, .int 0, .ref (y 3), .ref (y 4), .ref (y 5), .ref (y 6), .ref (y 7), .ref (y 8), .ref (y 9), .int 0, .int 0, .int 0, .int 0, .int 0]))] 0 0 (QI V (fun (r : Int32) (w : va_W) => (r = (-2) ∧ w = [(y 0, .inr (9, [.ref (y 1), .int 0, .ref (y 2), .ref (y 10), .ref (y 19), .ref (y 25), .ref (y 26), .ref (y 30), .ref (y 31), .ref (y 32), .null, .null, .int 0, .int 0, .int 0])), (y 2, .inr (1, [.int 0, .int 0, .int 0, .int 0, .int 0, .int 0, .ref (y 3), .ref (y 4), .ref (y 5), .ref (y 6), .ref (y 7), .ref (y 8), .ref (y 9), .int 0, .int 0, .int 0, .int 0, .int 0]))]))) := by
  refine Ct.of (by decide) (Nat.le_of_ble_eq_true rfl) (fun p e s m below meth c A ls hx hb hr hml hown hlk hnm hg hP hK hD hE hA hS hl => ?_)
  have hl : lv_has ls 7 [(0, .ref (y 0)), (1, .int p0), (2, .int p1)] := hl
  refine lv_aload_n hx hb dX9_reaches_0 rfl (lv_at hl 0 rfl) ?_
  refine lv_iload_n hx hb dX9_reaches_1 rfl (lv_at hl 1 rfl) ?_
  refine jnI (wr := []) (rnV (rest := []) ⟨hx, hb, hml, hown, hg⟩ (c_X9_isHill_0 l V y p0) mt_X9_isHill q_3_122 ⟨Nat.le_of_ble_eq_true rfl, Nat.le_of_ble_eq_true rfl⟩ hK hP hD hS hA hE [0, 1] rfl rfl 0 rfl rfl rfl rfl hl.1 rfl (Nat.le_of_ble_eq_true rfl) dX9_reaches_2 ⟨Nat.le_of_ble_eq_true rfl, Nat.le_of_ble_eq_true rfl⟩) hP hD hS hA [0, 1] [] rfl rfl rfl (by decide) (fun r_1 w H locs hw hP hD hS => ?_)
  obtain ⟨rfl, rfl⟩ := hw
  have hP : va_P V.1 vwCl [(y 0, .inr (9, [.ref (y 1), .int 0, .ref (y 2), .ref (y 10), .ref (y 19), .ref (y 25), .ref (y 26), .ref (y 30), .ref (y 31), .ref (y 32), .null, .null, .int 0, .int 0, .int 0])), (y 2, .inr (1, [.int 0, .int 0, .int 0, .int 0, .int 0, .int 0, .ref (y 3), .ref (y 4), .ref (y 5), .ref (y 6), .ref (y 7), .ref (y 8), .ref (y 9), .int 0, .int 0, .int 0, .int 0, .int 0]))] H := hP
  have hD : va_D A [(y 0, .inr (9, [.ref (y 1), .int 0, .ref (y 2), .ref (y 10), .ref (y 19), .ref (y 25), .ref (y 26), .ref (y 30), .ref (y 31), .ref (y 32), .null, .null, .int 0, .int 0, .int 0])), (y 2, .inr (1, [.int 0, .int 0, .int 0, .int 0, .int 0, .int 0, .ref (y 3), .ref (y 4), .ref (y 5), .ref (y 6), .ref (y 7), .ref (y 8), .ref (y 9), .int 0, .int 0, .int 0, .int 0, .int 0]))] := hD
  refine lv_if_eq (tgt := 17) hx hb dX9_reaches_5 (by decide) (fun _ => ?_) (fun c_2 => absurd c_2 (by decide))
  refine lv_bipush (v := (-2)) hx hb dX9_reaches_17 (by decide) ?_
  exact fiI hx hb hr hlk hK hP hD hS dX9_reaches_19 (Nat.le_of_ble_eq_true rfl) (Nat.le_of_ble_eq_true rfl) (⟨rfl, rfl⟩)
theorem dX10_stands_0 : decode cX10_stands 0 = .ok (.aload_n 0, 1) := by decide +kernel
theorem dX10_stands_1 : decode cX10_stands 1 = .ok (.iconst 0, 1) := by decide +kernel
theorem dX10_stands_2 : decode cX10_stands 2 = .ok (.putfield 1, 3) := by decide +kernel
theorem dX10_stands_5 : decode cX10_stands 5 = .ok (.aload_n 0, 1) := by decide +kernel
theorem dX10_stands_6 : decode cX10_stands 6 = .ok (.invokevirtual 362, 3) := by decide +kernel
theorem dX10_stands_9 : decode cX10_stands 9 = .ok (.aload_n 0, 1) := by decide +kernel
theorem dX10_stands_10 : decode cX10_stands 10 = .ok (.getfield 355, 3) := by decide +kernel
theorem dX10_stands_13 : decode cX10_stands 13 = .ok (.ireturn, 1) := by decide +kernel
set_option maxHeartbeats 4000000 in
set_option maxRecDepth 100000 in
theorem c_X10_stands_0 (l : Launch) (V : GV) (z : Nat → Nat) : Ct l V yX10_stands (.code yX10_stands cX10_stands 1 (some .int)) 4 [.ref (z 0)] [(z 0, .inr (10, mo z 0 0 0 0 0 0 0 0 0 0 (-1) 0 0 0 0 0)), (z 24, aI V 10000 (fun _ => 0)), (z 25, aI V 40000 (fun _ => 0)), (z 28, aZ V 10000 (fun _ => 0)), (z 1, aI V 3075 (fun _ => 0))] 0 0 (QI V (fun (r : Int32) (w : va_W) => (r = 1 ∧ w = [(z 0, .inr (10, mo z 0 0 0 0 0 0 0 0 0 0 (-1) 0 0 0 0 1)), (z 24, aI V 10000 (fun _ => 0)), (z 25, aI V 40000 (upd (upd (upd (fun _ => 0) 1 (-1)) 2 (-1)) 3 (-1))), (z 28, aZ V 10000 (upd (fun _ => 0) 0 1)), (z 1, aI V 3075 (fun _ => 0))]))) := by
  refine Ct.of (by decide) (Nat.le_of_ble_eq_true rfl) (fun p e s m below meth c A ls hx hb hr hml hown hlk hnm hg hP hK hD hE hA hS hl => ?_)
  have hl : lv_has ls 1 [(0, .ref (z 0))] := hl
  refine lv_aload_n hx hb dX10_stands_0 rfl (lv_at hl 0 rfl) ?_
  refine lv_iconst (v := 0) hx hb dX10_stands_1 (by decide) ?_
  refine va_put (ci := 10) (v := .int 0) (ty := .int) (C := RX10) (T := TX10) (N := 40) hx hb hg inX10 tyX10 tyX10_ok nmX10 hown hK hP hD hS 0 rfl rfl 0 (by decide) (hg _ q_5_224) (fun _ h9 => h9) rfl (by decide +kernel) rfl rfl (Nat.le_of_ble_eq_true rfl) dX10_stands_2 (fun H locs hP hD hS => ?_)
  have hP : va_P V.1 vwCl [(z 0, .inr (10, mo z 0 0 0 0 0 0 0 0 0 0 (-1) 0 0 0 0 0)), (z 24, aI V 10000 (fun _ => 0)), (z 25, aI V 40000 (fun _ => 0)), (z 28, aZ V 10000 (fun _ => 0)), (z 1, aI V 3075 (fun _ => 0))] H := hP
  have hD : va_D A [(z 0, .inr (10, mo z 0 0 0 0 0 0 0 0 0 0 (-1) 0 0 0 0 0)), (z 24, aI V 10000 (fun _ => 0)), (z 25, aI V 40000 (fun _ => 0)), (z 28, aZ V 10000 (fun _ => 0)), (z 1, aI V 3075 (fun _ => 0))] := hD
  refine lv_aload_n hx hb dX10_stands_5 rfl (lv_at hl 0 rfl) ?_
  refine jnV (wr := []) (rnV (rest := []) ⟨hx, hb, hml, hown, hg⟩ (c_X10_laysStands_0 l V z) mt_X10_laysStands q_7_194 ⟨Nat.le_of_ble_eq_true rfl, Nat.le_of_ble_eq_true rfl⟩ hK hP hD hS hA hE [0, 1, 2, 3, 4] rfl rfl 0 rfl rfl rfl rfl hl.1 rfl (Nat.le_of_ble_eq_true rfl) dX10_stands_6 ⟨Nat.le_of_ble_eq_true rfl, Nat.le_of_ble_eq_true rfl⟩) hP hD hS hA [0, 1, 2, 3, 4] [] rfl rfl rfl (by decide) (fun  w H locs hw hP hD hS => ?_)
  subst hw
  have hP : va_P V.1 vwCl [(z 0, .inr (10, mo z 0 0 0 0 0 0 0 0 0 0 (-1) 0 0 0 0 1)), (z 24, aI V 10000 (fun _ => 0)), (z 25, aI V 40000 (upd (upd (upd (fun _ => 0) 1 (-1)) 2 (-1)) 3 (-1))), (z 28, aZ V 10000 (upd (fun _ => 0) 0 1)), (z 1, aI V 3075 (fun _ => 0))] H := hP
  have hD : va_D A [(z 0, .inr (10, mo z 0 0 0 0 0 0 0 0 0 0 (-1) 0 0 0 0 1)), (z 24, aI V 10000 (fun _ => 0)), (z 25, aI V 40000 (upd (upd (upd (fun _ => 0) 1 (-1)) 2 (-1)) 3 (-1))), (z 28, aZ V 10000 (upd (fun _ => 0) 0 1)), (z 1, aI V 3075 (fun _ => 0))] := hD
  refine lv_aload_n hx hb dX10_stands_9 rfl (lv_at hl 0 rfl) ?_
  refine va_get (ci := 10) (v := .int 1) (C := RX10) (T := TX10) (N := 40) hx hb hg inX10 hown hK hP 0 rfl rfl 29 (by decide) (hg _ q_6_13) (fun _ h9 => h9) rfl dX10_stands_10 ?_
  exact fiI hx hb hr hlk hK hP hD hS dX10_stands_13 (Nat.le_of_ble_eq_true rfl) (Nat.le_of_ble_eq_true rfl) (⟨rfl, rfl⟩)
theorem dX9_stands_0 : decode cX9_stands 0 = .ok (.aload_n 0, 1) := by decide +kernel
theorem dX9_stands_1 : decode cX9_stands 1 = .ok (.ldc_w 279, 3) := by decide +kernel
theorem dX9_stands_4 : decode cX9_stands 4 = .ok (.invokevirtual 255, 3) := by decide +kernel
theorem q_4_78 : Cond.fieldLink "BeaconDelay" 283 "BeaconDelay$Ways" "count" "I" ∈ gw := gw_4 (i := 78) (by decide +kernel) rfl
theorem dX9_stands_7 : decode cX9_stands 7 = .ok (.getfield 283, 3) := by decide +kernel
theorem dX9_stands_10 : decode cX9_stands 10 = .ok (.ireturn, 1) := by decide +kernel
set_option maxHeartbeats 4000000 in
set_option maxRecDepth 100000 in
theorem c_X9_stands_0 (l : Launch) (V : GV) (y : Nat → Nat) : Ct l V yX9_stands (.code yX9_stands cX9_stands 1 (some .int)) 5 [.ref (y 0)] [(y 0, .inr (9, [.ref (y 1), .int 0, .ref (y 2), .ref (y 10), .ref (y 19), .ref (y 25), .ref (y 26), .ref (y 30), .ref (y 31), .ref (y 32), .null, .null, .int 0, .int 0, .int 0])), (y 2, .inr (1, [.int 0, .int 0, .int 0, .int 0, .int 0, .int 0, .ref (y 3), .ref (y 4), .ref (y 5), .ref (y 6), .ref (y 7), .ref (y 8), .ref (y 9), .int 0, .int 0, .int 0, .int 0, .int 0]))] 10 32 (QI V (fun (r : Int32) (w : va_W) => (∃ (q_2 : Nat) (q_3 : Nat) (q_4 : Nat) (q_5 : Nat) (q_6 : Nat) (q_7 : Nat) (q_8 : Nat) (q_9 : Nat) (q_10 : Nat) (q_11 : Nat), r = 1 ∧ w = [(y 0, .inr (9, [.ref (y 1), .int 0, .ref (y 2), .ref (y 10), .ref (y 19), .ref (y 25), .ref (y 26), .ref (y 30), .ref (y 31), .ref (y 32), .ref q_2, .null, .int 0, .int 0, .int 0])), (y 2, .inr (1, [.int 0, .int 0, .int 0, .int 0, .int 0, .int 0, .ref (y 3), .ref (y 4), .ref (y 5), .ref (y 6), .ref (y 7), .ref (y 8), .ref (y 9), .int 0, .int 0, .int 0, .int 0, .int 0])), (q_9, aI V 1 (fun _ => 0)), (q_10, aI V 1 (fun _ => 0)), (q_11, aI V 1 (fun _ => 0)), (q_7, aI V 1 (fun _ => 0)), (q_3, aI V 4 (fun _ => 0)), (q_8, aI V 4 (fun _ => 0)), (q_2, .inr (8, [.int 0, .int 1, .ref q_4, .ref q_5, .ref q_10, .int 1, .int 1, .ref (y 19), .ref q_6, .ref q_7, .ref q_8, .ref q_9, .ref q_3, .ref q_11, .int 0, .int 0, .int 1])), (q_4, aI V 1 (fun _ => 0)), (q_5, aI V 1 (fun _ => 0)), (q_6, aI V 1 (upd (fun _ => 0) 0 1))]))) := by
  refine Ct.of (by decide) (Nat.le_of_ble_eq_true rfl) (fun p e s m below meth c A ls hx hb hr hml hown hlk hnm hg hP hK hD hE hA hS hl => ?_)
  have hl : lv_has ls 1 [(0, .ref (y 0))] := hl
  refine lv_aload_n hx hb dX9_stands_0 rfl (lv_at hl 0 rfl) ?_
  refine lv_ldcw (v := 1000000) hx hb hown (hg _ q_4_194) dX9_stands_1 ?_
  refine jnR (wr := []) (rnV (rest := []) ⟨hx, hb, hml, hown, hg⟩ (c_X9_waysFromNow_0 l V y) mt_X9_waysFromNow q_4_52 ⟨Nat.le_of_ble_eq_true rfl, Nat.le_of_ble_eq_true rfl⟩ hK hP hD hS hA hE [0, 1] rfl rfl 0 rfl rfl rfl rfl hl.1 rfl (Nat.le_of_ble_eq_true rfl) dX9_stands_4 ⟨Nat.le_of_ble_eq_true rfl, Nat.le_of_ble_eq_true rfl⟩) hP hD hS hA [0, 1] [] rfl rfl rfl (by decide) (fun r_1 w H locs hw hP hD hS => ?_)
  refine W.widen (k := 10) (n := 32) (Nat.le_of_ble_eq_true rfl) (Nat.le_of_ble_eq_true rfl) ?_
  obtain ⟨q_2, q_3, q_4, q_5, q_6, q_7, q_8, q_9, q_10, q_11, rfl, rfl⟩ := hw
  have hP : va_P V.1 vwCl [(y 0, .inr (9, [.ref (y 1), .int 0, .ref (y 2), .ref (y 10), .ref (y 19), .ref (y 25), .ref (y 26), .ref (y 30), .ref (y 31), .ref (y 32), .ref q_2, .null, .int 0, .int 0, .int 0])), (y 2, .inr (1, [.int 0, .int 0, .int 0, .int 0, .int 0, .int 0, .ref (y 3), .ref (y 4), .ref (y 5), .ref (y 6), .ref (y 7), .ref (y 8), .ref (y 9), .int 0, .int 0, .int 0, .int 0, .int 0])), (q_9, aI V 1 (fun _ => 0)), (q_10, aI V 1 (fun _ => 0)), (q_11, aI V 1 (fun _ => 0)), (q_7, aI V 1 (fun _ => 0)), (q_3, aI V 4 (fun _ => 0)), (q_8, aI V 4 (fun _ => 0)), (q_2, .inr (8, [.int 0, .int 1, .ref q_4, .ref q_5, .ref q_10, .int 1, .int 1, .ref (y 19), .ref q_6, .ref q_7, .ref q_8, .ref q_9, .ref q_3, .ref q_11, .int 0, .int 0, .int 1])), (q_4, aI V 1 (fun _ => 0)), (q_5, aI V 1 (fun _ => 0)), (q_6, aI V 1 (upd (fun _ => 0) 0 1))] H := hP
  have hD : va_D A [(y 0, .inr (9, [.ref (y 1), .int 0, .ref (y 2), .ref (y 10), .ref (y 19), .ref (y 25), .ref (y 26), .ref (y 30), .ref (y 31), .ref (y 32), .ref q_2, .null, .int 0, .int 0, .int 0])), (y 2, .inr (1, [.int 0, .int 0, .int 0, .int 0, .int 0, .int 0, .ref (y 3), .ref (y 4), .ref (y 5), .ref (y 6), .ref (y 7), .ref (y 8), .ref (y 9), .int 0, .int 0, .int 0, .int 0, .int 0])), (q_9, aI V 1 (fun _ => 0)), (q_10, aI V 1 (fun _ => 0)), (q_11, aI V 1 (fun _ => 0)), (q_7, aI V 1 (fun _ => 0)), (q_3, aI V 4 (fun _ => 0)), (q_8, aI V 4 (fun _ => 0)), (q_2, .inr (8, [.int 0, .int 1, .ref q_4, .ref q_5, .ref q_10, .int 1, .int 1, .ref (y 19), .ref q_6, .ref q_7, .ref q_8, .ref q_9, .ref q_3, .ref q_11, .int 0, .int 0, .int 1])), (q_4, aI V 1 (fun _ => 0)), (q_5, aI V 1 (fun _ => 0)), (q_6, aI V 1 (upd (fun _ => 0) 0 1))] := hD
  refine va_get (ci := 8) (v := .int 1) (C := RX8) (T := TX8) (N := 17) hx hb hg inX8 hown hK hP 8 rfl rfl 5 (by decide) (hg _ q_4_78) (fun _ h9 => h9) rfl dX9_stands_7 ?_
  exact fiI hx hb hr hlk hK hP hD hS dX9_stands_10 (Nat.le_of_ble_eq_true rfl) (Nat.le_of_ble_eq_true rfl) (⟨q_2, q_3, q_4, q_5, q_6, q_7, q_8, q_9, q_10, q_11, rfl, rfl⟩)
theorem dX10_lit_0 : decode cX10_lit 0 = .ok (.aload_n 0, 1) := by decide +kernel
theorem dX10_lit_1 : decode cX10_lit 1 = .ok (.iconst 0, 1) := by decide +kernel
theorem dX10_lit_2 : decode cX10_lit 2 = .ok (.putfield 1, 3) := by decide +kernel
theorem dX10_lit_5 : decode cX10_lit 5 = .ok (.aload_n 0, 1) := by decide +kernel
theorem dX10_lit_6 : decode cX10_lit 6 = .ok (.iload_n 1, 1) := by decide +kernel
theorem dX10_lit_7 : decode cX10_lit 7 = .ok (.i2l, 1) := by decide +kernel
theorem dX10_lit_8 : decode cX10_lit 8 = .ok (.invokevirtual 262, 3) := by decide +kernel
theorem dX10_lit_11 : decode cX10_lit 11 = .ok (.ifCond .eq 11, 3) := by decide +kernel
theorem dX10_lit_22 : decode cX10_lit 22 = .ok (.bipush (-2), 2) := by decide +kernel
theorem dX10_lit_24 : decode cX10_lit 24 = .ok (.ireturn, 1) := by decide +kernel
set_option maxHeartbeats 4000000 in
set_option maxRecDepth 100000 in
theorem c_X10_lit_0 (l : Launch) (V : GV) (z : Nat → Nat) (p0 : Int32) : Ct l V yX10_lit (.code yX10_lit cX10_lit 2 (some .int)) 3 [.ref (z 0), .int p0] [(z 0, .inr (10, mo z 0 0 0 0 0 0 0 0 0 0 (-1) 0 0 0 0 0)), (z 1, aI V 3075 (fun _ => 0))] 0 0 (QI V (fun (r : Int32) (w : va_W) => (r = (-2) ∧ w = [(z 0, .inr (10, mo z 0 0 0 0 0 0 0 0 0 0 (-1) 0 0 0 0 0)), (z 1, aI V 3075 (fun _ => 0))]))) := by
  refine Ct.of (by decide) (Nat.le_of_ble_eq_true rfl) (fun p e s m below meth c A ls hx hb hr hml hown hlk hnm hg hP hK hD hE hA hS hl => ?_)
  have hl : lv_has ls 2 [(0, .ref (z 0)), (1, .int p0)] := hl
  refine lv_aload_n hx hb dX10_lit_0 rfl (lv_at hl 0 rfl) ?_
  refine lv_iconst (v := 0) hx hb dX10_lit_1 (by decide) ?_
  refine va_put (ci := 10) (v := .int 0) (ty := .int) (C := RX10) (T := TX10) (N := 40) hx hb hg inX10 tyX10 tyX10_ok nmX10 hown hK hP hD hS 0 rfl rfl 0 (by decide) (hg _ q_5_224) (fun _ h9 => h9) rfl (by decide +kernel) rfl rfl (Nat.le_of_ble_eq_true rfl) dX10_lit_2 (fun H locs hP hD hS => ?_)
  have hP : va_P V.1 vwCl [(z 0, .inr (10, mo z 0 0 0 0 0 0 0 0 0 0 (-1) 0 0 0 0 0)), (z 1, aI V 3075 (fun _ => 0))] H := hP
  have hD : va_D A [(z 0, .inr (10, mo z 0 0 0 0 0 0 0 0 0 0 (-1) 0 0 0 0 0)), (z 1, aI V 3075 (fun _ => 0))] := hD
  refine lv_aload_n hx hb dX10_lit_5 rfl (lv_at hl 0 rfl) ?_
  refine lv_iload_n hx hb dX10_lit_6 rfl (lv_at hl 1 rfl) ?_
  refine lv_i2l (v := p0.toInt64) hx hb dX10_lit_7 rfl ?_
  refine jnI (wr := []) (rnV (rest := []) ⟨hx, hb, hml, hown, hg⟩ (c_X10_isHill_0 l V z p0.toInt64) mt_X10_isHill q_6_235 ⟨Nat.le_of_ble_eq_true rfl, Nat.le_of_ble_eq_true rfl⟩ hK hP hD hS hA hE [0, 1] rfl rfl 0 rfl rfl rfl rfl hl.1 rfl (Nat.le_of_ble_eq_true rfl) dX10_lit_8 ⟨Nat.le_of_ble_eq_true rfl, Nat.le_of_ble_eq_true rfl⟩) hP hD hS hA [0, 1] [] rfl rfl rfl (by decide) (fun r_1 w H locs hw hP hD hS => ?_)
  obtain ⟨rfl, rfl⟩ := hw
  have hP : va_P V.1 vwCl [(z 0, .inr (10, mo z 0 0 0 0 0 0 0 0 0 0 (-1) 0 0 0 0 0)), (z 1, aI V 3075 (fun _ => 0))] H := hP
  have hD : va_D A [(z 0, .inr (10, mo z 0 0 0 0 0 0 0 0 0 0 (-1) 0 0 0 0 0)), (z 1, aI V 3075 (fun _ => 0))] := hD
  refine lv_if_eq (tgt := 22) hx hb dX10_lit_11 (by decide) (fun _ => ?_) (fun c_2 => absurd c_2 (by decide))
  refine lv_bipush (v := (-2)) hx hb dX10_lit_22 (by decide) ?_
  exact fiI hx hb hr hlk hK hP hD hS dX10_lit_24 (Nat.le_of_ble_eq_true rfl) (Nat.le_of_ble_eq_true rfl) (⟨rfl, rfl⟩)
