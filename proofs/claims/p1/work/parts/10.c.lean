theorem dX9_lit_0 : decode cX9_lit 0 = .ok (.aload_n 0, 1) := by decide +kernel
theorem dX9_lit_1 : decode cX9_lit 1 = .ok (.iload_n 1, 1) := by decide +kernel
theorem dX9_lit_2 : decode cX9_lit 2 = .ok (.invokevirtual 128, 3) := by decide +kernel
theorem dX9_lit_5 : decode cX9_lit 5 = .ok (.ifCond .eq 11, 3) := by decide +kernel
theorem dX9_lit_16 : decode cX9_lit 16 = .ok (.bipush (-2), 2) := by decide +kernel
theorem dX9_lit_18 : decode cX9_lit 18 = .ok (.ireturn, 1) := by decide +kernel
set_option maxHeartbeats 4000000 in
set_option maxRecDepth 100000 in
theorem c_X9_lit_0 (l : Launch) (V : GV) (y : Nat → Nat) (p0 : Int32) : Ct l V yX9_lit (.code yX9_lit cX9_lit 2 (some .int)) 2 [.ref (y 0), .int p0] [(y 0, .inr (9, [.ref (y 1), .int 0, .ref (y 2), .ref (y 10), .ref (y 19), .ref (y 25), .ref (y 26), .ref (y 30), .ref (y 31), .ref (y 32), .null, .null, .int 0, .int 0, .int 0])), (y 2, .inr (1, [.int 0, .int 0, .int 0, .int 0, .int 0, .int 0, .ref (y 3), .ref (y 4), .ref (y 5), .ref (y 6), .ref (y 7), .ref (y 8), .ref (y 9), .int 0, .int 0, .int 0, .int 0, .int 0]))] 0 0 (QI V (fun (r : Int32) (w : va_W) => (r = (-2) ∧ w = [(y 0, .inr (9, [.ref (y 1), .int 0, .ref (y 2), .ref (y 10), .ref (y 19), .ref (y 25), .ref (y 26), .ref (y 30), .ref (y 31), .ref (y 32), .null, .null, .int 0, .int 0, .int 0])), (y 2, .inr (1, [.int 0, .int 0, .int 0, .int 0, .int 0, .int 0, .ref (y 3), .ref (y 4), .ref (y 5), .ref (y 6), .ref (y 7), .ref (y 8), .ref (y 9), .int 0, .int 0, .int 0, .int 0, .int 0]))]))) := by
  refine Ct.of (by decide) (Nat.le_of_ble_eq_true rfl) (fun p e s m below meth c A ls hx hb hr hml hown hlk hnm hg hP hK hD hE hA hS hl => ?_)
  have hl : lv_has ls 2 [(0, .ref (y 0)), (1, .int p0)] := hl
  refine lv_aload_n hx hb dX9_lit_0 rfl (lv_at hl 0 rfl) ?_
  refine lv_iload_n hx hb dX9_lit_1 rfl (lv_at hl 1 rfl) ?_
  refine jnI (wr := []) (rnV (rest := []) ⟨hx, hb, hml, hown, hg⟩ (c_X9_isHill_0 l V y p0) mt_X9_isHill q_3_122 ⟨Nat.le_of_ble_eq_true rfl, Nat.le_of_ble_eq_true rfl⟩ hK hP hD hS hA hE [0, 1] rfl rfl 0 rfl rfl rfl rfl hl.1 rfl (Nat.le_of_ble_eq_true rfl) dX9_lit_2 ⟨Nat.le_of_ble_eq_true rfl, Nat.le_of_ble_eq_true rfl⟩) hP hD hS hA [0, 1] [] rfl rfl rfl (by decide) (fun r_1 w H locs hw hP hD hS => ?_)
  obtain ⟨rfl, rfl⟩ := hw
  have hP : va_P V.1 vwCl [(y 0, .inr (9, [.ref (y 1), .int 0, .ref (y 2), .ref (y 10), .ref (y 19), .ref (y 25), .ref (y 26), .ref (y 30), .ref (y 31), .ref (y 32), .null, .null, .int 0, .int 0, .int 0])), (y 2, .inr (1, [.int 0, .int 0, .int 0, .int 0, .int 0, .int 0, .ref (y 3), .ref (y 4), .ref (y 5), .ref (y 6), .ref (y 7), .ref (y 8), .ref (y 9), .int 0, .int 0, .int 0, .int 0, .int 0]))] H := hP
  have hD : va_D A [(y 0, .inr (9, [.ref (y 1), .int 0, .ref (y 2), .ref (y 10), .ref (y 19), .ref (y 25), .ref (y 26), .ref (y 30), .ref (y 31), .ref (y 32), .null, .null, .int 0, .int 0, .int 0])), (y 2, .inr (1, [.int 0, .int 0, .int 0, .int 0, .int 0, .int 0, .ref (y 3), .ref (y 4), .ref (y 5), .ref (y 6), .ref (y 7), .ref (y 8), .ref (y 9), .int 0, .int 0, .int 0, .int 0, .int 0]))] := hD
  refine lv_if_eq (tgt := 16) hx hb dX9_lit_5 (by decide) (fun _ => ?_) (fun c_2 => absurd c_2 (by decide))
  refine lv_bipush (v := (-2)) hx hb dX9_lit_16 (by decide) ?_
  exact fiI hx hb hr hlk hK hP hD hS dX9_lit_18 (Nat.le_of_ble_eq_true rfl) (Nat.le_of_ble_eq_true rfl) (⟨rfl, rfl⟩)
theorem dX10_brightest_0 : decode cX10_brightest 0 = .ok (.aload_n 0, 1) := by decide +kernel
theorem dX10_brightest_1 : decode cX10_brightest 1 = .ok (.iconst 0, 1) := by decide +kernel
theorem dX10_brightest_2 : decode cX10_brightest 2 = .ok (.putfield 1, 3) := by decide +kernel
theorem dX10_brightest_5 : decode cX10_brightest 5 = .ok (.iconst (-1), 1) := by decide +kernel
theorem dX10_brightest_6 : decode cX10_brightest 6 = .ok (.istore_n 1, 1) := by decide +kernel
theorem dX10_brightest_7 : decode cX10_brightest 7 = .ok (.iconst (-1), 1) := by decide +kernel
theorem dX10_brightest_8 : decode cX10_brightest 8 = .ok (.istore_n 2, 1) := by decide +kernel
theorem dX10_brightest_9 : decode cX10_brightest 9 = .ok (.iconst 0, 1) := by decide +kernel
theorem dX10_brightest_10 : decode cX10_brightest 10 = .ok (.istore_n 3, 1) := by decide +kernel
theorem dX10_brightest_11 : decode cX10_brightest 11 = .ok (.iload_n 3, 1) := by decide +kernel
theorem dX10_brightest_12 : decode cX10_brightest 12 = .ok (.aload_n 0, 1) := by decide +kernel
theorem dX10_brightest_13 : decode cX10_brightest 13 = .ok (.getfield 13, 3) := by decide +kernel
theorem dX10_brightest_16 : decode cX10_brightest 16 = .ok (.iconst 1, 1) := by decide +kernel
theorem dX10_brightest_17 : decode cX10_brightest 17 = .ok (.iaload, 1) := by decide +kernel
theorem dX10_brightest_18 : decode cX10_brightest 18 = .ok (.if_icmp .ge 35, 3) := by decide +kernel
theorem dX10_brightest_53 : decode cX10_brightest 53 = .ok (.iload_n 1, 1) := by decide +kernel
theorem dX10_brightest_54 : decode cX10_brightest 54 = .ok (.ireturn, 1) := by decide +kernel
set_option maxHeartbeats 4000000 in
set_option maxRecDepth 100000 in
theorem c_X10_brightest_0 (l : Launch) (V : GV) (z : Nat → Nat) : Ct l V yX10_brightest (.code yX10_brightest cX10_brightest 4 (some .int)) 1 [.ref (z 0)] [(z 0, .inr (10, mo z 0 0 0 0 0 0 0 0 0 0 (-1) 0 0 0 0 0)), (z 1, aI V 3075 (fun _ => 0))] 0 0 (QI V (fun (r : Int32) (w : va_W) => (r = (-1) ∧ w = [(z 0, .inr (10, mo z 0 0 0 0 0 0 0 0 0 0 (-1) 0 0 0 0 0)), (z 1, aI V 3075 (fun _ => 0))]))) := by
  refine Ct.of (by decide) (Nat.le_of_ble_eq_true rfl) (fun p e s m below meth c A ls hx hb hr hml hown hlk hnm hg hP hK hD hE hA hS hl => ?_)
  have hl : lv_has ls 4 [(0, .ref (z 0))] := hl
  refine lv_aload_n hx hb dX10_brightest_0 rfl (lv_at hl 0 rfl) ?_
  refine lv_iconst (v := 0) hx hb dX10_brightest_1 (by decide) ?_
  refine va_put (ci := 10) (v := .int 0) (ty := .int) (C := RX10) (T := TX10) (N := 40) hx hb hg inX10 tyX10 tyX10_ok nmX10 hown hK hP hD hS 0 rfl rfl 0 (by decide) (hg _ q_5_224) (fun _ h9 => h9) rfl (by decide +kernel) rfl rfl (Nat.le_of_ble_eq_true rfl) dX10_brightest_2 (fun H locs hP hD hS => ?_)
  have hP : va_P V.1 vwCl [(z 0, .inr (10, mo z 0 0 0 0 0 0 0 0 0 0 (-1) 0 0 0 0 0)), (z 1, aI V 3075 (fun _ => 0))] H := hP
  have hD : va_D A [(z 0, .inr (10, mo z 0 0 0 0 0 0 0 0 0 0 (-1) 0 0 0 0 0)), (z 1, aI V 3075 (fun _ => 0))] := hD
  refine lv_iconst (v := (-1)) hx hb dX10_brightest_5 (by decide) ?_
  refine lv_istore_n (lv' := [(1, .int (-1)), (0, .ref (z 0))]) hx hb dX10_brightest_6 rfl hl (by decide) rfl (fun ls hl => ?_)
  refine lv_iconst (v := (-1)) hx hb dX10_brightest_7 (by decide) ?_
  refine lv_istore_n (lv' := [(2, .int (-1)), (1, .int (-1)), (0, .ref (z 0))]) hx hb dX10_brightest_8 rfl hl (by decide) rfl (fun ls hl => ?_)
  refine lv_iconst (v := 0) hx hb dX10_brightest_9 (by decide) ?_
  refine lv_istore_n (lv' := [(3, .int 0), (2, .int (-1)), (1, .int (-1)), (0, .ref (z 0))]) hx hb dX10_brightest_10 rfl hl (by decide) rfl (fun ls hl => ?_)
  refine lv_iload_n hx hb dX10_brightest_11 rfl (lv_at hl 0 rfl) ?_
  refine lv_aload_n hx hb dX10_brightest_12 rfl (lv_at hl 3 rfl) ?_
  refine va_get (ci := 10) (v := .ref (z 1)) (C := RX10) (T := TX10) (N := 40) hx hb hg inX10 hown hK hP 0 rfl rfl 1 (by decide) (hg _ q_5_225) (fun _ h9 => h9) rfl dX10_brightest_13 ?_
  refine lv_iconst (v := 1) hx hb dX10_brightest_16 (by decide) ?_
  refine va_iald hx hb hK hP 1 0 rfl rfl (vin (by decide +kernel)) dX10_brightest_17 ?_
  refine tpi (y := 0) (rfl) ?_
  refine lv_icmp_ge (tgt := 53) hx hb dX10_brightest_18 (by decide) (fun _ => ?_) (fun c_1 => absurd c_1 (by decide))
  refine lv_iload_n hx hb dX10_brightest_53 rfl (lv_at hl 2 rfl) ?_
  exact fiI hx hb hr hlk hK hP hD hS dX10_brightest_54 (Nat.le_of_ble_eq_true rfl) (Nat.le_of_ble_eq_true rfl) (⟨rfl, rfl⟩)
theorem dX9_brightest_0 : decode cX9_brightest 0 = .ok (.iconst (-1), 1) := by decide +kernel
theorem dX9_brightest_1 : decode cX9_brightest 1 = .ok (.istore_n 1, 1) := by decide +kernel
theorem dX9_brightest_2 : decode cX9_brightest 2 = .ok (.iconst (-1), 1) := by decide +kernel
theorem dX9_brightest_3 : decode cX9_brightest 3 = .ok (.istore_n 2, 1) := by decide +kernel
theorem dX9_brightest_4 : decode cX9_brightest 4 = .ok (.iconst 0, 1) := by decide +kernel
theorem dX9_brightest_5 : decode cX9_brightest 5 = .ok (.istore_n 3, 1) := by decide +kernel
theorem dX9_brightest_6 : decode cX9_brightest 6 = .ok (.iload_n 3, 1) := by decide +kernel
theorem dX9_brightest_7 : decode cX9_brightest 7 = .ok (.aload_n 0, 1) := by decide +kernel
theorem dX9_brightest_8 : decode cX9_brightest 8 = .ok (.getfield 16, 3) := by decide +kernel
theorem dX9_brightest_11 : decode cX9_brightest 11 = .ok (.getfield 159, 3) := by decide +kernel
theorem dX9_brightest_14 : decode cX9_brightest 14 = .ok (.if_icmp .ge 30, 3) := by decide +kernel
theorem dX9_brightest_44 : decode cX9_brightest 44 = .ok (.iload_n 1, 1) := by decide +kernel
theorem dX9_brightest_45 : decode cX9_brightest 45 = .ok (.ireturn, 1) := by decide +kernel
set_option maxHeartbeats 4000000 in
set_option maxRecDepth 100000 in
theorem c_X9_brightest_0 (l : Launch) (V : GV) (y : Nat → Nat) : Ct l V yX9_brightest (.code yX9_brightest cX9_brightest 5 (some .int)) 1 [.ref (y 0)] [(y 0, .inr (9, [.ref (y 1), .int 0, .ref (y 2), .ref (y 10), .ref (y 19), .ref (y 25), .ref (y 26), .ref (y 30), .ref (y 31), .ref (y 32), .null, .null, .int 0, .int 0, .int 0])), (y 2, .inr (1, [.int 0, .int 0, .int 0, .int 0, .int 0, .int 0, .ref (y 3), .ref (y 4), .ref (y 5), .ref (y 6), .ref (y 7), .ref (y 8), .ref (y 9), .int 0, .int 0, .int 0, .int 0, .int 0]))] 0 0 (QI V (fun (r : Int32) (w : va_W) => (r = (-1) ∧ w = [(y 0, .inr (9, [.ref (y 1), .int 0, .ref (y 2), .ref (y 10), .ref (y 19), .ref (y 25), .ref (y 26), .ref (y 30), .ref (y 31), .ref (y 32), .null, .null, .int 0, .int 0, .int 0])), (y 2, .inr (1, [.int 0, .int 0, .int 0, .int 0, .int 0, .int 0, .ref (y 3), .ref (y 4), .ref (y 5), .ref (y 6), .ref (y 7), .ref (y 8), .ref (y 9), .int 0, .int 0, .int 0, .int 0, .int 0]))]))) := by
  refine Ct.of (by decide) (Nat.le_of_ble_eq_true rfl) (fun p e s m below meth c A ls hx hb hr hml hown hlk hnm hg hP hK hD hE hA hS hl => ?_)
  have hl : lv_has ls 5 [(0, .ref (y 0))] := hl
  refine lv_iconst (v := (-1)) hx hb dX9_brightest_0 (by decide) ?_
  refine lv_istore_n (lv' := [(1, .int (-1)), (0, .ref (y 0))]) hx hb dX9_brightest_1 rfl hl (by decide) rfl (fun ls hl => ?_)
  refine lv_iconst (v := (-1)) hx hb dX9_brightest_2 (by decide) ?_
  refine lv_istore_n (lv' := [(2, .int (-1)), (1, .int (-1)), (0, .ref (y 0))]) hx hb dX9_brightest_3 rfl hl (by decide) rfl (fun ls hl => ?_)
  refine lv_iconst (v := 0) hx hb dX9_brightest_4 (by decide) ?_
  refine lv_istore_n (lv' := [(3, .int 0), (2, .int (-1)), (1, .int (-1)), (0, .ref (y 0))]) hx hb dX9_brightest_5 rfl hl (by decide) rfl (fun ls hl => ?_)
  refine lv_iload_n hx hb dX9_brightest_6 rfl (lv_at hl 0 rfl) ?_
  refine lv_aload_n hx hb dX9_brightest_7 rfl (lv_at hl 3 rfl) ?_
  refine va_get (ci := 9) (v := .ref (y 2)) (C := RX9) (T := TX9) (N := 15) hx hb hg inX9 hown hK hP 0 rfl rfl 2 (by decide) (hg _ q_2_38) (fun _ h9 => h9) rfl dX9_brightest_8 ?_
  refine va_get (ci := 1) (v := .int 0) (C := RX1) (T := TX1) (N := 18) hx hb hg inX1 hown hK hP 1 rfl rfl 1 (by decide) (hg _ q_1_41) (fun _ h9 => h9) rfl dX9_brightest_11 ?_
  refine lv_icmp_ge (tgt := 44) hx hb dX9_brightest_14 (by decide) (fun _ => ?_) (fun c_1 => absurd c_1 (by decide))
  refine lv_iload_n hx hb dX9_brightest_44 rfl (lv_at hl 2 rfl) ?_
  exact fiI hx hb hr hlk hK hP hD hS dX9_brightest_45 (Nat.le_of_ble_eq_true rfl) (Nat.le_of_ble_eq_true rfl) (⟨rfl, rfl⟩)
theorem dX10_laysRoom_0 : decode cX10_laysRoom 0 = .ok (.iconst 0, 1) := by decide +kernel
theorem dX10_laysRoom_1 : decode cX10_laysRoom 1 = .ok (.istore_n 2, 1) := by decide +kernel
theorem dX10_laysRoom_2 : decode cX10_laysRoom 2 = .ok (.iload_n 2, 1) := by decide +kernel
theorem dX10_laysRoom_3 : decode cX10_laysRoom 3 = .ok (.bipush 100, 2) := by decide +kernel
theorem dX10_laysRoom_5 : decode cX10_laysRoom 5 = .ok (.if_icmp .ge 16, 3) := by decide +kernel
theorem dX10_laysRoom_21 : decode cX10_laysRoom 21 = .ok (.iconst 0, 1) := by decide +kernel
theorem dX10_laysRoom_22 : decode cX10_laysRoom 22 = .ok (.istore_n 2, 1) := by decide +kernel
theorem dX10_laysRoom_23 : decode cX10_laysRoom 23 = .ok (.iload_n 2, 1) := by decide +kernel
theorem dX10_laysRoom_24 : decode cX10_laysRoom 24 = .ok (.aload_n 0, 1) := by decide +kernel
theorem dX10_laysRoom_25 : decode cX10_laysRoom 25 = .ok (.getfield 13, 3) := by decide +kernel
theorem dX10_laysRoom_28 : decode cX10_laysRoom 28 = .ok (.iconst 1, 1) := by decide +kernel
theorem dX10_laysRoom_29 : decode cX10_laysRoom 29 = .ok (.iaload, 1) := by decide +kernel
theorem dX10_laysRoom_30 : decode cX10_laysRoom 30 = .ok (.if_icmp .ge 26, 3) := by decide +kernel
theorem dX10_laysRoom_56 : decode cX10_laysRoom 56 = .ok (.iconst 0, 1) := by decide +kernel
theorem dX10_laysRoom_57 : decode cX10_laysRoom 57 = .ok (.istore_n 2, 1) := by decide +kernel
theorem dX10_laysRoom_58 : decode cX10_laysRoom 58 = .ok (.iload_n 2, 1) := by decide +kernel
theorem dX10_laysRoom_59 : decode cX10_laysRoom 59 = .ok (.aload_n 0, 1) := by decide +kernel
theorem dX10_laysRoom_60 : decode cX10_laysRoom 60 = .ok (.getfield 13, 3) := by decide +kernel
theorem dX10_laysRoom_63 : decode cX10_laysRoom 63 = .ok (.iconst 2, 1) := by decide +kernel
theorem dX10_laysRoom_64 : decode cX10_laysRoom 64 = .ok (.iaload, 1) := by decide +kernel
theorem dX10_laysRoom_65 : decode cX10_laysRoom 65 = .ok (.if_icmp .ge 32, 3) := by decide +kernel
theorem dX10_laysRoom_97 : decode cX10_laysRoom 97 = .ok (.iconst 0, 1) := by decide +kernel
theorem dX10_laysRoom_98 : decode cX10_laysRoom 98 = .ok (.istore_n 2, 1) := by decide +kernel
theorem dX10_laysRoom_99 : decode cX10_laysRoom 99 = .ok (.iload_n 2, 1) := by decide +kernel
theorem dX10_laysRoom_100 : decode cX10_laysRoom 100 = .ok (.aload_n 0, 1) := by decide +kernel
theorem dX10_laysRoom_101 : decode cX10_laysRoom 101 = .ok (.getfield 13, 3) := by decide +kernel
theorem dX10_laysRoom_104 : decode cX10_laysRoom 104 = .ok (.iconst 3, 1) := by decide +kernel
theorem dX10_laysRoom_105 : decode cX10_laysRoom 105 = .ok (.iaload, 1) := by decide +kernel
theorem dX10_laysRoom_106 : decode cX10_laysRoom 106 = .ok (.if_icmp .ge 67, 3) := by decide +kernel
theorem dX10_laysRoom_173 : decode cX10_laysRoom 173 = .ok (.return_, 1) := by decide +kernel
theorem dX10_laysRoom_8 : decode cX10_laysRoom 8 = .ok (.aload_n 0, 1) := by decide +kernel
theorem dX10_laysRoom_9 : decode cX10_laysRoom 9 = .ok (.getfield 68, 3) := by decide +kernel
theorem dX10_laysRoom_12 : decode cX10_laysRoom 12 = .ok (.iload_n 2, 1) := by decide +kernel
theorem dX10_laysRoom_13 : decode cX10_laysRoom 13 = .ok (.iconst 0, 1) := by decide +kernel
theorem dX10_laysRoom_14 : decode cX10_laysRoom 14 = .ok (.iastore, 1) := by decide +kernel
theorem dX10_laysRoom_15 : decode cX10_laysRoom 15 = .ok (.iinc 2 1, 3) := by decide +kernel
theorem dX10_laysRoom_18 : decode cX10_laysRoom 18 = .ok (.goto (-16), 3) := by decide +kernel
set_option maxHeartbeats 4000000 in
set_option maxRecDepth 100000 in
theorem c_X10_laysRoom_0 (l : Launch) (V : GV) (z : Nat → Nat) : Ct l V yX10_laysRoom (.code yX10_laysRoom cX10_laysRoom 3 none) 1 [.ref (z 0), .int (-1)] [(z 0, .inr (10, mo z 0 0 0 0 0 0 0 0 0 0 (-1) 0 0 0 0 0)), (z 32, aI V 100 (fun _ => 0)), (z 1, aI V 3075 (fun _ => 0))] 0 0 (QV V (fun (w : va_W) => (w = [(z 0, .inr (10, mo z 0 0 0 0 0 0 0 0 0 0 (-1) 0 0 0 0 0)), (z 32, aI V 100 (fun _ => 0)), (z 1, aI V 3075 (fun _ => 0))]))) := by
  refine Ct.of (by decide) (Nat.le_of_ble_eq_true rfl) (fun p e s m below meth c A ls hx hb hr hml hown hlk hnm hg hP hK hD hE hA hS hl => ?_)
  have hl : lv_has ls 3 [(0, .ref (z 0)), (1, .int (-1))] := hl
  refine lv_iconst (v := 0) hx hb dX10_laysRoom_0 (by decide) ?_
  refine lv_istore_n (lv' := [(2, .int 0), (0, .ref (z 0)), (1, .int (-1))]) hx hb dX10_laysRoom_1 rfl hl (by decide) rfl (fun ls hl => ?_)
  refine loopW 100 (X := fun (i_1 : Nat) (H : Heap) (locs : List Loc) (ls : Array Slot) => 0 ≤ i_1 ∧ va_P V.1 vwCl [(z 0, .inr (10, mo z 0 0 0 0 0 0 0 0 0 0 (-1) 0 0 0 0 0)), (z 32, aI V 100 (fun _ => 0)), (z 1, aI V 3075 (fun _ => 0))] H ∧ va_D A [(z 0, .inr (10, mo z 0 0 0 0 0 0 0 0 0 0 (-1) 0 0 0 0 0)), (z 32, aI V 100 (fun _ => 0)), (z 1, aI V 3075 (fun _ => 0))] ∧ va_S A s.heap H locs ∧ lv_has ls 3 [(2, .int (nI i_1)), (0, .ref (z 0)), (1, .int (-1))]) (g := fun ls => F0 m 2 ls []) (fun i_1 H locs ls hi_i_1 hX ih_i_1 => ?_) 0 (Nat.le_of_ble_eq_true rfl) ⟨Nat.le_refl _, hP, hD, hS, lv_sub hl [0, 1, 2] rfl⟩
  obtain ⟨hlo_i_1, hP, hD, hS, hl⟩ := hX
  refine lv_iload_n hx hb dX10_laysRoom_2 rfl (lv_at hl 0 rfl) ?_
  refine lv_bipush (v := 100) hx hb dX10_laysRoom_3 (by decide) ?_
  refine lv_icmp_ge (tgt := 21) hx hb dX10_laysRoom_5 (by decide) (fun c_2 => ?_) (fun c_2 => ?_)
  · have e_3 : i_1 = 100 := by have q9 := (nI_leI (a := 100) (b := i_1) (by omega) (by omega)).mp c_2; omega
    rw [e_3] at hl
    have hl : lv_has ls 3 [(2, .int 100), (0, .ref (z 0)), (1, .int (-1))] := hl
    refine lv_iconst (v := 0) hx hb dX10_laysRoom_21 (by decide) ?_
    refine lv_istore_n (lv' := [(2, .int 0), (0, .ref (z 0)), (1, .int (-1))]) hx hb dX10_laysRoom_22 rfl hl (by decide) rfl (fun ls hl => ?_)
    refine lv_iload_n hx hb dX10_laysRoom_23 rfl (lv_at hl 0 rfl) ?_
    refine lv_aload_n hx hb dX10_laysRoom_24 rfl (lv_at hl 1 rfl) ?_
    refine va_get (ci := 10) (v := .ref (z 1)) (C := RX10) (T := TX10) (N := 40) hx hb hg inX10 hown hK hP 0 rfl rfl 1 (by decide) (hg _ q_5_225) (fun _ h9 => h9) rfl dX10_laysRoom_25 ?_
    refine lv_iconst (v := 1) hx hb dX10_laysRoom_28 (by decide) ?_
    refine va_iald hx hb hK hP 2 0 rfl rfl (vin (by decide +kernel)) dX10_laysRoom_29 ?_
    refine tpi (y := 0) (rfl) ?_
    refine lv_icmp_ge (tgt := 56) hx hb dX10_laysRoom_30 (by decide) (fun _ => ?_) (fun c_4 => absurd c_4 (by decide))
    refine lv_iconst (v := 0) hx hb dX10_laysRoom_56 (by decide) ?_
    refine lv_istore_n (lv' := [(2, .int 0), (0, .ref (z 0)), (1, .int (-1))]) hx hb dX10_laysRoom_57 rfl hl (by decide) rfl (fun ls hl => ?_)
    refine lv_iload_n hx hb dX10_laysRoom_58 rfl (lv_at hl 0 rfl) ?_
    refine lv_aload_n hx hb dX10_laysRoom_59 rfl (lv_at hl 1 rfl) ?_
    refine va_get (ci := 10) (v := .ref (z 1)) (C := RX10) (T := TX10) (N := 40) hx hb hg inX10 hown hK hP 0 rfl rfl 1 (by decide) (hg _ q_5_225) (fun _ h9 => h9) rfl dX10_laysRoom_60 ?_
    refine lv_iconst (v := 2) hx hb dX10_laysRoom_63 (by decide) ?_
    refine va_iald hx hb hK hP 2 0 rfl rfl (vin (by decide +kernel)) dX10_laysRoom_64 ?_
    refine tpi (y := 0) (rfl) ?_
    refine lv_icmp_ge (tgt := 97) hx hb dX10_laysRoom_65 (by decide) (fun _ => ?_) (fun c_5 => absurd c_5 (by decide))
    refine lv_iconst (v := 0) hx hb dX10_laysRoom_97 (by decide) ?_
    refine lv_istore_n (lv' := [(2, .int 0), (0, .ref (z 0)), (1, .int (-1))]) hx hb dX10_laysRoom_98 rfl hl (by decide) rfl (fun ls hl => ?_)
    refine lv_iload_n hx hb dX10_laysRoom_99 rfl (lv_at hl 0 rfl) ?_
    refine lv_aload_n hx hb dX10_laysRoom_100 rfl (lv_at hl 1 rfl) ?_
    refine va_get (ci := 10) (v := .ref (z 1)) (C := RX10) (T := TX10) (N := 40) hx hb hg inX10 hown hK hP 0 rfl rfl 1 (by decide) (hg _ q_5_225) (fun _ h9 => h9) rfl dX10_laysRoom_101 ?_
    refine lv_iconst (v := 3) hx hb dX10_laysRoom_104 (by decide) ?_
    refine va_iald hx hb hK hP 2 0 rfl rfl (vin (by decide +kernel)) dX10_laysRoom_105 ?_
    refine tpi (y := 0) (rfl) ?_
    refine lv_icmp_ge (tgt := 173) hx hb dX10_laysRoom_106 (by decide) (fun _ => ?_) (fun c_6 => absurd c_6 (by decide))
    exact fiV hx hb hr hlk hK hP hD hS dX10_laysRoom_173 (Nat.le_of_ble_eq_true rfl) (Nat.le_of_ble_eq_true rfl) (rfl)
  · have e_3 : i_1 < 100 := by rcases Nat.lt_or_ge i_1 100 with q9 | q9; exact q9; exact absurd (nI_le q9 (by omega)) c_2
    refine lv_aload_n hx hb dX10_laysRoom_8 rfl (lv_at hl 1 rfl) ?_
    refine va_get (ci := 10) (v := .ref (z 32)) (C := RX10) (T := TX10) (N := 40) hx hb hg inX10 hown hK hP 0 rfl rfl 32 (by decide) (hg _ q_6_16) (fun _ h9 => h9) rfl dX10_laysRoom_9 ?_
    refine lv_iload_n hx hb dX10_laysRoom_12 rfl (lv_at hl 0 rfl) ?_
    refine lv_iconst (v := 0) hx hb dX10_laysRoom_13 (by decide) ?_
    refine va_iast hx hb hK hP hD hS 1 0 rfl rfl (vp_in_nI (by omega) (by decide)) dX10_laysRoom_14 (fun H locs hP hD hS => ?_)
    have hP : va_P V.1 vwCl [(z 0, .inr (10, mo z 0 0 0 0 0 0 0 0 0 0 (-1) 0 0 0 0 0)), (z 32, aI V 100 (upd (fun _ => 0) (nI i_1).toNatClampNeg 0)), (z 1, aI V 3075 (fun _ => 0))] H := hP
    have hD : va_D A [(z 0, .inr (10, mo z 0 0 0 0 0 0 0 0 0 0 (-1) 0 0 0 0 0)), (z 32, aI V 100 (upd (fun _ => 0) (nI i_1).toNatClampNeg 0)), (z 1, aI V 3075 (fun _ => 0))] := hD
    have hP : va_P V.1 vwCl [(z 0, .inr (10, mo z 0 0 0 0 0 0 0 0 0 0 (-1) 0 0 0 0 0)), (z 32, aI V 100 (fun _ => 0)), (z 1, aI V 3075 (fun _ => 0))] H := by rw [upd0] at hP; exact hP
    have hD : va_D A [(z 0, .inr (10, mo z 0 0 0 0 0 0 0 0 0 0 (-1) 0 0 0 0 0)), (z 32, aI V 100 (fun _ => 0)), (z 1, aI V 3075 (fun _ => 0))] := by rw [upd0] at hD; exact hD
    refine lv_iinc (v := nI (i_1 + 1)) (lv' := [(2, .int (nI (i_1 + 1))), (0, .ref (z 0)), (1, .int (-1))]) hx hb dX10_laysRoom_15 hl (k := 0) rfl (nI_add i_1 1) (by decide) rfl (fun ls hl => ?_)
    refine lv_goto (tgt := 2) hx hb dX10_laysRoom_18 (by decide) ?_
    exact ih_i_1 e_3 _ _ _ ⟨(by omega), hP, hD, hS, lv_sub hl [0, 1, 2] rfl⟩
theorem dX10_isCome_0 : decode cX10_isCome 0 = .ok (.iconst 0, 1) := by decide +kernel
theorem dX10_isCome_1 : decode cX10_isCome 1 = .ok (.istore_n 1, 1) := by decide +kernel
theorem dX10_isCome_2 : decode cX10_isCome 2 = .ok (.iload_n 1, 1) := by decide +kernel
theorem dX10_isCome_3 : decode cX10_isCome 3 = .ok (.bipush 10, 2) := by decide +kernel
theorem dX10_isCome_5 : decode cX10_isCome 5 = .ok (.if_icmp .ge 16, 3) := by decide +kernel
theorem dX10_isCome_8 : decode cX10_isCome 8 = .ok (.aload_n 0, 1) := by decide +kernel
theorem dX10_isCome_9 : decode cX10_isCome 9 = .ok (.getfield 71, 3) := by decide +kernel
theorem dX10_isCome_12 : decode cX10_isCome 12 = .ok (.iload_n 1, 1) := by decide +kernel
theorem dX10_isCome_13 : decode cX10_isCome 13 = .ok (.iconst (-1), 1) := by decide +kernel
theorem dX10_isCome_14 : decode cX10_isCome 14 = .ok (.iastore, 1) := by decide +kernel
theorem dX10_isCome_15 : decode cX10_isCome 15 = .ok (.iinc 1 1, 3) := by decide +kernel
theorem dX10_isCome_18 : decode cX10_isCome 18 = .ok (.goto (-16), 3) := by decide +kernel
theorem dX10_isCome_21 : decode cX10_isCome 21 = .ok (.aload_n 0, 1) := by decide +kernel
theorem dX10_isCome_22 : decode cX10_isCome 22 = .ok (.getfield 71, 3) := by decide +kernel
theorem dX10_isCome_25 : decode cX10_isCome 25 = .ok (.iconst 0, 1) := by decide +kernel
theorem dX10_isCome_26 : decode cX10_isCome 26 = .ok (.iconst 0, 1) := by decide +kernel
theorem dX10_isCome_27 : decode cX10_isCome 27 = .ok (.iastore, 1) := by decide +kernel
theorem dX10_isCome_28 : decode cX10_isCome 28 = .ok (.aload_n 0, 1) := by decide +kernel
theorem dX10_isCome_29 : decode cX10_isCome 29 = .ok (.getfield 74, 3) := by decide +kernel
theorem dX10_isCome_32 : decode cX10_isCome 32 = .ok (.iconst 0, 1) := by decide +kernel
theorem dX10_isCome_33 : decode cX10_isCome 33 = .ok (.iconst 0, 1) := by decide +kernel
theorem dX10_isCome_34 : decode cX10_isCome 34 = .ok (.iastore, 1) := by decide +kernel
theorem dX10_isCome_35 : decode cX10_isCome 35 = .ok (.iconst 1, 1) := by decide +kernel
theorem dX10_isCome_36 : decode cX10_isCome 36 = .ok (.istore_n 1, 1) := by decide +kernel
theorem dX10_isCome_37 : decode cX10_isCome 37 = .ok (.iconst 0, 1) := by decide +kernel
theorem dX10_isCome_38 : decode cX10_isCome 38 = .ok (.istore_n 2, 1) := by decide +kernel
theorem dX10_isCome_39 : decode cX10_isCome 39 = .ok (.iload_n 2, 1) := by decide +kernel
theorem dX10_isCome_40 : decode cX10_isCome 40 = .ok (.iload_n 1, 1) := by decide +kernel
theorem dX10_isCome_41 : decode cX10_isCome 41 = .ok (.if_icmp .ge 77, 3) := by decide +kernel
theorem dX10_isCome_44 : decode cX10_isCome 44 = .ok (.iconst 0, 1) := by decide +kernel
theorem dX10_isCome_45 : decode cX10_isCome 45 = .ok (.istore_n 3, 1) := by decide +kernel
theorem dX10_isCome_46 : decode cX10_isCome 46 = .ok (.iload_n 3, 1) := by decide +kernel
theorem dX10_isCome_47 : decode cX10_isCome 47 = .ok (.bipush 10, 2) := by decide +kernel
theorem dX10_isCome_49 : decode cX10_isCome 49 = .ok (.if_icmp .ge 63, 3) := by decide +kernel
theorem dX10_isCome_52 : decode cX10_isCome 52 = .ok (.aload_n 0, 1) := by decide +kernel
theorem dX10_isCome_53 : decode cX10_isCome 53 = .ok (.getfield 71, 3) := by decide +kernel
theorem dX10_isCome_56 : decode cX10_isCome 56 = .ok (.iload_n 3, 1) := by decide +kernel
theorem dX10_isCome_57 : decode cX10_isCome 57 = .ok (.iaload, 1) := by decide +kernel
theorem dX10_isCome_58 : decode cX10_isCome 58 = .ok (.iconst (-1), 1) := by decide +kernel
theorem dX10_isCome_59 : decode cX10_isCome 59 = .ok (.if_icmp .ne 47, 3) := by decide +kernel
theorem dX10_isCome_106 : decode cX10_isCome 106 = .ok (.iinc 3 1, 3) := by decide +kernel
theorem dX10_isCome_109 : decode cX10_isCome 109 = .ok (.goto (-63), 3) := by decide +kernel
theorem dX10_isCome_62 : decode cX10_isCome 62 = .ok (.aload_n 0, 1) := by decide +kernel
theorem dX10_isCome_63 : decode cX10_isCome 63 = .ok (.getfield 68, 3) := by decide +kernel
theorem dX10_isCome_66 : decode cX10_isCome 66 = .ok (.bipush 10, 2) := by decide +kernel
theorem dX10_isCome_68 : decode cX10_isCome 68 = .ok (.aload_n 0, 1) := by decide +kernel
theorem dX10_isCome_69 : decode cX10_isCome 69 = .ok (.getfield 74, 3) := by decide +kernel
theorem dX10_isCome_72 : decode cX10_isCome 72 = .ok (.iload_n 2, 1) := by decide +kernel
theorem dX10_isCome_73 : decode cX10_isCome 73 = .ok (.iaload, 1) := by decide +kernel
theorem dX10_isCome_74 : decode cX10_isCome 74 = .ok (.imul, 1) := by decide +kernel
theorem dX10_isCome_75 : decode cX10_isCome 75 = .ok (.iload_n 3, 1) := by decide +kernel
theorem dX10_isCome_76 : decode cX10_isCome 76 = .ok (.iadd, 1) := by decide +kernel
theorem dX10_isCome_77 : decode cX10_isCome 77 = .ok (.iaload, 1) := by decide +kernel
theorem dX10_isCome_78 : decode cX10_isCome 78 = .ok (.ifCond .ne 6, 3) := by decide +kernel
theorem dX10_isCome_81 : decode cX10_isCome 81 = .ok (.goto 25, 3) := by decide +kernel
theorem dX10_isCome_112 : decode cX10_isCome 112 = .ok (.iinc 2 1, 3) := by decide +kernel
theorem dX10_isCome_115 : decode cX10_isCome 115 = .ok (.goto (-76), 3) := by decide +kernel
theorem dX10_isCome_118 : decode cX10_isCome 118 = .ok (.aload_n 0, 1) := by decide +kernel
theorem dX10_isCome_119 : decode cX10_isCome 119 = .ok (.getfield 71, 3) := by decide +kernel
theorem dX10_isCome_122 : decode cX10_isCome 122 = .ok (.bipush 9, 2) := by decide +kernel
theorem dX10_isCome_124 : decode cX10_isCome 124 = .ok (.iaload, 1) := by decide +kernel
theorem dX10_isCome_125 : decode cX10_isCome 125 = .ok (.iconst (-1), 1) := by decide +kernel
theorem dX10_isCome_126 : decode cX10_isCome 126 = .ok (.if_icmp .eq 7, 3) := by decide +kernel
theorem dX10_isCome_133 : decode cX10_isCome 133 = .ok (.iconst 0, 1) := by decide +kernel
theorem dX10_isCome_134 : decode cX10_isCome 134 = .ok (.ireturn, 1) := by decide +kernel
set_option maxHeartbeats 4000000 in
set_option maxRecDepth 100000 in
theorem c_X10_isCome_0 (l : Launch) (V : GV) (z : Nat → Nat) : Ct l V yX10_isCome (.code yX10_isCome cX10_isCome 4 (some .boolean)) 1 [.ref (z 0)] [(z 33, aI V 10 (fun _ => 0)), (z 34, aI V 10 (fun _ => 0)), (z 0, .inr (10, mo z 0 0 0 0 0 0 0 0 0 0 (-1) 0 0 0 0 0)), (z 32, aI V 100 (fun _ => 0))] 0 0 (QI V (fun (r : Int32) (w : va_W) => (r = 0 ∧ w = [(z 33, aI V 10 (upd (upd (upd (upd (upd (upd (upd (upd (upd (upd (upd (fun _ => 0) 0 (-1)) 1 (-1)) 2 (-1)) 3 (-1)) 4 (-1)) 5 (-1)) 6 (-1)) 7 (-1)) 8 (-1)) 9 (-1)) 0 0)), (z 34, aI V 10 (fun _ => 0)), (z 0, .inr (10, mo z 0 0 0 0 0 0 0 0 0 0 (-1) 0 0 0 0 0)), (z 32, aI V 100 (fun _ => 0))]))) := by
  refine Ct.of (by decide) (Nat.le_of_ble_eq_true rfl) (fun p e s m below meth c A ls hx hb hr hml hown hlk hnm hg hP hK hD hE hA hS hl => ?_)
  have hl : lv_has ls 4 [(0, .ref (z 0))] := hl
  refine lv_iconst (v := 0) hx hb dX10_isCome_0 (by decide) ?_
  refine lv_istore_n (lv' := [(1, .int 0), (0, .ref (z 0))]) hx hb dX10_isCome_1 rfl hl (by decide) rfl (fun ls hl => ?_)
  refine lv_iload_n hx hb dX10_isCome_2 rfl (lv_at hl 0 rfl) ?_
  refine lv_bipush (v := 10) hx hb dX10_isCome_3 (by decide) ?_
  refine lv_icmp_ge (tgt := 21) hx hb dX10_isCome_5 (by decide) (fun c_1 => absurd c_1 (by decide)) (fun _ => ?_)
  refine lv_aload_n hx hb dX10_isCome_8 rfl (lv_at hl 1 rfl) ?_
  refine va_get (ci := 10) (v := .ref (z 33)) (C := RX10) (T := TX10) (N := 40) hx hb hg inX10 hown hK hP 2 rfl rfl 33 (by decide) (hg _ q_6_17) (fun _ h9 => h9) rfl dX10_isCome_9 ?_
  refine lv_iload_n hx hb dX10_isCome_12 rfl (lv_at hl 0 rfl) ?_
  refine lv_iconst (v := (-1)) hx hb dX10_isCome_13 (by decide) ?_
  refine va_iast hx hb hK hP hD hS 0 0 rfl rfl (vin (by decide +kernel)) dX10_isCome_14 (fun H locs hP hD hS => ?_)
  have hP : va_P V.1 vwCl [(z 33, aI V 10 (upd (fun _ => 0) 0 (-1))), (z 34, aI V 10 (fun _ => 0)), (z 0, .inr (10, mo z 0 0 0 0 0 0 0 0 0 0 (-1) 0 0 0 0 0)), (z 32, aI V 100 (fun _ => 0))] H := hP
  have hD : va_D A [(z 33, aI V 10 (upd (fun _ => 0) 0 (-1))), (z 34, aI V 10 (fun _ => 0)), (z 0, .inr (10, mo z 0 0 0 0 0 0 0 0 0 0 (-1) 0 0 0 0 0)), (z 32, aI V 100 (fun _ => 0))] := hD
  refine lv_iinc (v := 1) (lv' := [(1, .int 1), (0, .ref (z 0))]) hx hb dX10_isCome_15 hl (k := 0) rfl (by decide +kernel) (by decide) rfl (fun ls hl => ?_)
  refine lv_goto (tgt := 2) hx hb dX10_isCome_18 (by decide) ?_
  refine lv_iload_n hx hb dX10_isCome_2 rfl (lv_at hl 0 rfl) ?_
  refine lv_bipush (v := 10) hx hb dX10_isCome_3 (by decide) ?_
  refine lv_icmp_ge (tgt := 21) hx hb dX10_isCome_5 (by decide) (fun c_2 => absurd c_2 (by decide)) (fun _ => ?_)
  refine lv_aload_n hx hb dX10_isCome_8 rfl (lv_at hl 1 rfl) ?_
  refine va_get (ci := 10) (v := .ref (z 33)) (C := RX10) (T := TX10) (N := 40) hx hb hg inX10 hown hK hP 2 rfl rfl 33 (by decide) (hg _ q_6_17) (fun _ h9 => h9) rfl dX10_isCome_9 ?_
  refine lv_iload_n hx hb dX10_isCome_12 rfl (lv_at hl 0 rfl) ?_
  refine lv_iconst (v := (-1)) hx hb dX10_isCome_13 (by decide) ?_
  refine va_iast hx hb hK hP hD hS 0 0 rfl rfl (vin (by decide +kernel)) dX10_isCome_14 (fun H locs hP hD hS => ?_)
  have hP : va_P V.1 vwCl [(z 33, aI V 10 (upd (upd (fun _ => 0) 0 (-1)) 1 (-1))), (z 34, aI V 10 (fun _ => 0)), (z 0, .inr (10, mo z 0 0 0 0 0 0 0 0 0 0 (-1) 0 0 0 0 0)), (z 32, aI V 100 (fun _ => 0))] H := hP
  have hD : va_D A [(z 33, aI V 10 (upd (upd (fun _ => 0) 0 (-1)) 1 (-1))), (z 34, aI V 10 (fun _ => 0)), (z 0, .inr (10, mo z 0 0 0 0 0 0 0 0 0 0 (-1) 0 0 0 0 0)), (z 32, aI V 100 (fun _ => 0))] := hD
  refine lv_iinc (v := 2) (lv' := [(1, .int 2), (0, .ref (z 0))]) hx hb dX10_isCome_15 hl (k := 0) rfl (by decide +kernel) (by decide) rfl (fun ls hl => ?_)
  refine lv_goto (tgt := 2) hx hb dX10_isCome_18 (by decide) ?_
  refine lv_iload_n hx hb dX10_isCome_2 rfl (lv_at hl 0 rfl) ?_
  refine lv_bipush (v := 10) hx hb dX10_isCome_3 (by decide) ?_
  refine lv_icmp_ge (tgt := 21) hx hb dX10_isCome_5 (by decide) (fun c_3 => absurd c_3 (by decide)) (fun _ => ?_)
  refine lv_aload_n hx hb dX10_isCome_8 rfl (lv_at hl 1 rfl) ?_
  refine va_get (ci := 10) (v := .ref (z 33)) (C := RX10) (T := TX10) (N := 40) hx hb hg inX10 hown hK hP 2 rfl rfl 33 (by decide) (hg _ q_6_17) (fun _ h9 => h9) rfl dX10_isCome_9 ?_
  refine lv_iload_n hx hb dX10_isCome_12 rfl (lv_at hl 0 rfl) ?_
  refine lv_iconst (v := (-1)) hx hb dX10_isCome_13 (by decide) ?_
  refine va_iast hx hb hK hP hD hS 0 0 rfl rfl (vin (by decide +kernel)) dX10_isCome_14 (fun H locs hP hD hS => ?_)
  have hP : va_P V.1 vwCl [(z 33, aI V 10 (upd (upd (upd (fun _ => 0) 0 (-1)) 1 (-1)) 2 (-1))), (z 34, aI V 10 (fun _ => 0)), (z 0, .inr (10, mo z 0 0 0 0 0 0 0 0 0 0 (-1) 0 0 0 0 0)), (z 32, aI V 100 (fun _ => 0))] H := hP
  have hD : va_D A [(z 33, aI V 10 (upd (upd (upd (fun _ => 0) 0 (-1)) 1 (-1)) 2 (-1))), (z 34, aI V 10 (fun _ => 0)), (z 0, .inr (10, mo z 0 0 0 0 0 0 0 0 0 0 (-1) 0 0 0 0 0)), (z 32, aI V 100 (fun _ => 0))] := hD
  refine lv_iinc (v := 3) (lv' := [(1, .int 3), (0, .ref (z 0))]) hx hb dX10_isCome_15 hl (k := 0) rfl (by decide +kernel) (by decide) rfl (fun ls hl => ?_)
  refine lv_goto (tgt := 2) hx hb dX10_isCome_18 (by decide) ?_
  refine lv_iload_n hx hb dX10_isCome_2 rfl (lv_at hl 0 rfl) ?_
  refine lv_bipush (v := 10) hx hb dX10_isCome_3 (by decide) ?_
  refine lv_icmp_ge (tgt := 21) hx hb dX10_isCome_5 (by decide) (fun c_4 => absurd c_4 (by decide)) (fun _ => ?_)
  refine lv_aload_n hx hb dX10_isCome_8 rfl (lv_at hl 1 rfl) ?_
  refine va_get (ci := 10) (v := .ref (z 33)) (C := RX10) (T := TX10) (N := 40) hx hb hg inX10 hown hK hP 2 rfl rfl 33 (by decide) (hg _ q_6_17) (fun _ h9 => h9) rfl dX10_isCome_9 ?_
  refine lv_iload_n hx hb dX10_isCome_12 rfl (lv_at hl 0 rfl) ?_
  refine lv_iconst (v := (-1)) hx hb dX10_isCome_13 (by decide) ?_
  refine va_iast hx hb hK hP hD hS 0 0 rfl rfl (vin (by decide +kernel)) dX10_isCome_14 (fun H locs hP hD hS => ?_)
  have hP : va_P V.1 vwCl [(z 33, aI V 10 (upd (upd (upd (upd (fun _ => 0) 0 (-1)) 1 (-1)) 2 (-1)) 3 (-1))), (z 34, aI V 10 (fun _ => 0)), (z 0, .inr (10, mo z 0 0 0 0 0 0 0 0 0 0 (-1) 0 0 0 0 0)), (z 32, aI V 100 (fun _ => 0))] H := hP
  have hD : va_D A [(z 33, aI V 10 (upd (upd (upd (upd (fun _ => 0) 0 (-1)) 1 (-1)) 2 (-1)) 3 (-1))), (z 34, aI V 10 (fun _ => 0)), (z 0, .inr (10, mo z 0 0 0 0 0 0 0 0 0 0 (-1) 0 0 0 0 0)), (z 32, aI V 100 (fun _ => 0))] := hD
  refine lv_iinc (v := 4) (lv' := [(1, .int 4), (0, .ref (z 0))]) hx hb dX10_isCome_15 hl (k := 0) rfl (by decide +kernel) (by decide) rfl (fun ls hl => ?_)
  refine lv_goto (tgt := 2) hx hb dX10_isCome_18 (by decide) ?_
  refine lv_iload_n hx hb dX10_isCome_2 rfl (lv_at hl 0 rfl) ?_
  refine lv_bipush (v := 10) hx hb dX10_isCome_3 (by decide) ?_
  refine lv_icmp_ge (tgt := 21) hx hb dX10_isCome_5 (by decide) (fun c_5 => absurd c_5 (by decide)) (fun _ => ?_)
  refine lv_aload_n hx hb dX10_isCome_8 rfl (lv_at hl 1 rfl) ?_
  refine va_get (ci := 10) (v := .ref (z 33)) (C := RX10) (T := TX10) (N := 40) hx hb hg inX10 hown hK hP 2 rfl rfl 33 (by decide) (hg _ q_6_17) (fun _ h9 => h9) rfl dX10_isCome_9 ?_
  refine lv_iload_n hx hb dX10_isCome_12 rfl (lv_at hl 0 rfl) ?_
  refine lv_iconst (v := (-1)) hx hb dX10_isCome_13 (by decide) ?_
  refine va_iast hx hb hK hP hD hS 0 0 rfl rfl (vin (by decide +kernel)) dX10_isCome_14 (fun H locs hP hD hS => ?_)
  have hP : va_P V.1 vwCl [(z 33, aI V 10 (upd (upd (upd (upd (upd (fun _ => 0) 0 (-1)) 1 (-1)) 2 (-1)) 3 (-1)) 4 (-1))), (z 34, aI V 10 (fun _ => 0)), (z 0, .inr (10, mo z 0 0 0 0 0 0 0 0 0 0 (-1) 0 0 0 0 0)), (z 32, aI V 100 (fun _ => 0))] H := hP
  have hD : va_D A [(z 33, aI V 10 (upd (upd (upd (upd (upd (fun _ => 0) 0 (-1)) 1 (-1)) 2 (-1)) 3 (-1)) 4 (-1))), (z 34, aI V 10 (fun _ => 0)), (z 0, .inr (10, mo z 0 0 0 0 0 0 0 0 0 0 (-1) 0 0 0 0 0)), (z 32, aI V 100 (fun _ => 0))] := hD
  refine lv_iinc (v := 5) (lv' := [(1, .int 5), (0, .ref (z 0))]) hx hb dX10_isCome_15 hl (k := 0) rfl (by decide +kernel) (by decide) rfl (fun ls hl => ?_)
  refine lv_goto (tgt := 2) hx hb dX10_isCome_18 (by decide) ?_
  refine lv_iload_n hx hb dX10_isCome_2 rfl (lv_at hl 0 rfl) ?_
  refine lv_bipush (v := 10) hx hb dX10_isCome_3 (by decide) ?_
  refine lv_icmp_ge (tgt := 21) hx hb dX10_isCome_5 (by decide) (fun c_6 => absurd c_6 (by decide)) (fun _ => ?_)
  refine lv_aload_n hx hb dX10_isCome_8 rfl (lv_at hl 1 rfl) ?_
  refine va_get (ci := 10) (v := .ref (z 33)) (C := RX10) (T := TX10) (N := 40) hx hb hg inX10 hown hK hP 2 rfl rfl 33 (by decide) (hg _ q_6_17) (fun _ h9 => h9) rfl dX10_isCome_9 ?_
  refine lv_iload_n hx hb dX10_isCome_12 rfl (lv_at hl 0 rfl) ?_
  refine lv_iconst (v := (-1)) hx hb dX10_isCome_13 (by decide) ?_
  refine va_iast hx hb hK hP hD hS 0 0 rfl rfl (vin (by decide +kernel)) dX10_isCome_14 (fun H locs hP hD hS => ?_)
  have hP : va_P V.1 vwCl [(z 33, aI V 10 (upd (upd (upd (upd (upd (upd (fun _ => 0) 0 (-1)) 1 (-1)) 2 (-1)) 3 (-1)) 4 (-1)) 5 (-1))), (z 34, aI V 10 (fun _ => 0)), (z 0, .inr (10, mo z 0 0 0 0 0 0 0 0 0 0 (-1) 0 0 0 0 0)), (z 32, aI V 100 (fun _ => 0))] H := hP
  have hD : va_D A [(z 33, aI V 10 (upd (upd (upd (upd (upd (upd (fun _ => 0) 0 (-1)) 1 (-1)) 2 (-1)) 3 (-1)) 4 (-1)) 5 (-1))), (z 34, aI V 10 (fun _ => 0)), (z 0, .inr (10, mo z 0 0 0 0 0 0 0 0 0 0 (-1) 0 0 0 0 0)), (z 32, aI V 100 (fun _ => 0))] := hD
  refine lv_iinc (v := 6) (lv' := [(1, .int 6), (0, .ref (z 0))]) hx hb dX10_isCome_15 hl (k := 0) rfl (by decide +kernel) (by decide) rfl (fun ls hl => ?_)
  refine lv_goto (tgt := 2) hx hb dX10_isCome_18 (by decide) ?_
  refine lv_iload_n hx hb dX10_isCome_2 rfl (lv_at hl 0 rfl) ?_
  refine lv_bipush (v := 10) hx hb dX10_isCome_3 (by decide) ?_
  refine lv_icmp_ge (tgt := 21) hx hb dX10_isCome_5 (by decide) (fun c_7 => absurd c_7 (by decide)) (fun _ => ?_)
  refine lv_aload_n hx hb dX10_isCome_8 rfl (lv_at hl 1 rfl) ?_
  refine va_get (ci := 10) (v := .ref (z 33)) (C := RX10) (T := TX10) (N := 40) hx hb hg inX10 hown hK hP 2 rfl rfl 33 (by decide) (hg _ q_6_17) (fun _ h9 => h9) rfl dX10_isCome_9 ?_
  refine lv_iload_n hx hb dX10_isCome_12 rfl (lv_at hl 0 rfl) ?_
  refine lv_iconst (v := (-1)) hx hb dX10_isCome_13 (by decide) ?_
  refine va_iast hx hb hK hP hD hS 0 0 rfl rfl (vin (by decide +kernel)) dX10_isCome_14 (fun H locs hP hD hS => ?_)
  have hP : va_P V.1 vwCl [(z 33, aI V 10 (upd (upd (upd (upd (upd (upd (upd (fun _ => 0) 0 (-1)) 1 (-1)) 2 (-1)) 3 (-1)) 4 (-1)) 5 (-1)) 6 (-1))), (z 34, aI V 10 (fun _ => 0)), (z 0, .inr (10, mo z 0 0 0 0 0 0 0 0 0 0 (-1) 0 0 0 0 0)), (z 32, aI V 100 (fun _ => 0))] H := hP
  have hD : va_D A [(z 33, aI V 10 (upd (upd (upd (upd (upd (upd (upd (fun _ => 0) 0 (-1)) 1 (-1)) 2 (-1)) 3 (-1)) 4 (-1)) 5 (-1)) 6 (-1))), (z 34, aI V 10 (fun _ => 0)), (z 0, .inr (10, mo z 0 0 0 0 0 0 0 0 0 0 (-1) 0 0 0 0 0)), (z 32, aI V 100 (fun _ => 0))] := hD
  refine lv_iinc (v := 7) (lv' := [(1, .int 7), (0, .ref (z 0))]) hx hb dX10_isCome_15 hl (k := 0) rfl (by decide +kernel) (by decide) rfl (fun ls hl => ?_)
  refine lv_goto (tgt := 2) hx hb dX10_isCome_18 (by decide) ?_
  refine lv_iload_n hx hb dX10_isCome_2 rfl (lv_at hl 0 rfl) ?_
  refine lv_bipush (v := 10) hx hb dX10_isCome_3 (by decide) ?_
  refine lv_icmp_ge (tgt := 21) hx hb dX10_isCome_5 (by decide) (fun c_8 => absurd c_8 (by decide)) (fun _ => ?_)
  refine lv_aload_n hx hb dX10_isCome_8 rfl (lv_at hl 1 rfl) ?_
  refine va_get (ci := 10) (v := .ref (z 33)) (C := RX10) (T := TX10) (N := 40) hx hb hg inX10 hown hK hP 2 rfl rfl 33 (by decide) (hg _ q_6_17) (fun _ h9 => h9) rfl dX10_isCome_9 ?_
  refine lv_iload_n hx hb dX10_isCome_12 rfl (lv_at hl 0 rfl) ?_
  refine lv_iconst (v := (-1)) hx hb dX10_isCome_13 (by decide) ?_
  refine va_iast hx hb hK hP hD hS 0 0 rfl rfl (vin (by decide +kernel)) dX10_isCome_14 (fun H locs hP hD hS => ?_)
  have hP : va_P V.1 vwCl [(z 33, aI V 10 (upd (upd (upd (upd (upd (upd (upd (upd (fun _ => 0) 0 (-1)) 1 (-1)) 2 (-1)) 3 (-1)) 4 (-1)) 5 (-1)) 6 (-1)) 7 (-1))), (z 34, aI V 10 (fun _ => 0)), (z 0, .inr (10, mo z 0 0 0 0 0 0 0 0 0 0 (-1) 0 0 0 0 0)), (z 32, aI V 100 (fun _ => 0))] H := hP
  have hD : va_D A [(z 33, aI V 10 (upd (upd (upd (upd (upd (upd (upd (upd (fun _ => 0) 0 (-1)) 1 (-1)) 2 (-1)) 3 (-1)) 4 (-1)) 5 (-1)) 6 (-1)) 7 (-1))), (z 34, aI V 10 (fun _ => 0)), (z 0, .inr (10, mo z 0 0 0 0 0 0 0 0 0 0 (-1) 0 0 0 0 0)), (z 32, aI V 100 (fun _ => 0))] := hD
  refine lv_iinc (v := 8) (lv' := [(1, .int 8), (0, .ref (z 0))]) hx hb dX10_isCome_15 hl (k := 0) rfl (by decide +kernel) (by decide) rfl (fun ls hl => ?_)
  refine lv_goto (tgt := 2) hx hb dX10_isCome_18 (by decide) ?_
  refine lv_iload_n hx hb dX10_isCome_2 rfl (lv_at hl 0 rfl) ?_
  refine lv_bipush (v := 10) hx hb dX10_isCome_3 (by decide) ?_
  refine lv_icmp_ge (tgt := 21) hx hb dX10_isCome_5 (by decide) (fun c_9 => absurd c_9 (by decide)) (fun _ => ?_)
  refine lv_aload_n hx hb dX10_isCome_8 rfl (lv_at hl 1 rfl) ?_
  refine va_get (ci := 10) (v := .ref (z 33)) (C := RX10) (T := TX10) (N := 40) hx hb hg inX10 hown hK hP 2 rfl rfl 33 (by decide) (hg _ q_6_17) (fun _ h9 => h9) rfl dX10_isCome_9 ?_
  refine lv_iload_n hx hb dX10_isCome_12 rfl (lv_at hl 0 rfl) ?_
  refine lv_iconst (v := (-1)) hx hb dX10_isCome_13 (by decide) ?_
  refine va_iast hx hb hK hP hD hS 0 0 rfl rfl (vin (by decide +kernel)) dX10_isCome_14 (fun H locs hP hD hS => ?_)
  have hP : va_P V.1 vwCl [(z 33, aI V 10 (upd (upd (upd (upd (upd (upd (upd (upd (upd (fun _ => 0) 0 (-1)) 1 (-1)) 2 (-1)) 3 (-1)) 4 (-1)) 5 (-1)) 6 (-1)) 7 (-1)) 8 (-1))), (z 34, aI V 10 (fun _ => 0)), (z 0, .inr (10, mo z 0 0 0 0 0 0 0 0 0 0 (-1) 0 0 0 0 0)), (z 32, aI V 100 (fun _ => 0))] H := hP
  have hD : va_D A [(z 33, aI V 10 (upd (upd (upd (upd (upd (upd (upd (upd (upd (fun _ => 0) 0 (-1)) 1 (-1)) 2 (-1)) 3 (-1)) 4 (-1)) 5 (-1)) 6 (-1)) 7 (-1)) 8 (-1))), (z 34, aI V 10 (fun _ => 0)), (z 0, .inr (10, mo z 0 0 0 0 0 0 0 0 0 0 (-1) 0 0 0 0 0)), (z 32, aI V 100 (fun _ => 0))] := hD
  refine lv_iinc (v := 9) (lv' := [(1, .int 9), (0, .ref (z 0))]) hx hb dX10_isCome_15 hl (k := 0) rfl (by decide +kernel) (by decide) rfl (fun ls hl => ?_)
  refine lv_goto (tgt := 2) hx hb dX10_isCome_18 (by decide) ?_
  refine lv_iload_n hx hb dX10_isCome_2 rfl (lv_at hl 0 rfl) ?_
  refine lv_bipush (v := 10) hx hb dX10_isCome_3 (by decide) ?_
  refine lv_icmp_ge (tgt := 21) hx hb dX10_isCome_5 (by decide) (fun c_10 => absurd c_10 (by decide)) (fun _ => ?_)
  refine lv_aload_n hx hb dX10_isCome_8 rfl (lv_at hl 1 rfl) ?_
  refine va_get (ci := 10) (v := .ref (z 33)) (C := RX10) (T := TX10) (N := 40) hx hb hg inX10 hown hK hP 2 rfl rfl 33 (by decide) (hg _ q_6_17) (fun _ h9 => h9) rfl dX10_isCome_9 ?_
  refine lv_iload_n hx hb dX10_isCome_12 rfl (lv_at hl 0 rfl) ?_
  refine lv_iconst (v := (-1)) hx hb dX10_isCome_13 (by decide) ?_
  refine va_iast hx hb hK hP hD hS 0 0 rfl rfl (vin (by decide +kernel)) dX10_isCome_14 (fun H locs hP hD hS => ?_)
  have hP : va_P V.1 vwCl [(z 33, aI V 10 (upd (upd (upd (upd (upd (upd (upd (upd (upd (upd (fun _ => 0) 0 (-1)) 1 (-1)) 2 (-1)) 3 (-1)) 4 (-1)) 5 (-1)) 6 (-1)) 7 (-1)) 8 (-1)) 9 (-1))), (z 34, aI V 10 (fun _ => 0)), (z 0, .inr (10, mo z 0 0 0 0 0 0 0 0 0 0 (-1) 0 0 0 0 0)), (z 32, aI V 100 (fun _ => 0))] H := hP
  have hD : va_D A [(z 33, aI V 10 (upd (upd (upd (upd (upd (upd (upd (upd (upd (upd (fun _ => 0) 0 (-1)) 1 (-1)) 2 (-1)) 3 (-1)) 4 (-1)) 5 (-1)) 6 (-1)) 7 (-1)) 8 (-1)) 9 (-1))), (z 34, aI V 10 (fun _ => 0)), (z 0, .inr (10, mo z 0 0 0 0 0 0 0 0 0 0 (-1) 0 0 0 0 0)), (z 32, aI V 100 (fun _ => 0))] := hD
  refine lv_iinc (v := 10) (lv' := [(1, .int 10), (0, .ref (z 0))]) hx hb dX10_isCome_15 hl (k := 0) rfl (by decide +kernel) (by decide) rfl (fun ls hl => ?_)
  refine lv_goto (tgt := 2) hx hb dX10_isCome_18 (by decide) ?_
  refine lv_iload_n hx hb dX10_isCome_2 rfl (lv_at hl 0 rfl) ?_
  refine lv_bipush (v := 10) hx hb dX10_isCome_3 (by decide) ?_
  refine lv_icmp_ge (tgt := 21) hx hb dX10_isCome_5 (by decide) (fun _ => ?_) (fun c_11 => absurd c_11 (by decide))
  refine lv_aload_n hx hb dX10_isCome_21 rfl (lv_at hl 1 rfl) ?_
  refine va_get (ci := 10) (v := .ref (z 33)) (C := RX10) (T := TX10) (N := 40) hx hb hg inX10 hown hK hP 2 rfl rfl 33 (by decide) (hg _ q_6_17) (fun _ h9 => h9) rfl dX10_isCome_22 ?_
  refine lv_iconst (v := 0) hx hb dX10_isCome_25 (by decide) ?_
  refine lv_iconst (v := 0) hx hb dX10_isCome_26 (by decide) ?_
  refine va_iast hx hb hK hP hD hS 0 0 rfl rfl (vin (by decide +kernel)) dX10_isCome_27 (fun H locs hP hD hS => ?_)
  have hP : va_P V.1 vwCl [(z 33, aI V 10 (upd (upd (upd (upd (upd (upd (upd (upd (upd (upd (upd (fun _ => 0) 0 (-1)) 1 (-1)) 2 (-1)) 3 (-1)) 4 (-1)) 5 (-1)) 6 (-1)) 7 (-1)) 8 (-1)) 9 (-1)) 0 0)), (z 34, aI V 10 (fun _ => 0)), (z 0, .inr (10, mo z 0 0 0 0 0 0 0 0 0 0 (-1) 0 0 0 0 0)), (z 32, aI V 100 (fun _ => 0))] H := hP
  have hD : va_D A [(z 33, aI V 10 (upd (upd (upd (upd (upd (upd (upd (upd (upd (upd (upd (fun _ => 0) 0 (-1)) 1 (-1)) 2 (-1)) 3 (-1)) 4 (-1)) 5 (-1)) 6 (-1)) 7 (-1)) 8 (-1)) 9 (-1)) 0 0)), (z 34, aI V 10 (fun _ => 0)), (z 0, .inr (10, mo z 0 0 0 0 0 0 0 0 0 0 (-1) 0 0 0 0 0)), (z 32, aI V 100 (fun _ => 0))] := hD
  refine lv_aload_n hx hb dX10_isCome_28 rfl (lv_at hl 1 rfl) ?_
  refine va_get (ci := 10) (v := .ref (z 34)) (C := RX10) (T := TX10) (N := 40) hx hb hg inX10 hown hK hP 2 rfl rfl 34 (by decide) (hg _ q_6_18) (fun _ h9 => h9) rfl dX10_isCome_29 ?_
  refine lv_iconst (v := 0) hx hb dX10_isCome_32 (by decide) ?_
  refine lv_iconst (v := 0) hx hb dX10_isCome_33 (by decide) ?_
  refine va_iast hx hb hK hP hD hS 1 0 rfl rfl (vin (by decide +kernel)) dX10_isCome_34 (fun H locs hP hD hS => ?_)
  have hP : va_P V.1 vwCl [(z 33, aI V 10 (upd (upd (upd (upd (upd (upd (upd (upd (upd (upd (upd (fun _ => 0) 0 (-1)) 1 (-1)) 2 (-1)) 3 (-1)) 4 (-1)) 5 (-1)) 6 (-1)) 7 (-1)) 8 (-1)) 9 (-1)) 0 0)), (z 34, aI V 10 (upd (fun _ => 0) 0 0)), (z 0, .inr (10, mo z 0 0 0 0 0 0 0 0 0 0 (-1) 0 0 0 0 0)), (z 32, aI V 100 (fun _ => 0))] H := hP
  have hD : va_D A [(z 33, aI V 10 (upd (upd (upd (upd (upd (upd (upd (upd (upd (upd (upd (fun _ => 0) 0 (-1)) 1 (-1)) 2 (-1)) 3 (-1)) 4 (-1)) 5 (-1)) 6 (-1)) 7 (-1)) 8 (-1)) 9 (-1)) 0 0)), (z 34, aI V 10 (upd (fun _ => 0) 0 0)), (z 0, .inr (10, mo z 0 0 0 0 0 0 0 0 0 0 (-1) 0 0 0 0 0)), (z 32, aI V 100 (fun _ => 0))] := hD
  have hP : va_P V.1 vwCl [(z 33, aI V 10 (upd (upd (upd (upd (upd (upd (upd (upd (upd (upd (upd (fun _ => 0) 0 (-1)) 1 (-1)) 2 (-1)) 3 (-1)) 4 (-1)) 5 (-1)) 6 (-1)) 7 (-1)) 8 (-1)) 9 (-1)) 0 0)), (z 34, aI V 10 (fun _ => 0)), (z 0, .inr (10, mo z 0 0 0 0 0 0 0 0 0 0 (-1) 0 0 0 0 0)), (z 32, aI V 100 (fun _ => 0))] H := by rw [upd0] at hP; exact hP
  have hD : va_D A [(z 33, aI V 10 (upd (upd (upd (upd (upd (upd (upd (upd (upd (upd (upd (fun _ => 0) 0 (-1)) 1 (-1)) 2 (-1)) 3 (-1)) 4 (-1)) 5 (-1)) 6 (-1)) 7 (-1)) 8 (-1)) 9 (-1)) 0 0)), (z 34, aI V 10 (fun _ => 0)), (z 0, .inr (10, mo z 0 0 0 0 0 0 0 0 0 0 (-1) 0 0 0 0 0)), (z 32, aI V 100 (fun _ => 0))] := by rw [upd0] at hD; exact hD
  refine lv_iconst (v := 1) hx hb dX10_isCome_35 (by decide) ?_
  refine lv_istore_n (lv' := [(1, .int 1), (0, .ref (z 0))]) hx hb dX10_isCome_36 rfl hl (by decide) rfl (fun ls hl => ?_)
  refine lv_iconst (v := 0) hx hb dX10_isCome_37 (by decide) ?_
  refine lv_istore_n (lv' := [(2, .int 0), (1, .int 1), (0, .ref (z 0))]) hx hb dX10_isCome_38 rfl hl (by decide) rfl (fun ls hl => ?_)
  refine lv_iload_n hx hb dX10_isCome_39 rfl (lv_at hl 0 rfl) ?_
  refine lv_iload_n hx hb dX10_isCome_40 rfl (lv_at hl 1 rfl) ?_
  refine lv_icmp_ge (tgt := 118) hx hb dX10_isCome_41 (by decide) (fun c_12 => absurd c_12 (by decide)) (fun _ => ?_)
  refine lv_iconst (v := 0) hx hb dX10_isCome_44 (by decide) ?_
  refine lv_istore_n (lv' := [(3, .int 0), (2, .int 0), (1, .int 1), (0, .ref (z 0))]) hx hb dX10_isCome_45 rfl hl (by decide) rfl (fun ls hl => ?_)
  refine lv_iload_n hx hb dX10_isCome_46 rfl (lv_at hl 0 rfl) ?_
  refine lv_bipush (v := 10) hx hb dX10_isCome_47 (by decide) ?_
  refine lv_icmp_ge (tgt := 112) hx hb dX10_isCome_49 (by decide) (fun c_13 => absurd c_13 (by decide)) (fun _ => ?_)
  refine lv_aload_n hx hb dX10_isCome_52 rfl (lv_at hl 3 rfl) ?_
  refine va_get (ci := 10) (v := .ref (z 33)) (C := RX10) (T := TX10) (N := 40) hx hb hg inX10 hown hK hP 2 rfl rfl 33 (by decide) (hg _ q_6_17) (fun _ h9 => h9) rfl dX10_isCome_53 ?_
  refine lv_iload_n hx hb dX10_isCome_56 rfl (lv_at hl 0 rfl) ?_
  refine va_iald hx hb hK hP 0 0 rfl rfl (vin (by decide +kernel)) dX10_isCome_57 ?_
  refine tpi (y := 0) (rfl) ?_
  refine lv_iconst (v := (-1)) hx hb dX10_isCome_58 (by decide) ?_
  refine lv_icmp_ne (tgt := 106) hx hb dX10_isCome_59 (by decide) (fun _ => ?_) (fun c_14 => absurd c_14 (by decide))
  refine lv_iinc (v := 1) (lv' := [(3, .int 1), (2, .int 0), (1, .int 1), (0, .ref (z 0))]) hx hb dX10_isCome_106 hl (k := 0) rfl (by decide +kernel) (by decide) rfl (fun ls hl => ?_)
  refine lv_goto (tgt := 46) hx hb dX10_isCome_109 (by decide) ?_
  refine lv_iload_n hx hb dX10_isCome_46 rfl (lv_at hl 0 rfl) ?_
  refine lv_bipush (v := 10) hx hb dX10_isCome_47 (by decide) ?_
  refine lv_icmp_ge (tgt := 112) hx hb dX10_isCome_49 (by decide) (fun c_15 => absurd c_15 (by decide)) (fun _ => ?_)
  refine lv_aload_n hx hb dX10_isCome_52 rfl (lv_at hl 3 rfl) ?_
  refine va_get (ci := 10) (v := .ref (z 33)) (C := RX10) (T := TX10) (N := 40) hx hb hg inX10 hown hK hP 2 rfl rfl 33 (by decide) (hg _ q_6_17) (fun _ h9 => h9) rfl dX10_isCome_53 ?_
  refine lv_iload_n hx hb dX10_isCome_56 rfl (lv_at hl 0 rfl) ?_
  refine va_iald hx hb hK hP 0 0 rfl rfl (vin (by decide +kernel)) dX10_isCome_57 ?_
  refine tpi (y := (-1)) (rfl) ?_
  refine lv_iconst (v := (-1)) hx hb dX10_isCome_58 (by decide) ?_
  refine lv_icmp_ne (tgt := 106) hx hb dX10_isCome_59 (by decide) (fun c_16 => absurd c_16 (by decide)) (fun _ => ?_)
  refine lv_aload_n hx hb dX10_isCome_62 rfl (lv_at hl 3 rfl) ?_
  refine va_get (ci := 10) (v := .ref (z 32)) (C := RX10) (T := TX10) (N := 40) hx hb hg inX10 hown hK hP 2 rfl rfl 32 (by decide) (hg _ q_6_16) (fun _ h9 => h9) rfl dX10_isCome_63 ?_
  refine lv_bipush (v := 10) hx hb dX10_isCome_66 (by decide) ?_
  refine lv_aload_n hx hb dX10_isCome_68 rfl (lv_at hl 3 rfl) ?_
  refine va_get (ci := 10) (v := .ref (z 34)) (C := RX10) (T := TX10) (N := 40) hx hb hg inX10 hown hK hP 2 rfl rfl 34 (by decide) (hg _ q_6_18) (fun _ h9 => h9) rfl dX10_isCome_69 ?_
  refine lv_iload_n hx hb dX10_isCome_72 rfl (lv_at hl 1 rfl) ?_
  refine va_iald hx hb hK hP 1 0 rfl rfl (vin (by decide +kernel)) dX10_isCome_73 ?_
  refine tpi (y := 0) (rfl) ?_
  refine lv_imul hx hb dX10_isCome_74 ?_
  refine tpi (y := 0) (by decide +kernel) ?_
  refine lv_iload_n hx hb dX10_isCome_75 rfl (lv_at hl 0 rfl) ?_
  refine lv_iadd hx hb dX10_isCome_76 ?_
  refine tpi (y := 1) (by decide +kernel) ?_
  refine va_iald hx hb hK hP 3 0 rfl rfl (vin (by decide +kernel)) dX10_isCome_77 ?_
  refine tpi (y := 0) (rfl) ?_
  refine lv_if_ne (tgt := 84) hx hb dX10_isCome_78 (by decide) (fun c_17 => absurd c_17 (by decide)) (fun _ => ?_)
  refine lv_goto (tgt := 106) hx hb dX10_isCome_81 (by decide) ?_
  refine lv_iinc (v := 2) (lv' := [(3, .int 2), (2, .int 0), (1, .int 1), (0, .ref (z 0))]) hx hb dX10_isCome_106 hl (k := 0) rfl (by decide +kernel) (by decide) rfl (fun ls hl => ?_)
  refine lv_goto (tgt := 46) hx hb dX10_isCome_109 (by decide) ?_
  refine lv_iload_n hx hb dX10_isCome_46 rfl (lv_at hl 0 rfl) ?_
  refine lv_bipush (v := 10) hx hb dX10_isCome_47 (by decide) ?_
  refine lv_icmp_ge (tgt := 112) hx hb dX10_isCome_49 (by decide) (fun c_18 => absurd c_18 (by decide)) (fun _ => ?_)
  refine lv_aload_n hx hb dX10_isCome_52 rfl (lv_at hl 3 rfl) ?_
  refine va_get (ci := 10) (v := .ref (z 33)) (C := RX10) (T := TX10) (N := 40) hx hb hg inX10 hown hK hP 2 rfl rfl 33 (by decide) (hg _ q_6_17) (fun _ h9 => h9) rfl dX10_isCome_53 ?_
  refine lv_iload_n hx hb dX10_isCome_56 rfl (lv_at hl 0 rfl) ?_
  refine va_iald hx hb hK hP 0 0 rfl rfl (vin (by decide +kernel)) dX10_isCome_57 ?_
  refine tpi (y := (-1)) (rfl) ?_
  refine lv_iconst (v := (-1)) hx hb dX10_isCome_58 (by decide) ?_
  refine lv_icmp_ne (tgt := 106) hx hb dX10_isCome_59 (by decide) (fun c_19 => absurd c_19 (by decide)) (fun _ => ?_)
  refine lv_aload_n hx hb dX10_isCome_62 rfl (lv_at hl 3 rfl) ?_
  refine va_get (ci := 10) (v := .ref (z 32)) (C := RX10) (T := TX10) (N := 40) hx hb hg inX10 hown hK hP 2 rfl rfl 32 (by decide) (hg _ q_6_16) (fun _ h9 => h9) rfl dX10_isCome_63 ?_
  refine lv_bipush (v := 10) hx hb dX10_isCome_66 (by decide) ?_
  refine lv_aload_n hx hb dX10_isCome_68 rfl (lv_at hl 3 rfl) ?_
  refine va_get (ci := 10) (v := .ref (z 34)) (C := RX10) (T := TX10) (N := 40) hx hb hg inX10 hown hK hP 2 rfl rfl 34 (by decide) (hg _ q_6_18) (fun _ h9 => h9) rfl dX10_isCome_69 ?_
  refine lv_iload_n hx hb dX10_isCome_72 rfl (lv_at hl 1 rfl) ?_
  refine va_iald hx hb hK hP 1 0 rfl rfl (vin (by decide +kernel)) dX10_isCome_73 ?_
  refine tpi (y := 0) (rfl) ?_
  refine lv_imul hx hb dX10_isCome_74 ?_
  refine tpi (y := 0) (by decide +kernel) ?_
  refine lv_iload_n hx hb dX10_isCome_75 rfl (lv_at hl 0 rfl) ?_
  refine lv_iadd hx hb dX10_isCome_76 ?_
  refine tpi (y := 2) (by decide +kernel) ?_
  refine va_iald hx hb hK hP 3 0 rfl rfl (vin (by decide +kernel)) dX10_isCome_77 ?_
  refine tpi (y := 0) (rfl) ?_
  refine lv_if_ne (tgt := 84) hx hb dX10_isCome_78 (by decide) (fun c_20 => absurd c_20 (by decide)) (fun _ => ?_)
  refine lv_goto (tgt := 106) hx hb dX10_isCome_81 (by decide) ?_
  refine lv_iinc (v := 3) (lv' := [(3, .int 3), (2, .int 0), (1, .int 1), (0, .ref (z 0))]) hx hb dX10_isCome_106 hl (k := 0) rfl (by decide +kernel) (by decide) rfl (fun ls hl => ?_)
  refine lv_goto (tgt := 46) hx hb dX10_isCome_109 (by decide) ?_
  refine lv_iload_n hx hb dX10_isCome_46 rfl (lv_at hl 0 rfl) ?_
  refine lv_bipush (v := 10) hx hb dX10_isCome_47 (by decide) ?_
  refine lv_icmp_ge (tgt := 112) hx hb dX10_isCome_49 (by decide) (fun c_21 => absurd c_21 (by decide)) (fun _ => ?_)
  refine lv_aload_n hx hb dX10_isCome_52 rfl (lv_at hl 3 rfl) ?_
  refine va_get (ci := 10) (v := .ref (z 33)) (C := RX10) (T := TX10) (N := 40) hx hb hg inX10 hown hK hP 2 rfl rfl 33 (by decide) (hg _ q_6_17) (fun _ h9 => h9) rfl dX10_isCome_53 ?_
  refine lv_iload_n hx hb dX10_isCome_56 rfl (lv_at hl 0 rfl) ?_
  refine va_iald hx hb hK hP 0 0 rfl rfl (vin (by decide +kernel)) dX10_isCome_57 ?_
  refine tpi (y := (-1)) (rfl) ?_
  refine lv_iconst (v := (-1)) hx hb dX10_isCome_58 (by decide) ?_
  refine lv_icmp_ne (tgt := 106) hx hb dX10_isCome_59 (by decide) (fun c_22 => absurd c_22 (by decide)) (fun _ => ?_)
  refine lv_aload_n hx hb dX10_isCome_62 rfl (lv_at hl 3 rfl) ?_
  refine va_get (ci := 10) (v := .ref (z 32)) (C := RX10) (T := TX10) (N := 40) hx hb hg inX10 hown hK hP 2 rfl rfl 32 (by decide) (hg _ q_6_16) (fun _ h9 => h9) rfl dX10_isCome_63 ?_
  refine lv_bipush (v := 10) hx hb dX10_isCome_66 (by decide) ?_
  refine lv_aload_n hx hb dX10_isCome_68 rfl (lv_at hl 3 rfl) ?_
  refine va_get (ci := 10) (v := .ref (z 34)) (C := RX10) (T := TX10) (N := 40) hx hb hg inX10 hown hK hP 2 rfl rfl 34 (by decide) (hg _ q_6_18) (fun _ h9 => h9) rfl dX10_isCome_69 ?_
  refine lv_iload_n hx hb dX10_isCome_72 rfl (lv_at hl 1 rfl) ?_
  refine va_iald hx hb hK hP 1 0 rfl rfl (vin (by decide +kernel)) dX10_isCome_73 ?_
  refine tpi (y := 0) (rfl) ?_
  refine lv_imul hx hb dX10_isCome_74 ?_
  refine tpi (y := 0) (by decide +kernel) ?_
  refine lv_iload_n hx hb dX10_isCome_75 rfl (lv_at hl 0 rfl) ?_
  refine lv_iadd hx hb dX10_isCome_76 ?_
  refine tpi (y := 3) (by decide +kernel) ?_
  refine va_iald hx hb hK hP 3 0 rfl rfl (vin (by decide +kernel)) dX10_isCome_77 ?_
  refine tpi (y := 0) (rfl) ?_
  refine lv_if_ne (tgt := 84) hx hb dX10_isCome_78 (by decide) (fun c_23 => absurd c_23 (by decide)) (fun _ => ?_)
  refine lv_goto (tgt := 106) hx hb dX10_isCome_81 (by decide) ?_
  refine lv_iinc (v := 4) (lv' := [(3, .int 4), (2, .int 0), (1, .int 1), (0, .ref (z 0))]) hx hb dX10_isCome_106 hl (k := 0) rfl (by decide +kernel) (by decide) rfl (fun ls hl => ?_)
  refine lv_goto (tgt := 46) hx hb dX10_isCome_109 (by decide) ?_
  refine lv_iload_n hx hb dX10_isCome_46 rfl (lv_at hl 0 rfl) ?_
  refine lv_bipush (v := 10) hx hb dX10_isCome_47 (by decide) ?_
  refine lv_icmp_ge (tgt := 112) hx hb dX10_isCome_49 (by decide) (fun c_24 => absurd c_24 (by decide)) (fun _ => ?_)
  refine lv_aload_n hx hb dX10_isCome_52 rfl (lv_at hl 3 rfl) ?_
  refine va_get (ci := 10) (v := .ref (z 33)) (C := RX10) (T := TX10) (N := 40) hx hb hg inX10 hown hK hP 2 rfl rfl 33 (by decide) (hg _ q_6_17) (fun _ h9 => h9) rfl dX10_isCome_53 ?_
  refine lv_iload_n hx hb dX10_isCome_56 rfl (lv_at hl 0 rfl) ?_
  refine va_iald hx hb hK hP 0 0 rfl rfl (vin (by decide +kernel)) dX10_isCome_57 ?_
  refine tpi (y := (-1)) (rfl) ?_
  refine lv_iconst (v := (-1)) hx hb dX10_isCome_58 (by decide) ?_
  refine lv_icmp_ne (tgt := 106) hx hb dX10_isCome_59 (by decide) (fun c_25 => absurd c_25 (by decide)) (fun _ => ?_)
  refine lv_aload_n hx hb dX10_isCome_62 rfl (lv_at hl 3 rfl) ?_
  refine va_get (ci := 10) (v := .ref (z 32)) (C := RX10) (T := TX10) (N := 40) hx hb hg inX10 hown hK hP 2 rfl rfl 32 (by decide) (hg _ q_6_16) (fun _ h9 => h9) rfl dX10_isCome_63 ?_
  refine lv_bipush (v := 10) hx hb dX10_isCome_66 (by decide) ?_
  refine lv_aload_n hx hb dX10_isCome_68 rfl (lv_at hl 3 rfl) ?_
  refine va_get (ci := 10) (v := .ref (z 34)) (C := RX10) (T := TX10) (N := 40) hx hb hg inX10 hown hK hP 2 rfl rfl 34 (by decide) (hg _ q_6_18) (fun _ h9 => h9) rfl dX10_isCome_69 ?_
  refine lv_iload_n hx hb dX10_isCome_72 rfl (lv_at hl 1 rfl) ?_
  refine va_iald hx hb hK hP 1 0 rfl rfl (vin (by decide +kernel)) dX10_isCome_73 ?_
  refine tpi (y := 0) (rfl) ?_
  refine lv_imul hx hb dX10_isCome_74 ?_
  refine tpi (y := 0) (by decide +kernel) ?_
  refine lv_iload_n hx hb dX10_isCome_75 rfl (lv_at hl 0 rfl) ?_
  refine lv_iadd hx hb dX10_isCome_76 ?_
  refine tpi (y := 4) (by decide +kernel) ?_
  refine va_iald hx hb hK hP 3 0 rfl rfl (vin (by decide +kernel)) dX10_isCome_77 ?_
  refine tpi (y := 0) (rfl) ?_
  refine lv_if_ne (tgt := 84) hx hb dX10_isCome_78 (by decide) (fun c_26 => absurd c_26 (by decide)) (fun _ => ?_)
  refine lv_goto (tgt := 106) hx hb dX10_isCome_81 (by decide) ?_
  refine lv_iinc (v := 5) (lv' := [(3, .int 5), (2, .int 0), (1, .int 1), (0, .ref (z 0))]) hx hb dX10_isCome_106 hl (k := 0) rfl (by decide +kernel) (by decide) rfl (fun ls hl => ?_)
  refine lv_goto (tgt := 46) hx hb dX10_isCome_109 (by decide) ?_
  refine lv_iload_n hx hb dX10_isCome_46 rfl (lv_at hl 0 rfl) ?_
  refine lv_bipush (v := 10) hx hb dX10_isCome_47 (by decide) ?_
  refine lv_icmp_ge (tgt := 112) hx hb dX10_isCome_49 (by decide) (fun c_27 => absurd c_27 (by decide)) (fun _ => ?_)
  refine lv_aload_n hx hb dX10_isCome_52 rfl (lv_at hl 3 rfl) ?_
  refine va_get (ci := 10) (v := .ref (z 33)) (C := RX10) (T := TX10) (N := 40) hx hb hg inX10 hown hK hP 2 rfl rfl 33 (by decide) (hg _ q_6_17) (fun _ h9 => h9) rfl dX10_isCome_53 ?_
  refine lv_iload_n hx hb dX10_isCome_56 rfl (lv_at hl 0 rfl) ?_
  refine va_iald hx hb hK hP 0 0 rfl rfl (vin (by decide +kernel)) dX10_isCome_57 ?_
  refine tpi (y := (-1)) (rfl) ?_
  refine lv_iconst (v := (-1)) hx hb dX10_isCome_58 (by decide) ?_
  refine lv_icmp_ne (tgt := 106) hx hb dX10_isCome_59 (by decide) (fun c_28 => absurd c_28 (by decide)) (fun _ => ?_)
  refine lv_aload_n hx hb dX10_isCome_62 rfl (lv_at hl 3 rfl) ?_
  refine va_get (ci := 10) (v := .ref (z 32)) (C := RX10) (T := TX10) (N := 40) hx hb hg inX10 hown hK hP 2 rfl rfl 32 (by decide) (hg _ q_6_16) (fun _ h9 => h9) rfl dX10_isCome_63 ?_
  refine lv_bipush (v := 10) hx hb dX10_isCome_66 (by decide) ?_
  refine lv_aload_n hx hb dX10_isCome_68 rfl (lv_at hl 3 rfl) ?_
  refine va_get (ci := 10) (v := .ref (z 34)) (C := RX10) (T := TX10) (N := 40) hx hb hg inX10 hown hK hP 2 rfl rfl 34 (by decide) (hg _ q_6_18) (fun _ h9 => h9) rfl dX10_isCome_69 ?_
  refine lv_iload_n hx hb dX10_isCome_72 rfl (lv_at hl 1 rfl) ?_
  refine va_iald hx hb hK hP 1 0 rfl rfl (vin (by decide +kernel)) dX10_isCome_73 ?_
  refine tpi (y := 0) (rfl) ?_
  refine lv_imul hx hb dX10_isCome_74 ?_
  refine tpi (y := 0) (by decide +kernel) ?_
  refine lv_iload_n hx hb dX10_isCome_75 rfl (lv_at hl 0 rfl) ?_
  refine lv_iadd hx hb dX10_isCome_76 ?_
  refine tpi (y := 5) (by decide +kernel) ?_
  refine va_iald hx hb hK hP 3 0 rfl rfl (vin (by decide +kernel)) dX10_isCome_77 ?_
  refine tpi (y := 0) (rfl) ?_
  refine lv_if_ne (tgt := 84) hx hb dX10_isCome_78 (by decide) (fun c_29 => absurd c_29 (by decide)) (fun _ => ?_)
  refine lv_goto (tgt := 106) hx hb dX10_isCome_81 (by decide) ?_
  refine lv_iinc (v := 6) (lv' := [(3, .int 6), (2, .int 0), (1, .int 1), (0, .ref (z 0))]) hx hb dX10_isCome_106 hl (k := 0) rfl (by decide +kernel) (by decide) rfl (fun ls hl => ?_)
  refine lv_goto (tgt := 46) hx hb dX10_isCome_109 (by decide) ?_
  refine lv_iload_n hx hb dX10_isCome_46 rfl (lv_at hl 0 rfl) ?_
  refine lv_bipush (v := 10) hx hb dX10_isCome_47 (by decide) ?_
  refine lv_icmp_ge (tgt := 112) hx hb dX10_isCome_49 (by decide) (fun c_30 => absurd c_30 (by decide)) (fun _ => ?_)
  refine lv_aload_n hx hb dX10_isCome_52 rfl (lv_at hl 3 rfl) ?_
  refine va_get (ci := 10) (v := .ref (z 33)) (C := RX10) (T := TX10) (N := 40) hx hb hg inX10 hown hK hP 2 rfl rfl 33 (by decide) (hg _ q_6_17) (fun _ h9 => h9) rfl dX10_isCome_53 ?_
  refine lv_iload_n hx hb dX10_isCome_56 rfl (lv_at hl 0 rfl) ?_
  refine va_iald hx hb hK hP 0 0 rfl rfl (vin (by decide +kernel)) dX10_isCome_57 ?_
  refine tpi (y := (-1)) (rfl) ?_
  refine lv_iconst (v := (-1)) hx hb dX10_isCome_58 (by decide) ?_
  refine lv_icmp_ne (tgt := 106) hx hb dX10_isCome_59 (by decide) (fun c_31 => absurd c_31 (by decide)) (fun _ => ?_)
  refine lv_aload_n hx hb dX10_isCome_62 rfl (lv_at hl 3 rfl) ?_
  refine va_get (ci := 10) (v := .ref (z 32)) (C := RX10) (T := TX10) (N := 40) hx hb hg inX10 hown hK hP 2 rfl rfl 32 (by decide) (hg _ q_6_16) (fun _ h9 => h9) rfl dX10_isCome_63 ?_
  refine lv_bipush (v := 10) hx hb dX10_isCome_66 (by decide) ?_
  refine lv_aload_n hx hb dX10_isCome_68 rfl (lv_at hl 3 rfl) ?_
  refine va_get (ci := 10) (v := .ref (z 34)) (C := RX10) (T := TX10) (N := 40) hx hb hg inX10 hown hK hP 2 rfl rfl 34 (by decide) (hg _ q_6_18) (fun _ h9 => h9) rfl dX10_isCome_69 ?_
  refine lv_iload_n hx hb dX10_isCome_72 rfl (lv_at hl 1 rfl) ?_
  refine va_iald hx hb hK hP 1 0 rfl rfl (vin (by decide +kernel)) dX10_isCome_73 ?_
  refine tpi (y := 0) (rfl) ?_
  refine lv_imul hx hb dX10_isCome_74 ?_
  refine tpi (y := 0) (by decide +kernel) ?_
  refine lv_iload_n hx hb dX10_isCome_75 rfl (lv_at hl 0 rfl) ?_
  refine lv_iadd hx hb dX10_isCome_76 ?_
  refine tpi (y := 6) (by decide +kernel) ?_
  refine va_iald hx hb hK hP 3 0 rfl rfl (vin (by decide +kernel)) dX10_isCome_77 ?_
  refine tpi (y := 0) (rfl) ?_
  refine lv_if_ne (tgt := 84) hx hb dX10_isCome_78 (by decide) (fun c_32 => absurd c_32 (by decide)) (fun _ => ?_)
  refine lv_goto (tgt := 106) hx hb dX10_isCome_81 (by decide) ?_
  refine lv_iinc (v := 7) (lv' := [(3, .int 7), (2, .int 0), (1, .int 1), (0, .ref (z 0))]) hx hb dX10_isCome_106 hl (k := 0) rfl (by decide +kernel) (by decide) rfl (fun ls hl => ?_)
  refine lv_goto (tgt := 46) hx hb dX10_isCome_109 (by decide) ?_
  refine lv_iload_n hx hb dX10_isCome_46 rfl (lv_at hl 0 rfl) ?_
  refine lv_bipush (v := 10) hx hb dX10_isCome_47 (by decide) ?_
  refine lv_icmp_ge (tgt := 112) hx hb dX10_isCome_49 (by decide) (fun c_33 => absurd c_33 (by decide)) (fun _ => ?_)
  refine lv_aload_n hx hb dX10_isCome_52 rfl (lv_at hl 3 rfl) ?_
  refine va_get (ci := 10) (v := .ref (z 33)) (C := RX10) (T := TX10) (N := 40) hx hb hg inX10 hown hK hP 2 rfl rfl 33 (by decide) (hg _ q_6_17) (fun _ h9 => h9) rfl dX10_isCome_53 ?_
  refine lv_iload_n hx hb dX10_isCome_56 rfl (lv_at hl 0 rfl) ?_
  refine va_iald hx hb hK hP 0 0 rfl rfl (vin (by decide +kernel)) dX10_isCome_57 ?_
  refine tpi (y := (-1)) (rfl) ?_
  refine lv_iconst (v := (-1)) hx hb dX10_isCome_58 (by decide) ?_
  refine lv_icmp_ne (tgt := 106) hx hb dX10_isCome_59 (by decide) (fun c_34 => absurd c_34 (by decide)) (fun _ => ?_)
  refine lv_aload_n hx hb dX10_isCome_62 rfl (lv_at hl 3 rfl) ?_
  refine va_get (ci := 10) (v := .ref (z 32)) (C := RX10) (T := TX10) (N := 40) hx hb hg inX10 hown hK hP 2 rfl rfl 32 (by decide) (hg _ q_6_16) (fun _ h9 => h9) rfl dX10_isCome_63 ?_
  refine lv_bipush (v := 10) hx hb dX10_isCome_66 (by decide) ?_
  refine lv_aload_n hx hb dX10_isCome_68 rfl (lv_at hl 3 rfl) ?_
  refine va_get (ci := 10) (v := .ref (z 34)) (C := RX10) (T := TX10) (N := 40) hx hb hg inX10 hown hK hP 2 rfl rfl 34 (by decide) (hg _ q_6_18) (fun _ h9 => h9) rfl dX10_isCome_69 ?_
  refine lv_iload_n hx hb dX10_isCome_72 rfl (lv_at hl 1 rfl) ?_
  refine va_iald hx hb hK hP 1 0 rfl rfl (vin (by decide +kernel)) dX10_isCome_73 ?_
  refine tpi (y := 0) (rfl) ?_
  refine lv_imul hx hb dX10_isCome_74 ?_
  refine tpi (y := 0) (by decide +kernel) ?_
  refine lv_iload_n hx hb dX10_isCome_75 rfl (lv_at hl 0 rfl) ?_
  refine lv_iadd hx hb dX10_isCome_76 ?_
  refine tpi (y := 7) (by decide +kernel) ?_
  refine va_iald hx hb hK hP 3 0 rfl rfl (vin (by decide +kernel)) dX10_isCome_77 ?_
  refine tpi (y := 0) (rfl) ?_
  refine lv_if_ne (tgt := 84) hx hb dX10_isCome_78 (by decide) (fun c_35 => absurd c_35 (by decide)) (fun _ => ?_)
  refine lv_goto (tgt := 106) hx hb dX10_isCome_81 (by decide) ?_
  refine lv_iinc (v := 8) (lv' := [(3, .int 8), (2, .int 0), (1, .int 1), (0, .ref (z 0))]) hx hb dX10_isCome_106 hl (k := 0) rfl (by decide +kernel) (by decide) rfl (fun ls hl => ?_)
  refine lv_goto (tgt := 46) hx hb dX10_isCome_109 (by decide) ?_
  refine lv_iload_n hx hb dX10_isCome_46 rfl (lv_at hl 0 rfl) ?_
  refine lv_bipush (v := 10) hx hb dX10_isCome_47 (by decide) ?_
  refine lv_icmp_ge (tgt := 112) hx hb dX10_isCome_49 (by decide) (fun c_36 => absurd c_36 (by decide)) (fun _ => ?_)
  refine lv_aload_n hx hb dX10_isCome_52 rfl (lv_at hl 3 rfl) ?_
  refine va_get (ci := 10) (v := .ref (z 33)) (C := RX10) (T := TX10) (N := 40) hx hb hg inX10 hown hK hP 2 rfl rfl 33 (by decide) (hg _ q_6_17) (fun _ h9 => h9) rfl dX10_isCome_53 ?_
  refine lv_iload_n hx hb dX10_isCome_56 rfl (lv_at hl 0 rfl) ?_
  refine va_iald hx hb hK hP 0 0 rfl rfl (vin (by decide +kernel)) dX10_isCome_57 ?_
  refine tpi (y := (-1)) (rfl) ?_
  refine lv_iconst (v := (-1)) hx hb dX10_isCome_58 (by decide) ?_
  refine lv_icmp_ne (tgt := 106) hx hb dX10_isCome_59 (by decide) (fun c_37 => absurd c_37 (by decide)) (fun _ => ?_)
  refine lv_aload_n hx hb dX10_isCome_62 rfl (lv_at hl 3 rfl) ?_
  refine va_get (ci := 10) (v := .ref (z 32)) (C := RX10) (T := TX10) (N := 40) hx hb hg inX10 hown hK hP 2 rfl rfl 32 (by decide) (hg _ q_6_16) (fun _ h9 => h9) rfl dX10_isCome_63 ?_
  refine lv_bipush (v := 10) hx hb dX10_isCome_66 (by decide) ?_
  refine lv_aload_n hx hb dX10_isCome_68 rfl (lv_at hl 3 rfl) ?_
  refine va_get (ci := 10) (v := .ref (z 34)) (C := RX10) (T := TX10) (N := 40) hx hb hg inX10 hown hK hP 2 rfl rfl 34 (by decide) (hg _ q_6_18) (fun _ h9 => h9) rfl dX10_isCome_69 ?_
  refine lv_iload_n hx hb dX10_isCome_72 rfl (lv_at hl 1 rfl) ?_
  refine va_iald hx hb hK hP 1 0 rfl rfl (vin (by decide +kernel)) dX10_isCome_73 ?_
  refine tpi (y := 0) (rfl) ?_
  refine lv_imul hx hb dX10_isCome_74 ?_
  refine tpi (y := 0) (by decide +kernel) ?_
  refine lv_iload_n hx hb dX10_isCome_75 rfl (lv_at hl 0 rfl) ?_
  refine lv_iadd hx hb dX10_isCome_76 ?_
  refine tpi (y := 8) (by decide +kernel) ?_
  refine va_iald hx hb hK hP 3 0 rfl rfl (vin (by decide +kernel)) dX10_isCome_77 ?_
  refine tpi (y := 0) (rfl) ?_
  refine lv_if_ne (tgt := 84) hx hb dX10_isCome_78 (by decide) (fun c_38 => absurd c_38 (by decide)) (fun _ => ?_)
  refine lv_goto (tgt := 106) hx hb dX10_isCome_81 (by decide) ?_
  refine lv_iinc (v := 9) (lv' := [(3, .int 9), (2, .int 0), (1, .int 1), (0, .ref (z 0))]) hx hb dX10_isCome_106 hl (k := 0) rfl (by decide +kernel) (by decide) rfl (fun ls hl => ?_)
  refine lv_goto (tgt := 46) hx hb dX10_isCome_109 (by decide) ?_
  refine lv_iload_n hx hb dX10_isCome_46 rfl (lv_at hl 0 rfl) ?_
  refine lv_bipush (v := 10) hx hb dX10_isCome_47 (by decide) ?_
  refine lv_icmp_ge (tgt := 112) hx hb dX10_isCome_49 (by decide) (fun c_39 => absurd c_39 (by decide)) (fun _ => ?_)
  refine lv_aload_n hx hb dX10_isCome_52 rfl (lv_at hl 3 rfl) ?_
  refine va_get (ci := 10) (v := .ref (z 33)) (C := RX10) (T := TX10) (N := 40) hx hb hg inX10 hown hK hP 2 rfl rfl 33 (by decide) (hg _ q_6_17) (fun _ h9 => h9) rfl dX10_isCome_53 ?_
  refine lv_iload_n hx hb dX10_isCome_56 rfl (lv_at hl 0 rfl) ?_
  refine va_iald hx hb hK hP 0 0 rfl rfl (vin (by decide +kernel)) dX10_isCome_57 ?_
  refine tpi (y := (-1)) (rfl) ?_
  refine lv_iconst (v := (-1)) hx hb dX10_isCome_58 (by decide) ?_
  refine lv_icmp_ne (tgt := 106) hx hb dX10_isCome_59 (by decide) (fun c_40 => absurd c_40 (by decide)) (fun _ => ?_)
  refine lv_aload_n hx hb dX10_isCome_62 rfl (lv_at hl 3 rfl) ?_
  refine va_get (ci := 10) (v := .ref (z 32)) (C := RX10) (T := TX10) (N := 40) hx hb hg inX10 hown hK hP 2 rfl rfl 32 (by decide) (hg _ q_6_16) (fun _ h9 => h9) rfl dX10_isCome_63 ?_
  refine lv_bipush (v := 10) hx hb dX10_isCome_66 (by decide) ?_
  refine lv_aload_n hx hb dX10_isCome_68 rfl (lv_at hl 3 rfl) ?_
  refine va_get (ci := 10) (v := .ref (z 34)) (C := RX10) (T := TX10) (N := 40) hx hb hg inX10 hown hK hP 2 rfl rfl 34 (by decide) (hg _ q_6_18) (fun _ h9 => h9) rfl dX10_isCome_69 ?_
  refine lv_iload_n hx hb dX10_isCome_72 rfl (lv_at hl 1 rfl) ?_
  refine va_iald hx hb hK hP 1 0 rfl rfl (vin (by decide +kernel)) dX10_isCome_73 ?_
  refine tpi (y := 0) (rfl) ?_
  refine lv_imul hx hb dX10_isCome_74 ?_
  refine tpi (y := 0) (by decide +kernel) ?_
  refine lv_iload_n hx hb dX10_isCome_75 rfl (lv_at hl 0 rfl) ?_
  refine lv_iadd hx hb dX10_isCome_76 ?_
  refine tpi (y := 9) (by decide +kernel) ?_
  refine va_iald hx hb hK hP 3 0 rfl rfl (vin (by decide +kernel)) dX10_isCome_77 ?_
  refine tpi (y := 0) (rfl) ?_
  refine lv_if_ne (tgt := 84) hx hb dX10_isCome_78 (by decide) (fun c_41 => absurd c_41 (by decide)) (fun _ => ?_)
  refine lv_goto (tgt := 106) hx hb dX10_isCome_81 (by decide) ?_
  refine lv_iinc (v := 10) (lv' := [(3, .int 10), (2, .int 0), (1, .int 1), (0, .ref (z 0))]) hx hb dX10_isCome_106 hl (k := 0) rfl (by decide +kernel) (by decide) rfl (fun ls hl => ?_)
  refine lv_goto (tgt := 46) hx hb dX10_isCome_109 (by decide) ?_
  refine lv_iload_n hx hb dX10_isCome_46 rfl (lv_at hl 0 rfl) ?_
  refine lv_bipush (v := 10) hx hb dX10_isCome_47 (by decide) ?_
  refine lv_icmp_ge (tgt := 112) hx hb dX10_isCome_49 (by decide) (fun _ => ?_) (fun c_42 => absurd c_42 (by decide))
  refine lv_iinc (v := 1) (lv' := [(2, .int 1), (3, .int 10), (1, .int 1), (0, .ref (z 0))]) hx hb dX10_isCome_112 hl (k := 1) rfl (by decide +kernel) (by decide) rfl (fun ls hl => ?_)
  refine lv_goto (tgt := 39) hx hb dX10_isCome_115 (by decide) ?_
  refine lv_iload_n hx hb dX10_isCome_39 rfl (lv_at hl 0 rfl) ?_
  refine lv_iload_n hx hb dX10_isCome_40 rfl (lv_at hl 2 rfl) ?_
  refine lv_icmp_ge (tgt := 118) hx hb dX10_isCome_41 (by decide) (fun _ => ?_) (fun c_43 => absurd c_43 (by decide))
  refine lv_aload_n hx hb dX10_isCome_118 rfl (lv_at hl 3 rfl) ?_
  refine va_get (ci := 10) (v := .ref (z 33)) (C := RX10) (T := TX10) (N := 40) hx hb hg inX10 hown hK hP 2 rfl rfl 33 (by decide) (hg _ q_6_17) (fun _ h9 => h9) rfl dX10_isCome_119 ?_
  refine lv_bipush (v := 9) hx hb dX10_isCome_122 (by decide) ?_
  refine va_iald hx hb hK hP 0 0 rfl rfl (vin (by decide +kernel)) dX10_isCome_124 ?_
  refine tpi (y := (-1)) (rfl) ?_
  refine lv_iconst (v := (-1)) hx hb dX10_isCome_125 (by decide) ?_
  refine lv_icmp_eq (tgt := 133) hx hb dX10_isCome_126 (by decide) (fun _ => ?_) (fun c_44 => absurd c_44 (by decide))
  refine lv_iconst (v := 0) hx hb dX10_isCome_133 (by decide) ?_
  exact fiZ rfl hx hb hr hlk hK hP hD hS dX10_isCome_134 (Nat.le_of_ble_eq_true rfl) (Nat.le_of_ble_eq_true rfl) (⟨rfl, rfl⟩)
theorem dX10_woodBut_0 : decode cX10_woodBut 0 = .ok (.aload_n 0, 1) := by decide +kernel
theorem dX10_woodBut_1 : decode cX10_woodBut 1 = .ok (.iload_n 1, 1) := by decide +kernel
theorem q_8_38 : Cond.code yX10_laysRoom prog_12_method_102_code 3 none ∈ gw := gw_8 (i := 38) (rfl) rfl
theorem q_8_37 : Cond.instanceMethod yX10_laysRoom ∈ gw := gw_8 (i := 37) (by decide +kernel) rfl
theorem q_s_115 : Cond.selects "BeaconDelayModel" yX10_laysRoom yX10_laysRoom ∈ gw := gw_s (i := 115) (by decide +kernel) rfl
theorem mt_X10_laysRoom : MtV yX10_laysRoom cX10_laysRoom 3 none 1 := ⟨⟨q_8_38, q_1_9, by decide +kernel, by decide +kernel, by decide +kernel⟩, q_8_37, q_s_115⟩
theorem q_8_35 : Cond.methodLink "BeaconDelayModel" 408 yX10_laysRoom ∈ gw := gw_8 (i := 35) (by decide +kernel) rfl
theorem dX10_woodBut_2 : decode cX10_woodBut 2 = .ok (.invokevirtual 408, 3) := by decide +kernel
theorem dX10_woodBut_5 : decode cX10_woodBut 5 = .ok (.iconst 0, 1) := by decide +kernel
theorem dX10_woodBut_6 : decode cX10_woodBut 6 = .ok (.istore_n 2, 1) := by decide +kernel
theorem dX10_woodBut_7 : decode cX10_woodBut 7 = .ok (.aload_n 0, 1) := by decide +kernel
theorem q_8_42 : Cond.code yX10_isCome prog_12_method_103_code 4 (some FieldType.boolean) ∈ gw := gw_8 (i := 42) (rfl) rfl
theorem q_8_41 : Cond.instanceMethod yX10_isCome ∈ gw := gw_8 (i := 41) (by decide +kernel) rfl
theorem q_s_116 : Cond.selects "BeaconDelayModel" yX10_isCome yX10_isCome ∈ gw := gw_s (i := 116) (by decide +kernel) rfl
theorem mt_X10_isCome : MtV yX10_isCome cX10_isCome 4 (some .boolean) 0 := ⟨⟨q_8_42, q_1_9, by decide +kernel, by decide +kernel, by decide +kernel⟩, q_8_41, q_s_116⟩
theorem q_8_39 : Cond.methodLink "BeaconDelayModel" 411 yX10_isCome ∈ gw := gw_8 (i := 39) (by decide +kernel) rfl
theorem dX10_woodBut_8 : decode cX10_woodBut 8 = .ok (.invokevirtual 411, 3) := by decide +kernel
theorem dX10_woodBut_11 : decode cX10_woodBut 11 = .ok (.ifCond .eq 66, 3) := by decide +kernel
theorem dX10_woodBut_77 : decode cX10_woodBut 77 = .ok (.iload_n 2, 1) := by decide +kernel
theorem dX10_woodBut_78 : decode cX10_woodBut 78 = .ok (.ireturn, 1) := by decide +kernel
set_option maxHeartbeats 4000000 in
set_option maxRecDepth 100000 in
theorem c_X10_woodBut_0 (l : Launch) (V : GV) (z : Nat → Nat) : Ct l V yX10_woodBut (.code yX10_woodBut cX10_woodBut 4 (some .int)) 2 [.ref (z 0), .int (-1)] [(z 0, .inr (10, mo z 0 0 0 0 0 0 0 0 0 0 (-1) 0 0 0 0 0)), (z 32, aI V 100 (fun _ => 0)), (z 33, aI V 10 (fun _ => 0)), (z 34, aI V 10 (fun _ => 0)), (z 1, aI V 3075 (fun _ => 0))] 0 0 (QI V (fun (r : Int32) (w : va_W) => (r = 0 ∧ w = [(z 0, .inr (10, mo z 0 0 0 0 0 0 0 0 0 0 (-1) 0 0 0 0 0)), (z 32, aI V 100 (fun _ => 0)), (z 33, aI V 10 (upd (upd (upd (upd (upd (upd (upd (upd (upd (upd (upd (fun _ => 0) 0 (-1)) 1 (-1)) 2 (-1)) 3 (-1)) 4 (-1)) 5 (-1)) 6 (-1)) 7 (-1)) 8 (-1)) 9 (-1)) 0 0)), (z 34, aI V 10 (fun _ => 0)), (z 1, aI V 3075 (fun _ => 0))]))) := by
  refine Ct.of (by decide) (Nat.le_of_ble_eq_true rfl) (fun p e s m below meth c A ls hx hb hr hml hown hlk hnm hg hP hK hD hE hA hS hl => ?_)
  have hl : lv_has ls 4 [(0, .ref (z 0)), (1, .int (-1))] := hl
  refine lv_aload_n hx hb dX10_woodBut_0 rfl (lv_at hl 0 rfl) ?_
  refine lv_iload_n hx hb dX10_woodBut_1 rfl (lv_at hl 1 rfl) ?_
  refine jnV (wr := [(z 33, aI V 10 (fun _ => 0)), (z 34, aI V 10 (fun _ => 0))]) (rnV (rest := []) ⟨hx, hb, hml, hown, hg⟩ (c_X10_laysRoom_0 l V z) mt_X10_laysRoom q_8_35 ⟨Nat.le_of_ble_eq_true rfl, Nat.le_of_ble_eq_true rfl⟩ hK hP hD hS hA hE [0, 1, 4] rfl rfl 0 rfl rfl rfl rfl hl.1 rfl (Nat.le_of_ble_eq_true rfl) dX10_woodBut_2 ⟨Nat.le_of_ble_eq_true rfl, Nat.le_of_ble_eq_true rfl⟩) hP hD hS hA [0, 1, 4] [2, 3] rfl rfl rfl (by decide) (fun  w H locs hw hP hD hS => ?_)
  subst hw
  have hP : va_P V.1 vwCl [(z 33, aI V 10 (fun _ => 0)), (z 34, aI V 10 (fun _ => 0)), (z 0, .inr (10, mo z 0 0 0 0 0 0 0 0 0 0 (-1) 0 0 0 0 0)), (z 32, aI V 100 (fun _ => 0)), (z 1, aI V 3075 (fun _ => 0))] H := hP
  have hD : va_D A [(z 33, aI V 10 (fun _ => 0)), (z 34, aI V 10 (fun _ => 0)), (z 0, .inr (10, mo z 0 0 0 0 0 0 0 0 0 0 (-1) 0 0 0 0 0)), (z 32, aI V 100 (fun _ => 0)), (z 1, aI V 3075 (fun _ => 0))] := hD
  refine lv_iconst (v := 0) hx hb dX10_woodBut_5 (by decide) ?_
  refine lv_istore_n (lv' := [(2, .int 0), (0, .ref (z 0)), (1, .int (-1))]) hx hb dX10_woodBut_6 rfl hl (by decide) rfl (fun ls hl => ?_)
  refine lv_aload_n hx hb dX10_woodBut_7 rfl (lv_at hl 1 rfl) ?_
  refine jnI (wr := [(z 1, aI V 3075 (fun _ => 0))]) (rnV (rest := []) ⟨hx, hb, hml, hown, hg⟩ (c_X10_isCome_0 l V z) mt_X10_isCome q_8_39 ⟨Nat.le_of_ble_eq_true rfl, Nat.le_of_ble_eq_true rfl⟩ hK hP hD hS hA hE [0, 1, 2, 3] rfl rfl 2 rfl rfl rfl rfl hl.1 rfl (Nat.le_of_ble_eq_true rfl) dX10_woodBut_8 ⟨Nat.le_of_ble_eq_true rfl, Nat.le_of_ble_eq_true rfl⟩) hP hD hS hA [0, 1, 2, 3] [4] rfl rfl rfl (by decide) (fun r_1 w H locs hw hP hD hS => ?_)
  obtain ⟨rfl, rfl⟩ := hw
  have hP : va_P V.1 vwCl [(z 1, aI V 3075 (fun _ => 0)), (z 33, aI V 10 (upd (upd (upd (upd (upd (upd (upd (upd (upd (upd (upd (fun _ => 0) 0 (-1)) 1 (-1)) 2 (-1)) 3 (-1)) 4 (-1)) 5 (-1)) 6 (-1)) 7 (-1)) 8 (-1)) 9 (-1)) 0 0)), (z 34, aI V 10 (fun _ => 0)), (z 0, .inr (10, mo z 0 0 0 0 0 0 0 0 0 0 (-1) 0 0 0 0 0)), (z 32, aI V 100 (fun _ => 0))] H := hP
  have hD : va_D A [(z 1, aI V 3075 (fun _ => 0)), (z 33, aI V 10 (upd (upd (upd (upd (upd (upd (upd (upd (upd (upd (upd (fun _ => 0) 0 (-1)) 1 (-1)) 2 (-1)) 3 (-1)) 4 (-1)) 5 (-1)) 6 (-1)) 7 (-1)) 8 (-1)) 9 (-1)) 0 0)), (z 34, aI V 10 (fun _ => 0)), (z 0, .inr (10, mo z 0 0 0 0 0 0 0 0 0 0 (-1) 0 0 0 0 0)), (z 32, aI V 100 (fun _ => 0))] := hD
  refine lv_if_eq (tgt := 77) hx hb dX10_woodBut_11 (by decide) (fun _ => ?_) (fun c_2 => absurd c_2 (by decide))
  refine lv_iload_n hx hb dX10_woodBut_77 rfl (lv_at hl 0 rfl) ?_
  have hP := subP (ws' := [(z 0, .inr (10, mo z 0 0 0 0 0 0 0 0 0 0 (-1) 0 0 0 0 0)), (z 32, aI V 100 (fun _ => 0)), (z 33, aI V 10 (upd (upd (upd (upd (upd (upd (upd (upd (upd (upd (upd (fun _ => 0) 0 (-1)) 1 (-1)) 2 (-1)) 3 (-1)) 4 (-1)) 5 (-1)) 6 (-1)) 7 (-1)) 8 (-1)) 9 (-1)) 0 0)), (z 34, aI V 10 (fun _ => 0)), (z 1, aI V 3075 (fun _ => 0))]) hP [3, 4, 1, 2, 0] rfl
  have hD := hD.sub (ws' := [(z 0, .inr (10, mo z 0 0 0 0 0 0 0 0 0 0 (-1) 0 0 0 0 0)), (z 32, aI V 100 (fun _ => 0)), (z 33, aI V 10 (upd (upd (upd (upd (upd (upd (upd (upd (upd (upd (upd (fun _ => 0) 0 (-1)) 1 (-1)) 2 (-1)) 3 (-1)) 4 (-1)) 5 (-1)) 6 (-1)) 7 (-1)) 8 (-1)) 9 (-1)) 0 0)), (z 34, aI V 10 (fun _ => 0)), (z 1, aI V 3075 (fun _ => 0))]) [3, 4, 1, 2, 0] rfl rfl
  exact fiI hx hb hr hlk hK hP hD hS dX10_woodBut_78 (Nat.le_of_ble_eq_true rfl) (Nat.le_of_ble_eq_true rfl) (⟨rfl, rfl⟩)
theorem dX10_wood_0 : decode cX10_wood 0 = .ok (.aload_n 0, 1) := by decide +kernel
theorem dX10_wood_1 : decode cX10_wood 1 = .ok (.iconst 0, 1) := by decide +kernel
theorem dX10_wood_2 : decode cX10_wood 2 = .ok (.putfield 1, 3) := by decide +kernel
theorem dX10_wood_5 : decode cX10_wood 5 = .ok (.aload_n 0, 1) := by decide +kernel
theorem dX10_wood_6 : decode cX10_wood 6 = .ok (.iconst (-1), 1) := by decide +kernel
theorem q_8_34 : Cond.code yX10_woodBut prog_12_method_104_code 4 (some FieldType.int) ∈ gw := gw_8 (i := 34) (rfl) rfl
theorem q_8_33 : Cond.instanceMethod yX10_woodBut ∈ gw := gw_8 (i := 33) (by decide +kernel) rfl
theorem q_s_114 : Cond.selects "BeaconDelayModel" yX10_woodBut yX10_woodBut ∈ gw := gw_s (i := 114) (by decide +kernel) rfl
theorem mt_X10_woodBut : MtV yX10_woodBut cX10_woodBut 4 (some .int) 1 := ⟨⟨q_8_34, q_1_9, by decide +kernel, by decide +kernel, by decide +kernel⟩, q_8_33, q_s_114⟩
theorem q_8_31 : Cond.methodLink "BeaconDelayModel" 414 yX10_woodBut ∈ gw := gw_8 (i := 31) (by decide +kernel) rfl
theorem dX10_wood_7 : decode cX10_wood 7 = .ok (.invokevirtual 414, 3) := by decide +kernel
theorem dX10_wood_10 : decode cX10_wood 10 = .ok (.ireturn, 1) := by decide +kernel
set_option maxHeartbeats 4000000 in
set_option maxRecDepth 100000 in
theorem c_X10_wood_0 (l : Launch) (V : GV) (z : Nat → Nat) : Ct l V yX10_wood (.code yX10_wood cX10_wood 1 (some .int)) 3 [.ref (z 0)] [(z 0, .inr (10, mo z 0 0 0 0 0 0 0 0 0 0 (-1) 0 0 0 0 0)), (z 32, aI V 100 (fun _ => 0)), (z 33, aI V 10 (fun _ => 0)), (z 34, aI V 10 (fun _ => 0)), (z 1, aI V 3075 (fun _ => 0))] 0 0 (QI V (fun (r : Int32) (w : va_W) => (r = 0 ∧ w = [(z 0, .inr (10, mo z 0 0 0 0 0 0 0 0 0 0 (-1) 0 0 0 0 0)), (z 32, aI V 100 (fun _ => 0)), (z 33, aI V 10 (upd (upd (upd (upd (upd (upd (upd (upd (upd (upd (upd (fun _ => 0) 0 (-1)) 1 (-1)) 2 (-1)) 3 (-1)) 4 (-1)) 5 (-1)) 6 (-1)) 7 (-1)) 8 (-1)) 9 (-1)) 0 0)), (z 34, aI V 10 (fun _ => 0)), (z 1, aI V 3075 (fun _ => 0))]))) := by
  refine Ct.of (by decide) (Nat.le_of_ble_eq_true rfl) (fun p e s m below meth c A ls hx hb hr hml hown hlk hnm hg hP hK hD hE hA hS hl => ?_)
  have hl : lv_has ls 1 [(0, .ref (z 0))] := hl
  refine lv_aload_n hx hb dX10_wood_0 rfl (lv_at hl 0 rfl) ?_
  refine lv_iconst (v := 0) hx hb dX10_wood_1 (by decide) ?_
  refine va_put (ci := 10) (v := .int 0) (ty := .int) (C := RX10) (T := TX10) (N := 40) hx hb hg inX10 tyX10 tyX10_ok nmX10 hown hK hP hD hS 0 rfl rfl 0 (by decide) (hg _ q_5_224) (fun _ h9 => h9) rfl (by decide +kernel) rfl rfl (Nat.le_of_ble_eq_true rfl) dX10_wood_2 (fun H locs hP hD hS => ?_)
  have hP : va_P V.1 vwCl [(z 0, .inr (10, mo z 0 0 0 0 0 0 0 0 0 0 (-1) 0 0 0 0 0)), (z 32, aI V 100 (fun _ => 0)), (z 33, aI V 10 (fun _ => 0)), (z 34, aI V 10 (fun _ => 0)), (z 1, aI V 3075 (fun _ => 0))] H := hP
  have hD : va_D A [(z 0, .inr (10, mo z 0 0 0 0 0 0 0 0 0 0 (-1) 0 0 0 0 0)), (z 32, aI V 100 (fun _ => 0)), (z 33, aI V 10 (fun _ => 0)), (z 34, aI V 10 (fun _ => 0)), (z 1, aI V 3075 (fun _ => 0))] := hD
  refine lv_aload_n hx hb dX10_wood_5 rfl (lv_at hl 0 rfl) ?_
  refine lv_iconst (v := (-1)) hx hb dX10_wood_6 (by decide) ?_
  refine jnI (wr := []) (rnV (rest := []) ⟨hx, hb, hml, hown, hg⟩ (c_X10_woodBut_0 l V z) mt_X10_woodBut q_8_31 ⟨Nat.le_of_ble_eq_true rfl, Nat.le_of_ble_eq_true rfl⟩ hK hP hD hS hA hE [0, 1, 2, 3, 4] rfl rfl 0 rfl rfl rfl rfl hl.1 rfl (Nat.le_of_ble_eq_true rfl) dX10_wood_7 ⟨Nat.le_of_ble_eq_true rfl, Nat.le_of_ble_eq_true rfl⟩) hP hD hS hA [0, 1, 2, 3, 4] [] rfl rfl rfl (by decide) (fun r_1 w H locs hw hP hD hS => ?_)
  obtain ⟨rfl, rfl⟩ := hw
  have hP : va_P V.1 vwCl [(z 0, .inr (10, mo z 0 0 0 0 0 0 0 0 0 0 (-1) 0 0 0 0 0)), (z 32, aI V 100 (fun _ => 0)), (z 33, aI V 10 (upd (upd (upd (upd (upd (upd (upd (upd (upd (upd (upd (fun _ => 0) 0 (-1)) 1 (-1)) 2 (-1)) 3 (-1)) 4 (-1)) 5 (-1)) 6 (-1)) 7 (-1)) 8 (-1)) 9 (-1)) 0 0)), (z 34, aI V 10 (fun _ => 0)), (z 1, aI V 3075 (fun _ => 0))] H := hP
  have hD : va_D A [(z 0, .inr (10, mo z 0 0 0 0 0 0 0 0 0 0 (-1) 0 0 0 0 0)), (z 32, aI V 100 (fun _ => 0)), (z 33, aI V 10 (upd (upd (upd (upd (upd (upd (upd (upd (upd (upd (upd (fun _ => 0) 0 (-1)) 1 (-1)) 2 (-1)) 3 (-1)) 4 (-1)) 5 (-1)) 6 (-1)) 7 (-1)) 8 (-1)) 9 (-1)) 0 0)), (z 34, aI V 10 (fun _ => 0)), (z 1, aI V 3075 (fun _ => 0))] := hD
  exact fiI hx hb hr hlk hK hP hD hS dX10_wood_10 (Nat.le_of_ble_eq_true rfl) (Nat.le_of_ble_eq_true rfl) (⟨rfl, rfl⟩)
theorem dX9_woodWithout_0 : decode cX9_woodWithout 0 = .ok (.ldc_w 279, 3) := by decide +kernel
theorem dX9_woodWithout_3 : decode cX9_woodWithout 3 = .ok (.istore_n 2, 1) := by decide +kernel
theorem dX9_woodWithout_4 : decode cX9_woodWithout 4 = .ok (.iconst 0, 1) := by decide +kernel
theorem dX9_woodWithout_5 : decode cX9_woodWithout 5 = .ok (.istore_n 3, 1) := by decide +kernel
theorem dX9_woodWithout_6 : decode cX9_woodWithout 6 = .ok (.iload_n 3, 1) := by decide +kernel
theorem dX9_woodWithout_7 : decode cX9_woodWithout 7 = .ok (.iconst 1, 1) := by decide +kernel
theorem dX9_woodWithout_8 : decode cX9_woodWithout 8 = .ok (.aload_n 0, 1) := by decide +kernel
theorem dX9_woodWithout_9 : decode cX9_woodWithout 9 = .ok (.getfield 16, 3) := by decide +kernel
theorem dX9_woodWithout_12 : decode cX9_woodWithout 12 = .ok (.getfield 159, 3) := by decide +kernel
theorem dX9_woodWithout_15 : decode cX9_woodWithout 15 = .ok (.ishl, 1) := by decide +kernel
theorem dX9_woodWithout_16 : decode cX9_woodWithout 16 = .ok (.if_icmp .ge 118, 3) := by decide +kernel
theorem dX9_woodWithout_19 : decode cX9_woodWithout 19 = .ok (.iconst 0, 1) := by decide +kernel
theorem dX9_woodWithout_20 : decode cX9_woodWithout 20 = .ok (.istore 4, 2) := by decide +kernel
theorem dX9_woodWithout_22 : decode cX9_woodWithout 22 = .ok (.iconst 0, 1) := by decide +kernel
theorem dX9_woodWithout_23 : decode cX9_woodWithout 23 = .ok (.istore 5, 2) := by decide +kernel
theorem dX9_woodWithout_25 : decode cX9_woodWithout 25 = .ok (.iload 5, 2) := by decide +kernel
theorem dX9_woodWithout_27 : decode cX9_woodWithout 27 = .ok (.aload_n 0, 1) := by decide +kernel
theorem dX9_woodWithout_28 : decode cX9_woodWithout 28 = .ok (.getfield 16, 3) := by decide +kernel
theorem dX9_woodWithout_31 : decode cX9_woodWithout 31 = .ok (.getfield 159, 3) := by decide +kernel
theorem dX9_woodWithout_34 : decode cX9_woodWithout 34 = .ok (.if_icmp .ge 37, 3) := by decide +kernel
theorem dX9_woodWithout_71 : decode cX9_woodWithout 71 = .ok (.iconst 0, 1) := by decide +kernel
theorem dX9_woodWithout_72 : decode cX9_woodWithout 72 = .ok (.istore 5, 2) := by decide +kernel
theorem dX9_woodWithout_74 : decode cX9_woodWithout 74 = .ok (.iload 5, 2) := by decide +kernel
theorem dX9_woodWithout_76 : decode cX9_woodWithout 76 = .ok (.aload_n 0, 1) := by decide +kernel
theorem dX9_woodWithout_77 : decode cX9_woodWithout 77 = .ok (.getfield 16, 3) := by decide +kernel
theorem dX9_woodWithout_80 : decode cX9_woodWithout 80 = .ok (.getfield 145, 3) := by decide +kernel
theorem dX9_woodWithout_83 : decode cX9_woodWithout 83 = .ok (.if_icmp .ge 38, 3) := by decide +kernel
theorem dX9_woodWithout_121 : decode cX9_woodWithout 121 = .ok (.iload_n 2, 1) := by decide +kernel
theorem dX9_woodWithout_122 : decode cX9_woodWithout 122 = .ok (.iload 4, 2) := by decide +kernel
theorem q_4_214 : Cond.methodLink "BeaconDelay" 292 Lib.Math.min.name ∈ gw := gw_4 (i := 214) (by decide +kernel) rfl
theorem dX9_woodWithout_124 : decode cX9_woodWithout 124 = .ok (.invokestatic 292, 3) := by decide +kernel
theorem dX9_woodWithout_127 : decode cX9_woodWithout 127 = .ok (.istore_n 2, 1) := by decide +kernel
theorem dX9_woodWithout_128 : decode cX9_woodWithout 128 = .ok (.iinc 3 1, 3) := by decide +kernel
theorem dX9_woodWithout_131 : decode cX9_woodWithout 131 = .ok (.goto (-125), 3) := by decide +kernel
theorem dX9_woodWithout_134 : decode cX9_woodWithout 134 = .ok (.iload_n 2, 1) := by decide +kernel
theorem dX9_woodWithout_135 : decode cX9_woodWithout 135 = .ok (.ireturn, 1) := by decide +kernel
set_option maxHeartbeats 4000000 in
set_option maxRecDepth 100000 in
theorem c_X9_woodWithout_0 (l : Launch) (V : GV) (y : Nat → Nat) : Ct l V yX9_woodWithout (.code yX9_woodWithout cX9_woodWithout 6 (some .int)) 1 [.ref (y 0), .int (-1)] [(y 0, .inr (9, [.ref (y 1), .int 0, .ref (y 2), .ref (y 10), .ref (y 19), .ref (y 25), .ref (y 26), .ref (y 30), .ref (y 31), .ref (y 32), .null, .null, .int 0, .int 0, .int 0])), (y 2, .inr (1, [.int 0, .int 0, .int 0, .int 0, .int 0, .int 0, .ref (y 3), .ref (y 4), .ref (y 5), .ref (y 6), .ref (y 7), .ref (y 8), .ref (y 9), .int 0, .int 0, .int 0, .int 0, .int 0]))] 0 0 (QI V (fun (r : Int32) (w : va_W) => (r = 0 ∧ w = [(y 0, .inr (9, [.ref (y 1), .int 0, .ref (y 2), .ref (y 10), .ref (y 19), .ref (y 25), .ref (y 26), .ref (y 30), .ref (y 31), .ref (y 32), .null, .null, .int 0, .int 0, .int 0])), (y 2, .inr (1, [.int 0, .int 0, .int 0, .int 0, .int 0, .int 0, .ref (y 3), .ref (y 4), .ref (y 5), .ref (y 6), .ref (y 7), .ref (y 8), .ref (y 9), .int 0, .int 0, .int 0, .int 0, .int 0]))]))) := by
  refine Ct.of (by decide) (Nat.le_of_ble_eq_true rfl) (fun p e s m below meth c A ls hx hb hr hml hown hlk hnm hg hP hK hD hE hA hS hl => ?_)
  have hl : lv_has ls 6 [(0, .ref (y 0)), (1, .int (-1))] := hl
  refine lv_ldcw (v := 1000000) hx hb hown (hg _ q_4_194) dX9_woodWithout_0 ?_
  refine lv_istore_n (lv' := [(2, .int 1000000), (0, .ref (y 0)), (1, .int (-1))]) hx hb dX9_woodWithout_3 rfl hl (by decide) rfl (fun ls hl => ?_)
  refine lv_iconst (v := 0) hx hb dX9_woodWithout_4 (by decide) ?_
  refine lv_istore_n (lv' := [(3, .int 0), (2, .int 1000000), (0, .ref (y 0)), (1, .int (-1))]) hx hb dX9_woodWithout_5 rfl hl (by decide) rfl (fun ls hl => ?_)
  refine lv_iload_n hx hb dX9_woodWithout_6 rfl (lv_at hl 0 rfl) ?_
  refine lv_iconst (v := 1) hx hb dX9_woodWithout_7 (by decide) ?_
  refine lv_aload_n hx hb dX9_woodWithout_8 rfl (lv_at hl 2 rfl) ?_
  refine va_get (ci := 9) (v := .ref (y 2)) (C := RX9) (T := TX9) (N := 15) hx hb hg inX9 hown hK hP 0 rfl rfl 2 (by decide) (hg _ q_2_38) (fun _ h9 => h9) rfl dX9_woodWithout_9 ?_
  refine va_get (ci := 1) (v := .int 0) (C := RX1) (T := TX1) (N := 18) hx hb hg inX1 hown hK hP 1 rfl rfl 1 (by decide) (hg _ q_1_41) (fun _ h9 => h9) rfl dX9_woodWithout_12 ?_
  refine lv_ishl hx hb dX9_woodWithout_15 ?_
  refine tpi (y := 1) (by decide +kernel) ?_
  refine lv_icmp_ge (tgt := 134) hx hb dX9_woodWithout_16 (by decide) (fun c_1 => absurd c_1 (by decide)) (fun _ => ?_)
  refine lv_iconst (v := 0) hx hb dX9_woodWithout_19 (by decide) ?_
  refine lv_istore (lv' := [(4, .int 0), (3, .int 0), (2, .int 1000000), (0, .ref (y 0)), (1, .int (-1))]) hx hb dX9_woodWithout_20 hl (by decide) rfl (fun ls hl => ?_)
  refine lv_iconst (v := 0) hx hb dX9_woodWithout_22 (by decide) ?_
  refine lv_istore (lv' := [(5, .int 0), (4, .int 0), (3, .int 0), (2, .int 1000000), (0, .ref (y 0)), (1, .int (-1))]) hx hb dX9_woodWithout_23 hl (by decide) rfl (fun ls hl => ?_)
  refine lv_iload hx hb dX9_woodWithout_25 (lv_at hl 0 rfl) ?_
  refine lv_aload_n hx hb dX9_woodWithout_27 rfl (lv_at hl 4 rfl) ?_
  refine va_get (ci := 9) (v := .ref (y 2)) (C := RX9) (T := TX9) (N := 15) hx hb hg inX9 hown hK hP 0 rfl rfl 2 (by decide) (hg _ q_2_38) (fun _ h9 => h9) rfl dX9_woodWithout_28 ?_
  refine va_get (ci := 1) (v := .int 0) (C := RX1) (T := TX1) (N := 18) hx hb hg inX1 hown hK hP 1 rfl rfl 1 (by decide) (hg _ q_1_41) (fun _ h9 => h9) rfl dX9_woodWithout_31 ?_
  refine lv_icmp_ge (tgt := 71) hx hb dX9_woodWithout_34 (by decide) (fun _ => ?_) (fun c_2 => absurd c_2 (by decide))
  refine lv_iconst (v := 0) hx hb dX9_woodWithout_71 (by decide) ?_
  refine lv_istore (lv' := [(5, .int 0), (4, .int 0), (3, .int 0), (2, .int 1000000), (0, .ref (y 0)), (1, .int (-1))]) hx hb dX9_woodWithout_72 hl (by decide) rfl (fun ls hl => ?_)
  refine lv_iload hx hb dX9_woodWithout_74 (lv_at hl 0 rfl) ?_
  refine lv_aload_n hx hb dX9_woodWithout_76 rfl (lv_at hl 4 rfl) ?_
  refine va_get (ci := 9) (v := .ref (y 2)) (C := RX9) (T := TX9) (N := 15) hx hb hg inX9 hown hK hP 0 rfl rfl 2 (by decide) (hg _ q_2_38) (fun _ h9 => h9) rfl dX9_woodWithout_77 ?_
  refine va_get (ci := 1) (v := .int 0) (C := RX1) (T := TX1) (N := 18) hx hb hg inX1 hown hK hP 1 rfl rfl 2 (by decide) (hg _ q_1_44) (fun _ h9 => h9) rfl dX9_woodWithout_80 ?_
  refine lv_icmp_ge (tgt := 121) hx hb dX9_woodWithout_83 (by decide) (fun _ => ?_) (fun c_3 => absurd c_3 (by decide))
  refine lv_iload_n hx hb dX9_woodWithout_121 rfl (lv_at hl 3 rfl) ?_
  refine lv_iload hx hb dX9_woodWithout_122 (lv_at hl 1 rfl) ?_
  refine va_mmin hx hb (hml.trans hl.1.symm) hown (hg _ q_4_214) (hg _ q_2_99) (hg _ q_1_10) (hg _ q_2_100) (Nat.le_of_ble_eq_true rfl) (Nat.le_of_ble_eq_true rfl) (Nat.le_of_ble_eq_true rfl) (Nat.le_of_ble_eq_true rfl) dX9_woodWithout_124 ?_
  refine tpi (y := 0) (by decide +kernel) ?_
  refine lv_istore_n (lv' := [(2, .int 0), (5, .int 0), (4, .int 0), (3, .int 0), (0, .ref (y 0)), (1, .int (-1))]) hx hb dX9_woodWithout_127 rfl hl (by decide) rfl (fun ls hl => ?_)
  refine lv_iinc (v := 1) (lv' := [(3, .int 1), (2, .int 0), (5, .int 0), (4, .int 0), (0, .ref (y 0)), (1, .int (-1))]) hx hb dX9_woodWithout_128 hl (k := 3) rfl (by decide +kernel) (by decide) rfl (fun ls hl => ?_)
  refine lv_goto (tgt := 6) hx hb dX9_woodWithout_131 (by decide) ?_
  refine lv_iload_n hx hb dX9_woodWithout_6 rfl (lv_at hl 0 rfl) ?_
  refine lv_iconst (v := 1) hx hb dX9_woodWithout_7 (by decide) ?_
  refine lv_aload_n hx hb dX9_woodWithout_8 rfl (lv_at hl 4 rfl) ?_
  refine va_get (ci := 9) (v := .ref (y 2)) (C := RX9) (T := TX9) (N := 15) hx hb hg inX9 hown hK hP 0 rfl rfl 2 (by decide) (hg _ q_2_38) (fun _ h9 => h9) rfl dX9_woodWithout_9 ?_
  refine va_get (ci := 1) (v := .int 0) (C := RX1) (T := TX1) (N := 18) hx hb hg inX1 hown hK hP 1 rfl rfl 1 (by decide) (hg _ q_1_41) (fun _ h9 => h9) rfl dX9_woodWithout_12 ?_
  refine lv_ishl hx hb dX9_woodWithout_15 ?_
  refine tpi (y := 1) (by decide +kernel) ?_
  refine lv_icmp_ge (tgt := 134) hx hb dX9_woodWithout_16 (by decide) (fun _ => ?_) (fun c_4 => absurd c_4 (by decide))
  refine lv_iload_n hx hb dX9_woodWithout_134 rfl (lv_at hl 1 rfl) ?_
  exact fiI hx hb hr hlk hK hP hD hS dX9_woodWithout_135 (Nat.le_of_ble_eq_true rfl) (Nat.le_of_ble_eq_true rfl) (⟨rfl, rfl⟩)
theorem dX9_wood_0 : decode cX9_wood 0 = .ok (.aload_n 0, 1) := by decide +kernel
theorem dX9_wood_1 : decode cX9_wood 1 = .ok (.iconst (-1), 1) := by decide +kernel
theorem q_5_8 : Cond.code yX9_woodWithout prog_1_method_51_code 6 (some FieldType.int) ∈ gw := gw_5 (i := 8) (rfl) rfl
theorem q_5_7 : Cond.instanceMethod yX9_woodWithout ∈ gw := gw_5 (i := 7) (by decide +kernel) rfl
theorem q_s_41 : Cond.selects "BeaconDelay" yX9_woodWithout yX9_woodWithout ∈ gw := gw_s (i := 41) (by decide +kernel) rfl
theorem mt_X9_woodWithout : MtV yX9_woodWithout cX9_woodWithout 6 (some .int) 1 := ⟨⟨q_5_8, q_1_1, by decide +kernel, by decide +kernel, by decide +kernel⟩, q_5_7, q_s_41⟩
theorem q_5_5 : Cond.methodLink "BeaconDelay" 307 yX9_woodWithout ∈ gw := gw_5 (i := 5) (by decide +kernel) rfl
theorem dX9_wood_2 : decode cX9_wood 2 = .ok (.invokevirtual 307, 3) := by decide +kernel
theorem dX9_wood_5 : decode cX9_wood 5 = .ok (.ireturn, 1) := by decide +kernel
set_option maxHeartbeats 4000000 in
set_option maxRecDepth 100000 in
theorem c_X9_wood_0 (l : Launch) (V : GV) (y : Nat → Nat) : Ct l V yX9_wood (.code yX9_wood cX9_wood 1 (some .int)) 2 [.ref (y 0)] [(y 0, .inr (9, [.ref (y 1), .int 0, .ref (y 2), .ref (y 10), .ref (y 19), .ref (y 25), .ref (y 26), .ref (y 30), .ref (y 31), .ref (y 32), .null, .null, .int 0, .int 0, .int 0])), (y 2, .inr (1, [.int 0, .int 0, .int 0, .int 0, .int 0, .int 0, .ref (y 3), .ref (y 4), .ref (y 5), .ref (y 6), .ref (y 7), .ref (y 8), .ref (y 9), .int 0, .int 0, .int 0, .int 0, .int 0]))] 0 0 (QI V (fun (r : Int32) (w : va_W) => (r = 0 ∧ w = [(y 0, .inr (9, [.ref (y 1), .int 0, .ref (y 2), .ref (y 10), .ref (y 19), .ref (y 25), .ref (y 26), .ref (y 30), .ref (y 31), .ref (y 32), .null, .null, .int 0, .int 0, .int 0])), (y 2, .inr (1, [.int 0, .int 0, .int 0, .int 0, .int 0, .int 0, .ref (y 3), .ref (y 4), .ref (y 5), .ref (y 6), .ref (y 7), .ref (y 8), .ref (y 9), .int 0, .int 0, .int 0, .int 0, .int 0]))]))) := by
  refine Ct.of (by decide) (Nat.le_of_ble_eq_true rfl) (fun p e s m below meth c A ls hx hb hr hml hown hlk hnm hg hP hK hD hE hA hS hl => ?_)
  have hl : lv_has ls 1 [(0, .ref (y 0))] := hl
  refine lv_aload_n hx hb dX9_wood_0 rfl (lv_at hl 0 rfl) ?_
  refine lv_iconst (v := (-1)) hx hb dX9_wood_1 (by decide) ?_
  refine jnI (wr := []) (rnV (rest := []) ⟨hx, hb, hml, hown, hg⟩ (c_X9_woodWithout_0 l V y) mt_X9_woodWithout q_5_5 ⟨Nat.le_of_ble_eq_true rfl, Nat.le_of_ble_eq_true rfl⟩ hK hP hD hS hA hE [0, 1] rfl rfl 0 rfl rfl rfl rfl hl.1 rfl (Nat.le_of_ble_eq_true rfl) dX9_wood_2 ⟨Nat.le_of_ble_eq_true rfl, Nat.le_of_ble_eq_true rfl⟩) hP hD hS hA [0, 1] [] rfl rfl rfl (by decide) (fun r_1 w H locs hw hP hD hS => ?_)
  obtain ⟨rfl, rfl⟩ := hw
  have hP : va_P V.1 vwCl [(y 0, .inr (9, [.ref (y 1), .int 0, .ref (y 2), .ref (y 10), .ref (y 19), .ref (y 25), .ref (y 26), .ref (y 30), .ref (y 31), .ref (y 32), .null, .null, .int 0, .int 0, .int 0])), (y 2, .inr (1, [.int 0, .int 0, .int 0, .int 0, .int 0, .int 0, .ref (y 3), .ref (y 4), .ref (y 5), .ref (y 6), .ref (y 7), .ref (y 8), .ref (y 9), .int 0, .int 0, .int 0, .int 0, .int 0]))] H := hP
  have hD : va_D A [(y 0, .inr (9, [.ref (y 1), .int 0, .ref (y 2), .ref (y 10), .ref (y 19), .ref (y 25), .ref (y 26), .ref (y 30), .ref (y 31), .ref (y 32), .null, .null, .int 0, .int 0, .int 0])), (y 2, .inr (1, [.int 0, .int 0, .int 0, .int 0, .int 0, .int 0, .ref (y 3), .ref (y 4), .ref (y 5), .ref (y 6), .ref (y 7), .ref (y 8), .ref (y 9), .int 0, .int 0, .int 0, .int 0, .int 0]))] := hD
  exact fiI hx hb hr hlk hK hP hD hS dX9_wood_5 (Nat.le_of_ble_eq_true rfl) (Nat.le_of_ble_eq_true rfl) (⟨rfl, rfl⟩)
theorem dX10_needed_0 : decode cX10_needed 0 = .ok (.aload_n 0, 1) := by decide +kernel
theorem dX10_needed_1 : decode cX10_needed 1 = .ok (.iconst 0, 1) := by decide +kernel
theorem dX10_needed_2 : decode cX10_needed 2 = .ok (.putfield 1, 3) := by decide +kernel
theorem dX10_needed_5 : decode cX10_needed 5 = .ok (.aload_n 0, 1) := by decide +kernel
theorem dX10_needed_6 : decode cX10_needed 6 = .ok (.iconst (-1), 1) := by decide +kernel
theorem dX10_needed_7 : decode cX10_needed 7 = .ok (.invokevirtual 414, 3) := by decide +kernel
theorem dX10_needed_10 : decode cX10_needed 10 = .ok (.istore_n 1, 1) := by decide +kernel
theorem dX10_needed_11 : decode cX10_needed 11 = .ok (.iconst 0, 1) := by decide +kernel
theorem dX10_needed_12 : decode cX10_needed 12 = .ok (.istore_n 2, 1) := by decide +kernel
theorem dX10_needed_13 : decode cX10_needed 13 = .ok (.iconst 0, 1) := by decide +kernel
theorem dX10_needed_14 : decode cX10_needed 14 = .ok (.istore_n 3, 1) := by decide +kernel
theorem dX10_needed_15 : decode cX10_needed 15 = .ok (.iload_n 3, 1) := by decide +kernel
theorem dX10_needed_16 : decode cX10_needed 16 = .ok (.aload_n 0, 1) := by decide +kernel
theorem dX10_needed_17 : decode cX10_needed 17 = .ok (.getfield 13, 3) := by decide +kernel
theorem dX10_needed_20 : decode cX10_needed 20 = .ok (.iconst 3, 1) := by decide +kernel
theorem dX10_needed_21 : decode cX10_needed 21 = .ok (.iaload, 1) := by decide +kernel
theorem dX10_needed_22 : decode cX10_needed 22 = .ok (.if_icmp .ge 28, 3) := by decide +kernel
theorem dX10_needed_50 : decode cX10_needed 50 = .ok (.iload_n 2, 1) := by decide +kernel
theorem dX10_needed_51 : decode cX10_needed 51 = .ok (.ireturn, 1) := by decide +kernel
set_option maxHeartbeats 4000000 in
set_option maxRecDepth 100000 in
theorem c_X10_needed_0 (l : Launch) (V : GV) (z : Nat → Nat) : Ct l V yX10_needed (.code yX10_needed cX10_needed 4 (some .int)) 3 [.ref (z 0)] [(z 0, .inr (10, mo z 0 0 0 0 0 0 0 0 0 0 (-1) 0 0 0 0 0)), (z 32, aI V 100 (fun _ => 0)), (z 33, aI V 10 (fun _ => 0)), (z 34, aI V 10 (fun _ => 0)), (z 1, aI V 3075 (fun _ => 0))] 0 0 (QI V (fun (r : Int32) (w : va_W) => (r = 0 ∧ w = [(z 0, .inr (10, mo z 0 0 0 0 0 0 0 0 0 0 (-1) 0 0 0 0 0)), (z 32, aI V 100 (fun _ => 0)), (z 33, aI V 10 (upd (upd (upd (upd (upd (upd (upd (upd (upd (upd (upd (fun _ => 0) 0 (-1)) 1 (-1)) 2 (-1)) 3 (-1)) 4 (-1)) 5 (-1)) 6 (-1)) 7 (-1)) 8 (-1)) 9 (-1)) 0 0)), (z 34, aI V 10 (fun _ => 0)), (z 1, aI V 3075 (fun _ => 0))]))) := by
  refine Ct.of (by decide) (Nat.le_of_ble_eq_true rfl) (fun p e s m below meth c A ls hx hb hr hml hown hlk hnm hg hP hK hD hE hA hS hl => ?_)
  have hl : lv_has ls 4 [(0, .ref (z 0))] := hl
  refine lv_aload_n hx hb dX10_needed_0 rfl (lv_at hl 0 rfl) ?_
  refine lv_iconst (v := 0) hx hb dX10_needed_1 (by decide) ?_
  refine va_put (ci := 10) (v := .int 0) (ty := .int) (C := RX10) (T := TX10) (N := 40) hx hb hg inX10 tyX10 tyX10_ok nmX10 hown hK hP hD hS 0 rfl rfl 0 (by decide) (hg _ q_5_224) (fun _ h9 => h9) rfl (by decide +kernel) rfl rfl (Nat.le_of_ble_eq_true rfl) dX10_needed_2 (fun H locs hP hD hS => ?_)
  have hP : va_P V.1 vwCl [(z 0, .inr (10, mo z 0 0 0 0 0 0 0 0 0 0 (-1) 0 0 0 0 0)), (z 32, aI V 100 (fun _ => 0)), (z 33, aI V 10 (fun _ => 0)), (z 34, aI V 10 (fun _ => 0)), (z 1, aI V 3075 (fun _ => 0))] H := hP
  have hD : va_D A [(z 0, .inr (10, mo z 0 0 0 0 0 0 0 0 0 0 (-1) 0 0 0 0 0)), (z 32, aI V 100 (fun _ => 0)), (z 33, aI V 10 (fun _ => 0)), (z 34, aI V 10 (fun _ => 0)), (z 1, aI V 3075 (fun _ => 0))] := hD
  refine lv_aload_n hx hb dX10_needed_5 rfl (lv_at hl 0 rfl) ?_
  refine lv_iconst (v := (-1)) hx hb dX10_needed_6 (by decide) ?_
  refine jnI (wr := []) (rnV (rest := []) ⟨hx, hb, hml, hown, hg⟩ (c_X10_woodBut_0 l V z) mt_X10_woodBut q_8_31 ⟨Nat.le_of_ble_eq_true rfl, Nat.le_of_ble_eq_true rfl⟩ hK hP hD hS hA hE [0, 1, 2, 3, 4] rfl rfl 0 rfl rfl rfl rfl hl.1 rfl (Nat.le_of_ble_eq_true rfl) dX10_needed_7 ⟨Nat.le_of_ble_eq_true rfl, Nat.le_of_ble_eq_true rfl⟩) hP hD hS hA [0, 1, 2, 3, 4] [] rfl rfl rfl (by decide) (fun r_1 w H locs hw hP hD hS => ?_)
  obtain ⟨rfl, rfl⟩ := hw
  have hP : va_P V.1 vwCl [(z 0, .inr (10, mo z 0 0 0 0 0 0 0 0 0 0 (-1) 0 0 0 0 0)), (z 32, aI V 100 (fun _ => 0)), (z 33, aI V 10 (upd (upd (upd (upd (upd (upd (upd (upd (upd (upd (upd (fun _ => 0) 0 (-1)) 1 (-1)) 2 (-1)) 3 (-1)) 4 (-1)) 5 (-1)) 6 (-1)) 7 (-1)) 8 (-1)) 9 (-1)) 0 0)), (z 34, aI V 10 (fun _ => 0)), (z 1, aI V 3075 (fun _ => 0))] H := hP
  have hD : va_D A [(z 0, .inr (10, mo z 0 0 0 0 0 0 0 0 0 0 (-1) 0 0 0 0 0)), (z 32, aI V 100 (fun _ => 0)), (z 33, aI V 10 (upd (upd (upd (upd (upd (upd (upd (upd (upd (upd (upd (fun _ => 0) 0 (-1)) 1 (-1)) 2 (-1)) 3 (-1)) 4 (-1)) 5 (-1)) 6 (-1)) 7 (-1)) 8 (-1)) 9 (-1)) 0 0)), (z 34, aI V 10 (fun _ => 0)), (z 1, aI V 3075 (fun _ => 0))] := hD
  refine lv_istore_n (lv' := [(1, .int 0), (0, .ref (z 0))]) hx hb dX10_needed_10 rfl hl (by decide) rfl (fun ls hl => ?_)
  refine lv_iconst (v := 0) hx hb dX10_needed_11 (by decide) ?_
  refine lv_istore_n (lv' := [(2, .int 0), (1, .int 0), (0, .ref (z 0))]) hx hb dX10_needed_12 rfl hl (by decide) rfl (fun ls hl => ?_)
  refine lv_iconst (v := 0) hx hb dX10_needed_13 (by decide) ?_
  refine lv_istore_n (lv' := [(3, .int 0), (2, .int 0), (1, .int 0), (0, .ref (z 0))]) hx hb dX10_needed_14 rfl hl (by decide) rfl (fun ls hl => ?_)
  refine lv_iload_n hx hb dX10_needed_15 rfl (lv_at hl 0 rfl) ?_
  refine lv_aload_n hx hb dX10_needed_16 rfl (lv_at hl 3 rfl) ?_
  refine va_get (ci := 10) (v := .ref (z 1)) (C := RX10) (T := TX10) (N := 40) hx hb hg inX10 hown hK hP 0 rfl rfl 1 (by decide) (hg _ q_5_225) (fun _ h9 => h9) rfl dX10_needed_17 ?_
  refine lv_iconst (v := 3) hx hb dX10_needed_20 (by decide) ?_
  refine va_iald hx hb hK hP 4 0 rfl rfl (vin (by decide +kernel)) dX10_needed_21 ?_
  refine tpi (y := 0) (rfl) ?_
  refine lv_icmp_ge (tgt := 50) hx hb dX10_needed_22 (by decide) (fun _ => ?_) (fun c_2 => absurd c_2 (by decide))
  refine lv_iload_n hx hb dX10_needed_50 rfl (lv_at hl 1 rfl) ?_
  exact fiI hx hb hr hlk hK hP hD hS dX10_needed_51 (Nat.le_of_ble_eq_true rfl) (Nat.le_of_ble_eq_true rfl) (⟨rfl, rfl⟩)
theorem dX9_needed_0 : decode cX9_needed 0 = .ok (.aload_n 0, 1) := by decide +kernel
theorem dX9_needed_1 : decode cX9_needed 1 = .ok (.iconst (-1), 1) := by decide +kernel
theorem dX9_needed_2 : decode cX9_needed 2 = .ok (.invokevirtual 307, 3) := by decide +kernel
theorem dX9_needed_5 : decode cX9_needed 5 = .ok (.istore_n 1, 1) := by decide +kernel
theorem dX9_needed_6 : decode cX9_needed 6 = .ok (.iconst 0, 1) := by decide +kernel
theorem dX9_needed_7 : decode cX9_needed 7 = .ok (.istore_n 2, 1) := by decide +kernel
theorem dX9_needed_8 : decode cX9_needed 8 = .ok (.iconst 0, 1) := by decide +kernel
theorem dX9_needed_9 : decode cX9_needed 9 = .ok (.istore_n 3, 1) := by decide +kernel
theorem dX9_needed_10 : decode cX9_needed 10 = .ok (.iload_n 3, 1) := by decide +kernel
theorem dX9_needed_11 : decode cX9_needed 11 = .ok (.aload_n 0, 1) := by decide +kernel
theorem dX9_needed_12 : decode cX9_needed 12 = .ok (.getfield 16, 3) := by decide +kernel
theorem q_1_47 : Cond.fieldLink "BeaconDelay" 310 "BeaconDelay$Coast" "roads" "I" ∈ gw := gw_1 (i := 47) (by decide +kernel) rfl
theorem dX9_needed_15 : decode cX9_needed 15 = .ok (.getfield 310, 3) := by decide +kernel
theorem dX9_needed_18 : decode cX9_needed 18 = .ok (.if_icmp .ge 24, 3) := by decide +kernel
theorem dX9_needed_42 : decode cX9_needed 42 = .ok (.iload_n 2, 1) := by decide +kernel
theorem dX9_needed_43 : decode cX9_needed 43 = .ok (.ireturn, 1) := by decide +kernel
set_option maxHeartbeats 4000000 in
set_option maxRecDepth 100000 in
theorem c_X9_needed_0 (l : Launch) (V : GV) (y : Nat → Nat) : Ct l V yX9_needed (.code yX9_needed cX9_needed 4 (some .int)) 2 [.ref (y 0)] [(y 0, .inr (9, [.ref (y 1), .int 0, .ref (y 2), .ref (y 10), .ref (y 19), .ref (y 25), .ref (y 26), .ref (y 30), .ref (y 31), .ref (y 32), .null, .null, .int 0, .int 0, .int 0])), (y 2, .inr (1, [.int 0, .int 0, .int 0, .int 0, .int 0, .int 0, .ref (y 3), .ref (y 4), .ref (y 5), .ref (y 6), .ref (y 7), .ref (y 8), .ref (y 9), .int 0, .int 0, .int 0, .int 0, .int 0]))] 0 0 (QI V (fun (r : Int32) (w : va_W) => (r = 0 ∧ w = [(y 0, .inr (9, [.ref (y 1), .int 0, .ref (y 2), .ref (y 10), .ref (y 19), .ref (y 25), .ref (y 26), .ref (y 30), .ref (y 31), .ref (y 32), .null, .null, .int 0, .int 0, .int 0])), (y 2, .inr (1, [.int 0, .int 0, .int 0, .int 0, .int 0, .int 0, .ref (y 3), .ref (y 4), .ref (y 5), .ref (y 6), .ref (y 7), .ref (y 8), .ref (y 9), .int 0, .int 0, .int 0, .int 0, .int 0]))]))) := by
  refine Ct.of (by decide) (Nat.le_of_ble_eq_true rfl) (fun p e s m below meth c A ls hx hb hr hml hown hlk hnm hg hP hK hD hE hA hS hl => ?_)
  have hl : lv_has ls 4 [(0, .ref (y 0))] := hl
  refine lv_aload_n hx hb dX9_needed_0 rfl (lv_at hl 0 rfl) ?_
  refine lv_iconst (v := (-1)) hx hb dX9_needed_1 (by decide) ?_
  refine jnI (wr := []) (rnV (rest := []) ⟨hx, hb, hml, hown, hg⟩ (c_X9_woodWithout_0 l V y) mt_X9_woodWithout q_5_5 ⟨Nat.le_of_ble_eq_true rfl, Nat.le_of_ble_eq_true rfl⟩ hK hP hD hS hA hE [0, 1] rfl rfl 0 rfl rfl rfl rfl hl.1 rfl (Nat.le_of_ble_eq_true rfl) dX9_needed_2 ⟨Nat.le_of_ble_eq_true rfl, Nat.le_of_ble_eq_true rfl⟩) hP hD hS hA [0, 1] [] rfl rfl rfl (by decide) (fun r_1 w H locs hw hP hD hS => ?_)
  obtain ⟨rfl, rfl⟩ := hw
  have hP : va_P V.1 vwCl [(y 0, .inr (9, [.ref (y 1), .int 0, .ref (y 2), .ref (y 10), .ref (y 19), .ref (y 25), .ref (y 26), .ref (y 30), .ref (y 31), .ref (y 32), .null, .null, .int 0, .int 0, .int 0])), (y 2, .inr (1, [.int 0, .int 0, .int 0, .int 0, .int 0, .int 0, .ref (y 3), .ref (y 4), .ref (y 5), .ref (y 6), .ref (y 7), .ref (y 8), .ref (y 9), .int 0, .int 0, .int 0, .int 0, .int 0]))] H := hP
  have hD : va_D A [(y 0, .inr (9, [.ref (y 1), .int 0, .ref (y 2), .ref (y 10), .ref (y 19), .ref (y 25), .ref (y 26), .ref (y 30), .ref (y 31), .ref (y 32), .null, .null, .int 0, .int 0, .int 0])), (y 2, .inr (1, [.int 0, .int 0, .int 0, .int 0, .int 0, .int 0, .ref (y 3), .ref (y 4), .ref (y 5), .ref (y 6), .ref (y 7), .ref (y 8), .ref (y 9), .int 0, .int 0, .int 0, .int 0, .int 0]))] := hD
  refine lv_istore_n (lv' := [(1, .int 0), (0, .ref (y 0))]) hx hb dX9_needed_5 rfl hl (by decide) rfl (fun ls hl => ?_)
  refine lv_iconst (v := 0) hx hb dX9_needed_6 (by decide) ?_
  refine lv_istore_n (lv' := [(2, .int 0), (1, .int 0), (0, .ref (y 0))]) hx hb dX9_needed_7 rfl hl (by decide) rfl (fun ls hl => ?_)
  refine lv_iconst (v := 0) hx hb dX9_needed_8 (by decide) ?_
  refine lv_istore_n (lv' := [(3, .int 0), (2, .int 0), (1, .int 0), (0, .ref (y 0))]) hx hb dX9_needed_9 rfl hl (by decide) rfl (fun ls hl => ?_)
  refine lv_iload_n hx hb dX9_needed_10 rfl (lv_at hl 0 rfl) ?_
  refine lv_aload_n hx hb dX9_needed_11 rfl (lv_at hl 3 rfl) ?_
  refine va_get (ci := 9) (v := .ref (y 2)) (C := RX9) (T := TX9) (N := 15) hx hb hg inX9 hown hK hP 0 rfl rfl 2 (by decide) (hg _ q_2_38) (fun _ h9 => h9) rfl dX9_needed_12 ?_
  refine va_get (ci := 1) (v := .int 0) (C := RX1) (T := TX1) (N := 18) hx hb hg inX1 hown hK hP 1 rfl rfl 3 (by decide) (hg _ q_1_47) (fun _ h9 => h9) rfl dX9_needed_15 ?_
  refine lv_icmp_ge (tgt := 42) hx hb dX9_needed_18 (by decide) (fun _ => ?_) (fun c_2 => absurd c_2 (by decide))
  refine lv_iload_n hx hb dX9_needed_42 rfl (lv_at hl 1 rfl) ?_
  exact fiI hx hb hr hlk hK hP hD hS dX9_needed_43 (Nat.le_of_ble_eq_true rfl) (Nat.le_of_ble_eq_true rfl) (⟨rfl, rfl⟩)
theorem dX10_noTold_0 : decode cX10_noTold 0 = .ok (.iload_n 1, 1) := by decide +kernel
theorem dX10_noTold_1 : decode cX10_noTold 1 = .ok (.i2l, 1) := by decide +kernel
theorem dX10_noTold_2 : decode cX10_noTold 2 = .ok (.lconst 0, 1) := by decide +kernel
theorem dX10_noTold_3 : decode cX10_noTold 3 = .ok (.ldc2_w 315, 3) := by decide +kernel
theorem dX10_noTold_6 : decode cX10_noTold 6 = .ok (.invokestatic 159, 3) := by decide +kernel
theorem dX10_noTold_9 : decode cX10_noTold 9 = .ok (.ifCond .eq 12, 3) := by decide +kernel
theorem dX10_noTold_21 : decode cX10_noTold 21 = .ok (.bipush (-2), 2) := by decide +kernel
theorem dX10_noTold_23 : decode cX10_noTold 23 = .ok (.ireturn, 1) := by decide +kernel
theorem dX10_noTold_12 : decode cX10_noTold 12 = .ok (.aload_n 0, 1) := by decide +kernel
theorem dX10_noTold_13 : decode cX10_noTold 13 = .ok (.iload_n 2, 1) := by decide +kernel
theorem dX10_noTold_14 : decode cX10_noTold 14 = .ok (.i2l, 1) := by decide +kernel
theorem dX10_noTold_15 : decode cX10_noTold 15 = .ok (.invokevirtual 262, 3) := by decide +kernel
theorem dX10_noTold_18 : decode cX10_noTold 18 = .ok (.ifCond .ne 6, 3) := by decide +kernel
set_option maxHeartbeats 4000000 in
set_option maxRecDepth 100000 in
theorem c_X10_noTold_0 (l : Launch) (V : GV) (z : Nat → Nat) (p0 : Int32) (p1 : Int32) : Ct l V yX10_noTold (.code yX10_noTold cX10_noTold 6 (some .int)) 3 [.ref (z 0), .int p0, .int p1, .int (-1)] [(z 0, .inr (10, mo z 0 0 0 0 0 0 0 0 0 0 (-1) 0 0 0 0 0)), (z 1, aI V 3075 (fun _ => 0))] 0 0 (QI V (fun (r : Int32) (w : va_W) => (r = (-2) ∧ w = [(z 0, .inr (10, mo z 0 0 0 0 0 0 0 0 0 0 (-1) 0 0 0 0 0)), (z 1, aI V 3075 (fun _ => 0))]))) := by
  refine Ct.of (by decide) (Nat.le_of_ble_eq_true rfl) (fun p e s m below meth c A ls hx hb hr hml hown hlk hnm hg hP hK hD hE hA hS hl => ?_)
  have hl : lv_has ls 6 [(0, .ref (z 0)), (1, .int p0), (2, .int p1), (3, .int (-1))] := hl
  refine lv_iload_n hx hb dX10_noTold_0 rfl (lv_at hl 1 rfl) ?_
  refine lv_i2l (v := p0.toInt64) hx hb dX10_noTold_1 rfl ?_
  refine lv_lconst (v := 0) hx hb dX10_noTold_2 (by decide) ?_
  refine lv_ldc2 (v := 3) hx hb hown (hg _ q_7_107) dX10_noTold_3 ?_
  refine jnI (wr := [(z 0, .inr (10, mo z 0 0 0 0 0 0 0 0 0 0 (-1) 0 0 0 0 0)), (z 1, aI V 3075 (fun _ => 0))]) (rnS (rest := []) ⟨hx, hb, hml, hown, hg⟩ (c_X10_within_0 l V p0.toInt64 0 3) mt_X10_within q_6_114 ⟨Nat.le_of_ble_eq_true rfl, Nat.le_of_ble_eq_true rfl⟩ hK hP hD hS hA hE [] rfl rfl rfl hl.1 rfl (Nat.le_of_ble_eq_true rfl) dX10_noTold_6 ⟨Nat.le_of_ble_eq_true rfl, Nat.le_of_ble_eq_true rfl⟩) hP hD hS hA [] [0, 1] rfl rfl rfl (by decide) (fun r_1 w H locs hw hP hD hS => ?_)
  rcases hw with ⟨c_2, rfl, rfl⟩ | ⟨c_3, c_4, rfl, rfl⟩ | ⟨c_5, c_6, rfl, rfl⟩
  · have hP : va_P V.1 vwCl [(z 0, .inr (10, mo z 0 0 0 0 0 0 0 0 0 0 (-1) 0 0 0 0 0)), (z 1, aI V 3075 (fun _ => 0))] H := hP
    have hD : va_D A [(z 0, .inr (10, mo z 0 0 0 0 0 0 0 0 0 0 (-1) 0 0 0 0 0)), (z 1, aI V 3075 (fun _ => 0))] := hD
    refine lv_if_eq (tgt := 21) hx hb dX10_noTold_9 (by decide) (fun _ => ?_) (fun c_7 => absurd c_7 (by decide))
    refine lv_bipush (v := (-2)) hx hb dX10_noTold_21 (by decide) ?_
    exact fiI hx hb hr hlk hK hP hD hS dX10_noTold_23 (Nat.le_of_ble_eq_true rfl) (Nat.le_of_ble_eq_true rfl) (⟨rfl, rfl⟩)
  · have hP : va_P V.1 vwCl [(z 0, .inr (10, mo z 0 0 0 0 0 0 0 0 0 0 (-1) 0 0 0 0 0)), (z 1, aI V 3075 (fun _ => 0))] H := hP
    have hD : va_D A [(z 0, .inr (10, mo z 0 0 0 0 0 0 0 0 0 0 (-1) 0 0 0 0 0)), (z 1, aI V 3075 (fun _ => 0))] := hD
    refine lv_if_eq (tgt := 21) hx hb dX10_noTold_9 (by decide) (fun _ => ?_) (fun c_8 => absurd c_8 (by decide))
    refine lv_bipush (v := (-2)) hx hb dX10_noTold_21 (by decide) ?_
    exact fiI hx hb hr hlk hK hP hD hS dX10_noTold_23 (Nat.le_of_ble_eq_true rfl) (Nat.le_of_ble_eq_true rfl) (⟨rfl, rfl⟩)
  · have hP : va_P V.1 vwCl [(z 0, .inr (10, mo z 0 0 0 0 0 0 0 0 0 0 (-1) 0 0 0 0 0)), (z 1, aI V 3075 (fun _ => 0))] H := hP
    have hD : va_D A [(z 0, .inr (10, mo z 0 0 0 0 0 0 0 0 0 0 (-1) 0 0 0 0 0)), (z 1, aI V 3075 (fun _ => 0))] := hD
    refine lv_if_eq (tgt := 21) hx hb dX10_noTold_9 (by decide) (fun c_9 => absurd c_9 (by decide)) (fun _ => ?_)
    refine lv_aload_n hx hb dX10_noTold_12 rfl (lv_at hl 0 rfl) ?_
    refine lv_iload_n hx hb dX10_noTold_13 rfl (lv_at hl 2 rfl) ?_
    refine lv_i2l (v := p1.toInt64) hx hb dX10_noTold_14 rfl ?_
    refine jnI (wr := []) (rnV (rest := []) ⟨hx, hb, hml, hown, hg⟩ (c_X10_isHill_0 l V z p1.toInt64) mt_X10_isHill q_6_235 ⟨Nat.le_of_ble_eq_true rfl, Nat.le_of_ble_eq_true rfl⟩ hK hP hD hS hA hE [0, 1] rfl rfl 0 rfl rfl rfl rfl hl.1 rfl (Nat.le_of_ble_eq_true rfl) dX10_noTold_15 ⟨Nat.le_of_ble_eq_true rfl, Nat.le_of_ble_eq_true rfl⟩) hP hD hS hA [0, 1] [] rfl rfl rfl (by decide) (fun r_10 w H locs hw hP hD hS => ?_)
    obtain ⟨rfl, rfl⟩ := hw
    have hP : va_P V.1 vwCl [(z 0, .inr (10, mo z 0 0 0 0 0 0 0 0 0 0 (-1) 0 0 0 0 0)), (z 1, aI V 3075 (fun _ => 0))] H := hP
    have hD : va_D A [(z 0, .inr (10, mo z 0 0 0 0 0 0 0 0 0 0 (-1) 0 0 0 0 0)), (z 1, aI V 3075 (fun _ => 0))] := hD
    refine lv_if_ne (tgt := 24) hx hb dX10_noTold_18 (by decide) (fun c_11 => absurd c_11 (by decide)) (fun _ => ?_)
    refine lv_bipush (v := (-2)) hx hb dX10_noTold_21 (by decide) ?_
    exact fiI hx hb hr hlk hK hP hD hS dX10_noTold_23 (Nat.le_of_ble_eq_true rfl) (Nat.le_of_ble_eq_true rfl) (⟨rfl, rfl⟩)
theorem dX10_high_0 : decode cX10_high 0 = .ok (.aload_n 0, 1) := by decide +kernel
theorem dX10_high_1 : decode cX10_high 1 = .ok (.iconst 0, 1) := by decide +kernel
theorem dX10_high_2 : decode cX10_high 2 = .ok (.putfield 1, 3) := by decide +kernel
theorem dX10_high_5 : decode cX10_high 5 = .ok (.aload_n 0, 1) := by decide +kernel
theorem dX10_high_6 : decode cX10_high 6 = .ok (.iload_n 1, 1) := by decide +kernel
theorem dX10_high_7 : decode cX10_high 7 = .ok (.iload_n 2, 1) := by decide +kernel
theorem dX10_high_8 : decode cX10_high 8 = .ok (.iconst (-1), 1) := by decide +kernel
theorem q_8_54 : Cond.code yX10_noTold prog_12_method_107_code 6 (some FieldType.int) ∈ gw := gw_8 (i := 54) (rfl) rfl
theorem q_8_53 : Cond.instanceMethod yX10_noTold ∈ gw := gw_8 (i := 53) (by decide +kernel) rfl
theorem q_s_117 : Cond.selects "BeaconDelayModel" yX10_noTold yX10_noTold ∈ gw := gw_s (i := 117) (by decide +kernel) rfl
theorem mt_X10_noTold : MtV yX10_noTold cX10_noTold 6 (some .int) 3 := ⟨⟨q_8_54, q_1_9, by decide +kernel, by decide +kernel, by decide +kernel⟩, q_8_53, q_s_117⟩
theorem q_8_51 : Cond.methodLink "BeaconDelayModel" 425 yX10_noTold ∈ gw := gw_8 (i := 51) (by decide +kernel) rfl
theorem dX10_high_9 : decode cX10_high 9 = .ok (.invokevirtual 425, 3) := by decide +kernel
theorem dX10_high_12 : decode cX10_high 12 = .ok (.istore_n 3, 1) := by decide +kernel
theorem dX10_high_13 : decode cX10_high 13 = .ok (.iload_n 3, 1) := by decide +kernel
theorem dX10_high_14 : decode cX10_high 14 = .ok (.ifCond .eq 8, 3) := by decide +kernel
theorem dX10_high_17 : decode cX10_high 17 = .ok (.iload_n 3, 1) := by decide +kernel
theorem dX10_high_18 : decode cX10_high 18 = .ok (.i2l, 1) := by decide +kernel
theorem dX10_high_19 : decode cX10_high 19 = .ok (.goto 9, 3) := by decide +kernel
theorem dX10_high_28 : decode cX10_high 28 = .ok (.lreturn, 1) := by decide +kernel
set_option maxHeartbeats 4000000 in
set_option maxRecDepth 100000 in
theorem c_X10_high_0 (l : Launch) (V : GV) (z : Nat → Nat) (p0 : Int32) (p1 : Int32) : Ct l V yX10_high (.code yX10_high cX10_high 4 (some .long)) 4 [.ref (z 0), .int p0, .int p1] [(z 0, .inr (10, mo z 0 0 0 0 0 0 0 0 0 0 (-1) 0 0 0 0 0)), (z 1, aI V 3075 (fun _ => 0))] 0 0 (QL V (fun (r : Int64) (w : va_W) => (r = (-2) ∧ w = [(z 0, .inr (10, mo z 0 0 0 0 0 0 0 0 0 0 (-1) 0 0 0 0 0)), (z 1, aI V 3075 (fun _ => 0))]))) := by
  refine Ct.of (by decide) (Nat.le_of_ble_eq_true rfl) (fun p e s m below meth c A ls hx hb hr hml hown hlk hnm hg hP hK hD hE hA hS hl => ?_)
  have hl : lv_has ls 4 [(0, .ref (z 0)), (1, .int p0), (2, .int p1)] := hl
  refine lv_aload_n hx hb dX10_high_0 rfl (lv_at hl 0 rfl) ?_
  refine lv_iconst (v := 0) hx hb dX10_high_1 (by decide) ?_
  refine va_put (ci := 10) (v := .int 0) (ty := .int) (C := RX10) (T := TX10) (N := 40) hx hb hg inX10 tyX10 tyX10_ok nmX10 hown hK hP hD hS 0 rfl rfl 0 (by decide) (hg _ q_5_224) (fun _ h9 => h9) rfl (by decide +kernel) rfl rfl (Nat.le_of_ble_eq_true rfl) dX10_high_2 (fun H locs hP hD hS => ?_)
  have hP : va_P V.1 vwCl [(z 0, .inr (10, mo z 0 0 0 0 0 0 0 0 0 0 (-1) 0 0 0 0 0)), (z 1, aI V 3075 (fun _ => 0))] H := hP
  have hD : va_D A [(z 0, .inr (10, mo z 0 0 0 0 0 0 0 0 0 0 (-1) 0 0 0 0 0)), (z 1, aI V 3075 (fun _ => 0))] := hD
  refine lv_aload_n hx hb dX10_high_5 rfl (lv_at hl 0 rfl) ?_
  refine lv_iload_n hx hb dX10_high_6 rfl (lv_at hl 1 rfl) ?_
  refine lv_iload_n hx hb dX10_high_7 rfl (lv_at hl 2 rfl) ?_
  refine lv_iconst (v := (-1)) hx hb dX10_high_8 (by decide) ?_
  refine jnI (wr := []) (rnV (rest := []) ⟨hx, hb, hml, hown, hg⟩ (c_X10_noTold_0 l V z p0 p1) mt_X10_noTold q_8_51 ⟨Nat.le_of_ble_eq_true rfl, Nat.le_of_ble_eq_true rfl⟩ hK hP hD hS hA hE [0, 1] rfl rfl 0 rfl rfl rfl rfl hl.1 rfl (Nat.le_of_ble_eq_true rfl) dX10_high_9 ⟨Nat.le_of_ble_eq_true rfl, Nat.le_of_ble_eq_true rfl⟩) hP hD hS hA [0, 1] [] rfl rfl rfl (by decide) (fun r_1 w H locs hw hP hD hS => ?_)
  obtain ⟨rfl, rfl⟩ := hw
  have hP : va_P V.1 vwCl [(z 0, .inr (10, mo z 0 0 0 0 0 0 0 0 0 0 (-1) 0 0 0 0 0)), (z 1, aI V 3075 (fun _ => 0))] H := hP
  have hD : va_D A [(z 0, .inr (10, mo z 0 0 0 0 0 0 0 0 0 0 (-1) 0 0 0 0 0)), (z 1, aI V 3075 (fun _ => 0))] := hD
  refine lv_istore_n (lv' := [(3, .int (-2)), (0, .ref (z 0)), (1, .int p0), (2, .int p1)]) hx hb dX10_high_12 rfl hl (by decide) rfl (fun ls hl => ?_)
  refine lv_iload_n hx hb dX10_high_13 rfl (lv_at hl 0 rfl) ?_
  refine lv_if_eq (tgt := 22) hx hb dX10_high_14 (by decide) (fun c_2 => absurd c_2 (by decide)) (fun _ => ?_)
  refine lv_iload_n hx hb dX10_high_17 rfl (lv_at hl 0 rfl) ?_
  refine lv_i2l (v := (-2)) hx hb dX10_high_18 (by decide +kernel) ?_
  refine lv_goto (tgt := 28) hx hb dX10_high_19 (by decide) ?_
  exact fiL hx hb hr hlk hK hP hD hS dX10_high_28 (Nat.le_of_ble_eq_true rfl) (Nat.le_of_ble_eq_true rfl) (⟨rfl, rfl⟩)
theorem dX9_refusalOfTold_0 : decode cX9_refusalOfTold 0 = .ok (.iload_n 1, 1) := by decide +kernel
theorem dX9_refusalOfTold_1 : decode cX9_refusalOfTold 1 = .ok (.invokestatic 205, 3) := by decide +kernel
theorem dX9_refusalOfTold_4 : decode cX9_refusalOfTold 4 = .ok (.ifCond .eq 11, 3) := by decide +kernel
theorem dX9_refusalOfTold_15 : decode cX9_refusalOfTold 15 = .ok (.bipush (-2), 2) := by decide +kernel
theorem dX9_refusalOfTold_17 : decode cX9_refusalOfTold 17 = .ok (.ireturn, 1) := by decide +kernel
theorem dX9_refusalOfTold_7 : decode cX9_refusalOfTold 7 = .ok (.aload_n 0, 1) := by decide +kernel
theorem dX9_refusalOfTold_8 : decode cX9_refusalOfTold 8 = .ok (.iload_n 2, 1) := by decide +kernel
theorem dX9_refusalOfTold_9 : decode cX9_refusalOfTold 9 = .ok (.invokevirtual 128, 3) := by decide +kernel
theorem dX9_refusalOfTold_12 : decode cX9_refusalOfTold 12 = .ok (.ifCond .ne 6, 3) := by decide +kernel
set_option maxHeartbeats 4000000 in
set_option maxRecDepth 100000 in
theorem c_X9_refusalOfTold_0 (l : Launch) (V : GV) (y : Nat → Nat) (p0 : Int32) (p1 : Int32) : Ct l V yX9_refusalOfTold (.code yX9_refusalOfTold cX9_refusalOfTold 6 (some .int)) 2 [.ref (y 0), .int p0, .int p1, .int (-1)] [(y 0, .inr (9, [.ref (y 1), .int 0, .ref (y 2), .ref (y 10), .ref (y 19), .ref (y 25), .ref (y 26), .ref (y 30), .ref (y 31), .ref (y 32), .null, .null, .int 0, .int 0, .int 0])), (y 2, .inr (1, [.int 0, .int 0, .int 0, .int 0, .int 0, .int 0, .ref (y 3), .ref (y 4), .ref (y 5), .ref (y 6), .ref (y 7), .ref (y 8), .ref (y 9), .int 0, .int 0, .int 0, .int 0, .int 0]))] 0 0 (QI V (fun (r : Int32) (w : va_W) => (r = (-2) ∧ w = [(y 0, .inr (9, [.ref (y 1), .int 0, .ref (y 2), .ref (y 10), .ref (y 19), .ref (y 25), .ref (y 26), .ref (y 30), .ref (y 31), .ref (y 32), .null, .null, .int 0, .int 0, .int 0])), (y 2, .inr (1, [.int 0, .int 0, .int 0, .int 0, .int 0, .int 0, .ref (y 3), .ref (y 4), .ref (y 5), .ref (y 6), .ref (y 7), .ref (y 8), .ref (y 9), .int 0, .int 0, .int 0, .int 0, .int 0]))]))) := by
  refine Ct.of (by decide) (Nat.le_of_ble_eq_true rfl) (fun p e s m below meth c A ls hx hb hr hml hown hlk hnm hg hP hK hD hE hA hS hl => ?_)
  have hl : lv_has ls 6 [(0, .ref (y 0)), (1, .int p0), (2, .int p1), (3, .int (-1))] := hl
  refine lv_iload_n hx hb dX9_refusalOfTold_0 rfl (lv_at hl 1 rfl) ?_
  refine jnI (wr := [(y 0, .inr (9, [.ref (y 1), .int 0, .ref (y 2), .ref (y 10), .ref (y 19), .ref (y 25), .ref (y 26), .ref (y 30), .ref (y 31), .ref (y 32), .null, .null, .int 0, .int 0, .int 0])), (y 2, .inr (1, [.int 0, .int 0, .int 0, .int 0, .int 0, .int 0, .ref (y 3), .ref (y 4), .ref (y 5), .ref (y 6), .ref (y 7), .ref (y 8), .ref (y 9), .int 0, .int 0, .int 0, .int 0, .int 0]))]) (rnS (rest := []) ⟨hx, hb, hml, hown, hg⟩ (c_X9_isTray_0 l V p0) mt_X9_isTray q_3_228 ⟨Nat.le_of_ble_eq_true rfl, Nat.le_of_ble_eq_true rfl⟩ hK hP hD hS hA hE [] rfl rfl rfl hl.1 rfl (Nat.le_of_ble_eq_true rfl) dX9_refusalOfTold_1 ⟨Nat.le_of_ble_eq_true rfl, Nat.le_of_ble_eq_true rfl⟩) hP hD hS hA [] [0, 1] rfl rfl rfl (by decide) (fun r_1 w H locs hw hP hD hS => ?_)
  rcases hw with ⟨c_2, rfl, rfl⟩ | ⟨c_3, c_4, rfl, rfl⟩ | ⟨c_5, c_6, rfl, rfl⟩
  · have hP : va_P V.1 vwCl [(y 0, .inr (9, [.ref (y 1), .int 0, .ref (y 2), .ref (y 10), .ref (y 19), .ref (y 25), .ref (y 26), .ref (y 30), .ref (y 31), .ref (y 32), .null, .null, .int 0, .int 0, .int 0])), (y 2, .inr (1, [.int 0, .int 0, .int 0, .int 0, .int 0, .int 0, .ref (y 3), .ref (y 4), .ref (y 5), .ref (y 6), .ref (y 7), .ref (y 8), .ref (y 9), .int 0, .int 0, .int 0, .int 0, .int 0]))] H := hP
    have hD : va_D A [(y 0, .inr (9, [.ref (y 1), .int 0, .ref (y 2), .ref (y 10), .ref (y 19), .ref (y 25), .ref (y 26), .ref (y 30), .ref (y 31), .ref (y 32), .null, .null, .int 0, .int 0, .int 0])), (y 2, .inr (1, [.int 0, .int 0, .int 0, .int 0, .int 0, .int 0, .ref (y 3), .ref (y 4), .ref (y 5), .ref (y 6), .ref (y 7), .ref (y 8), .ref (y 9), .int 0, .int 0, .int 0, .int 0, .int 0]))] := hD
    refine lv_if_eq (tgt := 15) hx hb dX9_refusalOfTold_4 (by decide) (fun _ => ?_) (fun c_7 => absurd c_7 (by decide))
    refine lv_bipush (v := (-2)) hx hb dX9_refusalOfTold_15 (by decide) ?_
    exact fiI hx hb hr hlk hK hP hD hS dX9_refusalOfTold_17 (Nat.le_of_ble_eq_true rfl) (Nat.le_of_ble_eq_true rfl) (⟨rfl, rfl⟩)
  · have hP : va_P V.1 vwCl [(y 0, .inr (9, [.ref (y 1), .int 0, .ref (y 2), .ref (y 10), .ref (y 19), .ref (y 25), .ref (y 26), .ref (y 30), .ref (y 31), .ref (y 32), .null, .null, .int 0, .int 0, .int 0])), (y 2, .inr (1, [.int 0, .int 0, .int 0, .int 0, .int 0, .int 0, .ref (y 3), .ref (y 4), .ref (y 5), .ref (y 6), .ref (y 7), .ref (y 8), .ref (y 9), .int 0, .int 0, .int 0, .int 0, .int 0]))] H := hP
    have hD : va_D A [(y 0, .inr (9, [.ref (y 1), .int 0, .ref (y 2), .ref (y 10), .ref (y 19), .ref (y 25), .ref (y 26), .ref (y 30), .ref (y 31), .ref (y 32), .null, .null, .int 0, .int 0, .int 0])), (y 2, .inr (1, [.int 0, .int 0, .int 0, .int 0, .int 0, .int 0, .ref (y 3), .ref (y 4), .ref (y 5), .ref (y 6), .ref (y 7), .ref (y 8), .ref (y 9), .int 0, .int 0, .int 0, .int 0, .int 0]))] := hD
    refine lv_if_eq (tgt := 15) hx hb dX9_refusalOfTold_4 (by decide) (fun _ => ?_) (fun c_8 => absurd c_8 (by decide))
    refine lv_bipush (v := (-2)) hx hb dX9_refusalOfTold_15 (by decide) ?_
    exact fiI hx hb hr hlk hK hP hD hS dX9_refusalOfTold_17 (Nat.le_of_ble_eq_true rfl) (Nat.le_of_ble_eq_true rfl) (⟨rfl, rfl⟩)
  · have hP : va_P V.1 vwCl [(y 0, .inr (9, [.ref (y 1), .int 0, .ref (y 2), .ref (y 10), .ref (y 19), .ref (y 25), .ref (y 26), .ref (y 30), .ref (y 31), .ref (y 32), .null, .null, .int 0, .int 0, .int 0])), (y 2, .inr (1, [.int 0, .int 0, .int 0, .int 0, .int 0, .int 0, .ref (y 3), .ref (y 4), .ref (y 5), .ref (y 6), .ref (y 7), .ref (y 8), .ref (y 9), .int 0, .int 0, .int 0, .int 0, .int 0]))] H := hP
    have hD : va_D A [(y 0, .inr (9, [.ref (y 1), .int 0, .ref (y 2), .ref (y 10), .ref (y 19), .ref (y 25), .ref (y 26), .ref (y 30), .ref (y 31), .ref (y 32), .null, .null, .int 0, .int 0, .int 0])), (y 2, .inr (1, [.int 0, .int 0, .int 0, .int 0, .int 0, .int 0, .ref (y 3), .ref (y 4), .ref (y 5), .ref (y 6), .ref (y 7), .ref (y 8), .ref (y 9), .int 0, .int 0, .int 0, .int 0, .int 0]))] := hD
    refine lv_if_eq (tgt := 15) hx hb dX9_refusalOfTold_4 (by decide) (fun c_9 => absurd c_9 (by decide)) (fun _ => ?_)
    refine lv_aload_n hx hb dX9_refusalOfTold_7 rfl (lv_at hl 0 rfl) ?_
    refine lv_iload_n hx hb dX9_refusalOfTold_8 rfl (lv_at hl 2 rfl) ?_
    refine jnI (wr := []) (rnV (rest := []) ⟨hx, hb, hml, hown, hg⟩ (c_X9_isHill_0 l V y p1) mt_X9_isHill q_3_122 ⟨Nat.le_of_ble_eq_true rfl, Nat.le_of_ble_eq_true rfl⟩ hK hP hD hS hA hE [0, 1] rfl rfl 0 rfl rfl rfl rfl hl.1 rfl (Nat.le_of_ble_eq_true rfl) dX9_refusalOfTold_9 ⟨Nat.le_of_ble_eq_true rfl, Nat.le_of_ble_eq_true rfl⟩) hP hD hS hA [0, 1] [] rfl rfl rfl (by decide) (fun r_10 w H locs hw hP hD hS => ?_)
    obtain ⟨rfl, rfl⟩ := hw
    have hP : va_P V.1 vwCl [(y 0, .inr (9, [.ref (y 1), .int 0, .ref (y 2), .ref (y 10), .ref (y 19), .ref (y 25), .ref (y 26), .ref (y 30), .ref (y 31), .ref (y 32), .null, .null, .int 0, .int 0, .int 0])), (y 2, .inr (1, [.int 0, .int 0, .int 0, .int 0, .int 0, .int 0, .ref (y 3), .ref (y 4), .ref (y 5), .ref (y 6), .ref (y 7), .ref (y 8), .ref (y 9), .int 0, .int 0, .int 0, .int 0, .int 0]))] H := hP
    have hD : va_D A [(y 0, .inr (9, [.ref (y 1), .int 0, .ref (y 2), .ref (y 10), .ref (y 19), .ref (y 25), .ref (y 26), .ref (y 30), .ref (y 31), .ref (y 32), .null, .null, .int 0, .int 0, .int 0])), (y 2, .inr (1, [.int 0, .int 0, .int 0, .int 0, .int 0, .int 0, .ref (y 3), .ref (y 4), .ref (y 5), .ref (y 6), .ref (y 7), .ref (y 8), .ref (y 9), .int 0, .int 0, .int 0, .int 0, .int 0]))] := hD
    refine lv_if_ne (tgt := 18) hx hb dX9_refusalOfTold_12 (by decide) (fun c_11 => absurd c_11 (by decide)) (fun _ => ?_)
    refine lv_bipush (v := (-2)) hx hb dX9_refusalOfTold_15 (by decide) ?_
    exact fiI hx hb hr hlk hK hP hD hS dX9_refusalOfTold_17 (Nat.le_of_ble_eq_true rfl) (Nat.le_of_ble_eq_true rfl) (⟨rfl, rfl⟩)
theorem dX9_high_0 : decode cX9_high 0 = .ok (.aload_n 0, 1) := by decide +kernel
theorem dX9_high_1 : decode cX9_high 1 = .ok (.iload_n 1, 1) := by decide +kernel
theorem dX9_high_2 : decode cX9_high 2 = .ok (.iload_n 2, 1) := by decide +kernel
theorem dX9_high_3 : decode cX9_high 3 = .ok (.iconst (-1), 1) := by decide +kernel
theorem q_5_24 : Cond.code yX9_refusalOfTold prog_1_method_52_code 6 (some FieldType.int) ∈ gw := gw_5 (i := 24) (rfl) rfl
theorem q_5_23 : Cond.instanceMethod yX9_refusalOfTold ∈ gw := gw_5 (i := 23) (by decide +kernel) rfl
theorem q_s_42 : Cond.selects "BeaconDelay" yX9_refusalOfTold yX9_refusalOfTold ∈ gw := gw_s (i := 42) (by decide +kernel) rfl
theorem mt_X9_refusalOfTold : MtV yX9_refusalOfTold cX9_refusalOfTold 6 (some .int) 3 := ⟨⟨q_5_24, q_1_1, by decide +kernel, by decide +kernel, by decide +kernel⟩, q_5_23, q_s_42⟩
theorem q_5_21 : Cond.methodLink "BeaconDelay" 318 yX9_refusalOfTold ∈ gw := gw_5 (i := 21) (by decide +kernel) rfl
theorem dX9_high_4 : decode cX9_high 4 = .ok (.invokevirtual 318, 3) := by decide +kernel
theorem dX9_high_7 : decode cX9_high 7 = .ok (.istore_n 3, 1) := by decide +kernel
theorem dX9_high_8 : decode cX9_high 8 = .ok (.iload_n 3, 1) := by decide +kernel
theorem dX9_high_9 : decode cX9_high 9 = .ok (.ifCond .eq 6, 3) := by decide +kernel
theorem dX9_high_12 : decode cX9_high 12 = .ok (.iload_n 3, 1) := by decide +kernel
theorem dX9_high_13 : decode cX9_high 13 = .ok (.i2l, 1) := by decide +kernel
theorem dX9_high_14 : decode cX9_high 14 = .ok (.lreturn, 1) := by decide +kernel
set_option maxHeartbeats 4000000 in
set_option maxRecDepth 100000 in
theorem c_X9_high_0 (l : Launch) (V : GV) (y : Nat → Nat) (p0 : Int32) (p1 : Int32) : Ct l V yX9_high (.code yX9_high cX9_high 5 (some .long)) 3 [.ref (y 0), .int p0, .int p1] [(y 0, .inr (9, [.ref (y 1), .int 0, .ref (y 2), .ref (y 10), .ref (y 19), .ref (y 25), .ref (y 26), .ref (y 30), .ref (y 31), .ref (y 32), .null, .null, .int 0, .int 0, .int 0])), (y 2, .inr (1, [.int 0, .int 0, .int 0, .int 0, .int 0, .int 0, .ref (y 3), .ref (y 4), .ref (y 5), .ref (y 6), .ref (y 7), .ref (y 8), .ref (y 9), .int 0, .int 0, .int 0, .int 0, .int 0]))] 0 0 (QL V (fun (r : Int64) (w : va_W) => (r = (-2) ∧ w = [(y 0, .inr (9, [.ref (y 1), .int 0, .ref (y 2), .ref (y 10), .ref (y 19), .ref (y 25), .ref (y 26), .ref (y 30), .ref (y 31), .ref (y 32), .null, .null, .int 0, .int 0, .int 0])), (y 2, .inr (1, [.int 0, .int 0, .int 0, .int 0, .int 0, .int 0, .ref (y 3), .ref (y 4), .ref (y 5), .ref (y 6), .ref (y 7), .ref (y 8), .ref (y 9), .int 0, .int 0, .int 0, .int 0, .int 0]))]))) := by
  refine Ct.of (by decide) (Nat.le_of_ble_eq_true rfl) (fun p e s m below meth c A ls hx hb hr hml hown hlk hnm hg hP hK hD hE hA hS hl => ?_)
  have hl : lv_has ls 5 [(0, .ref (y 0)), (1, .int p0), (2, .int p1)] := hl
  refine lv_aload_n hx hb dX9_high_0 rfl (lv_at hl 0 rfl) ?_
  refine lv_iload_n hx hb dX9_high_1 rfl (lv_at hl 1 rfl) ?_
  refine lv_iload_n hx hb dX9_high_2 rfl (lv_at hl 2 rfl) ?_
  refine lv_iconst (v := (-1)) hx hb dX9_high_3 (by decide) ?_
  refine jnI (wr := []) (rnV (rest := []) ⟨hx, hb, hml, hown, hg⟩ (c_X9_refusalOfTold_0 l V y p0 p1) mt_X9_refusalOfTold q_5_21 ⟨Nat.le_of_ble_eq_true rfl, Nat.le_of_ble_eq_true rfl⟩ hK hP hD hS hA hE [0, 1] rfl rfl 0 rfl rfl rfl rfl hl.1 rfl (Nat.le_of_ble_eq_true rfl) dX9_high_4 ⟨Nat.le_of_ble_eq_true rfl, Nat.le_of_ble_eq_true rfl⟩) hP hD hS hA [0, 1] [] rfl rfl rfl (by decide) (fun r_1 w H locs hw hP hD hS => ?_)
  obtain ⟨rfl, rfl⟩ := hw
  have hP : va_P V.1 vwCl [(y 0, .inr (9, [.ref (y 1), .int 0, .ref (y 2), .ref (y 10), .ref (y 19), .ref (y 25), .ref (y 26), .ref (y 30), .ref (y 31), .ref (y 32), .null, .null, .int 0, .int 0, .int 0])), (y 2, .inr (1, [.int 0, .int 0, .int 0, .int 0, .int 0, .int 0, .ref (y 3), .ref (y 4), .ref (y 5), .ref (y 6), .ref (y 7), .ref (y 8), .ref (y 9), .int 0, .int 0, .int 0, .int 0, .int 0]))] H := hP
  have hD : va_D A [(y 0, .inr (9, [.ref (y 1), .int 0, .ref (y 2), .ref (y 10), .ref (y 19), .ref (y 25), .ref (y 26), .ref (y 30), .ref (y 31), .ref (y 32), .null, .null, .int 0, .int 0, .int 0])), (y 2, .inr (1, [.int 0, .int 0, .int 0, .int 0, .int 0, .int 0, .ref (y 3), .ref (y 4), .ref (y 5), .ref (y 6), .ref (y 7), .ref (y 8), .ref (y 9), .int 0, .int 0, .int 0, .int 0, .int 0]))] := hD
  refine lv_istore_n (lv' := [(3, .int (-2)), (0, .ref (y 0)), (1, .int p0), (2, .int p1)]) hx hb dX9_high_7 rfl hl (by decide) rfl (fun ls hl => ?_)
  refine lv_iload_n hx hb dX9_high_8 rfl (lv_at hl 0 rfl) ?_
  refine lv_if_eq (tgt := 15) hx hb dX9_high_9 (by decide) (fun c_2 => absurd c_2 (by decide)) (fun _ => ?_)
  refine lv_iload_n hx hb dX9_high_12 rfl (lv_at hl 0 rfl) ?_
  refine lv_i2l (v := (-2)) hx hb dX9_high_13 (by decide +kernel) ?_
  exact fiL hx hb hr hlk hK hP hD hS dX9_high_14 (Nat.le_of_ble_eq_true rfl) (Nat.le_of_ble_eq_true rfl) (⟨rfl, rfl⟩)
theorem dX10_highBy_0 : decode cX10_highBy 0 = .ok (.aload_n 0, 1) := by decide +kernel
theorem dX10_highBy_1 : decode cX10_highBy 1 = .ok (.iconst 0, 1) := by decide +kernel
theorem dX10_highBy_2 : decode cX10_highBy 2 = .ok (.putfield 1, 3) := by decide +kernel
theorem dX10_highBy_5 : decode cX10_highBy 5 = .ok (.aload_n 0, 1) := by decide +kernel
theorem dX10_highBy_6 : decode cX10_highBy 6 = .ok (.iload_n 1, 1) := by decide +kernel
theorem dX10_highBy_7 : decode cX10_highBy 7 = .ok (.iload_n 2, 1) := by decide +kernel
theorem dX10_highBy_8 : decode cX10_highBy 8 = .ok (.iconst (-1), 1) := by decide +kernel
theorem dX10_highBy_9 : decode cX10_highBy 9 = .ok (.invokevirtual 425, 3) := by decide +kernel
theorem dX10_highBy_12 : decode cX10_highBy 12 = .ok (.istore 4, 2) := by decide +kernel
theorem dX10_highBy_14 : decode cX10_highBy 14 = .ok (.iload 4, 2) := by decide +kernel
theorem dX10_highBy_16 : decode cX10_highBy 16 = .ok (.ifCond .eq 6, 3) := by decide +kernel
theorem dX10_highBy_19 : decode cX10_highBy 19 = .ok (.iload 4, 2) := by decide +kernel
theorem dX10_highBy_21 : decode cX10_highBy 21 = .ok (.ireturn, 1) := by decide +kernel
set_option maxHeartbeats 4000000 in
set_option maxRecDepth 100000 in
theorem c_X10_highBy_0 (l : Launch) (V : GV) (z : Nat → Nat) (p0 : Int32) (p1 : Int32) (p2 : Int32) : Ct l V yX10_highBy (.code yX10_highBy cX10_highBy 8 (some .int)) 4 [.ref (z 0), .int p0, .int p1, .int p2] [(z 0, .inr (10, mo z 0 0 0 0 0 0 0 0 0 0 (-1) 0 0 0 0 0)), (z 1, aI V 3075 (fun _ => 0))] 0 0 (QI V (fun (r : Int32) (w : va_W) => (r = (-2) ∧ w = [(z 0, .inr (10, mo z 0 0 0 0 0 0 0 0 0 0 (-1) 0 0 0 0 0)), (z 1, aI V 3075 (fun _ => 0))]))) := by
  refine Ct.of (by decide) (Nat.le_of_ble_eq_true rfl) (fun p e s m below meth c A ls hx hb hr hml hown hlk hnm hg hP hK hD hE hA hS hl => ?_)
  have hl : lv_has ls 8 [(0, .ref (z 0)), (1, .int p0), (2, .int p1), (3, .int p2)] := hl
  refine lv_aload_n hx hb dX10_highBy_0 rfl (lv_at hl 0 rfl) ?_
  refine lv_iconst (v := 0) hx hb dX10_highBy_1 (by decide) ?_
  refine va_put (ci := 10) (v := .int 0) (ty := .int) (C := RX10) (T := TX10) (N := 40) hx hb hg inX10 tyX10 tyX10_ok nmX10 hown hK hP hD hS 0 rfl rfl 0 (by decide) (hg _ q_5_224) (fun _ h9 => h9) rfl (by decide +kernel) rfl rfl (Nat.le_of_ble_eq_true rfl) dX10_highBy_2 (fun H locs hP hD hS => ?_)
  have hP : va_P V.1 vwCl [(z 0, .inr (10, mo z 0 0 0 0 0 0 0 0 0 0 (-1) 0 0 0 0 0)), (z 1, aI V 3075 (fun _ => 0))] H := hP
  have hD : va_D A [(z 0, .inr (10, mo z 0 0 0 0 0 0 0 0 0 0 (-1) 0 0 0 0 0)), (z 1, aI V 3075 (fun _ => 0))] := hD
  refine lv_aload_n hx hb dX10_highBy_5 rfl (lv_at hl 0 rfl) ?_
  refine lv_iload_n hx hb dX10_highBy_6 rfl (lv_at hl 1 rfl) ?_
  refine lv_iload_n hx hb dX10_highBy_7 rfl (lv_at hl 2 rfl) ?_
  refine lv_iconst (v := (-1)) hx hb dX10_highBy_8 (by decide) ?_
  refine jnI (wr := []) (rnV (rest := []) ⟨hx, hb, hml, hown, hg⟩ (c_X10_noTold_0 l V z p0 p1) mt_X10_noTold q_8_51 ⟨Nat.le_of_ble_eq_true rfl, Nat.le_of_ble_eq_true rfl⟩ hK hP hD hS hA hE [0, 1] rfl rfl 0 rfl rfl rfl rfl hl.1 rfl (Nat.le_of_ble_eq_true rfl) dX10_highBy_9 ⟨Nat.le_of_ble_eq_true rfl, Nat.le_of_ble_eq_true rfl⟩) hP hD hS hA [0, 1] [] rfl rfl rfl (by decide) (fun r_1 w H locs hw hP hD hS => ?_)
  obtain ⟨rfl, rfl⟩ := hw
  have hP : va_P V.1 vwCl [(z 0, .inr (10, mo z 0 0 0 0 0 0 0 0 0 0 (-1) 0 0 0 0 0)), (z 1, aI V 3075 (fun _ => 0))] H := hP
  have hD : va_D A [(z 0, .inr (10, mo z 0 0 0 0 0 0 0 0 0 0 (-1) 0 0 0 0 0)), (z 1, aI V 3075 (fun _ => 0))] := hD
  refine lv_istore (lv' := [(4, .int (-2)), (0, .ref (z 0)), (1, .int p0), (2, .int p1), (3, .int p2)]) hx hb dX10_highBy_12 hl (by decide) rfl (fun ls hl => ?_)
  refine lv_iload hx hb dX10_highBy_14 (lv_at hl 0 rfl) ?_
  refine lv_if_eq (tgt := 22) hx hb dX10_highBy_16 (by decide) (fun c_2 => absurd c_2 (by decide)) (fun _ => ?_)
  refine lv_iload hx hb dX10_highBy_19 (lv_at hl 0 rfl) ?_
  exact fiI hx hb hr hlk hK hP hD hS dX10_highBy_21 (Nat.le_of_ble_eq_true rfl) (Nat.le_of_ble_eq_true rfl) (⟨rfl, rfl⟩)
theorem dX9_highBy_0 : decode cX9_highBy 0 = .ok (.aload_n 0, 1) := by decide +kernel
theorem dX9_highBy_1 : decode cX9_highBy 1 = .ok (.iload_n 1, 1) := by decide +kernel
theorem dX9_highBy_2 : decode cX9_highBy 2 = .ok (.iload_n 2, 1) := by decide +kernel
theorem dX9_highBy_3 : decode cX9_highBy 3 = .ok (.iconst (-1), 1) := by decide +kernel
theorem dX9_highBy_4 : decode cX9_highBy 4 = .ok (.invokevirtual 318, 3) := by decide +kernel
theorem dX9_highBy_7 : decode cX9_highBy 7 = .ok (.istore 4, 2) := by decide +kernel
theorem dX9_highBy_9 : decode cX9_highBy 9 = .ok (.iload 4, 2) := by decide +kernel
theorem dX9_highBy_11 : decode cX9_highBy 11 = .ok (.ifCond .eq 6, 3) := by decide +kernel
theorem dX9_highBy_14 : decode cX9_highBy 14 = .ok (.iload 4, 2) := by decide +kernel
theorem dX9_highBy_16 : decode cX9_highBy 16 = .ok (.ireturn, 1) := by decide +kernel
set_option maxHeartbeats 4000000 in
set_option maxRecDepth 100000 in
theorem c_X9_highBy_0 (l : Launch) (V : GV) (y : Nat → Nat) (p0 : Int32) (p1 : Int32) (p2 : Int32) : Ct l V yX9_highBy (.code yX9_highBy cX9_highBy 6 (some .int)) 3 [.ref (y 0), .int p0, .int p1, .int p2] [(y 0, .inr (9, [.ref (y 1), .int 0, .ref (y 2), .ref (y 10), .ref (y 19), .ref (y 25), .ref (y 26), .ref (y 30), .ref (y 31), .ref (y 32), .null, .null, .int 0, .int 0, .int 0])), (y 2, .inr (1, [.int 0, .int 0, .int 0, .int 0, .int 0, .int 0, .ref (y 3), .ref (y 4), .ref (y 5), .ref (y 6), .ref (y 7), .ref (y 8), .ref (y 9), .int 0, .int 0, .int 0, .int 0, .int 0]))] 0 0 (QI V (fun (r : Int32) (w : va_W) => (r = (-2) ∧ w = [(y 0, .inr (9, [.ref (y 1), .int 0, .ref (y 2), .ref (y 10), .ref (y 19), .ref (y 25), .ref (y 26), .ref (y 30), .ref (y 31), .ref (y 32), .null, .null, .int 0, .int 0, .int 0])), (y 2, .inr (1, [.int 0, .int 0, .int 0, .int 0, .int 0, .int 0, .ref (y 3), .ref (y 4), .ref (y 5), .ref (y 6), .ref (y 7), .ref (y 8), .ref (y 9), .int 0, .int 0, .int 0, .int 0, .int 0]))]))) := by
  refine Ct.of (by decide) (Nat.le_of_ble_eq_true rfl) (fun p e s m below meth c A ls hx hb hr hml hown hlk hnm hg hP hK hD hE hA hS hl => ?_)
  have hl : lv_has ls 6 [(0, .ref (y 0)), (1, .int p0), (2, .int p1), (3, .int p2)] := hl
  refine lv_aload_n hx hb dX9_highBy_0 rfl (lv_at hl 0 rfl) ?_
  refine lv_iload_n hx hb dX9_highBy_1 rfl (lv_at hl 1 rfl) ?_
  refine lv_iload_n hx hb dX9_highBy_2 rfl (lv_at hl 2 rfl) ?_
  refine lv_iconst (v := (-1)) hx hb dX9_highBy_3 (by decide) ?_
  refine jnI (wr := []) (rnV (rest := []) ⟨hx, hb, hml, hown, hg⟩ (c_X9_refusalOfTold_0 l V y p0 p1) mt_X9_refusalOfTold q_5_21 ⟨Nat.le_of_ble_eq_true rfl, Nat.le_of_ble_eq_true rfl⟩ hK hP hD hS hA hE [0, 1] rfl rfl 0 rfl rfl rfl rfl hl.1 rfl (Nat.le_of_ble_eq_true rfl) dX9_highBy_4 ⟨Nat.le_of_ble_eq_true rfl, Nat.le_of_ble_eq_true rfl⟩) hP hD hS hA [0, 1] [] rfl rfl rfl (by decide) (fun r_1 w H locs hw hP hD hS => ?_)
  obtain ⟨rfl, rfl⟩ := hw
  have hP : va_P V.1 vwCl [(y 0, .inr (9, [.ref (y 1), .int 0, .ref (y 2), .ref (y 10), .ref (y 19), .ref (y 25), .ref (y 26), .ref (y 30), .ref (y 31), .ref (y 32), .null, .null, .int 0, .int 0, .int 0])), (y 2, .inr (1, [.int 0, .int 0, .int 0, .int 0, .int 0, .int 0, .ref (y 3), .ref (y 4), .ref (y 5), .ref (y 6), .ref (y 7), .ref (y 8), .ref (y 9), .int 0, .int 0, .int 0, .int 0, .int 0]))] H := hP
  have hD : va_D A [(y 0, .inr (9, [.ref (y 1), .int 0, .ref (y 2), .ref (y 10), .ref (y 19), .ref (y 25), .ref (y 26), .ref (y 30), .ref (y 31), .ref (y 32), .null, .null, .int 0, .int 0, .int 0])), (y 2, .inr (1, [.int 0, .int 0, .int 0, .int 0, .int 0, .int 0, .ref (y 3), .ref (y 4), .ref (y 5), .ref (y 6), .ref (y 7), .ref (y 8), .ref (y 9), .int 0, .int 0, .int 0, .int 0, .int 0]))] := hD
  refine lv_istore (lv' := [(4, .int (-2)), (0, .ref (y 0)), (1, .int p0), (2, .int p1), (3, .int p2)]) hx hb dX9_highBy_7 hl (by decide) rfl (fun ls hl => ?_)
  refine lv_iload hx hb dX9_highBy_9 (lv_at hl 0 rfl) ?_
  refine lv_if_eq (tgt := 17) hx hb dX9_highBy_11 (by decide) (fun c_2 => absurd c_2 (by decide)) (fun _ => ?_)
  refine lv_iload hx hb dX9_highBy_14 (lv_at hl 0 rfl) ?_
  exact fiI hx hb hr hlk hK hP hD hS dX9_highBy_16 (Nat.le_of_ble_eq_true rfl) (Nat.le_of_ble_eq_true rfl) (⟨rfl, rfl⟩)
theorem dX10_fogs_0 : decode cX10_fogs 0 = .ok (.aload_n 0, 1) := by decide +kernel
theorem dX10_fogs_1 : decode cX10_fogs 1 = .ok (.iconst 0, 1) := by decide +kernel
theorem dX10_fogs_2 : decode cX10_fogs 2 = .ok (.putfield 1, 3) := by decide +kernel
theorem dX10_fogs_5 : decode cX10_fogs 5 = .ok (.aload_n 0, 1) := by decide +kernel
theorem dX10_fogs_6 : decode cX10_fogs 6 = .ok (.iload_n 1, 1) := by decide +kernel
theorem dX10_fogs_7 : decode cX10_fogs 7 = .ok (.iload_n 2, 1) := by decide +kernel
theorem dX10_fogs_8 : decode cX10_fogs 8 = .ok (.iconst (-1), 1) := by decide +kernel
theorem dX10_fogs_9 : decode cX10_fogs 9 = .ok (.invokevirtual 425, 3) := by decide +kernel
theorem dX10_fogs_12 : decode cX10_fogs 12 = .ok (.istore 4, 2) := by decide +kernel
theorem dX10_fogs_14 : decode cX10_fogs 14 = .ok (.iload 4, 2) := by decide +kernel
theorem dX10_fogs_16 : decode cX10_fogs 16 = .ok (.ifCond .eq 6, 3) := by decide +kernel
theorem dX10_fogs_19 : decode cX10_fogs 19 = .ok (.iload 4, 2) := by decide +kernel
theorem dX10_fogs_21 : decode cX10_fogs 21 = .ok (.ireturn, 1) := by decide +kernel
set_option maxHeartbeats 4000000 in
set_option maxRecDepth 100000 in
theorem c_X10_fogs_0 (l : Launch) (V : GV) (z : Nat → Nat) (p0 : Int32) (p1 : Int32) (p2 : Int32) : Ct l V yX10_fogs (.code yX10_fogs cX10_fogs 10 (some .int)) 4 [.ref (z 0), .int p0, .int p1, .int p2] [(z 0, .inr (10, mo z 0 0 0 0 0 0 0 0 0 0 (-1) 0 0 0 0 0)), (z 1, aI V 3075 (fun _ => 0))] 0 0 (QI V (fun (r : Int32) (w : va_W) => (r = (-2) ∧ w = [(z 0, .inr (10, mo z 0 0 0 0 0 0 0 0 0 0 (-1) 0 0 0 0 0)), (z 1, aI V 3075 (fun _ => 0))]))) := by
  refine Ct.of (by decide) (Nat.le_of_ble_eq_true rfl) (fun p e s m below meth c A ls hx hb hr hml hown hlk hnm hg hP hK hD hE hA hS hl => ?_)
  have hl : lv_has ls 10 [(0, .ref (z 0)), (1, .int p0), (2, .int p1), (3, .int p2)] := hl
  refine lv_aload_n hx hb dX10_fogs_0 rfl (lv_at hl 0 rfl) ?_
  refine lv_iconst (v := 0) hx hb dX10_fogs_1 (by decide) ?_
  refine va_put (ci := 10) (v := .int 0) (ty := .int) (C := RX10) (T := TX10) (N := 40) hx hb hg inX10 tyX10 tyX10_ok nmX10 hown hK hP hD hS 0 rfl rfl 0 (by decide) (hg _ q_5_224) (fun _ h9 => h9) rfl (by decide +kernel) rfl rfl (Nat.le_of_ble_eq_true rfl) dX10_fogs_2 (fun H locs hP hD hS => ?_)
  have hP : va_P V.1 vwCl [(z 0, .inr (10, mo z 0 0 0 0 0 0 0 0 0 0 (-1) 0 0 0 0 0)), (z 1, aI V 3075 (fun _ => 0))] H := hP
  have hD : va_D A [(z 0, .inr (10, mo z 0 0 0 0 0 0 0 0 0 0 (-1) 0 0 0 0 0)), (z 1, aI V 3075 (fun _ => 0))] := hD
  refine lv_aload_n hx hb dX10_fogs_5 rfl (lv_at hl 0 rfl) ?_
  refine lv_iload_n hx hb dX10_fogs_6 rfl (lv_at hl 1 rfl) ?_
  refine lv_iload_n hx hb dX10_fogs_7 rfl (lv_at hl 2 rfl) ?_
  refine lv_iconst (v := (-1)) hx hb dX10_fogs_8 (by decide) ?_
  refine jnI (wr := []) (rnV (rest := []) ⟨hx, hb, hml, hown, hg⟩ (c_X10_noTold_0 l V z p0 p1) mt_X10_noTold q_8_51 ⟨Nat.le_of_ble_eq_true rfl, Nat.le_of_ble_eq_true rfl⟩ hK hP hD hS hA hE [0, 1] rfl rfl 0 rfl rfl rfl rfl hl.1 rfl (Nat.le_of_ble_eq_true rfl) dX10_fogs_9 ⟨Nat.le_of_ble_eq_true rfl, Nat.le_of_ble_eq_true rfl⟩) hP hD hS hA [0, 1] [] rfl rfl rfl (by decide) (fun r_1 w H locs hw hP hD hS => ?_)
  obtain ⟨rfl, rfl⟩ := hw
  have hP : va_P V.1 vwCl [(z 0, .inr (10, mo z 0 0 0 0 0 0 0 0 0 0 (-1) 0 0 0 0 0)), (z 1, aI V 3075 (fun _ => 0))] H := hP
  have hD : va_D A [(z 0, .inr (10, mo z 0 0 0 0 0 0 0 0 0 0 (-1) 0 0 0 0 0)), (z 1, aI V 3075 (fun _ => 0))] := hD
  refine lv_istore (lv' := [(4, .int (-2)), (0, .ref (z 0)), (1, .int p0), (2, .int p1), (3, .int p2)]) hx hb dX10_fogs_12 hl (by decide) rfl (fun ls hl => ?_)
  refine lv_iload hx hb dX10_fogs_14 (lv_at hl 0 rfl) ?_
  refine lv_if_eq (tgt := 22) hx hb dX10_fogs_16 (by decide) (fun c_2 => absurd c_2 (by decide)) (fun _ => ?_)
  refine lv_iload hx hb dX10_fogs_19 (lv_at hl 0 rfl) ?_
  exact fiI hx hb hr hlk hK hP hD hS dX10_fogs_21 (Nat.le_of_ble_eq_true rfl) (Nat.le_of_ble_eq_true rfl) (⟨rfl, rfl⟩)
theorem dX9_fogs_0 : decode cX9_fogs 0 = .ok (.aload_n 0, 1) := by decide +kernel
theorem dX9_fogs_1 : decode cX9_fogs 1 = .ok (.iload_n 1, 1) := by decide +kernel
theorem dX9_fogs_2 : decode cX9_fogs 2 = .ok (.iload_n 2, 1) := by decide +kernel
theorem dX9_fogs_3 : decode cX9_fogs 3 = .ok (.iconst (-1), 1) := by decide +kernel
theorem dX9_fogs_4 : decode cX9_fogs 4 = .ok (.invokevirtual 318, 3) := by decide +kernel
theorem dX9_fogs_7 : decode cX9_fogs 7 = .ok (.istore 4, 2) := by decide +kernel
theorem dX9_fogs_9 : decode cX9_fogs 9 = .ok (.iload 4, 2) := by decide +kernel
theorem dX9_fogs_11 : decode cX9_fogs 11 = .ok (.ifCond .eq 6, 3) := by decide +kernel
theorem dX9_fogs_14 : decode cX9_fogs 14 = .ok (.iload 4, 2) := by decide +kernel
theorem dX9_fogs_16 : decode cX9_fogs 16 = .ok (.ireturn, 1) := by decide +kernel
set_option maxHeartbeats 4000000 in
set_option maxRecDepth 100000 in
theorem c_X9_fogs_0 (l : Launch) (V : GV) (y : Nat → Nat) (p0 : Int32) (p1 : Int32) (p2 : Int32) : Ct l V yX9_fogs (.code yX9_fogs cX9_fogs 6 (some .int)) 3 [.ref (y 0), .int p0, .int p1, .int p2] [(y 0, .inr (9, [.ref (y 1), .int 0, .ref (y 2), .ref (y 10), .ref (y 19), .ref (y 25), .ref (y 26), .ref (y 30), .ref (y 31), .ref (y 32), .null, .null, .int 0, .int 0, .int 0])), (y 2, .inr (1, [.int 0, .int 0, .int 0, .int 0, .int 0, .int 0, .ref (y 3), .ref (y 4), .ref (y 5), .ref (y 6), .ref (y 7), .ref (y 8), .ref (y 9), .int 0, .int 0, .int 0, .int 0, .int 0]))] 0 0 (QI V (fun (r : Int32) (w : va_W) => (r = (-2) ∧ w = [(y 0, .inr (9, [.ref (y 1), .int 0, .ref (y 2), .ref (y 10), .ref (y 19), .ref (y 25), .ref (y 26), .ref (y 30), .ref (y 31), .ref (y 32), .null, .null, .int 0, .int 0, .int 0])), (y 2, .inr (1, [.int 0, .int 0, .int 0, .int 0, .int 0, .int 0, .ref (y 3), .ref (y 4), .ref (y 5), .ref (y 6), .ref (y 7), .ref (y 8), .ref (y 9), .int 0, .int 0, .int 0, .int 0, .int 0]))]))) := by
  refine Ct.of (by decide) (Nat.le_of_ble_eq_true rfl) (fun p e s m below meth c A ls hx hb hr hml hown hlk hnm hg hP hK hD hE hA hS hl => ?_)
  have hl : lv_has ls 6 [(0, .ref (y 0)), (1, .int p0), (2, .int p1), (3, .int p2)] := hl
  refine lv_aload_n hx hb dX9_fogs_0 rfl (lv_at hl 0 rfl) ?_
  refine lv_iload_n hx hb dX9_fogs_1 rfl (lv_at hl 1 rfl) ?_
  refine lv_iload_n hx hb dX9_fogs_2 rfl (lv_at hl 2 rfl) ?_
  refine lv_iconst (v := (-1)) hx hb dX9_fogs_3 (by decide) ?_
  refine jnI (wr := []) (rnV (rest := []) ⟨hx, hb, hml, hown, hg⟩ (c_X9_refusalOfTold_0 l V y p0 p1) mt_X9_refusalOfTold q_5_21 ⟨Nat.le_of_ble_eq_true rfl, Nat.le_of_ble_eq_true rfl⟩ hK hP hD hS hA hE [0, 1] rfl rfl 0 rfl rfl rfl rfl hl.1 rfl (Nat.le_of_ble_eq_true rfl) dX9_fogs_4 ⟨Nat.le_of_ble_eq_true rfl, Nat.le_of_ble_eq_true rfl⟩) hP hD hS hA [0, 1] [] rfl rfl rfl (by decide) (fun r_1 w H locs hw hP hD hS => ?_)
  obtain ⟨rfl, rfl⟩ := hw
  have hP : va_P V.1 vwCl [(y 0, .inr (9, [.ref (y 1), .int 0, .ref (y 2), .ref (y 10), .ref (y 19), .ref (y 25), .ref (y 26), .ref (y 30), .ref (y 31), .ref (y 32), .null, .null, .int 0, .int 0, .int 0])), (y 2, .inr (1, [.int 0, .int 0, .int 0, .int 0, .int 0, .int 0, .ref (y 3), .ref (y 4), .ref (y 5), .ref (y 6), .ref (y 7), .ref (y 8), .ref (y 9), .int 0, .int 0, .int 0, .int 0, .int 0]))] H := hP
  have hD : va_D A [(y 0, .inr (9, [.ref (y 1), .int 0, .ref (y 2), .ref (y 10), .ref (y 19), .ref (y 25), .ref (y 26), .ref (y 30), .ref (y 31), .ref (y 32), .null, .null, .int 0, .int 0, .int 0])), (y 2, .inr (1, [.int 0, .int 0, .int 0, .int 0, .int 0, .int 0, .ref (y 3), .ref (y 4), .ref (y 5), .ref (y 6), .ref (y 7), .ref (y 8), .ref (y 9), .int 0, .int 0, .int 0, .int 0, .int 0]))] := hD
  refine lv_istore (lv' := [(4, .int (-2)), (0, .ref (y 0)), (1, .int p0), (2, .int p1), (3, .int p2)]) hx hb dX9_fogs_7 hl (by decide) rfl (fun ls hl => ?_)
  refine lv_iload hx hb dX9_fogs_9 (lv_at hl 0 rfl) ?_
  refine lv_if_eq (tgt := 17) hx hb dX9_fogs_11 (by decide) (fun c_2 => absurd c_2 (by decide)) (fun _ => ?_)
  refine lv_iload hx hb dX9_fogs_14 (lv_at hl 0 rfl) ?_
  exact fiI hx hb hr hlk hK hP hD hS dX9_fogs_16 (Nat.le_of_ble_eq_true rfl) (Nat.le_of_ble_eq_true rfl) (⟨rfl, rfl⟩)
set_option maxHeartbeats 4000000 in
set_option maxRecDepth 100000 in
theorem c_X10_noTold_1 (l : Launch) (V : GV) (z : Nat → Nat) (p0 : Int32) (p1 : Int32) : Ct l V yX10_noTold (.code yX10_noTold cX10_noTold 6 (some .int)) 3 [.ref (z 0), .int p0, .int p1, .int 0] [(z 0, .inr (10, mo z 0 0 0 0 0 0 0 0 0 0 (-1) 0 0 0 0 0)), (z 1, aI V 3075 (fun _ => 0))] 0 0 (QI V (fun (r : Int32) (w : va_W) => (r = (-2) ∧ w = [(z 0, .inr (10, mo z 0 0 0 0 0 0 0 0 0 0 (-1) 0 0 0 0 0)), (z 1, aI V 3075 (fun _ => 0))]))) := by
  refine Ct.of (by decide) (Nat.le_of_ble_eq_true rfl) (fun p e s m below meth c A ls hx hb hr hml hown hlk hnm hg hP hK hD hE hA hS hl => ?_)
  have hl : lv_has ls 6 [(0, .ref (z 0)), (1, .int p0), (2, .int p1), (3, .int 0)] := hl
  refine lv_iload_n hx hb dX10_noTold_0 rfl (lv_at hl 1 rfl) ?_
  refine lv_i2l (v := p0.toInt64) hx hb dX10_noTold_1 rfl ?_
  refine lv_lconst (v := 0) hx hb dX10_noTold_2 (by decide) ?_
  refine lv_ldc2 (v := 3) hx hb hown (hg _ q_7_107) dX10_noTold_3 ?_
  refine jnI (wr := [(z 0, .inr (10, mo z 0 0 0 0 0 0 0 0 0 0 (-1) 0 0 0 0 0)), (z 1, aI V 3075 (fun _ => 0))]) (rnS (rest := []) ⟨hx, hb, hml, hown, hg⟩ (c_X10_within_0 l V p0.toInt64 0 3) mt_X10_within q_6_114 ⟨Nat.le_of_ble_eq_true rfl, Nat.le_of_ble_eq_true rfl⟩ hK hP hD hS hA hE [] rfl rfl rfl hl.1 rfl (Nat.le_of_ble_eq_true rfl) dX10_noTold_6 ⟨Nat.le_of_ble_eq_true rfl, Nat.le_of_ble_eq_true rfl⟩) hP hD hS hA [] [0, 1] rfl rfl rfl (by decide) (fun r_1 w H locs hw hP hD hS => ?_)
  rcases hw with ⟨c_2, rfl, rfl⟩ | ⟨c_3, c_4, rfl, rfl⟩ | ⟨c_5, c_6, rfl, rfl⟩
  · have hP : va_P V.1 vwCl [(z 0, .inr (10, mo z 0 0 0 0 0 0 0 0 0 0 (-1) 0 0 0 0 0)), (z 1, aI V 3075 (fun _ => 0))] H := hP
    have hD : va_D A [(z 0, .inr (10, mo z 0 0 0 0 0 0 0 0 0 0 (-1) 0 0 0 0 0)), (z 1, aI V 3075 (fun _ => 0))] := hD
    refine lv_if_eq (tgt := 21) hx hb dX10_noTold_9 (by decide) (fun _ => ?_) (fun c_7 => absurd c_7 (by decide))
    refine lv_bipush (v := (-2)) hx hb dX10_noTold_21 (by decide) ?_
    exact fiI hx hb hr hlk hK hP hD hS dX10_noTold_23 (Nat.le_of_ble_eq_true rfl) (Nat.le_of_ble_eq_true rfl) (⟨rfl, rfl⟩)
  · have hP : va_P V.1 vwCl [(z 0, .inr (10, mo z 0 0 0 0 0 0 0 0 0 0 (-1) 0 0 0 0 0)), (z 1, aI V 3075 (fun _ => 0))] H := hP
    have hD : va_D A [(z 0, .inr (10, mo z 0 0 0 0 0 0 0 0 0 0 (-1) 0 0 0 0 0)), (z 1, aI V 3075 (fun _ => 0))] := hD
    refine lv_if_eq (tgt := 21) hx hb dX10_noTold_9 (by decide) (fun _ => ?_) (fun c_8 => absurd c_8 (by decide))
    refine lv_bipush (v := (-2)) hx hb dX10_noTold_21 (by decide) ?_
    exact fiI hx hb hr hlk hK hP hD hS dX10_noTold_23 (Nat.le_of_ble_eq_true rfl) (Nat.le_of_ble_eq_true rfl) (⟨rfl, rfl⟩)
  · have hP : va_P V.1 vwCl [(z 0, .inr (10, mo z 0 0 0 0 0 0 0 0 0 0 (-1) 0 0 0 0 0)), (z 1, aI V 3075 (fun _ => 0))] H := hP
    have hD : va_D A [(z 0, .inr (10, mo z 0 0 0 0 0 0 0 0 0 0 (-1) 0 0 0 0 0)), (z 1, aI V 3075 (fun _ => 0))] := hD
    refine lv_if_eq (tgt := 21) hx hb dX10_noTold_9 (by decide) (fun c_9 => absurd c_9 (by decide)) (fun _ => ?_)
    refine lv_aload_n hx hb dX10_noTold_12 rfl (lv_at hl 0 rfl) ?_
    refine lv_iload_n hx hb dX10_noTold_13 rfl (lv_at hl 2 rfl) ?_
    refine lv_i2l (v := p1.toInt64) hx hb dX10_noTold_14 rfl ?_
    refine jnI (wr := []) (rnV (rest := []) ⟨hx, hb, hml, hown, hg⟩ (c_X10_isHill_0 l V z p1.toInt64) mt_X10_isHill q_6_235 ⟨Nat.le_of_ble_eq_true rfl, Nat.le_of_ble_eq_true rfl⟩ hK hP hD hS hA hE [0, 1] rfl rfl 0 rfl rfl rfl rfl hl.1 rfl (Nat.le_of_ble_eq_true rfl) dX10_noTold_15 ⟨Nat.le_of_ble_eq_true rfl, Nat.le_of_ble_eq_true rfl⟩) hP hD hS hA [0, 1] [] rfl rfl rfl (by decide) (fun r_10 w H locs hw hP hD hS => ?_)
    obtain ⟨rfl, rfl⟩ := hw
    have hP : va_P V.1 vwCl [(z 0, .inr (10, mo z 0 0 0 0 0 0 0 0 0 0 (-1) 0 0 0 0 0)), (z 1, aI V 3075 (fun _ => 0))] H := hP
    have hD : va_D A [(z 0, .inr (10, mo z 0 0 0 0 0 0 0 0 0 0 (-1) 0 0 0 0 0)), (z 1, aI V 3075 (fun _ => 0))] := hD
    refine lv_if_ne (tgt := 24) hx hb dX10_noTold_18 (by decide) (fun c_11 => absurd c_11 (by decide)) (fun _ => ?_)
    refine lv_bipush (v := (-2)) hx hb dX10_noTold_21 (by decide) ?_
    exact fiI hx hb hr hlk hK hP hD hS dX10_noTold_23 (Nat.le_of_ble_eq_true rfl) (Nat.le_of_ble_eq_true rfl) (⟨rfl, rfl⟩)
theorem dX10_weathers_0 : decode cX10_weathers 0 = .ok (.aload_n 0, 1) := by decide +kernel
theorem dX10_weathers_1 : decode cX10_weathers 1 = .ok (.iconst 0, 1) := by decide +kernel
theorem dX10_weathers_2 : decode cX10_weathers 2 = .ok (.putfield 1, 3) := by decide +kernel
theorem dX10_weathers_5 : decode cX10_weathers 5 = .ok (.aload_n 0, 1) := by decide +kernel
theorem dX10_weathers_6 : decode cX10_weathers 6 = .ok (.iload_n 1, 1) := by decide +kernel
theorem dX10_weathers_7 : decode cX10_weathers 7 = .ok (.iload_n 2, 1) := by decide +kernel
theorem dX10_weathers_8 : decode cX10_weathers 8 = .ok (.iconst 0, 1) := by decide +kernel
theorem dX10_weathers_9 : decode cX10_weathers 9 = .ok (.invokevirtual 425, 3) := by decide +kernel
theorem dX10_weathers_12 : decode cX10_weathers 12 = .ok (.istore_n 3, 1) := by decide +kernel
theorem dX10_weathers_13 : decode cX10_weathers 13 = .ok (.iload_n 3, 1) := by decide +kernel
theorem dX10_weathers_14 : decode cX10_weathers 14 = .ok (.ifCond .eq 7, 3) := by decide +kernel
theorem dX10_weathers_17 : decode cX10_weathers 17 = .ok (.iload_n 3, 1) := by decide +kernel
theorem dX10_weathers_18 : decode cX10_weathers 18 = .ok (.goto 9, 3) := by decide +kernel
theorem dX10_weathers_27 : decode cX10_weathers 27 = .ok (.ireturn, 1) := by decide +kernel
set_option maxHeartbeats 4000000 in
set_option maxRecDepth 100000 in
theorem c_X10_weathers_0 (l : Launch) (V : GV) (z : Nat → Nat) (p0 : Int32) (p1 : Int32) : Ct l V yX10_weathers (.code yX10_weathers cX10_weathers 4 (some .int)) 4 [.ref (z 0), .int p0, .int p1] [(z 0, .inr (10, mo z 0 0 0 0 0 0 0 0 0 0 (-1) 0 0 0 0 0)), (z 1, aI V 3075 (fun _ => 0))] 0 0 (QI V (fun (r : Int32) (w : va_W) => (r = (-2) ∧ w = [(z 0, .inr (10, mo z 0 0 0 0 0 0 0 0 0 0 (-1) 0 0 0 0 0)), (z 1, aI V 3075 (fun _ => 0))]))) := by
  refine Ct.of (by decide) (Nat.le_of_ble_eq_true rfl) (fun p e s m below meth c A ls hx hb hr hml hown hlk hnm hg hP hK hD hE hA hS hl => ?_)
  have hl : lv_has ls 4 [(0, .ref (z 0)), (1, .int p0), (2, .int p1)] := hl
  refine lv_aload_n hx hb dX10_weathers_0 rfl (lv_at hl 0 rfl) ?_
  refine lv_iconst (v := 0) hx hb dX10_weathers_1 (by decide) ?_
  refine va_put (ci := 10) (v := .int 0) (ty := .int) (C := RX10) (T := TX10) (N := 40) hx hb hg inX10 tyX10 tyX10_ok nmX10 hown hK hP hD hS 0 rfl rfl 0 (by decide) (hg _ q_5_224) (fun _ h9 => h9) rfl (by decide +kernel) rfl rfl (Nat.le_of_ble_eq_true rfl) dX10_weathers_2 (fun H locs hP hD hS => ?_)
  have hP : va_P V.1 vwCl [(z 0, .inr (10, mo z 0 0 0 0 0 0 0 0 0 0 (-1) 0 0 0 0 0)), (z 1, aI V 3075 (fun _ => 0))] H := hP
  have hD : va_D A [(z 0, .inr (10, mo z 0 0 0 0 0 0 0 0 0 0 (-1) 0 0 0 0 0)), (z 1, aI V 3075 (fun _ => 0))] := hD
  refine lv_aload_n hx hb dX10_weathers_5 rfl (lv_at hl 0 rfl) ?_
  refine lv_iload_n hx hb dX10_weathers_6 rfl (lv_at hl 1 rfl) ?_
  refine lv_iload_n hx hb dX10_weathers_7 rfl (lv_at hl 2 rfl) ?_
  refine lv_iconst (v := 0) hx hb dX10_weathers_8 (by decide) ?_
  refine jnI (wr := []) (rnV (rest := []) ⟨hx, hb, hml, hown, hg⟩ (c_X10_noTold_1 l V z p0 p1) mt_X10_noTold q_8_51 ⟨Nat.le_of_ble_eq_true rfl, Nat.le_of_ble_eq_true rfl⟩ hK hP hD hS hA hE [0, 1] rfl rfl 0 rfl rfl rfl rfl hl.1 rfl (Nat.le_of_ble_eq_true rfl) dX10_weathers_9 ⟨Nat.le_of_ble_eq_true rfl, Nat.le_of_ble_eq_true rfl⟩) hP hD hS hA [0, 1] [] rfl rfl rfl (by decide) (fun r_1 w H locs hw hP hD hS => ?_)
  obtain ⟨rfl, rfl⟩ := hw
  have hP : va_P V.1 vwCl [(z 0, .inr (10, mo z 0 0 0 0 0 0 0 0 0 0 (-1) 0 0 0 0 0)), (z 1, aI V 3075 (fun _ => 0))] H := hP
  have hD : va_D A [(z 0, .inr (10, mo z 0 0 0 0 0 0 0 0 0 0 (-1) 0 0 0 0 0)), (z 1, aI V 3075 (fun _ => 0))] := hD
  refine lv_istore_n (lv' := [(3, .int (-2)), (0, .ref (z 0)), (1, .int p0), (2, .int p1)]) hx hb dX10_weathers_12 rfl hl (by decide) rfl (fun ls hl => ?_)
  refine lv_iload_n hx hb dX10_weathers_13 rfl (lv_at hl 0 rfl) ?_
  refine lv_if_eq (tgt := 21) hx hb dX10_weathers_14 (by decide) (fun c_2 => absurd c_2 (by decide)) (fun _ => ?_)
  refine lv_iload_n hx hb dX10_weathers_17 rfl (lv_at hl 0 rfl) ?_
  refine lv_goto (tgt := 27) hx hb dX10_weathers_18 (by decide) ?_
  exact fiI hx hb hr hlk hK hP hD hS dX10_weathers_27 (Nat.le_of_ble_eq_true rfl) (Nat.le_of_ble_eq_true rfl) (⟨rfl, rfl⟩)
set_option maxHeartbeats 4000000 in
set_option maxRecDepth 100000 in
theorem c_X9_refusalOfTold_1 (l : Launch) (V : GV) (y : Nat → Nat) (p0 : Int32) (p1 : Int32) : Ct l V yX9_refusalOfTold (.code yX9_refusalOfTold cX9_refusalOfTold 6 (some .int)) 2 [.ref (y 0), .int p0, .int p1, .int 0] [(y 0, .inr (9, [.ref (y 1), .int 0, .ref (y 2), .ref (y 10), .ref (y 19), .ref (y 25), .ref (y 26), .ref (y 30), .ref (y 31), .ref (y 32), .null, .null, .int 0, .int 0, .int 0])), (y 2, .inr (1, [.int 0, .int 0, .int 0, .int 0, .int 0, .int 0, .ref (y 3), .ref (y 4), .ref (y 5), .ref (y 6), .ref (y 7), .ref (y 8), .ref (y 9), .int 0, .int 0, .int 0, .int 0, .int 0]))] 0 0 (QI V (fun (r : Int32) (w : va_W) => (r = (-2) ∧ w = [(y 0, .inr (9, [.ref (y 1), .int 0, .ref (y 2), .ref (y 10), .ref (y 19), .ref (y 25), .ref (y 26), .ref (y 30), .ref (y 31), .ref (y 32), .null, .null, .int 0, .int 0, .int 0])), (y 2, .inr (1, [.int 0, .int 0, .int 0, .int 0, .int 0, .int 0, .ref (y 3), .ref (y 4), .ref (y 5), .ref (y 6), .ref (y 7), .ref (y 8), .ref (y 9), .int 0, .int 0, .int 0, .int 0, .int 0]))]))) := by
  refine Ct.of (by decide) (Nat.le_of_ble_eq_true rfl) (fun p e s m below meth c A ls hx hb hr hml hown hlk hnm hg hP hK hD hE hA hS hl => ?_)
  have hl : lv_has ls 6 [(0, .ref (y 0)), (1, .int p0), (2, .int p1), (3, .int 0)] := hl
  refine lv_iload_n hx hb dX9_refusalOfTold_0 rfl (lv_at hl 1 rfl) ?_
  refine jnI (wr := [(y 0, .inr (9, [.ref (y 1), .int 0, .ref (y 2), .ref (y 10), .ref (y 19), .ref (y 25), .ref (y 26), .ref (y 30), .ref (y 31), .ref (y 32), .null, .null, .int 0, .int 0, .int 0])), (y 2, .inr (1, [.int 0, .int 0, .int 0, .int 0, .int 0, .int 0, .ref (y 3), .ref (y 4), .ref (y 5), .ref (y 6), .ref (y 7), .ref (y 8), .ref (y 9), .int 0, .int 0, .int 0, .int 0, .int 0]))]) (rnS (rest := []) ⟨hx, hb, hml, hown, hg⟩ (c_X9_isTray_0 l V p0) mt_X9_isTray q_3_228 ⟨Nat.le_of_ble_eq_true rfl, Nat.le_of_ble_eq_true rfl⟩ hK hP hD hS hA hE [] rfl rfl rfl hl.1 rfl (Nat.le_of_ble_eq_true rfl) dX9_refusalOfTold_1 ⟨Nat.le_of_ble_eq_true rfl, Nat.le_of_ble_eq_true rfl⟩) hP hD hS hA [] [0, 1] rfl rfl rfl (by decide) (fun r_1 w H locs hw hP hD hS => ?_)
  rcases hw with ⟨c_2, rfl, rfl⟩ | ⟨c_3, c_4, rfl, rfl⟩ | ⟨c_5, c_6, rfl, rfl⟩
  · have hP : va_P V.1 vwCl [(y 0, .inr (9, [.ref (y 1), .int 0, .ref (y 2), .ref (y 10), .ref (y 19), .ref (y 25), .ref (y 26), .ref (y 30), .ref (y 31), .ref (y 32), .null, .null, .int 0, .int 0, .int 0])), (y 2, .inr (1, [.int 0, .int 0, .int 0, .int 0, .int 0, .int 0, .ref (y 3), .ref (y 4), .ref (y 5), .ref (y 6), .ref (y 7), .ref (y 8), .ref (y 9), .int 0, .int 0, .int 0, .int 0, .int 0]))] H := hP
    have hD : va_D A [(y 0, .inr (9, [.ref (y 1), .int 0, .ref (y 2), .ref (y 10), .ref (y 19), .ref (y 25), .ref (y 26), .ref (y 30), .ref (y 31), .ref (y 32), .null, .null, .int 0, .int 0, .int 0])), (y 2, .inr (1, [.int 0, .int 0, .int 0, .int 0, .int 0, .int 0, .ref (y 3), .ref (y 4), .ref (y 5), .ref (y 6), .ref (y 7), .ref (y 8), .ref (y 9), .int 0, .int 0, .int 0, .int 0, .int 0]))] := hD
    refine lv_if_eq (tgt := 15) hx hb dX9_refusalOfTold_4 (by decide) (fun _ => ?_) (fun c_7 => absurd c_7 (by decide))
    refine lv_bipush (v := (-2)) hx hb dX9_refusalOfTold_15 (by decide) ?_
    exact fiI hx hb hr hlk hK hP hD hS dX9_refusalOfTold_17 (Nat.le_of_ble_eq_true rfl) (Nat.le_of_ble_eq_true rfl) (⟨rfl, rfl⟩)
  · have hP : va_P V.1 vwCl [(y 0, .inr (9, [.ref (y 1), .int 0, .ref (y 2), .ref (y 10), .ref (y 19), .ref (y 25), .ref (y 26), .ref (y 30), .ref (y 31), .ref (y 32), .null, .null, .int 0, .int 0, .int 0])), (y 2, .inr (1, [.int 0, .int 0, .int 0, .int 0, .int 0, .int 0, .ref (y 3), .ref (y 4), .ref (y 5), .ref (y 6), .ref (y 7), .ref (y 8), .ref (y 9), .int 0, .int 0, .int 0, .int 0, .int 0]))] H := hP
    have hD : va_D A [(y 0, .inr (9, [.ref (y 1), .int 0, .ref (y 2), .ref (y 10), .ref (y 19), .ref (y 25), .ref (y 26), .ref (y 30), .ref (y 31), .ref (y 32), .null, .null, .int 0, .int 0, .int 0])), (y 2, .inr (1, [.int 0, .int 0, .int 0, .int 0, .int 0, .int 0, .ref (y 3), .ref (y 4), .ref (y 5), .ref (y 6), .ref (y 7), .ref (y 8), .ref (y 9), .int 0, .int 0, .int 0, .int 0, .int 0]))] := hD
    refine lv_if_eq (tgt := 15) hx hb dX9_refusalOfTold_4 (by decide) (fun _ => ?_) (fun c_8 => absurd c_8 (by decide))
    refine lv_bipush (v := (-2)) hx hb dX9_refusalOfTold_15 (by decide) ?_
    exact fiI hx hb hr hlk hK hP hD hS dX9_refusalOfTold_17 (Nat.le_of_ble_eq_true rfl) (Nat.le_of_ble_eq_true rfl) (⟨rfl, rfl⟩)
  · have hP : va_P V.1 vwCl [(y 0, .inr (9, [.ref (y 1), .int 0, .ref (y 2), .ref (y 10), .ref (y 19), .ref (y 25), .ref (y 26), .ref (y 30), .ref (y 31), .ref (y 32), .null, .null, .int 0, .int 0, .int 0])), (y 2, .inr (1, [.int 0, .int 0, .int 0, .int 0, .int 0, .int 0, .ref (y 3), .ref (y 4), .ref (y 5), .ref (y 6), .ref (y 7), .ref (y 8), .ref (y 9), .int 0, .int 0, .int 0, .int 0, .int 0]))] H := hP
    have hD : va_D A [(y 0, .inr (9, [.ref (y 1), .int 0, .ref (y 2), .ref (y 10), .ref (y 19), .ref (y 25), .ref (y 26), .ref (y 30), .ref (y 31), .ref (y 32), .null, .null, .int 0, .int 0, .int 0])), (y 2, .inr (1, [.int 0, .int 0, .int 0, .int 0, .int 0, .int 0, .ref (y 3), .ref (y 4), .ref (y 5), .ref (y 6), .ref (y 7), .ref (y 8), .ref (y 9), .int 0, .int 0, .int 0, .int 0, .int 0]))] := hD
    refine lv_if_eq (tgt := 15) hx hb dX9_refusalOfTold_4 (by decide) (fun c_9 => absurd c_9 (by decide)) (fun _ => ?_)
    refine lv_aload_n hx hb dX9_refusalOfTold_7 rfl (lv_at hl 0 rfl) ?_
    refine lv_iload_n hx hb dX9_refusalOfTold_8 rfl (lv_at hl 2 rfl) ?_
    refine jnI (wr := []) (rnV (rest := []) ⟨hx, hb, hml, hown, hg⟩ (c_X9_isHill_0 l V y p1) mt_X9_isHill q_3_122 ⟨Nat.le_of_ble_eq_true rfl, Nat.le_of_ble_eq_true rfl⟩ hK hP hD hS hA hE [0, 1] rfl rfl 0 rfl rfl rfl rfl hl.1 rfl (Nat.le_of_ble_eq_true rfl) dX9_refusalOfTold_9 ⟨Nat.le_of_ble_eq_true rfl, Nat.le_of_ble_eq_true rfl⟩) hP hD hS hA [0, 1] [] rfl rfl rfl (by decide) (fun r_10 w H locs hw hP hD hS => ?_)
    obtain ⟨rfl, rfl⟩ := hw
    have hP : va_P V.1 vwCl [(y 0, .inr (9, [.ref (y 1), .int 0, .ref (y 2), .ref (y 10), .ref (y 19), .ref (y 25), .ref (y 26), .ref (y 30), .ref (y 31), .ref (y 32), .null, .null, .int 0, .int 0, .int 0])), (y 2, .inr (1, [.int 0, .int 0, .int 0, .int 0, .int 0, .int 0, .ref (y 3), .ref (y 4), .ref (y 5), .ref (y 6), .ref (y 7), .ref (y 8), .ref (y 9), .int 0, .int 0, .int 0, .int 0, .int 0]))] H := hP
    have hD : va_D A [(y 0, .inr (9, [.ref (y 1), .int 0, .ref (y 2), .ref (y 10), .ref (y 19), .ref (y 25), .ref (y 26), .ref (y 30), .ref (y 31), .ref (y 32), .null, .null, .int 0, .int 0, .int 0])), (y 2, .inr (1, [.int 0, .int 0, .int 0, .int 0, .int 0, .int 0, .ref (y 3), .ref (y 4), .ref (y 5), .ref (y 6), .ref (y 7), .ref (y 8), .ref (y 9), .int 0, .int 0, .int 0, .int 0, .int 0]))] := hD
    refine lv_if_ne (tgt := 18) hx hb dX9_refusalOfTold_12 (by decide) (fun c_11 => absurd c_11 (by decide)) (fun _ => ?_)
    refine lv_bipush (v := (-2)) hx hb dX9_refusalOfTold_15 (by decide) ?_
    exact fiI hx hb hr hlk hK hP hD hS dX9_refusalOfTold_17 (Nat.le_of_ble_eq_true rfl) (Nat.le_of_ble_eq_true rfl) (⟨rfl, rfl⟩)
theorem dX9_weathers_0 : decode cX9_weathers 0 = .ok (.aload_n 0, 1) := by decide +kernel
theorem dX9_weathers_1 : decode cX9_weathers 1 = .ok (.iload_n 1, 1) := by decide +kernel
theorem dX9_weathers_2 : decode cX9_weathers 2 = .ok (.iload_n 2, 1) := by decide +kernel
theorem dX9_weathers_3 : decode cX9_weathers 3 = .ok (.iconst 0, 1) := by decide +kernel
theorem dX9_weathers_4 : decode cX9_weathers 4 = .ok (.invokevirtual 318, 3) := by decide +kernel
theorem dX9_weathers_7 : decode cX9_weathers 7 = .ok (.istore_n 3, 1) := by decide +kernel
theorem dX9_weathers_8 : decode cX9_weathers 8 = .ok (.iload_n 3, 1) := by decide +kernel
theorem dX9_weathers_9 : decode cX9_weathers 9 = .ok (.ifCond .eq 7, 3) := by decide +kernel
theorem dX9_weathers_12 : decode cX9_weathers 12 = .ok (.iload_n 3, 1) := by decide +kernel
theorem dX9_weathers_13 : decode cX9_weathers 13 = .ok (.goto 14, 3) := by decide +kernel
theorem dX9_weathers_27 : decode cX9_weathers 27 = .ok (.ireturn, 1) := by decide +kernel
set_option maxHeartbeats 4000000 in
set_option maxRecDepth 100000 in
theorem c_X9_weathers_0 (l : Launch) (V : GV) (y : Nat → Nat) (p0 : Int32) (p1 : Int32) : Ct l V yX9_weathers (.code yX9_weathers cX9_weathers 4 (some .int)) 3 [.ref (y 0), .int p0, .int p1] [(y 0, .inr (9, [.ref (y 1), .int 0, .ref (y 2), .ref (y 10), .ref (y 19), .ref (y 25), .ref (y 26), .ref (y 30), .ref (y 31), .ref (y 32), .null, .null, .int 0, .int 0, .int 0])), (y 2, .inr (1, [.int 0, .int 0, .int 0, .int 0, .int 0, .int 0, .ref (y 3), .ref (y 4), .ref (y 5), .ref (y 6), .ref (y 7), .ref (y 8), .ref (y 9), .int 0, .int 0, .int 0, .int 0, .int 0]))] 0 0 (QI V (fun (r : Int32) (w : va_W) => (r = (-2) ∧ w = [(y 0, .inr (9, [.ref (y 1), .int 0, .ref (y 2), .ref (y 10), .ref (y 19), .ref (y 25), .ref (y 26), .ref (y 30), .ref (y 31), .ref (y 32), .null, .null, .int 0, .int 0, .int 0])), (y 2, .inr (1, [.int 0, .int 0, .int 0, .int 0, .int 0, .int 0, .ref (y 3), .ref (y 4), .ref (y 5), .ref (y 6), .ref (y 7), .ref (y 8), .ref (y 9), .int 0, .int 0, .int 0, .int 0, .int 0]))]))) := by
  refine Ct.of (by decide) (Nat.le_of_ble_eq_true rfl) (fun p e s m below meth c A ls hx hb hr hml hown hlk hnm hg hP hK hD hE hA hS hl => ?_)
  have hl : lv_has ls 4 [(0, .ref (y 0)), (1, .int p0), (2, .int p1)] := hl
  refine lv_aload_n hx hb dX9_weathers_0 rfl (lv_at hl 0 rfl) ?_
  refine lv_iload_n hx hb dX9_weathers_1 rfl (lv_at hl 1 rfl) ?_
  refine lv_iload_n hx hb dX9_weathers_2 rfl (lv_at hl 2 rfl) ?_
  refine lv_iconst (v := 0) hx hb dX9_weathers_3 (by decide) ?_
  refine jnI (wr := []) (rnV (rest := []) ⟨hx, hb, hml, hown, hg⟩ (c_X9_refusalOfTold_1 l V y p0 p1) mt_X9_refusalOfTold q_5_21 ⟨Nat.le_of_ble_eq_true rfl, Nat.le_of_ble_eq_true rfl⟩ hK hP hD hS hA hE [0, 1] rfl rfl 0 rfl rfl rfl rfl hl.1 rfl (Nat.le_of_ble_eq_true rfl) dX9_weathers_4 ⟨Nat.le_of_ble_eq_true rfl, Nat.le_of_ble_eq_true rfl⟩) hP hD hS hA [0, 1] [] rfl rfl rfl (by decide) (fun r_1 w H locs hw hP hD hS => ?_)
  obtain ⟨rfl, rfl⟩ := hw
  have hP : va_P V.1 vwCl [(y 0, .inr (9, [.ref (y 1), .int 0, .ref (y 2), .ref (y 10), .ref (y 19), .ref (y 25), .ref (y 26), .ref (y 30), .ref (y 31), .ref (y 32), .null, .null, .int 0, .int 0, .int 0])), (y 2, .inr (1, [.int 0, .int 0, .int 0, .int 0, .int 0, .int 0, .ref (y 3), .ref (y 4), .ref (y 5), .ref (y 6), .ref (y 7), .ref (y 8), .ref (y 9), .int 0, .int 0, .int 0, .int 0, .int 0]))] H := hP
  have hD : va_D A [(y 0, .inr (9, [.ref (y 1), .int 0, .ref (y 2), .ref (y 10), .ref (y 19), .ref (y 25), .ref (y 26), .ref (y 30), .ref (y 31), .ref (y 32), .null, .null, .int 0, .int 0, .int 0])), (y 2, .inr (1, [.int 0, .int 0, .int 0, .int 0, .int 0, .int 0, .ref (y 3), .ref (y 4), .ref (y 5), .ref (y 6), .ref (y 7), .ref (y 8), .ref (y 9), .int 0, .int 0, .int 0, .int 0, .int 0]))] := hD
  refine lv_istore_n (lv' := [(3, .int (-2)), (0, .ref (y 0)), (1, .int p0), (2, .int p1)]) hx hb dX9_weathers_7 rfl hl (by decide) rfl (fun ls hl => ?_)
  refine lv_iload_n hx hb dX9_weathers_8 rfl (lv_at hl 0 rfl) ?_
  refine lv_if_eq (tgt := 16) hx hb dX9_weathers_9 (by decide) (fun c_2 => absurd c_2 (by decide)) (fun _ => ?_)
  refine lv_iload_n hx hb dX9_weathers_12 rfl (lv_at hl 0 rfl) ?_
  refine lv_goto (tgt := 27) hx hb dX9_weathers_13 (by decide) ?_
  exact fiI hx hb hr hlk hK hP hD hS dX9_weathers_27 (Nat.le_of_ble_eq_true rfl) (Nat.le_of_ble_eq_true rfl) (⟨rfl, rfl⟩)
theorem dX10_attempt_0 : decode cX10_attempt 0 = .ok (.aload_n 0, 1) := by decide +kernel
theorem dX10_attempt_1 : decode cX10_attempt 1 = .ok (.iconst 0, 1) := by decide +kernel
theorem dX10_attempt_2 : decode cX10_attempt 2 = .ok (.putfield 1, 3) := by decide +kernel
theorem dX10_attempt_5 : decode cX10_attempt 5 = .ok (.aload_n 0, 1) := by decide +kernel
theorem dX10_attempt_6 : decode cX10_attempt 6 = .ok (.iload_n 1, 1) := by decide +kernel
theorem dX10_attempt_7 : decode cX10_attempt 7 = .ok (.iload_n 2, 1) := by decide +kernel
theorem dX10_attempt_8 : decode cX10_attempt 8 = .ok (.iconst 0, 1) := by decide +kernel
theorem dX10_attempt_9 : decode cX10_attempt 9 = .ok (.invokevirtual 425, 3) := by decide +kernel
theorem dX10_attempt_12 : decode cX10_attempt 12 = .ok (.istore_n 3, 1) := by decide +kernel
theorem dX10_attempt_13 : decode cX10_attempt 13 = .ok (.iload_n 3, 1) := by decide +kernel
theorem dX10_attempt_14 : decode cX10_attempt 14 = .ok (.ifCond .eq 5, 3) := by decide +kernel
theorem dX10_attempt_17 : decode cX10_attempt 17 = .ok (.iload_n 3, 1) := by decide +kernel
theorem dX10_attempt_18 : decode cX10_attempt 18 = .ok (.ireturn, 1) := by decide +kernel
set_option maxHeartbeats 4000000 in
set_option maxRecDepth 100000 in
theorem c_X10_attempt_0 (l : Launch) (V : GV) (z : Nat → Nat) (p0 : Int32) (p1 : Int32) : Ct l V yX10_attempt (.code yX10_attempt cX10_attempt 9 (some .int)) 4 [.ref (z 0), .int p0, .int p1] [(z 0, .inr (10, mo z 0 0 0 0 0 0 0 0 0 0 (-1) 0 0 0 0 0)), (z 1, aI V 3075 (fun _ => 0))] 0 0 (QI V (fun (r : Int32) (w : va_W) => (r = (-2) ∧ w = [(z 0, .inr (10, mo z 0 0 0 0 0 0 0 0 0 0 (-1) 0 0 0 0 0)), (z 1, aI V 3075 (fun _ => 0))]))) := by
  refine Ct.of (by decide) (Nat.le_of_ble_eq_true rfl) (fun p e s m below meth c A ls hx hb hr hml hown hlk hnm hg hP hK hD hE hA hS hl => ?_)
  have hl : lv_has ls 9 [(0, .ref (z 0)), (1, .int p0), (2, .int p1)] := hl
  refine lv_aload_n hx hb dX10_attempt_0 rfl (lv_at hl 0 rfl) ?_
  refine lv_iconst (v := 0) hx hb dX10_attempt_1 (by decide) ?_
  refine va_put (ci := 10) (v := .int 0) (ty := .int) (C := RX10) (T := TX10) (N := 40) hx hb hg inX10 tyX10 tyX10_ok nmX10 hown hK hP hD hS 0 rfl rfl 0 (by decide) (hg _ q_5_224) (fun _ h9 => h9) rfl (by decide +kernel) rfl rfl (Nat.le_of_ble_eq_true rfl) dX10_attempt_2 (fun H locs hP hD hS => ?_)
  have hP : va_P V.1 vwCl [(z 0, .inr (10, mo z 0 0 0 0 0 0 0 0 0 0 (-1) 0 0 0 0 0)), (z 1, aI V 3075 (fun _ => 0))] H := hP
  have hD : va_D A [(z 0, .inr (10, mo z 0 0 0 0 0 0 0 0 0 0 (-1) 0 0 0 0 0)), (z 1, aI V 3075 (fun _ => 0))] := hD
  refine lv_aload_n hx hb dX10_attempt_5 rfl (lv_at hl 0 rfl) ?_
  refine lv_iload_n hx hb dX10_attempt_6 rfl (lv_at hl 1 rfl) ?_
  refine lv_iload_n hx hb dX10_attempt_7 rfl (lv_at hl 2 rfl) ?_
  refine lv_iconst (v := 0) hx hb dX10_attempt_8 (by decide) ?_
  refine jnI (wr := []) (rnV (rest := []) ⟨hx, hb, hml, hown, hg⟩ (c_X10_noTold_1 l V z p0 p1) mt_X10_noTold q_8_51 ⟨Nat.le_of_ble_eq_true rfl, Nat.le_of_ble_eq_true rfl⟩ hK hP hD hS hA hE [0, 1] rfl rfl 0 rfl rfl rfl rfl hl.1 rfl (Nat.le_of_ble_eq_true rfl) dX10_attempt_9 ⟨Nat.le_of_ble_eq_true rfl, Nat.le_of_ble_eq_true rfl⟩) hP hD hS hA [0, 1] [] rfl rfl rfl (by decide) (fun r_1 w H locs hw hP hD hS => ?_)
  obtain ⟨rfl, rfl⟩ := hw
  have hP : va_P V.1 vwCl [(z 0, .inr (10, mo z 0 0 0 0 0 0 0 0 0 0 (-1) 0 0 0 0 0)), (z 1, aI V 3075 (fun _ => 0))] H := hP
  have hD : va_D A [(z 0, .inr (10, mo z 0 0 0 0 0 0 0 0 0 0 (-1) 0 0 0 0 0)), (z 1, aI V 3075 (fun _ => 0))] := hD
  refine lv_istore_n (lv' := [(3, .int (-2)), (0, .ref (z 0)), (1, .int p0), (2, .int p1)]) hx hb dX10_attempt_12 rfl hl (by decide) rfl (fun ls hl => ?_)
  refine lv_iload_n hx hb dX10_attempt_13 rfl (lv_at hl 0 rfl) ?_
  refine lv_if_eq (tgt := 19) hx hb dX10_attempt_14 (by decide) (fun c_2 => absurd c_2 (by decide)) (fun _ => ?_)
  refine lv_iload_n hx hb dX10_attempt_17 rfl (lv_at hl 0 rfl) ?_
  exact fiI hx hb hr hlk hK hP hD hS dX10_attempt_18 (Nat.le_of_ble_eq_true rfl) (Nat.le_of_ble_eq_true rfl) (⟨rfl, rfl⟩)
theorem dX9_attempt_0 : decode cX9_attempt 0 = .ok (.aload_n 0, 1) := by decide +kernel
theorem dX9_attempt_1 : decode cX9_attempt 1 = .ok (.iload_n 1, 1) := by decide +kernel
theorem dX9_attempt_2 : decode cX9_attempt 2 = .ok (.iload_n 2, 1) := by decide +kernel
theorem dX9_attempt_3 : decode cX9_attempt 3 = .ok (.iconst 0, 1) := by decide +kernel
theorem dX9_attempt_4 : decode cX9_attempt 4 = .ok (.invokevirtual 318, 3) := by decide +kernel
theorem dX9_attempt_7 : decode cX9_attempt 7 = .ok (.istore_n 3, 1) := by decide +kernel
theorem dX9_attempt_8 : decode cX9_attempt 8 = .ok (.iload_n 3, 1) := by decide +kernel
theorem dX9_attempt_9 : decode cX9_attempt 9 = .ok (.ifCond .eq 5, 3) := by decide +kernel
theorem dX9_attempt_12 : decode cX9_attempt 12 = .ok (.iload_n 3, 1) := by decide +kernel
theorem dX9_attempt_13 : decode cX9_attempt 13 = .ok (.ireturn, 1) := by decide +kernel
set_option maxHeartbeats 4000000 in
set_option maxRecDepth 100000 in
theorem c_X9_attempt_0 (l : Launch) (V : GV) (y : Nat → Nat) (p0 : Int32) (p1 : Int32) : Ct l V yX9_attempt (.code yX9_attempt cX9_attempt 9 (some .int)) 3 [.ref (y 0), .int p0, .int p1] [(y 0, .inr (9, [.ref (y 1), .int 0, .ref (y 2), .ref (y 10), .ref (y 19), .ref (y 25), .ref (y 26), .ref (y 30), .ref (y 31), .ref (y 32), .null, .null, .int 0, .int 0, .int 0])), (y 2, .inr (1, [.int 0, .int 0, .int 0, .int 0, .int 0, .int 0, .ref (y 3), .ref (y 4), .ref (y 5), .ref (y 6), .ref (y 7), .ref (y 8), .ref (y 9), .int 0, .int 0, .int 0, .int 0, .int 0]))] 0 0 (QI V (fun (r : Int32) (w : va_W) => (r = (-2) ∧ w = [(y 0, .inr (9, [.ref (y 1), .int 0, .ref (y 2), .ref (y 10), .ref (y 19), .ref (y 25), .ref (y 26), .ref (y 30), .ref (y 31), .ref (y 32), .null, .null, .int 0, .int 0, .int 0])), (y 2, .inr (1, [.int 0, .int 0, .int 0, .int 0, .int 0, .int 0, .ref (y 3), .ref (y 4), .ref (y 5), .ref (y 6), .ref (y 7), .ref (y 8), .ref (y 9), .int 0, .int 0, .int 0, .int 0, .int 0]))]))) := by
  refine Ct.of (by decide) (Nat.le_of_ble_eq_true rfl) (fun p e s m below meth c A ls hx hb hr hml hown hlk hnm hg hP hK hD hE hA hS hl => ?_)
  have hl : lv_has ls 9 [(0, .ref (y 0)), (1, .int p0), (2, .int p1)] := hl
  refine lv_aload_n hx hb dX9_attempt_0 rfl (lv_at hl 0 rfl) ?_
  refine lv_iload_n hx hb dX9_attempt_1 rfl (lv_at hl 1 rfl) ?_
  refine lv_iload_n hx hb dX9_attempt_2 rfl (lv_at hl 2 rfl) ?_
  refine lv_iconst (v := 0) hx hb dX9_attempt_3 (by decide) ?_
  refine jnI (wr := []) (rnV (rest := []) ⟨hx, hb, hml, hown, hg⟩ (c_X9_refusalOfTold_1 l V y p0 p1) mt_X9_refusalOfTold q_5_21 ⟨Nat.le_of_ble_eq_true rfl, Nat.le_of_ble_eq_true rfl⟩ hK hP hD hS hA hE [0, 1] rfl rfl 0 rfl rfl rfl rfl hl.1 rfl (Nat.le_of_ble_eq_true rfl) dX9_attempt_4 ⟨Nat.le_of_ble_eq_true rfl, Nat.le_of_ble_eq_true rfl⟩) hP hD hS hA [0, 1] [] rfl rfl rfl (by decide) (fun r_1 w H locs hw hP hD hS => ?_)
  obtain ⟨rfl, rfl⟩ := hw
  have hP : va_P V.1 vwCl [(y 0, .inr (9, [.ref (y 1), .int 0, .ref (y 2), .ref (y 10), .ref (y 19), .ref (y 25), .ref (y 26), .ref (y 30), .ref (y 31), .ref (y 32), .null, .null, .int 0, .int 0, .int 0])), (y 2, .inr (1, [.int 0, .int 0, .int 0, .int 0, .int 0, .int 0, .ref (y 3), .ref (y 4), .ref (y 5), .ref (y 6), .ref (y 7), .ref (y 8), .ref (y 9), .int 0, .int 0, .int 0, .int 0, .int 0]))] H := hP
  have hD : va_D A [(y 0, .inr (9, [.ref (y 1), .int 0, .ref (y 2), .ref (y 10), .ref (y 19), .ref (y 25), .ref (y 26), .ref (y 30), .ref (y 31), .ref (y 32), .null, .null, .int 0, .int 0, .int 0])), (y 2, .inr (1, [.int 0, .int 0, .int 0, .int 0, .int 0, .int 0, .ref (y 3), .ref (y 4), .ref (y 5), .ref (y 6), .ref (y 7), .ref (y 8), .ref (y 9), .int 0, .int 0, .int 0, .int 0, .int 0]))] := hD
  refine lv_istore_n (lv' := [(3, .int (-2)), (0, .ref (y 0)), (1, .int p0), (2, .int p1)]) hx hb dX9_attempt_7 rfl hl (by decide) rfl (fun ls hl => ?_)
  refine lv_iload_n hx hb dX9_attempt_8 rfl (lv_at hl 0 rfl) ?_
  refine lv_if_eq (tgt := 14) hx hb dX9_attempt_9 (by decide) (fun c_2 => absurd c_2 (by decide)) (fun _ => ?_)
  refine lv_iload_n hx hb dX9_attempt_12 rfl (lv_at hl 0 rfl) ?_
  exact fiI hx hb hr hlk hK hP hD hS dX9_attempt_13 (Nat.le_of_ble_eq_true rfl) (Nat.le_of_ble_eq_true rfl) (⟨rfl, rfl⟩)
theorem dX10_forces_0 : decode cX10_forces 0 = .ok (.aload_n 0, 1) := by decide +kernel
theorem dX10_forces_1 : decode cX10_forces 1 = .ok (.iconst 0, 1) := by decide +kernel
theorem dX10_forces_2 : decode cX10_forces 2 = .ok (.putfield 1, 3) := by decide +kernel
theorem dX10_forces_5 : decode cX10_forces 5 = .ok (.aload_n 0, 1) := by decide +kernel
theorem dX10_forces_6 : decode cX10_forces 6 = .ok (.iload_n 1, 1) := by decide +kernel
theorem dX10_forces_7 : decode cX10_forces 7 = .ok (.iload_n 2, 1) := by decide +kernel
theorem dX10_forces_8 : decode cX10_forces 8 = .ok (.invokevirtual 373, 3) := by decide +kernel
theorem dX10_forces_11 : decode cX10_forces 11 = .ok (.istore_n 3, 1) := by decide +kernel
theorem dX10_forces_12 : decode cX10_forces 12 = .ok (.iload_n 3, 1) := by decide +kernel
theorem dX10_forces_13 : decode cX10_forces 13 = .ok (.ifCond .eq 7, 3) := by decide +kernel
theorem dX10_forces_16 : decode cX10_forces 16 = .ok (.iload_n 3, 1) := by decide +kernel
theorem dX10_forces_17 : decode cX10_forces 17 = .ok (.goto 12, 3) := by decide +kernel
theorem dX10_forces_29 : decode cX10_forces 29 = .ok (.ireturn, 1) := by decide +kernel
set_option maxHeartbeats 4000000 in
set_option maxRecDepth 100000 in
theorem c_X10_forces_0 (l : Launch) (V : GV) (z : Nat → Nat) (p0 : Int32) (p1 : Int32) : Ct l V yX10_forces (.code yX10_forces cX10_forces 4 (some .int)) 4 [.ref (z 0), .int p0, .int p1] [(z 0, .inr (10, mo z 0 0 0 0 0 0 0 0 0 0 (-1) 0 0 0 0 0)), (z 1, aI V 3075 (fun _ => 0))] 0 0 (QI V (fun (r : Int32) (w : va_W) => (r = (-2) ∧ w = [(z 0, .inr (10, mo z 0 0 0 0 0 0 0 0 0 0 (-1) 0 0 0 0 0)), (z 1, aI V 3075 (fun _ => 0))]))) := by
  refine Ct.of (by decide) (Nat.le_of_ble_eq_true rfl) (fun p e s m below meth c A ls hx hb hr hml hown hlk hnm hg hP hK hD hE hA hS hl => ?_)
  have hl : lv_has ls 4 [(0, .ref (z 0)), (1, .int p0), (2, .int p1)] := hl
  refine lv_aload_n hx hb dX10_forces_0 rfl (lv_at hl 0 rfl) ?_
  refine lv_iconst (v := 0) hx hb dX10_forces_1 (by decide) ?_
  refine va_put (ci := 10) (v := .int 0) (ty := .int) (C := RX10) (T := TX10) (N := 40) hx hb hg inX10 tyX10 tyX10_ok nmX10 hown hK hP hD hS 0 rfl rfl 0 (by decide) (hg _ q_5_224) (fun _ h9 => h9) rfl (by decide +kernel) rfl rfl (Nat.le_of_ble_eq_true rfl) dX10_forces_2 (fun H locs hP hD hS => ?_)
  have hP : va_P V.1 vwCl [(z 0, .inr (10, mo z 0 0 0 0 0 0 0 0 0 0 (-1) 0 0 0 0 0)), (z 1, aI V 3075 (fun _ => 0))] H := hP
  have hD : va_D A [(z 0, .inr (10, mo z 0 0 0 0 0 0 0 0 0 0 (-1) 0 0 0 0 0)), (z 1, aI V 3075 (fun _ => 0))] := hD
  refine lv_aload_n hx hb dX10_forces_5 rfl (lv_at hl 0 rfl) ?_
  refine lv_iload_n hx hb dX10_forces_6 rfl (lv_at hl 1 rfl) ?_
  refine lv_iload_n hx hb dX10_forces_7 rfl (lv_at hl 2 rfl) ?_
  refine jnI (wr := []) (rnV (rest := []) ⟨hx, hb, hml, hown, hg⟩ (c_X10_noHigh_0 l V z p0 p1) mt_X10_noHigh q_7_182 ⟨Nat.le_of_ble_eq_true rfl, Nat.le_of_ble_eq_true rfl⟩ hK hP hD hS hA hE [0, 1] rfl rfl 0 rfl rfl rfl rfl hl.1 rfl (Nat.le_of_ble_eq_true rfl) dX10_forces_8 ⟨Nat.le_of_ble_eq_true rfl, Nat.le_of_ble_eq_true rfl⟩) hP hD hS hA [0, 1] [] rfl rfl rfl (by decide) (fun r_1 w H locs hw hP hD hS => ?_)
  obtain ⟨rfl, rfl⟩ := hw
  have hP : va_P V.1 vwCl [(z 0, .inr (10, mo z 0 0 0 0 0 0 0 0 0 0 (-1) 0 0 0 0 0)), (z 1, aI V 3075 (fun _ => 0))] H := hP
  have hD : va_D A [(z 0, .inr (10, mo z 0 0 0 0 0 0 0 0 0 0 (-1) 0 0 0 0 0)), (z 1, aI V 3075 (fun _ => 0))] := hD
  refine lv_istore_n (lv' := [(3, .int (-2)), (0, .ref (z 0)), (1, .int p0), (2, .int p1)]) hx hb dX10_forces_11 rfl hl (by decide) rfl (fun ls hl => ?_)
  refine lv_iload_n hx hb dX10_forces_12 rfl (lv_at hl 0 rfl) ?_
  refine lv_if_eq (tgt := 20) hx hb dX10_forces_13 (by decide) (fun c_2 => absurd c_2 (by decide)) (fun _ => ?_)
  refine lv_iload_n hx hb dX10_forces_16 rfl (lv_at hl 0 rfl) ?_
  refine lv_goto (tgt := 29) hx hb dX10_forces_17 (by decide) ?_
  exact fiI hx hb hr hlk hK hP hD hS dX10_forces_29 (Nat.le_of_ble_eq_true rfl) (Nat.le_of_ble_eq_true rfl) (⟨rfl, rfl⟩)
theorem dX9_forces_0 : decode cX9_forces 0 = .ok (.aload_n 0, 1) := by decide +kernel
theorem dX9_forces_1 : decode cX9_forces 1 = .ok (.iload_n 1, 1) := by decide +kernel
theorem dX9_forces_2 : decode cX9_forces 2 = .ok (.invokevirtual 128, 3) := by decide +kernel
theorem dX9_forces_5 : decode cX9_forces 5 = .ok (.ifCond .ne 6, 3) := by decide +kernel
theorem dX9_forces_8 : decode cX9_forces 8 = .ok (.bipush (-2), 2) := by decide +kernel
theorem dX9_forces_10 : decode cX9_forces 10 = .ok (.ireturn, 1) := by decide +kernel
set_option maxHeartbeats 4000000 in
set_option maxRecDepth 100000 in
theorem c_X9_forces_0 (l : Launch) (V : GV) (y : Nat → Nat) (p0 : Int32) (p1 : Int32) : Ct l V yX9_forces (.code yX9_forces cX9_forces 4 (some .int)) 2 [.ref (y 0), .int p0, .int p1] [(y 0, .inr (9, [.ref (y 1), .int 0, .ref (y 2), .ref (y 10), .ref (y 19), .ref (y 25), .ref (y 26), .ref (y 30), .ref (y 31), .ref (y 32), .null, .null, .int 0, .int 0, .int 0])), (y 2, .inr (1, [.int 0, .int 0, .int 0, .int 0, .int 0, .int 0, .ref (y 3), .ref (y 4), .ref (y 5), .ref (y 6), .ref (y 7), .ref (y 8), .ref (y 9), .int 0, .int 0, .int 0, .int 0, .int 0]))] 0 0 (QI V (fun (r : Int32) (w : va_W) => (r = (-2) ∧ w = [(y 0, .inr (9, [.ref (y 1), .int 0, .ref (y 2), .ref (y 10), .ref (y 19), .ref (y 25), .ref (y 26), .ref (y 30), .ref (y 31), .ref (y 32), .null, .null, .int 0, .int 0, .int 0])), (y 2, .inr (1, [.int 0, .int 0, .int 0, .int 0, .int 0, .int 0, .ref (y 3), .ref (y 4), .ref (y 5), .ref (y 6), .ref (y 7), .ref (y 8), .ref (y 9), .int 0, .int 0, .int 0, .int 0, .int 0]))]))) := by
  refine Ct.of (by decide) (Nat.le_of_ble_eq_true rfl) (fun p e s m below meth c A ls hx hb hr hml hown hlk hnm hg hP hK hD hE hA hS hl => ?_)
  have hl : lv_has ls 4 [(0, .ref (y 0)), (1, .int p0), (2, .int p1)] := hl
  refine lv_aload_n hx hb dX9_forces_0 rfl (lv_at hl 0 rfl) ?_
  refine lv_iload_n hx hb dX9_forces_1 rfl (lv_at hl 1 rfl) ?_
  refine jnI (wr := []) (rnV (rest := []) ⟨hx, hb, hml, hown, hg⟩ (c_X9_isHill_0 l V y p0) mt_X9_isHill q_3_122 ⟨Nat.le_of_ble_eq_true rfl, Nat.le_of_ble_eq_true rfl⟩ hK hP hD hS hA hE [0, 1] rfl rfl 0 rfl rfl rfl rfl hl.1 rfl (Nat.le_of_ble_eq_true rfl) dX9_forces_2 ⟨Nat.le_of_ble_eq_true rfl, Nat.le_of_ble_eq_true rfl⟩) hP hD hS hA [0, 1] [] rfl rfl rfl (by decide) (fun r_1 w H locs hw hP hD hS => ?_)
  obtain ⟨rfl, rfl⟩ := hw
  have hP : va_P V.1 vwCl [(y 0, .inr (9, [.ref (y 1), .int 0, .ref (y 2), .ref (y 10), .ref (y 19), .ref (y 25), .ref (y 26), .ref (y 30), .ref (y 31), .ref (y 32), .null, .null, .int 0, .int 0, .int 0])), (y 2, .inr (1, [.int 0, .int 0, .int 0, .int 0, .int 0, .int 0, .ref (y 3), .ref (y 4), .ref (y 5), .ref (y 6), .ref (y 7), .ref (y 8), .ref (y 9), .int 0, .int 0, .int 0, .int 0, .int 0]))] H := hP
  have hD : va_D A [(y 0, .inr (9, [.ref (y 1), .int 0, .ref (y 2), .ref (y 10), .ref (y 19), .ref (y 25), .ref (y 26), .ref (y 30), .ref (y 31), .ref (y 32), .null, .null, .int 0, .int 0, .int 0])), (y 2, .inr (1, [.int 0, .int 0, .int 0, .int 0, .int 0, .int 0, .ref (y 3), .ref (y 4), .ref (y 5), .ref (y 6), .ref (y 7), .ref (y 8), .ref (y 9), .int 0, .int 0, .int 0, .int 0, .int 0]))] := hD
  refine lv_if_ne (tgt := 11) hx hb dX9_forces_5 (by decide) (fun c_2 => absurd c_2 (by decide)) (fun _ => ?_)
  refine lv_bipush (v := (-2)) hx hb dX9_forces_8 (by decide) ?_
  exact fiI hx hb hr hlk hK hP hD hS dX9_forces_10 (Nat.le_of_ble_eq_true rfl) (Nat.le_of_ble_eq_true rfl) (⟨rfl, rfl⟩)
theorem dX10_best_0 : decode cX10_best 0 = .ok (.aload_n 0, 1) := by decide +kernel
theorem dX10_best_1 : decode cX10_best 1 = .ok (.iconst 0, 1) := by decide +kernel
theorem dX10_best_2 : decode cX10_best 2 = .ok (.putfield 1, 3) := by decide +kernel
theorem dX10_best_5 : decode cX10_best 5 = .ok (.aload_n 0, 1) := by decide +kernel
theorem dX10_best_6 : decode cX10_best 6 = .ok (.iload_n 1, 1) := by decide +kernel
theorem dX10_best_7 : decode cX10_best 7 = .ok (.iload_n 2, 1) := by decide +kernel
theorem dX10_best_8 : decode cX10_best 8 = .ok (.invokevirtual 373, 3) := by decide +kernel
theorem dX10_best_11 : decode cX10_best 11 = .ok (.istore_n 3, 1) := by decide +kernel
theorem dX10_best_12 : decode cX10_best 12 = .ok (.iload_n 3, 1) := by decide +kernel
theorem dX10_best_13 : decode cX10_best 13 = .ok (.ifCond .eq 5, 3) := by decide +kernel
theorem dX10_best_16 : decode cX10_best 16 = .ok (.iload_n 3, 1) := by decide +kernel
theorem dX10_best_17 : decode cX10_best 17 = .ok (.ireturn, 1) := by decide +kernel
set_option maxHeartbeats 4000000 in
set_option maxRecDepth 100000 in
theorem c_X10_best_0 (l : Launch) (V : GV) (z : Nat → Nat) (p0 : Int32) (p1 : Int32) : Ct l V yX10_best (.code yX10_best cX10_best 6 (some .int)) 4 [.ref (z 0), .int p0, .int p1] [(z 0, .inr (10, mo z 0 0 0 0 0 0 0 0 0 0 (-1) 0 0 0 0 0)), (z 1, aI V 3075 (fun _ => 0))] 0 0 (QI V (fun (r : Int32) (w : va_W) => (r = (-2) ∧ w = [(z 0, .inr (10, mo z 0 0 0 0 0 0 0 0 0 0 (-1) 0 0 0 0 0)), (z 1, aI V 3075 (fun _ => 0))]))) := by
  refine Ct.of (by decide) (Nat.le_of_ble_eq_true rfl) (fun p e s m below meth c A ls hx hb hr hml hown hlk hnm hg hP hK hD hE hA hS hl => ?_)
  have hl : lv_has ls 6 [(0, .ref (z 0)), (1, .int p0), (2, .int p1)] := hl
  refine lv_aload_n hx hb dX10_best_0 rfl (lv_at hl 0 rfl) ?_
  refine lv_iconst (v := 0) hx hb dX10_best_1 (by decide) ?_
  refine va_put (ci := 10) (v := .int 0) (ty := .int) (C := RX10) (T := TX10) (N := 40) hx hb hg inX10 tyX10 tyX10_ok nmX10 hown hK hP hD hS 0 rfl rfl 0 (by decide) (hg _ q_5_224) (fun _ h9 => h9) rfl (by decide +kernel) rfl rfl (Nat.le_of_ble_eq_true rfl) dX10_best_2 (fun H locs hP hD hS => ?_)
  have hP : va_P V.1 vwCl [(z 0, .inr (10, mo z 0 0 0 0 0 0 0 0 0 0 (-1) 0 0 0 0 0)), (z 1, aI V 3075 (fun _ => 0))] H := hP
  have hD : va_D A [(z 0, .inr (10, mo z 0 0 0 0 0 0 0 0 0 0 (-1) 0 0 0 0 0)), (z 1, aI V 3075 (fun _ => 0))] := hD
  refine lv_aload_n hx hb dX10_best_5 rfl (lv_at hl 0 rfl) ?_
  refine lv_iload_n hx hb dX10_best_6 rfl (lv_at hl 1 rfl) ?_
  refine lv_iload_n hx hb dX10_best_7 rfl (lv_at hl 2 rfl) ?_
  refine jnI (wr := []) (rnV (rest := []) ⟨hx, hb, hml, hown, hg⟩ (c_X10_noHigh_0 l V z p0 p1) mt_X10_noHigh q_7_182 ⟨Nat.le_of_ble_eq_true rfl, Nat.le_of_ble_eq_true rfl⟩ hK hP hD hS hA hE [0, 1] rfl rfl 0 rfl rfl rfl rfl hl.1 rfl (Nat.le_of_ble_eq_true rfl) dX10_best_8 ⟨Nat.le_of_ble_eq_true rfl, Nat.le_of_ble_eq_true rfl⟩) hP hD hS hA [0, 1] [] rfl rfl rfl (by decide) (fun r_1 w H locs hw hP hD hS => ?_)
  obtain ⟨rfl, rfl⟩ := hw
  have hP : va_P V.1 vwCl [(z 0, .inr (10, mo z 0 0 0 0 0 0 0 0 0 0 (-1) 0 0 0 0 0)), (z 1, aI V 3075 (fun _ => 0))] H := hP
  have hD : va_D A [(z 0, .inr (10, mo z 0 0 0 0 0 0 0 0 0 0 (-1) 0 0 0 0 0)), (z 1, aI V 3075 (fun _ => 0))] := hD
  refine lv_istore_n (lv' := [(3, .int (-2)), (0, .ref (z 0)), (1, .int p0), (2, .int p1)]) hx hb dX10_best_11 rfl hl (by decide) rfl (fun ls hl => ?_)
  refine lv_iload_n hx hb dX10_best_12 rfl (lv_at hl 0 rfl) ?_
  refine lv_if_eq (tgt := 18) hx hb dX10_best_13 (by decide) (fun c_2 => absurd c_2 (by decide)) (fun _ => ?_)
  refine lv_iload_n hx hb dX10_best_16 rfl (lv_at hl 0 rfl) ?_
  exact fiI hx hb hr hlk hK hP hD hS dX10_best_17 (Nat.le_of_ble_eq_true rfl) (Nat.le_of_ble_eq_true rfl) (⟨rfl, rfl⟩)
theorem dX9_best_0 : decode cX9_best 0 = .ok (.aload_n 0, 1) := by decide +kernel
theorem dX9_best_1 : decode cX9_best 1 = .ok (.iload_n 1, 1) := by decide +kernel
theorem dX9_best_2 : decode cX9_best 2 = .ok (.invokevirtual 128, 3) := by decide +kernel
theorem dX9_best_5 : decode cX9_best 5 = .ok (.ifCond .ne 6, 3) := by decide +kernel
theorem dX9_best_8 : decode cX9_best 8 = .ok (.bipush (-2), 2) := by decide +kernel
theorem dX9_best_10 : decode cX9_best 10 = .ok (.ireturn, 1) := by decide +kernel
set_option maxHeartbeats 4000000 in
set_option maxRecDepth 100000 in
theorem c_X9_best_0 (l : Launch) (V : GV) (y : Nat → Nat) (p0 : Int32) (p1 : Int32) : Ct l V yX9_best (.code yX9_best cX9_best 6 (some .int)) 2 [.ref (y 0), .int p0, .int p1] [(y 0, .inr (9, [.ref (y 1), .int 0, .ref (y 2), .ref (y 10), .ref (y 19), .ref (y 25), .ref (y 26), .ref (y 30), .ref (y 31), .ref (y 32), .null, .null, .int 0, .int 0, .int 0])), (y 2, .inr (1, [.int 0, .int 0, .int 0, .int 0, .int 0, .int 0, .ref (y 3), .ref (y 4), .ref (y 5), .ref (y 6), .ref (y 7), .ref (y 8), .ref (y 9), .int 0, .int 0, .int 0, .int 0, .int 0]))] 0 0 (QI V (fun (r : Int32) (w : va_W) => (r = (-2) ∧ w = [(y 0, .inr (9, [.ref (y 1), .int 0, .ref (y 2), .ref (y 10), .ref (y 19), .ref (y 25), .ref (y 26), .ref (y 30), .ref (y 31), .ref (y 32), .null, .null, .int 0, .int 0, .int 0])), (y 2, .inr (1, [.int 0, .int 0, .int 0, .int 0, .int 0, .int 0, .ref (y 3), .ref (y 4), .ref (y 5), .ref (y 6), .ref (y 7), .ref (y 8), .ref (y 9), .int 0, .int 0, .int 0, .int 0, .int 0]))]))) := by
  refine Ct.of (by decide) (Nat.le_of_ble_eq_true rfl) (fun p e s m below meth c A ls hx hb hr hml hown hlk hnm hg hP hK hD hE hA hS hl => ?_)
  have hl : lv_has ls 6 [(0, .ref (y 0)), (1, .int p0), (2, .int p1)] := hl
  refine lv_aload_n hx hb dX9_best_0 rfl (lv_at hl 0 rfl) ?_
  refine lv_iload_n hx hb dX9_best_1 rfl (lv_at hl 1 rfl) ?_
  refine jnI (wr := []) (rnV (rest := []) ⟨hx, hb, hml, hown, hg⟩ (c_X9_isHill_0 l V y p0) mt_X9_isHill q_3_122 ⟨Nat.le_of_ble_eq_true rfl, Nat.le_of_ble_eq_true rfl⟩ hK hP hD hS hA hE [0, 1] rfl rfl 0 rfl rfl rfl rfl hl.1 rfl (Nat.le_of_ble_eq_true rfl) dX9_best_2 ⟨Nat.le_of_ble_eq_true rfl, Nat.le_of_ble_eq_true rfl⟩) hP hD hS hA [0, 1] [] rfl rfl rfl (by decide) (fun r_1 w H locs hw hP hD hS => ?_)
  obtain ⟨rfl, rfl⟩ := hw
  have hP : va_P V.1 vwCl [(y 0, .inr (9, [.ref (y 1), .int 0, .ref (y 2), .ref (y 10), .ref (y 19), .ref (y 25), .ref (y 26), .ref (y 30), .ref (y 31), .ref (y 32), .null, .null, .int 0, .int 0, .int 0])), (y 2, .inr (1, [.int 0, .int 0, .int 0, .int 0, .int 0, .int 0, .ref (y 3), .ref (y 4), .ref (y 5), .ref (y 6), .ref (y 7), .ref (y 8), .ref (y 9), .int 0, .int 0, .int 0, .int 0, .int 0]))] H := hP
  have hD : va_D A [(y 0, .inr (9, [.ref (y 1), .int 0, .ref (y 2), .ref (y 10), .ref (y 19), .ref (y 25), .ref (y 26), .ref (y 30), .ref (y 31), .ref (y 32), .null, .null, .int 0, .int 0, .int 0])), (y 2, .inr (1, [.int 0, .int 0, .int 0, .int 0, .int 0, .int 0, .ref (y 3), .ref (y 4), .ref (y 5), .ref (y 6), .ref (y 7), .ref (y 8), .ref (y 9), .int 0, .int 0, .int 0, .int 0, .int 0]))] := hD
  refine lv_if_ne (tgt := 11) hx hb dX9_best_5 (by decide) (fun c_2 => absurd c_2 (by decide)) (fun _ => ?_)
  refine lv_bipush (v := (-2)) hx hb dX9_best_8 (by decide) ?_
  exact fiI hx hb hr hlk hK hP hD hS dX9_best_10 (Nat.le_of_ble_eq_true rfl) (Nat.le_of_ble_eq_true rfl) (⟨rfl, rfl⟩)
theorem dX10_chance_0 : decode cX10_chance 0 = .ok (.aload_n 0, 1) := by decide +kernel
theorem dX10_chance_1 : decode cX10_chance 1 = .ok (.iconst 0, 1) := by decide +kernel
theorem dX10_chance_2 : decode cX10_chance 2 = .ok (.putfield 1, 3) := by decide +kernel
theorem dX10_chance_5 : decode cX10_chance 5 = .ok (.aload_n 0, 1) := by decide +kernel
theorem dX10_chance_6 : decode cX10_chance 6 = .ok (.iload_n 1, 1) := by decide +kernel
theorem dX10_chance_7 : decode cX10_chance 7 = .ok (.i2l, 1) := by decide +kernel
theorem dX10_chance_8 : decode cX10_chance 8 = .ok (.invokevirtual 262, 3) := by decide +kernel
theorem dX10_chance_11 : decode cX10_chance 11 = .ok (.ifCond .eq 14, 3) := by decide +kernel
theorem dX10_chance_25 : decode cX10_chance 25 = .ok (.bipush (-2), 2) := by decide +kernel
theorem dX10_chance_27 : decode cX10_chance 27 = .ok (.ireturn, 1) := by decide +kernel
set_option maxHeartbeats 4000000 in
set_option maxRecDepth 100000 in
theorem c_X10_chance_0 (l : Launch) (V : GV) (z : Nat → Nat) (p0 : Int32) (p1 : Int32) (p2 : Int32) (p3 : Int32) : Ct l V yX10_chance (.code yX10_chance cX10_chance 8 (some .int)) 3 [.ref (z 0), .int p0, .int p1, .int p2, .int p3] [(z 0, .inr (10, mo z 0 0 0 0 0 0 0 0 0 0 (-1) 0 0 0 0 0)), (z 1, aI V 3075 (fun _ => 0))] 0 0 (QI V (fun (r : Int32) (w : va_W) => (r = (-2) ∧ w = [(z 0, .inr (10, mo z 0 0 0 0 0 0 0 0 0 0 (-1) 0 0 0 0 0)), (z 1, aI V 3075 (fun _ => 0))]))) := by
  refine Ct.of (by decide) (Nat.le_of_ble_eq_true rfl) (fun p e s m below meth c A ls hx hb hr hml hown hlk hnm hg hP hK hD hE hA hS hl => ?_)
  have hl : lv_has ls 8 [(0, .ref (z 0)), (1, .int p0), (2, .int p1), (3, .int p2), (4, .int p3)] := hl
  refine lv_aload_n hx hb dX10_chance_0 rfl (lv_at hl 0 rfl) ?_
  refine lv_iconst (v := 0) hx hb dX10_chance_1 (by decide) ?_
  refine va_put (ci := 10) (v := .int 0) (ty := .int) (C := RX10) (T := TX10) (N := 40) hx hb hg inX10 tyX10 tyX10_ok nmX10 hown hK hP hD hS 0 rfl rfl 0 (by decide) (hg _ q_5_224) (fun _ h9 => h9) rfl (by decide +kernel) rfl rfl (Nat.le_of_ble_eq_true rfl) dX10_chance_2 (fun H locs hP hD hS => ?_)
  have hP : va_P V.1 vwCl [(z 0, .inr (10, mo z 0 0 0 0 0 0 0 0 0 0 (-1) 0 0 0 0 0)), (z 1, aI V 3075 (fun _ => 0))] H := hP
  have hD : va_D A [(z 0, .inr (10, mo z 0 0 0 0 0 0 0 0 0 0 (-1) 0 0 0 0 0)), (z 1, aI V 3075 (fun _ => 0))] := hD
  refine lv_aload_n hx hb dX10_chance_5 rfl (lv_at hl 0 rfl) ?_
  refine lv_iload_n hx hb dX10_chance_6 rfl (lv_at hl 1 rfl) ?_
  refine lv_i2l (v := p0.toInt64) hx hb dX10_chance_7 rfl ?_
  refine jnI (wr := []) (rnV (rest := []) ⟨hx, hb, hml, hown, hg⟩ (c_X10_isHill_0 l V z p0.toInt64) mt_X10_isHill q_6_235 ⟨Nat.le_of_ble_eq_true rfl, Nat.le_of_ble_eq_true rfl⟩ hK hP hD hS hA hE [0, 1] rfl rfl 0 rfl rfl rfl rfl hl.1 rfl (Nat.le_of_ble_eq_true rfl) dX10_chance_8 ⟨Nat.le_of_ble_eq_true rfl, Nat.le_of_ble_eq_true rfl⟩) hP hD hS hA [0, 1] [] rfl rfl rfl (by decide) (fun r_1 w H locs hw hP hD hS => ?_)
  obtain ⟨rfl, rfl⟩ := hw
  have hP : va_P V.1 vwCl [(z 0, .inr (10, mo z 0 0 0 0 0 0 0 0 0 0 (-1) 0 0 0 0 0)), (z 1, aI V 3075 (fun _ => 0))] H := hP
  have hD : va_D A [(z 0, .inr (10, mo z 0 0 0 0 0 0 0 0 0 0 (-1) 0 0 0 0 0)), (z 1, aI V 3075 (fun _ => 0))] := hD
  refine lv_if_eq (tgt := 25) hx hb dX10_chance_11 (by decide) (fun _ => ?_) (fun c_2 => absurd c_2 (by decide))
  refine lv_bipush (v := (-2)) hx hb dX10_chance_25 (by decide) ?_
  exact fiI hx hb hr hlk hK hP hD hS dX10_chance_27 (Nat.le_of_ble_eq_true rfl) (Nat.le_of_ble_eq_true rfl) (⟨rfl, rfl⟩)
theorem dX9_chance_0 : decode cX9_chance 0 = .ok (.aload_n 0, 1) := by decide +kernel
theorem dX9_chance_1 : decode cX9_chance 1 = .ok (.iload_n 1, 1) := by decide +kernel
theorem dX9_chance_2 : decode cX9_chance 2 = .ok (.invokevirtual 128, 3) := by decide +kernel
theorem dX9_chance_5 : decode cX9_chance 5 = .ok (.ifCond .eq 14, 3) := by decide +kernel
theorem dX9_chance_19 : decode cX9_chance 19 = .ok (.bipush (-2), 2) := by decide +kernel
theorem dX9_chance_21 : decode cX9_chance 21 = .ok (.ireturn, 1) := by decide +kernel
set_option maxHeartbeats 4000000 in
set_option maxRecDepth 100000 in
theorem c_X9_chance_0 (l : Launch) (V : GV) (y : Nat → Nat) (p0 : Int32) (p1 : Int32) (p2 : Int32) (p3 : Int32) : Ct l V yX9_chance (.code yX9_chance cX9_chance 6 (some .int)) 2 [.ref (y 0), .int p0, .int p1, .int p2, .int p3] [(y 0, .inr (9, [.ref (y 1), .int 0, .ref (y 2), .ref (y 10), .ref (y 19), .ref (y 25), .ref (y 26), .ref (y 30), .ref (y 31), .ref (y 32), .null, .null, .int 0, .int 0, .int 0])), (y 2, .inr (1, [.int 0, .int 0, .int 0, .int 0, .int 0, .int 0, .ref (y 3), .ref (y 4), .ref (y 5), .ref (y 6), .ref (y 7), .ref (y 8), .ref (y 9), .int 0, .int 0, .int 0, .int 0, .int 0]))] 0 0 (QI V (fun (r : Int32) (w : va_W) => (r = (-2) ∧ w = [(y 0, .inr (9, [.ref (y 1), .int 0, .ref (y 2), .ref (y 10), .ref (y 19), .ref (y 25), .ref (y 26), .ref (y 30), .ref (y 31), .ref (y 32), .null, .null, .int 0, .int 0, .int 0])), (y 2, .inr (1, [.int 0, .int 0, .int 0, .int 0, .int 0, .int 0, .ref (y 3), .ref (y 4), .ref (y 5), .ref (y 6), .ref (y 7), .ref (y 8), .ref (y 9), .int 0, .int 0, .int 0, .int 0, .int 0]))]))) := by
  refine Ct.of (by decide) (Nat.le_of_ble_eq_true rfl) (fun p e s m below meth c A ls hx hb hr hml hown hlk hnm hg hP hK hD hE hA hS hl => ?_)
  have hl : lv_has ls 6 [(0, .ref (y 0)), (1, .int p0), (2, .int p1), (3, .int p2), (4, .int p3)] := hl
  refine lv_aload_n hx hb dX9_chance_0 rfl (lv_at hl 0 rfl) ?_
  refine lv_iload_n hx hb dX9_chance_1 rfl (lv_at hl 1 rfl) ?_
  refine jnI (wr := []) (rnV (rest := []) ⟨hx, hb, hml, hown, hg⟩ (c_X9_isHill_0 l V y p0) mt_X9_isHill q_3_122 ⟨Nat.le_of_ble_eq_true rfl, Nat.le_of_ble_eq_true rfl⟩ hK hP hD hS hA hE [0, 1] rfl rfl 0 rfl rfl rfl rfl hl.1 rfl (Nat.le_of_ble_eq_true rfl) dX9_chance_2 ⟨Nat.le_of_ble_eq_true rfl, Nat.le_of_ble_eq_true rfl⟩) hP hD hS hA [0, 1] [] rfl rfl rfl (by decide) (fun r_1 w H locs hw hP hD hS => ?_)
  obtain ⟨rfl, rfl⟩ := hw
  have hP : va_P V.1 vwCl [(y 0, .inr (9, [.ref (y 1), .int 0, .ref (y 2), .ref (y 10), .ref (y 19), .ref (y 25), .ref (y 26), .ref (y 30), .ref (y 31), .ref (y 32), .null, .null, .int 0, .int 0, .int 0])), (y 2, .inr (1, [.int 0, .int 0, .int 0, .int 0, .int 0, .int 0, .ref (y 3), .ref (y 4), .ref (y 5), .ref (y 6), .ref (y 7), .ref (y 8), .ref (y 9), .int 0, .int 0, .int 0, .int 0, .int 0]))] H := hP
  have hD : va_D A [(y 0, .inr (9, [.ref (y 1), .int 0, .ref (y 2), .ref (y 10), .ref (y 19), .ref (y 25), .ref (y 26), .ref (y 30), .ref (y 31), .ref (y 32), .null, .null, .int 0, .int 0, .int 0])), (y 2, .inr (1, [.int 0, .int 0, .int 0, .int 0, .int 0, .int 0, .ref (y 3), .ref (y 4), .ref (y 5), .ref (y 6), .ref (y 7), .ref (y 8), .ref (y 9), .int 0, .int 0, .int 0, .int 0, .int 0]))] := hD
  refine lv_if_eq (tgt := 19) hx hb dX9_chance_5 (by decide) (fun _ => ?_) (fun c_2 => absurd c_2 (by decide))
  refine lv_bipush (v := (-2)) hx hb dX9_chance_19 (by decide) ?_
  exact fiI hx hb hr hlk hK hP hD hS dX9_chance_21 (Nat.le_of_ble_eq_true rfl) (Nat.le_of_ble_eq_true rfl) (⟨rfl, rfl⟩)
theorem dX10_beginsMany_0 : decode cX10_beginsMany 0 = .ok (.iconst 0, 1) := by decide +kernel
theorem dX10_beginsMany_1 : decode cX10_beginsMany 1 = .ok (.istore_n 1, 1) := by decide +kernel
theorem dX10_beginsMany_2 : decode cX10_beginsMany 2 = .ok (.iload_n 1, 1) := by decide +kernel
theorem dX10_beginsMany_3 : decode cX10_beginsMany 3 = .ok (.sipush 10000, 3) := by decide +kernel
theorem dX10_beginsMany_6 : decode cX10_beginsMany 6 = .ok (.if_icmp .ge 35, 3) := by decide +kernel
theorem dX10_beginsMany_9 : decode cX10_beginsMany 9 = .ok (.aload_n 0, 1) := by decide +kernel
theorem dX10_beginsMany_10 : decode cX10_beginsMany 10 = .ok (.getfield 61, 3) := by decide +kernel
theorem dX10_beginsMany_13 : decode cX10_beginsMany 13 = .ok (.iload_n 1, 1) := by decide +kernel
theorem dX10_beginsMany_14 : decode cX10_beginsMany 14 = .ok (.iload_n 1, 1) := by decide +kernel
theorem dX10_beginsMany_15 : decode cX10_beginsMany 15 = .ok (.aload_n 0, 1) := by decide +kernel
theorem dX10_beginsMany_16 : decode cX10_beginsMany 16 = .ok (.invokevirtual 269, 3) := by decide +kernel
theorem dX10_beginsMany_19 : decode cX10_beginsMany 19 = .ok (.if_icmp .ne 7, 3) := by decide +kernel
theorem dX10_beginsMany_22 : decode cX10_beginsMany 22 = .ok (.lconst 1, 1) := by decide +kernel
theorem dX10_beginsMany_23 : decode cX10_beginsMany 23 = .ok (.goto 4, 3) := by decide +kernel
theorem dX10_beginsMany_27 : decode cX10_beginsMany 27 = .ok (.lastore, 1) := by decide +kernel
theorem dX10_beginsMany_28 : decode cX10_beginsMany 28 = .ok (.aload_n 0, 1) := by decide +kernel
theorem dX10_beginsMany_29 : decode cX10_beginsMany 29 = .ok (.getfield 65, 3) := by decide +kernel
theorem dX10_beginsMany_32 : decode cX10_beginsMany 32 = .ok (.iload_n 1, 1) := by decide +kernel
theorem dX10_beginsMany_33 : decode cX10_beginsMany 33 = .ok (.lconst 0, 1) := by decide +kernel
theorem dX10_beginsMany_34 : decode cX10_beginsMany 34 = .ok (.lastore, 1) := by decide +kernel
theorem dX10_beginsMany_35 : decode cX10_beginsMany 35 = .ok (.iinc 1 1, 3) := by decide +kernel
theorem dX10_beginsMany_38 : decode cX10_beginsMany 38 = .ok (.goto (-36), 3) := by decide +kernel
theorem dX10_beginsMany_41 : decode cX10_beginsMany 41 = .ok (.return_, 1) := by decide +kernel
theorem dX10_beginsMany_26 : decode cX10_beginsMany 26 = .ok (.lconst 0, 1) := by decide +kernel
set_option maxHeartbeats 4000000 in
set_option maxRecDepth 100000 in
theorem c_X10_beginsMany_0 (l : Launch) (V : GV) (z : Nat → Nat) : Ct l V yX10_beginsMany (.code yX10_beginsMany cX10_beginsMany 2 none) 2 [.ref (z 0)] [(z 30, aJ V 10000 (fun _ => 0)), (z 31, aJ V 10000 (fun _ => 0)), (z 0, .inr (10, mo z 0 0 0 0 0 0 0 0 0 0 (-1) 0 0 0 0 1)), (z 1, aI V 3075 (fun _ => 0))] 0 0 (QV V (fun (w : va_W) => (w = [(z 30, aJ V 10000 (vp_updL (fun _ => 0) 0 1)), (z 31, aJ V 10000 (fun _ => 0)), (z 0, .inr (10, mo z 0 0 0 0 0 0 0 0 0 0 (-1) 0 0 0 0 1)), (z 1, aI V 3075 (fun _ => 0))]))) := by
  refine Ct.of (by decide) (Nat.le_of_ble_eq_true rfl) (fun p e s m below meth c A ls hx hb hr hml hown hlk hnm hg hP hK hD hE hA hS hl => ?_)
  have hl : lv_has ls 2 [(0, .ref (z 0))] := hl
  refine lv_iconst (v := 0) hx hb dX10_beginsMany_0 (by decide) ?_
  refine lv_istore_n (lv' := [(1, .int 0), (0, .ref (z 0))]) hx hb dX10_beginsMany_1 rfl hl (by decide) rfl (fun ls hl => ?_)
  refine lv_iload_n hx hb dX10_beginsMany_2 rfl (lv_at hl 0 rfl) ?_
  refine lv_sipush (v := 10000) hx hb dX10_beginsMany_3 (by decide) ?_
  refine lv_icmp_ge (tgt := 41) hx hb dX10_beginsMany_6 (by decide) (fun c_1 => absurd c_1 (by decide)) (fun _ => ?_)
  refine lv_aload_n hx hb dX10_beginsMany_9 rfl (lv_at hl 1 rfl) ?_
  refine va_get (ci := 10) (v := .ref (z 30)) (C := RX10) (T := TX10) (N := 40) hx hb hg inX10 hown hK hP 2 rfl rfl 30 (by decide) (hg _ q_6_14) (fun _ h9 => h9) rfl dX10_beginsMany_10 ?_
  refine lv_iload_n hx hb dX10_beginsMany_13 rfl (lv_at hl 0 rfl) ?_
  refine lv_iload_n hx hb dX10_beginsMany_14 rfl (lv_at hl 0 rfl) ?_
  refine lv_aload_n hx hb dX10_beginsMany_15 rfl (lv_at hl 1 rfl) ?_
  refine jnI (wr := [(z 30, aJ V 10000 (fun _ => 0)), (z 31, aJ V 10000 (fun _ => 0))]) (rnV (rest := [.int 0, .int 0, .ref (z 30)]) ⟨hx, hb, hml, hown, hg⟩ (c_X10_standNow_2 l V z) mt_X10_standNow q_7_11 ⟨Nat.le_of_ble_eq_true rfl, Nat.le_of_ble_eq_true rfl⟩ hK hP hD hS hA hE [3, 2] rfl rfl 2 rfl rfl rfl rfl hl.1 rfl (Nat.le_of_ble_eq_true rfl) dX10_beginsMany_16 ⟨Nat.le_of_ble_eq_true rfl, Nat.le_of_ble_eq_true rfl⟩) hP hD hS hA [3, 2] [0, 1] rfl rfl rfl (by decide) (fun r_2 w H locs hw hP hD hS => ?_)
  obtain ⟨rfl, rfl⟩ := hw
  have hP : va_P V.1 vwCl [(z 30, aJ V 10000 (fun _ => 0)), (z 31, aJ V 10000 (fun _ => 0)), (z 1, aI V 3075 (fun _ => 0)), (z 0, .inr (10, mo z 0 0 0 0 0 0 0 0 0 0 (-1) 0 0 0 0 1))] H := hP
  have hD : va_D A [(z 30, aJ V 10000 (fun _ => 0)), (z 31, aJ V 10000 (fun _ => 0)), (z 1, aI V 3075 (fun _ => 0)), (z 0, .inr (10, mo z 0 0 0 0 0 0 0 0 0 0 (-1) 0 0 0 0 1))] := hD
  refine lv_icmp_ne (tgt := 26) hx hb dX10_beginsMany_19 (by decide) (fun c_3 => absurd c_3 (by decide)) (fun _ => ?_)
  refine lv_lconst (v := 1) hx hb dX10_beginsMany_22 (by decide) ?_
  refine lv_goto (tgt := 27) hx hb dX10_beginsMany_23 (by decide) ?_
  refine va_last hx hb hK hP hD hS 0 2 rfl rfl (vin (by decide +kernel)) dX10_beginsMany_27 (fun H locs hP hD hS => ?_)
  have hP : va_P V.1 vwCl [(z 30, aJ V 10000 (vp_updL (fun _ => 0) 0 1)), (z 31, aJ V 10000 (fun _ => 0)), (z 1, aI V 3075 (fun _ => 0)), (z 0, .inr (10, mo z 0 0 0 0 0 0 0 0 0 0 (-1) 0 0 0 0 1))] H := hP
  have hD : va_D A [(z 30, aJ V 10000 (vp_updL (fun _ => 0) 0 1)), (z 31, aJ V 10000 (fun _ => 0)), (z 1, aI V 3075 (fun _ => 0)), (z 0, .inr (10, mo z 0 0 0 0 0 0 0 0 0 0 (-1) 0 0 0 0 1))] := hD
  refine lv_aload_n hx hb dX10_beginsMany_28 rfl (lv_at hl 1 rfl) ?_
  refine va_get (ci := 10) (v := .ref (z 31)) (C := RX10) (T := TX10) (N := 40) hx hb hg inX10 hown hK hP 3 rfl rfl 31 (by decide) (hg _ q_6_15) (fun _ h9 => h9) rfl dX10_beginsMany_29 ?_
  refine lv_iload_n hx hb dX10_beginsMany_32 rfl (lv_at hl 0 rfl) ?_
  refine lv_lconst (v := 0) hx hb dX10_beginsMany_33 (by decide) ?_
  refine va_last hx hb hK hP hD hS 1 2 rfl rfl (vin (by decide +kernel)) dX10_beginsMany_34 (fun H locs hP hD hS => ?_)
  have hP : va_P V.1 vwCl [(z 30, aJ V 10000 (vp_updL (fun _ => 0) 0 1)), (z 31, aJ V 10000 (vp_updL (fun _ => 0) 0 0)), (z 1, aI V 3075 (fun _ => 0)), (z 0, .inr (10, mo z 0 0 0 0 0 0 0 0 0 0 (-1) 0 0 0 0 1))] H := hP
  have hD : va_D A [(z 30, aJ V 10000 (vp_updL (fun _ => 0) 0 1)), (z 31, aJ V 10000 (vp_updL (fun _ => 0) 0 0)), (z 1, aI V 3075 (fun _ => 0)), (z 0, .inr (10, mo z 0 0 0 0 0 0 0 0 0 0 (-1) 0 0 0 0 1))] := hD
  have hP : va_P V.1 vwCl [(z 30, aJ V 10000 (vp_updL (fun _ => 0) 0 1)), (z 31, aJ V 10000 (fun _ => 0)), (z 1, aI V 3075 (fun _ => 0)), (z 0, .inr (10, mo z 0 0 0 0 0 0 0 0 0 0 (-1) 0 0 0 0 1))] H := by rw [updL0] at hP; exact hP
  have hD : va_D A [(z 30, aJ V 10000 (vp_updL (fun _ => 0) 0 1)), (z 31, aJ V 10000 (fun _ => 0)), (z 1, aI V 3075 (fun _ => 0)), (z 0, .inr (10, mo z 0 0 0 0 0 0 0 0 0 0 (-1) 0 0 0 0 1))] := by rw [updL0] at hD; exact hD
  refine lv_iinc (v := 1) (lv' := [(1, .int 1), (0, .ref (z 0))]) hx hb dX10_beginsMany_35 hl (k := 0) rfl (by decide +kernel) (by decide) rfl (fun ls hl => ?_)
  refine lv_goto (tgt := 2) hx hb dX10_beginsMany_38 (by decide) ?_
  refine loopW 10000 (X := fun (i_4 : Nat) (H : Heap) (locs : List Loc) (ls : Array Slot) => 1 ≤ i_4 ∧ va_P V.1 vwCl [(z 30, aJ V 10000 (vp_updL (fun _ => 0) 0 1)), (z 31, aJ V 10000 (fun _ => 0)), (z 1, aI V 3075 (fun _ => 0)), (z 0, .inr (10, mo z 0 0 0 0 0 0 0 0 0 0 (-1) 0 0 0 0 1))] H ∧ va_D A [(z 30, aJ V 10000 (vp_updL (fun _ => 0) 0 1)), (z 31, aJ V 10000 (fun _ => 0)), (z 1, aI V 3075 (fun _ => 0)), (z 0, .inr (10, mo z 0 0 0 0 0 0 0 0 0 0 (-1) 0 0 0 0 1))] ∧ va_S A s.heap H locs ∧ lv_has ls 2 [(1, .int (nI i_4)), (0, .ref (z 0))]) (g := fun ls => F0 m 2 ls []) (fun i_4 H locs ls hi_i_4 hX ih_i_4 => ?_) 1 (Nat.le_of_ble_eq_true rfl) ⟨Nat.le_refl _, hP, hD, hS, lv_sub hl [0, 1] rfl⟩
  obtain ⟨hlo_i_4, hP, hD, hS, hl⟩ := hX
  refine lv_iload_n hx hb dX10_beginsMany_2 rfl (lv_at hl 0 rfl) ?_
  refine lv_sipush (v := 10000) hx hb dX10_beginsMany_3 (by decide) ?_
  refine lv_icmp_ge (tgt := 41) hx hb dX10_beginsMany_6 (by decide) (fun c_5 => ?_) (fun c_5 => ?_)
  · have e_6 : i_4 = 10000 := by have q9 := (nI_leI (a := 10000) (b := i_4) (by omega) (by omega)).mp c_5; omega
    rw [e_6] at hl
    have hl : lv_has ls 2 [(1, .int 10000), (0, .ref (z 0))] := hl
    have hP := subP (ws' := [(z 30, aJ V 10000 (vp_updL (fun _ => 0) 0 1)), (z 31, aJ V 10000 (fun _ => 0)), (z 0, .inr (10, mo z 0 0 0 0 0 0 0 0 0 0 (-1) 0 0 0 0 1)), (z 1, aI V 3075 (fun _ => 0))]) hP [0, 1, 3, 2] rfl
    have hD := hD.sub (ws' := [(z 30, aJ V 10000 (vp_updL (fun _ => 0) 0 1)), (z 31, aJ V 10000 (fun _ => 0)), (z 0, .inr (10, mo z 0 0 0 0 0 0 0 0 0 0 (-1) 0 0 0 0 1)), (z 1, aI V 3075 (fun _ => 0))]) [0, 1, 3, 2] rfl rfl
    exact fiV hx hb hr hlk hK hP hD hS dX10_beginsMany_41 (Nat.le_of_ble_eq_true rfl) (Nat.le_of_ble_eq_true rfl) (rfl)
  · have e_6 : i_4 < 10000 := by rcases Nat.lt_or_ge i_4 10000 with q9 | q9; exact q9; exact absurd (nI_le q9 (by omega)) c_5
    refine lv_aload_n hx hb dX10_beginsMany_9 rfl (lv_at hl 1 rfl) ?_
    refine va_get (ci := 10) (v := .ref (z 30)) (C := RX10) (T := TX10) (N := 40) hx hb hg inX10 hown hK hP 3 rfl rfl 30 (by decide) (hg _ q_6_14) (fun _ h9 => h9) rfl dX10_beginsMany_10 ?_
    refine lv_iload_n hx hb dX10_beginsMany_13 rfl (lv_at hl 0 rfl) ?_
    refine lv_iload_n hx hb dX10_beginsMany_14 rfl (lv_at hl 0 rfl) ?_
    refine lv_aload_n hx hb dX10_beginsMany_15 rfl (lv_at hl 1 rfl) ?_
    refine jnI (wr := [(z 30, aJ V 10000 (vp_updL (fun _ => 0) 0 1)), (z 31, aJ V 10000 (fun _ => 0))]) (rnV (rest := [.int (nI i_4), .int (nI i_4), .ref (z 30)]) ⟨hx, hb, hml, hown, hg⟩ (c_X10_standNow_2 l V z) mt_X10_standNow q_7_11 ⟨Nat.le_of_ble_eq_true rfl, Nat.le_of_ble_eq_true rfl⟩ hK hP hD hS hA hE [2, 3] rfl rfl 3 rfl rfl rfl rfl hl.1 rfl (Nat.le_of_ble_eq_true rfl) dX10_beginsMany_16 ⟨Nat.le_of_ble_eq_true rfl, Nat.le_of_ble_eq_true rfl⟩) hP hD hS hA [2, 3] [0, 1] rfl rfl rfl (by decide) (fun r_7 w H locs hw hP hD hS => ?_)
    obtain ⟨rfl, rfl⟩ := hw
    have hP : va_P V.1 vwCl [(z 30, aJ V 10000 (vp_updL (fun _ => 0) 0 1)), (z 31, aJ V 10000 (fun _ => 0)), (z 1, aI V 3075 (fun _ => 0)), (z 0, .inr (10, mo z 0 0 0 0 0 0 0 0 0 0 (-1) 0 0 0 0 1))] H := hP
    have hD : va_D A [(z 30, aJ V 10000 (vp_updL (fun _ => 0) 0 1)), (z 31, aJ V 10000 (fun _ => 0)), (z 1, aI V 3075 (fun _ => 0)), (z 0, .inr (10, mo z 0 0 0 0 0 0 0 0 0 0 (-1) 0 0 0 0 1))] := hD
    refine lv_icmp_ne (tgt := 26) hx hb dX10_beginsMany_19 (by decide) (fun _ => ?_) (fun c_8 => absurd c_8 (nI_ne0 (by omega) (by omega)))
    refine lv_lconst (v := 0) hx hb dX10_beginsMany_26 (by decide) ?_
    refine va_last hx hb hK hP hD hS 0 2 rfl rfl (vp_in_nI (by omega) (by decide)) dX10_beginsMany_27 (fun H locs hP hD hS => ?_)
    have hP : va_P V.1 vwCl [(z 30, aJ V 10000 (vp_updL (vp_updL (fun _ => 0) 0 1) (nI i_4).toNatClampNeg 0)), (z 31, aJ V 10000 (fun _ => 0)), (z 1, aI V 3075 (fun _ => 0)), (z 0, .inr (10, mo z 0 0 0 0 0 0 0 0 0 0 (-1) 0 0 0 0 1))] H := hP
    have hD : va_D A [(z 30, aJ V 10000 (vp_updL (vp_updL (fun _ => 0) 0 1) (nI i_4).toNatClampNeg 0)), (z 31, aJ V 10000 (fun _ => 0)), (z 1, aI V 3075 (fun _ => 0)), (z 0, .inr (10, mo z 0 0 0 0 0 0 0 0 0 0 (-1) 0 0 0 0 1))] := hD
    have hP : va_P V.1 vwCl [(z 30, aJ V 10000 (vp_updL (fun _ => 0) 0 1)), (z 31, aJ V 10000 (fun _ => 0)), (z 1, aI V 3075 (fun _ => 0)), (z 0, .inr (10, mo z 0 0 0 0 0 0 0 0 0 0 (-1) 0 0 0 0 1))] H := by rw [updLid (k := (nI i_4).toNatClampNeg) (v := 0) (by rw [nI_clamp (by omega)]; exact if_neg (by omega))] at hP; exact hP
    have hD : va_D A [(z 30, aJ V 10000 (vp_updL (fun _ => 0) 0 1)), (z 31, aJ V 10000 (fun _ => 0)), (z 1, aI V 3075 (fun _ => 0)), (z 0, .inr (10, mo z 0 0 0 0 0 0 0 0 0 0 (-1) 0 0 0 0 1))] := by rw [updLid (k := (nI i_4).toNatClampNeg) (v := 0) (by rw [nI_clamp (by omega)]; exact if_neg (by omega))] at hD; exact hD
    refine lv_aload_n hx hb dX10_beginsMany_28 rfl (lv_at hl 1 rfl) ?_
    refine va_get (ci := 10) (v := .ref (z 31)) (C := RX10) (T := TX10) (N := 40) hx hb hg inX10 hown hK hP 3 rfl rfl 31 (by decide) (hg _ q_6_15) (fun _ h9 => h9) rfl dX10_beginsMany_29 ?_
    refine lv_iload_n hx hb dX10_beginsMany_32 rfl (lv_at hl 0 rfl) ?_
    refine lv_lconst (v := 0) hx hb dX10_beginsMany_33 (by decide) ?_
    refine va_last hx hb hK hP hD hS 1 2 rfl rfl (vp_in_nI (by omega) (by decide)) dX10_beginsMany_34 (fun H locs hP hD hS => ?_)
    have hP : va_P V.1 vwCl [(z 30, aJ V 10000 (vp_updL (fun _ => 0) 0 1)), (z 31, aJ V 10000 (vp_updL (fun _ => 0) (nI i_4).toNatClampNeg 0)), (z 1, aI V 3075 (fun _ => 0)), (z 0, .inr (10, mo z 0 0 0 0 0 0 0 0 0 0 (-1) 0 0 0 0 1))] H := hP
    have hD : va_D A [(z 30, aJ V 10000 (vp_updL (fun _ => 0) 0 1)), (z 31, aJ V 10000 (vp_updL (fun _ => 0) (nI i_4).toNatClampNeg 0)), (z 1, aI V 3075 (fun _ => 0)), (z 0, .inr (10, mo z 0 0 0 0 0 0 0 0 0 0 (-1) 0 0 0 0 1))] := hD
    have hP : va_P V.1 vwCl [(z 30, aJ V 10000 (vp_updL (fun _ => 0) 0 1)), (z 31, aJ V 10000 (fun _ => 0)), (z 1, aI V 3075 (fun _ => 0)), (z 0, .inr (10, mo z 0 0 0 0 0 0 0 0 0 0 (-1) 0 0 0 0 1))] H := by rw [updL0] at hP; exact hP
    have hD : va_D A [(z 30, aJ V 10000 (vp_updL (fun _ => 0) 0 1)), (z 31, aJ V 10000 (fun _ => 0)), (z 1, aI V 3075 (fun _ => 0)), (z 0, .inr (10, mo z 0 0 0 0 0 0 0 0 0 0 (-1) 0 0 0 0 1))] := by rw [updL0] at hD; exact hD
    refine lv_iinc (v := nI (i_4 + 1)) (lv' := [(1, .int (nI (i_4 + 1))), (0, .ref (z 0))]) hx hb dX10_beginsMany_35 hl (k := 0) rfl (nI_add i_4 1) (by decide) rfl (fun ls hl => ?_)
    refine lv_goto (tgt := 2) hx hb dX10_beginsMany_38 (by decide) ?_
    exact ih_i_4 e_6 _ _ _ ⟨(by omega), hP, hD, hS, lv_sub hl [0, 1] rfl⟩
theorem dX10_laysLikely_0 : decode cX10_laysLikely 0 = .ok (.aload_n 0, 1) := by decide +kernel
theorem dX10_laysLikely_1 : decode cX10_laysLikely 1 = .ok (.invokevirtual 362, 3) := by decide +kernel
theorem dX10_laysLikely_4 : decode cX10_laysLikely 4 = .ok (.aload_n 0, 1) := by decide +kernel
theorem q_7_223 : Cond.code yX10_beginsMany prog_12_method_91_code 2 none ∈ gw := gw_7 (i := 223) (rfl) rfl
theorem q_7_222 : Cond.instanceMethod yX10_beginsMany ∈ gw := gw_7 (i := 222) (by decide +kernel) rfl
theorem q_s_108 : Cond.selects "BeaconDelayModel" yX10_beginsMany yX10_beginsMany ∈ gw := gw_s (i := 108) (by decide +kernel) rfl
theorem mt_X10_beginsMany : MtV yX10_beginsMany cX10_beginsMany 2 none 0 := ⟨⟨q_7_223, q_1_9, by decide +kernel, by decide +kernel, by decide +kernel⟩, q_7_222, q_s_108⟩
theorem q_7_220 : Cond.methodLink "BeaconDelayModel" 389 yX10_beginsMany ∈ gw := gw_7 (i := 220) (by decide +kernel) rfl
theorem dX10_laysLikely_5 : decode cX10_laysLikely 5 = .ok (.invokevirtual 389, 3) := by decide +kernel
theorem dX10_laysLikely_8 : decode cX10_laysLikely 8 = .ok (.aload_n 0, 1) := by decide +kernel
theorem dX10_laysLikely_9 : decode cX10_laysLikely 9 = .ok (.getfield 13, 3) := by decide +kernel
theorem dX10_laysLikely_12 : decode cX10_laysLikely 12 = .ok (.iconst 1, 1) := by decide +kernel
theorem dX10_laysLikely_13 : decode cX10_laysLikely 13 = .ok (.iaload, 1) := by decide +kernel
theorem dX10_laysLikely_14 : decode cX10_laysLikely 14 = .ok (.ifCond .ne 7, 3) := by decide +kernel
theorem dX10_laysLikely_17 : decode cX10_laysLikely 17 = .ok (.iconst 0, 1) := by decide +kernel
theorem dX10_laysLikely_18 : decode cX10_laysLikely 18 = .ok (.goto 11, 3) := by decide +kernel
theorem dX10_laysLikely_29 : decode cX10_laysLikely 29 = .ok (.istore_n 2, 1) := by decide +kernel
theorem dX10_laysLikely_30 : decode cX10_laysLikely 30 = .ok (.iconst 0, 1) := by decide +kernel
theorem dX10_laysLikely_31 : decode cX10_laysLikely 31 = .ok (.istore_n 3, 1) := by decide +kernel
theorem dX10_laysLikely_32 : decode cX10_laysLikely 32 = .ok (.iload_n 3, 1) := by decide +kernel
theorem dX10_laysLikely_33 : decode cX10_laysLikely 33 = .ok (.iload_n 1, 1) := by decide +kernel
theorem dX10_laysLikely_34 : decode cX10_laysLikely 34 = .ok (.if_icmp .ge 20, 3) := by decide +kernel
theorem dX10_laysLikely_54 : decode cX10_laysLikely 54 = .ok (.return_, 1) := by decide +kernel
set_option maxHeartbeats 4000000 in
set_option maxRecDepth 100000 in
theorem c_X10_laysLikely_0 (l : Launch) (V : GV) (z : Nat → Nat) : Ct l V yX10_laysLikely (.code yX10_laysLikely cX10_laysLikely 4 none) 4 [.ref (z 0), .int 0] [(z 0, .inr (10, mo z 0 0 0 0 0 0 0 0 0 0 (-1) 0 0 0 0 0)), (z 24, aI V 10000 (fun _ => 0)), (z 25, aI V 40000 (fun _ => 0)), (z 28, aZ V 10000 (fun _ => 0)), (z 30, aJ V 10000 (fun _ => 0)), (z 31, aJ V 10000 (fun _ => 0)), (z 1, aI V 3075 (fun _ => 0))] 0 0 (QV V (fun (w : va_W) => (w = [(z 0, .inr (10, mo z 0 0 0 0 0 0 0 0 0 0 (-1) 0 0 0 0 1)), (z 24, aI V 10000 (fun _ => 0)), (z 25, aI V 40000 (upd (upd (upd (fun _ => 0) 1 (-1)) 2 (-1)) 3 (-1))), (z 28, aZ V 10000 (upd (fun _ => 0) 0 1)), (z 30, aJ V 10000 (vp_updL (fun _ => 0) 0 1)), (z 31, aJ V 10000 (fun _ => 0)), (z 1, aI V 3075 (fun _ => 0))]))) := by
  refine Ct.of (by decide) (Nat.le_of_ble_eq_true rfl) (fun p e s m below meth c A ls hx hb hr hml hown hlk hnm hg hP hK hD hE hA hS hl => ?_)
  have hl : lv_has ls 4 [(0, .ref (z 0)), (1, .int 0)] := hl
  refine lv_aload_n hx hb dX10_laysLikely_0 rfl (lv_at hl 0 rfl) ?_
  refine jnV (wr := [(z 30, aJ V 10000 (fun _ => 0)), (z 31, aJ V 10000 (fun _ => 0))]) (rnV (rest := []) ⟨hx, hb, hml, hown, hg⟩ (c_X10_laysStands_0 l V z) mt_X10_laysStands q_7_194 ⟨Nat.le_of_ble_eq_true rfl, Nat.le_of_ble_eq_true rfl⟩ hK hP hD hS hA hE [0, 1, 2, 3, 6] rfl rfl 0 rfl rfl rfl rfl hl.1 rfl (Nat.le_of_ble_eq_true rfl) dX10_laysLikely_1 ⟨Nat.le_of_ble_eq_true rfl, Nat.le_of_ble_eq_true rfl⟩) hP hD hS hA [0, 1, 2, 3, 6] [4, 5] rfl rfl rfl (by decide) (fun  w H locs hw hP hD hS => ?_)
  subst hw
  have hP : va_P V.1 vwCl [(z 30, aJ V 10000 (fun _ => 0)), (z 31, aJ V 10000 (fun _ => 0)), (z 0, .inr (10, mo z 0 0 0 0 0 0 0 0 0 0 (-1) 0 0 0 0 1)), (z 24, aI V 10000 (fun _ => 0)), (z 25, aI V 40000 (upd (upd (upd (fun _ => 0) 1 (-1)) 2 (-1)) 3 (-1))), (z 28, aZ V 10000 (upd (fun _ => 0) 0 1)), (z 1, aI V 3075 (fun _ => 0))] H := hP
  have hD : va_D A [(z 30, aJ V 10000 (fun _ => 0)), (z 31, aJ V 10000 (fun _ => 0)), (z 0, .inr (10, mo z 0 0 0 0 0 0 0 0 0 0 (-1) 0 0 0 0 1)), (z 24, aI V 10000 (fun _ => 0)), (z 25, aI V 40000 (upd (upd (upd (fun _ => 0) 1 (-1)) 2 (-1)) 3 (-1))), (z 28, aZ V 10000 (upd (fun _ => 0) 0 1)), (z 1, aI V 3075 (fun _ => 0))] := hD
  refine lv_aload_n hx hb dX10_laysLikely_4 rfl (lv_at hl 0 rfl) ?_
  refine jnV (wr := [(z 24, aI V 10000 (fun _ => 0)), (z 25, aI V 40000 (upd (upd (upd (fun _ => 0) 1 (-1)) 2 (-1)) 3 (-1))), (z 28, aZ V 10000 (upd (fun _ => 0) 0 1))]) (rnV (rest := []) ⟨hx, hb, hml, hown, hg⟩ (c_X10_beginsMany_0 l V z) mt_X10_beginsMany q_7_220 ⟨Nat.le_of_ble_eq_true rfl, Nat.le_of_ble_eq_true rfl⟩ hK hP hD hS hA hE [0, 1, 2, 6] rfl rfl 2 rfl rfl rfl rfl hl.1 rfl (Nat.le_of_ble_eq_true rfl) dX10_laysLikely_5 ⟨Nat.le_of_ble_eq_true rfl, Nat.le_of_ble_eq_true rfl⟩) hP hD hS hA [0, 1, 2, 6] [3, 4, 5] rfl rfl rfl (by decide) (fun  w H locs hw hP hD hS => ?_)
  subst hw
  have hP : va_P V.1 vwCl [(z 24, aI V 10000 (fun _ => 0)), (z 25, aI V 40000 (upd (upd (upd (fun _ => 0) 1 (-1)) 2 (-1)) 3 (-1))), (z 28, aZ V 10000 (upd (fun _ => 0) 0 1)), (z 30, aJ V 10000 (vp_updL (fun _ => 0) 0 1)), (z 31, aJ V 10000 (fun _ => 0)), (z 0, .inr (10, mo z 0 0 0 0 0 0 0 0 0 0 (-1) 0 0 0 0 1)), (z 1, aI V 3075 (fun _ => 0))] H := hP
  have hD : va_D A [(z 24, aI V 10000 (fun _ => 0)), (z 25, aI V 40000 (upd (upd (upd (fun _ => 0) 1 (-1)) 2 (-1)) 3 (-1))), (z 28, aZ V 10000 (upd (fun _ => 0) 0 1)), (z 30, aJ V 10000 (vp_updL (fun _ => 0) 0 1)), (z 31, aJ V 10000 (fun _ => 0)), (z 0, .inr (10, mo z 0 0 0 0 0 0 0 0 0 0 (-1) 0 0 0 0 1)), (z 1, aI V 3075 (fun _ => 0))] := hD
  refine lv_aload_n hx hb dX10_laysLikely_8 rfl (lv_at hl 0 rfl) ?_
  refine va_get (ci := 10) (v := .ref (z 1)) (C := RX10) (T := TX10) (N := 40) hx hb hg inX10 hown hK hP 5 rfl rfl 1 (by decide) (hg _ q_5_225) (fun _ h9 => h9) rfl dX10_laysLikely_9 ?_
  refine lv_iconst (v := 1) hx hb dX10_laysLikely_12 (by decide) ?_
  refine va_iald hx hb hK hP 6 0 rfl rfl (vin (by decide +kernel)) dX10_laysLikely_13 ?_
  refine tpi (y := 0) (rfl) ?_
  refine lv_if_ne (tgt := 21) hx hb dX10_laysLikely_14 (by decide) (fun c_1 => absurd c_1 (by decide)) (fun _ => ?_)
  refine lv_iconst (v := 0) hx hb dX10_laysLikely_17 (by decide) ?_
  refine lv_goto (tgt := 29) hx hb dX10_laysLikely_18 (by decide) ?_
  refine lv_istore_n (lv' := [(2, .int 0), (0, .ref (z 0)), (1, .int 0)]) hx hb dX10_laysLikely_29 rfl hl (by decide) rfl (fun ls hl => ?_)
  refine lv_iconst (v := 0) hx hb dX10_laysLikely_30 (by decide) ?_
  refine lv_istore_n (lv' := [(3, .int 0), (2, .int 0), (0, .ref (z 0)), (1, .int 0)]) hx hb dX10_laysLikely_31 rfl hl (by decide) rfl (fun ls hl => ?_)
  refine lv_iload_n hx hb dX10_laysLikely_32 rfl (lv_at hl 0 rfl) ?_
  refine lv_iload_n hx hb dX10_laysLikely_33 rfl (lv_at hl 3 rfl) ?_
  refine lv_icmp_ge (tgt := 54) hx hb dX10_laysLikely_34 (by decide) (fun _ => ?_) (fun c_2 => absurd c_2 (by decide))
  have hP := subP (ws' := [(z 0, .inr (10, mo z 0 0 0 0 0 0 0 0 0 0 (-1) 0 0 0 0 1)), (z 24, aI V 10000 (fun _ => 0)), (z 25, aI V 40000 (upd (upd (upd (fun _ => 0) 1 (-1)) 2 (-1)) 3 (-1))), (z 28, aZ V 10000 (upd (fun _ => 0) 0 1)), (z 30, aJ V 10000 (vp_updL (fun _ => 0) 0 1)), (z 31, aJ V 10000 (fun _ => 0)), (z 1, aI V 3075 (fun _ => 0))]) hP [5, 0, 1, 2, 3, 4, 6] rfl
  have hD := hD.sub (ws' := [(z 0, .inr (10, mo z 0 0 0 0 0 0 0 0 0 0 (-1) 0 0 0 0 1)), (z 24, aI V 10000 (fun _ => 0)), (z 25, aI V 40000 (upd (upd (upd (fun _ => 0) 1 (-1)) 2 (-1)) 3 (-1))), (z 28, aZ V 10000 (upd (fun _ => 0) 0 1)), (z 30, aJ V 10000 (vp_updL (fun _ => 0) 0 1)), (z 31, aJ V 10000 (fun _ => 0)), (z 1, aI V 3075 (fun _ => 0))]) [5, 0, 1, 2, 3, 4, 6] rfl rfl
  exact fiV hx hb hr hlk hK hP hD hS dX10_laysLikely_54 (Nat.le_of_ble_eq_true rfl) (Nat.le_of_ble_eq_true rfl) (rfl)
theorem dX10_sumIn_0 : decode cX10_sumIn 0 = .ok (.iconst 0, 1) := by decide +kernel
theorem dX10_sumIn_1 : decode cX10_sumIn 1 = .ok (.istore_n 2, 1) := by decide +kernel
theorem dX10_sumIn_2 : decode cX10_sumIn 2 = .ok (.iconst 0, 1) := by decide +kernel
theorem dX10_sumIn_3 : decode cX10_sumIn 3 = .ok (.istore_n 3, 1) := by decide +kernel
theorem dX10_sumIn_4 : decode cX10_sumIn 4 = .ok (.iload_n 3, 1) := by decide +kernel
theorem dX10_sumIn_5 : decode cX10_sumIn 5 = .ok (.aload_n 0, 1) := by decide +kernel
theorem dX10_sumIn_6 : decode cX10_sumIn 6 = .ok (.getfield 13, 3) := by decide +kernel
theorem dX10_sumIn_9 : decode cX10_sumIn 9 = .ok (.iconst 1, 1) := by decide +kernel
theorem dX10_sumIn_10 : decode cX10_sumIn 10 = .ok (.iaload, 1) := by decide +kernel
theorem dX10_sumIn_11 : decode cX10_sumIn 11 = .ok (.if_icmp .ge 17, 3) := by decide +kernel
theorem dX10_sumIn_28 : decode cX10_sumIn 28 = .ok (.iload_n 2, 1) := by decide +kernel
theorem dX10_sumIn_29 : decode cX10_sumIn 29 = .ok (.ireturn, 1) := by decide +kernel
set_option maxHeartbeats 4000000 in
set_option maxRecDepth 100000 in
theorem c_X10_sumIn_0 (l : Launch) (V : GV) (z : Nat → Nat) : Ct l V yX10_sumIn (.code yX10_sumIn cX10_sumIn 4 (some .int)) 1 [.ref (z 0), .int 0] [(z 0, .inr (10, mo z 0 0 0 0 0 0 0 0 0 0 (-1) 0 0 0 0 1)), (z 1, aI V 3075 (fun _ => 0))] 0 0 (QI V (fun (r : Int32) (w : va_W) => (r = 0 ∧ w = [(z 0, .inr (10, mo z 0 0 0 0 0 0 0 0 0 0 (-1) 0 0 0 0 1)), (z 1, aI V 3075 (fun _ => 0))]))) := by
  refine Ct.of (by decide) (Nat.le_of_ble_eq_true rfl) (fun p e s m below meth c A ls hx hb hr hml hown hlk hnm hg hP hK hD hE hA hS hl => ?_)
  have hl : lv_has ls 4 [(0, .ref (z 0)), (1, .int 0)] := hl
  refine lv_iconst (v := 0) hx hb dX10_sumIn_0 (by decide) ?_
  refine lv_istore_n (lv' := [(2, .int 0), (0, .ref (z 0)), (1, .int 0)]) hx hb dX10_sumIn_1 rfl hl (by decide) rfl (fun ls hl => ?_)
  refine lv_iconst (v := 0) hx hb dX10_sumIn_2 (by decide) ?_
  refine lv_istore_n (lv' := [(3, .int 0), (2, .int 0), (0, .ref (z 0)), (1, .int 0)]) hx hb dX10_sumIn_3 rfl hl (by decide) rfl (fun ls hl => ?_)
  refine lv_iload_n hx hb dX10_sumIn_4 rfl (lv_at hl 0 rfl) ?_
  refine lv_aload_n hx hb dX10_sumIn_5 rfl (lv_at hl 2 rfl) ?_
  refine va_get (ci := 10) (v := .ref (z 1)) (C := RX10) (T := TX10) (N := 40) hx hb hg inX10 hown hK hP 0 rfl rfl 1 (by decide) (hg _ q_5_225) (fun _ h9 => h9) rfl dX10_sumIn_6 ?_
  refine lv_iconst (v := 1) hx hb dX10_sumIn_9 (by decide) ?_
  refine va_iald hx hb hK hP 1 0 rfl rfl (vin (by decide +kernel)) dX10_sumIn_10 ?_
  refine tpi (y := 0) (rfl) ?_
  refine lv_icmp_ge (tgt := 28) hx hb dX10_sumIn_11 (by decide) (fun _ => ?_) (fun c_1 => absurd c_1 (by decide))
  refine lv_iload_n hx hb dX10_sumIn_28 rfl (lv_at hl 1 rfl) ?_
  exact fiI hx hb hr hlk hK hP hD hS dX10_sumIn_29 (Nat.le_of_ble_eq_true rfl) (Nat.le_of_ble_eq_true rfl) (⟨rfl, rfl⟩)
