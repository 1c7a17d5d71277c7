theorem dX10_wholeOf_0 : decode cX10_wholeOf 0 = .ok (.lconst 1, 1) := by decide +kernel
theorem dX10_wholeOf_1 : decode cX10_wholeOf 1 = .ok (.lstore_n 1, 1) := by decide +kernel
theorem dX10_wholeOf_2 : decode cX10_wholeOf 2 = .ok (.iconst 0, 1) := by decide +kernel
theorem dX10_wholeOf_3 : decode cX10_wholeOf 3 = .ok (.istore_n 3, 1) := by decide +kernel
theorem dX10_wholeOf_4 : decode cX10_wholeOf 4 = .ok (.iload_n 3, 1) := by decide +kernel
theorem dX10_wholeOf_5 : decode cX10_wholeOf 5 = .ok (.iload_n 0, 1) := by decide +kernel
theorem dX10_wholeOf_6 : decode cX10_wholeOf 6 = .ok (.if_icmp .ge 15, 3) := by decide +kernel
theorem dX10_wholeOf_21 : decode cX10_wholeOf 21 = .ok (.lload_n 1, 1) := by decide +kernel
theorem dX10_wholeOf_22 : decode cX10_wholeOf 22 = .ok (.lreturn, 1) := by decide +kernel
set_option maxHeartbeats 4000000 in
set_option maxRecDepth 100000 in
theorem c_X10_wholeOf_0 (l : Launch) (V : GV) : Ct l V yX10_wholeOf (.code yX10_wholeOf cX10_wholeOf 4 (some .long)) 1 [.int 0] [] 0 0 (QL V (fun (r : Int64) (w : va_W) => (r = 1 ∧ w = []))) := by
  refine Ct.of (by decide) (Nat.le_of_ble_eq_true rfl) (fun p e s m below meth c A ls hx hb hr hml hown hlk hnm hg hP hK hD hE hA hS hl => ?_)
  have hl : lv_has ls 4 [(0, .int 0)] := hl
  refine lv_lconst (v := 1) hx hb dX10_wholeOf_0 (by decide) ?_
  refine lv_lstore_n (lv' := [(1, .long 1), (0, .int 0)]) hx hb dX10_wholeOf_1 rfl hl (by decide) rfl (fun ls hl => ?_)
  refine lv_iconst (v := 0) hx hb dX10_wholeOf_2 (by decide) ?_
  refine lv_istore_n (lv' := [(3, .int 0), (1, .long 1), (0, .int 0)]) hx hb dX10_wholeOf_3 rfl hl (by decide) rfl (fun ls hl => ?_)
  refine lv_iload_n hx hb dX10_wholeOf_4 rfl (lv_at hl 0 rfl) ?_
  refine lv_iload_n hx hb dX10_wholeOf_5 rfl (lv_at hl 2 rfl) ?_
  refine lv_icmp_ge (tgt := 21) hx hb dX10_wholeOf_6 (by decide) (fun _ => ?_) (fun c_1 => absurd c_1 (by decide))
  refine lv_lload_n hx hb dX10_wholeOf_21 rfl (lv_at hl 1 rfl) ?_
  exact fiL hx hb hr hlk hK hP hD hS dX10_wholeOf_22 (Nat.le_of_ble_eq_true rfl) (Nat.le_of_ble_eq_true rfl) (⟨rfl, rfl⟩)
theorem dX10_common_0 : decode cX10_common 0 = .ok (.lload_n 2, 1) := by decide +kernel
theorem dX10_common_1 : decode cX10_common 1 = .ok (.lconst 0, 1) := by decide +kernel
theorem dX10_common_2 : decode cX10_common 2 = .ok (.lcmp, 1) := by decide +kernel
theorem dX10_common_3 : decode cX10_common 3 = .ok (.ifCond .ne 7, 3) := by decide +kernel
theorem dX10_common_6 : decode cX10_common 6 = .ok (.lload_n 0, 1) := by decide +kernel
theorem dX10_common_7 : decode cX10_common 7 = .ok (.goto 10, 3) := by decide +kernel
theorem dX10_common_17 : decode cX10_common 17 = .ok (.lreturn, 1) := by decide +kernel
set_option maxHeartbeats 4000000 in
set_option maxRecDepth 100000 in
theorem c_X10_common_0 (l : Launch) (V : GV) : Ct l V yX10_common (.code yX10_common cX10_common 4 (some .long)) 1 [.long 1, .long 0] [] 0 0 (QL V (fun (r : Int64) (w : va_W) => (r = 1 ∧ w = []))) := by
  refine Ct.of (by decide) (Nat.le_of_ble_eq_true rfl) (fun p e s m below meth c A ls hx hb hr hml hown hlk hnm hg hP hK hD hE hA hS hl => ?_)
  have hl : lv_has ls 4 [(0, .long 1), (2, .long 0)] := hl
  refine lv_lload_n hx hb dX10_common_0 rfl (lv_at hl 1 rfl) ?_
  refine lv_lconst (v := 0) hx hb dX10_common_1 (by decide) ?_
  refine W.lcmp hx hb dX10_common_2 ?_
  refine lv_if_ne (tgt := 10) hx hb dX10_common_3 (by decide) (fun c_1 => absurd (fun z => c_1 ((lg_cmp_eq _ _).mpr z)) (by decide)) (fun _ => ?_)
  refine lv_lload_n hx hb dX10_common_6 rfl (lv_at hl 0 rfl) ?_
  refine lv_goto (tgt := 17) hx hb dX10_common_7 (by decide) ?_
  exact fiL hx hb hr hlk hK hP hD hS dX10_common_17 (Nat.le_of_ble_eq_true rfl) (Nat.le_of_ble_eq_true rfl) (⟨rfl, rfl⟩)
theorem dX10_common_10 : decode cX10_common 10 = .ok (.lload_n 2, 1) := by decide +kernel
theorem dX10_common_11 : decode cX10_common 11 = .ok (.lload_n 0, 1) := by decide +kernel
theorem dX10_common_12 : decode cX10_common 12 = .ok (.lload_n 2, 1) := by decide +kernel
theorem dX10_common_13 : decode cX10_common 13 = .ok (.lrem, 1) := by decide +kernel
theorem q_8_126 : Cond.code yX10_common prog_12_method_124_code 4 (some FieldType.long) ∈ gw := gw_8 (i := 126) (rfl) rfl
theorem q_8_125 : Cond.static yX10_common ∈ gw := gw_8 (i := 125) (by decide +kernel) rfl
theorem mt_X10_common : MtS yX10_common cX10_common 4 (some .long) 2 := ⟨⟨q_8_126, q_1_9, by decide +kernel, by decide +kernel, by decide +kernel⟩, q_8_125⟩
theorem q_8_124 : Cond.methodLink "BeaconDelayModel" 447 yX10_common ∈ gw := gw_8 (i := 124) (by decide +kernel) rfl
theorem dX10_common_14 : decode cX10_common 14 = .ok (.invokestatic 447, 3) := by decide +kernel
set_option maxHeartbeats 4000000 in
set_option maxRecDepth 100000 in
theorem c_X10_common_1 (l : Launch) (V : GV) : Ct l V yX10_common (.code yX10_common cX10_common 4 (some .long)) 2 [.long 0, .long 1] [] 0 0 (QL V (fun (r : Int64) (w : va_W) => (r = 1 ∧ w = []))) := by
  refine Ct.of (by decide) (Nat.le_of_ble_eq_true rfl) (fun p e s m below meth c A ls hx hb hr hml hown hlk hnm hg hP hK hD hE hA hS hl => ?_)
  have hl : lv_has ls 4 [(0, .long 0), (2, .long 1)] := hl
  refine lv_lload_n hx hb dX10_common_0 rfl (lv_at hl 1 rfl) ?_
  refine lv_lconst (v := 0) hx hb dX10_common_1 (by decide) ?_
  refine W.lcmp hx hb dX10_common_2 ?_
  refine lv_if_ne (tgt := 10) hx hb dX10_common_3 (by decide) (fun _ => ?_) (fun c_1 => absurd ((lg_cmp_eq _ _).mp c_1) (by decide))
  refine lv_lload_n hx hb dX10_common_10 rfl (lv_at hl 1 rfl) ?_
  refine lv_lload_n hx hb dX10_common_11 rfl (lv_at hl 0 rfl) ?_
  refine lv_lload_n hx hb dX10_common_12 rfl (lv_at hl 1 rfl) ?_
  refine lv_lrem hx hb dX10_common_13 (by decide) ?_
  refine tpl (y := 0) (by decide +kernel) ?_
  refine jnL (wr := []) (rnS (rest := []) ⟨hx, hb, hml, hown, hg⟩ (c_X10_common_0 l V) mt_X10_common q_8_124 ⟨Nat.le_of_ble_eq_true rfl, Nat.le_of_ble_eq_true rfl⟩ hK hP hD hS hA hE [] rfl rfl rfl hl.1 rfl (Nat.le_of_ble_eq_true rfl) dX10_common_14 ⟨Nat.le_of_ble_eq_true rfl, Nat.le_of_ble_eq_true rfl⟩) hP hD hS hA [] [] rfl rfl rfl (by decide) (fun r_2 w H locs hw hP hD hS => ?_)
  obtain ⟨rfl, rfl⟩ := hw
  have hP : va_P V.1 vwCl [] H := hP
  have hD : va_D A [] := hD
  exact fiL hx hb hr hlk hK hP hD hS dX10_common_17 (Nat.le_of_ble_eq_true rfl) (Nat.le_of_ble_eq_true rfl) (⟨rfl, rfl⟩)
theorem dX10_part_0 : decode cX10_part 0 = .ok (.iload 4, 2) := by decide +kernel
theorem dX10_part_2 : decode cX10_part 2 = .ok (.ifCond .ne 7, 3) := by decide +kernel
theorem dX10_part_9 : decode cX10_part 9 = .ok (.lload_n 2, 1) := by decide +kernel
theorem dX10_part_10 : decode cX10_part 10 = .ok (.lload_n 0, 1) := by decide +kernel
theorem dX10_part_11 : decode cX10_part 11 = .ok (.lload_n 2, 1) := by decide +kernel
theorem dX10_part_12 : decode cX10_part 12 = .ok (.invokestatic 447, 3) := by decide +kernel
theorem dX10_part_15 : decode cX10_part 15 = .ok (.ldiv, 1) := by decide +kernel
theorem dX10_part_16 : decode cX10_part 16 = .ok (.l2i, 1) := by decide +kernel
theorem dX10_part_17 : decode cX10_part 17 = .ok (.ireturn, 1) := by decide +kernel
theorem dX10_part_5 : decode cX10_part 5 = .ok (.lload_n 0, 1) := by decide +kernel
theorem dX10_part_6 : decode cX10_part 6 = .ok (.goto 4, 3) := by decide +kernel
set_option maxHeartbeats 4000000 in
set_option maxRecDepth 100000 in
theorem c_X10_part_0 (l : Launch) (V : GV) (p0 : Int32) : Ct l V yX10_part (.code yX10_part cX10_part 5 (some .int)) 3 [.long 0, .long 1, .int p0] [] 0 0 (QI V (fun (r : Int32) (w : va_W) => ((¬ p0 = 0) ∧ r = 1 ∧ w = []) ∨ (p0 = 0 ∧ r = 0 ∧ w = []))) := by
  refine Ct.of (by decide) (Nat.le_of_ble_eq_true rfl) (fun p e s m below meth c A ls hx hb hr hml hown hlk hnm hg hP hK hD hE hA hS hl => ?_)
  have hl : lv_has ls 5 [(0, .long 0), (2, .long 1), (4, .int p0)] := hl
  refine lv_iload hx hb dX10_part_0 (lv_at hl 2 rfl) ?_
  refine lv_if_ne (tgt := 9) hx hb dX10_part_2 (by decide) (fun c_1 => ?_) (fun c_1 => ?_)
  · refine lv_lload_n hx hb dX10_part_9 rfl (lv_at hl 1 rfl) ?_
    refine lv_lload_n hx hb dX10_part_10 rfl (lv_at hl 0 rfl) ?_
    refine lv_lload_n hx hb dX10_part_11 rfl (lv_at hl 1 rfl) ?_
    refine jnL (wr := []) (rnS (rest := [.long 1]) ⟨hx, hb, hml, hown, hg⟩ (c_X10_common_1 l V) mt_X10_common q_8_124 ⟨Nat.le_of_ble_eq_true rfl, Nat.le_of_ble_eq_true rfl⟩ hK hP hD hS hA hE [] rfl rfl rfl hl.1 rfl (Nat.le_of_ble_eq_true rfl) dX10_part_12 ⟨Nat.le_of_ble_eq_true rfl, Nat.le_of_ble_eq_true rfl⟩) hP hD hS hA [] [] rfl rfl rfl (by decide) (fun r_2 w H locs hw hP hD hS => ?_)
    obtain ⟨rfl, rfl⟩ := hw
    have hP : va_P V.1 vwCl [] H := hP
    have hD : va_D A [] := hD
    refine lv_ldiv hx hb dX10_part_15 (by decide) ?_
    refine tpl (y := 1) (by decide +kernel) ?_
    refine lv_l2i (v := 1) hx hb dX10_part_16 (by decide +kernel) ?_
    exact fiI hx hb hr hlk hK hP hD hS dX10_part_17 (Nat.le_of_ble_eq_true rfl) (Nat.le_of_ble_eq_true rfl) (Or.inl ⟨c_1, rfl, rfl⟩)
  · refine lv_lload_n hx hb dX10_part_5 rfl (lv_at hl 0 rfl) ?_
    refine lv_goto (tgt := 10) hx hb dX10_part_6 (by decide) ?_
    refine lv_lload_n hx hb dX10_part_10 rfl (lv_at hl 0 rfl) ?_
    refine lv_lload_n hx hb dX10_part_11 rfl (lv_at hl 1 rfl) ?_
    refine jnL (wr := []) (rnS (rest := [.long 0]) ⟨hx, hb, hml, hown, hg⟩ (c_X10_common_1 l V) mt_X10_common q_8_124 ⟨Nat.le_of_ble_eq_true rfl, Nat.le_of_ble_eq_true rfl⟩ hK hP hD hS hA hE [] rfl rfl rfl hl.1 rfl (Nat.le_of_ble_eq_true rfl) dX10_part_12 ⟨Nat.le_of_ble_eq_true rfl, Nat.le_of_ble_eq_true rfl⟩) hP hD hS hA [] [] rfl rfl rfl (by decide) (fun r_3 w H locs hw hP hD hS => ?_)
    obtain ⟨rfl, rfl⟩ := hw
    have hP : va_P V.1 vwCl [] H := hP
    have hD : va_D A [] := hD
    refine lv_ldiv hx hb dX10_part_15 (by decide) ?_
    refine tpl (y := 0) (by decide +kernel) ?_
    refine lv_l2i (v := 0) hx hb dX10_part_16 (by decide +kernel) ?_
    exact fiI hx hb hr hlk hK hP hD hS dX10_part_17 (Nat.le_of_ble_eq_true rfl) (Nat.le_of_ble_eq_true rfl) (Or.inr (⟨c_1, rfl, rfl⟩))
theorem dX10_isThen_0 : decode cX10_isThen 0 = .ok (.iconst 0, 1) := by decide +kernel
theorem dX10_isThen_1 : decode cX10_isThen 1 = .ok (.istore_n 1, 1) := by decide +kernel
theorem dX10_isThen_2 : decode cX10_isThen 2 = .ok (.iload_n 1, 1) := by decide +kernel
theorem dX10_isThen_3 : decode cX10_isThen 3 = .ok (.sipush 10000, 3) := by decide +kernel
theorem dX10_isThen_6 : decode cX10_isThen 6 = .ok (.if_icmp .ge 28, 3) := by decide +kernel
theorem dX10_isThen_9 : decode cX10_isThen 9 = .ok (.aload_n 0, 1) := by decide +kernel
theorem dX10_isThen_10 : decode cX10_isThen 10 = .ok (.getfield 61, 3) := by decide +kernel
theorem dX10_isThen_13 : decode cX10_isThen 13 = .ok (.iload_n 1, 1) := by decide +kernel
theorem dX10_isThen_14 : decode cX10_isThen 14 = .ok (.aload_n 0, 1) := by decide +kernel
theorem dX10_isThen_15 : decode cX10_isThen 15 = .ok (.getfield 65, 3) := by decide +kernel
theorem dX10_isThen_18 : decode cX10_isThen 18 = .ok (.iload_n 1, 1) := by decide +kernel
theorem dX10_isThen_19 : decode cX10_isThen 19 = .ok (.laload, 1) := by decide +kernel
theorem dX10_isThen_20 : decode cX10_isThen 20 = .ok (.lastore, 1) := by decide +kernel
theorem dX10_isThen_21 : decode cX10_isThen 21 = .ok (.aload_n 0, 1) := by decide +kernel
theorem dX10_isThen_22 : decode cX10_isThen 22 = .ok (.getfield 65, 3) := by decide +kernel
theorem dX10_isThen_25 : decode cX10_isThen 25 = .ok (.iload_n 1, 1) := by decide +kernel
theorem dX10_isThen_26 : decode cX10_isThen 26 = .ok (.lconst 0, 1) := by decide +kernel
theorem dX10_isThen_27 : decode cX10_isThen 27 = .ok (.lastore, 1) := by decide +kernel
theorem dX10_isThen_28 : decode cX10_isThen 28 = .ok (.iinc 1 1, 3) := by decide +kernel
theorem dX10_isThen_31 : decode cX10_isThen 31 = .ok (.goto (-29), 3) := by decide +kernel
theorem dX10_isThen_34 : decode cX10_isThen 34 = .ok (.return_, 1) := by decide +kernel
set_option maxHeartbeats 4000000 in
set_option maxRecDepth 100000 in
theorem c_X10_isThen_0 (l : Launch) (V : GV) (z : Nat → Nat) : Ct l V yX10_isThen (.code yX10_isThen cX10_isThen 2 none) 1 [.ref (z 0)] [(z 30, aJ V 10000 (vp_updL (fun _ => 0) 0 1)), (z 31, aJ V 10000 (vp_updL (fun _ => 0) 0 10)), (z 0, .inr (10, mo z 0 0 0 0 0 0 0 0 0 0 (-1) 0 0 0 0 1))] 0 0 (QV V (fun (w : va_W) => (w = [(z 30, aJ V 10000 (vp_updL (fun _ => 0) 0 10)), (z 31, aJ V 10000 (fun _ => 0)), (z 0, .inr (10, mo z 0 0 0 0 0 0 0 0 0 0 (-1) 0 0 0 0 1))]))) := by
  refine Ct.of (by decide) (Nat.le_of_ble_eq_true rfl) (fun p e s m below meth c A ls hx hb hr hml hown hlk hnm hg hP hK hD hE hA hS hl => ?_)
  have hl : lv_has ls 2 [(0, .ref (z 0))] := hl
  refine lv_iconst (v := 0) hx hb dX10_isThen_0 (by decide) ?_
  refine lv_istore_n (lv' := [(1, .int 0), (0, .ref (z 0))]) hx hb dX10_isThen_1 rfl hl (by decide) rfl (fun ls hl => ?_)
  refine lv_iload_n hx hb dX10_isThen_2 rfl (lv_at hl 0 rfl) ?_
  refine lv_sipush (v := 10000) hx hb dX10_isThen_3 (by decide) ?_
  refine lv_icmp_ge (tgt := 34) hx hb dX10_isThen_6 (by decide) (fun c_1 => absurd c_1 (by decide)) (fun _ => ?_)
  refine lv_aload_n hx hb dX10_isThen_9 rfl (lv_at hl 1 rfl) ?_
  refine va_get (ci := 10) (v := .ref (z 30)) (C := RX10) (T := TX10) (N := 40) hx hb hg inX10 hown hK hP 2 rfl rfl 30 (by decide) (hg _ q_6_14) (fun _ h9 => h9) rfl dX10_isThen_10 ?_
  refine lv_iload_n hx hb dX10_isThen_13 rfl (lv_at hl 0 rfl) ?_
  refine lv_aload_n hx hb dX10_isThen_14 rfl (lv_at hl 1 rfl) ?_
  refine va_get (ci := 10) (v := .ref (z 31)) (C := RX10) (T := TX10) (N := 40) hx hb hg inX10 hown hK hP 2 rfl rfl 31 (by decide) (hg _ q_6_15) (fun _ h9 => h9) rfl dX10_isThen_15 ?_
  refine lv_iload_n hx hb dX10_isThen_18 rfl (lv_at hl 0 rfl) ?_
  refine va_lald hx hb hK hP 1 2 rfl rfl (vin (by decide +kernel)) dX10_isThen_19 ?_
  refine tpl (y := 10) (rfl) ?_
  refine va_last hx hb hK hP hD hS 0 2 rfl rfl (vin (by decide +kernel)) dX10_isThen_20 (fun H locs hP hD hS => ?_)
  have hP : va_P V.1 vwCl [(z 30, aJ V 10000 (vp_updL (vp_updL (fun _ => 0) 0 1) 0 10)), (z 31, aJ V 10000 (vp_updL (fun _ => 0) 0 10)), (z 0, .inr (10, mo z 0 0 0 0 0 0 0 0 0 0 (-1) 0 0 0 0 1))] H := hP
  have hD : va_D A [(z 30, aJ V 10000 (vp_updL (vp_updL (fun _ => 0) 0 1) 0 10)), (z 31, aJ V 10000 (vp_updL (fun _ => 0) 0 10)), (z 0, .inr (10, mo z 0 0 0 0 0 0 0 0 0 0 (-1) 0 0 0 0 1))] := hD
  have hP : va_P V.1 vwCl [(z 30, aJ V 10000 (vp_updL (fun _ => 0) 0 10)), (z 31, aJ V 10000 (vp_updL (fun _ => 0) 0 10)), (z 0, .inr (10, mo z 0 0 0 0 0 0 0 0 0 0 (-1) 0 0 0 0 1))] H := by rw [updLup] at hP; exact hP
  have hD : va_D A [(z 30, aJ V 10000 (vp_updL (fun _ => 0) 0 10)), (z 31, aJ V 10000 (vp_updL (fun _ => 0) 0 10)), (z 0, .inr (10, mo z 0 0 0 0 0 0 0 0 0 0 (-1) 0 0 0 0 1))] := by rw [updLup] at hD; exact hD
  refine lv_aload_n hx hb dX10_isThen_21 rfl (lv_at hl 1 rfl) ?_
  refine va_get (ci := 10) (v := .ref (z 31)) (C := RX10) (T := TX10) (N := 40) hx hb hg inX10 hown hK hP 2 rfl rfl 31 (by decide) (hg _ q_6_15) (fun _ h9 => h9) rfl dX10_isThen_22 ?_
  refine lv_iload_n hx hb dX10_isThen_25 rfl (lv_at hl 0 rfl) ?_
  refine lv_lconst (v := 0) hx hb dX10_isThen_26 (by decide) ?_
  refine va_last hx hb hK hP hD hS 1 2 rfl rfl (vin (by decide +kernel)) dX10_isThen_27 (fun H locs hP hD hS => ?_)
  have hP : va_P V.1 vwCl [(z 30, aJ V 10000 (vp_updL (fun _ => 0) 0 10)), (z 31, aJ V 10000 (vp_updL (vp_updL (fun _ => 0) 0 10) 0 0)), (z 0, .inr (10, mo z 0 0 0 0 0 0 0 0 0 0 (-1) 0 0 0 0 1))] H := hP
  have hD : va_D A [(z 30, aJ V 10000 (vp_updL (fun _ => 0) 0 10)), (z 31, aJ V 10000 (vp_updL (vp_updL (fun _ => 0) 0 10) 0 0)), (z 0, .inr (10, mo z 0 0 0 0 0 0 0 0 0 0 (-1) 0 0 0 0 1))] := hD
  have hP : va_P V.1 vwCl [(z 30, aJ V 10000 (vp_updL (fun _ => 0) 0 10)), (z 31, aJ V 10000 (fun _ => 0)), (z 0, .inr (10, mo z 0 0 0 0 0 0 0 0 0 0 (-1) 0 0 0 0 1))] H := by rw [updLup, updL0] at hP; exact hP
  have hD : va_D A [(z 30, aJ V 10000 (vp_updL (fun _ => 0) 0 10)), (z 31, aJ V 10000 (fun _ => 0)), (z 0, .inr (10, mo z 0 0 0 0 0 0 0 0 0 0 (-1) 0 0 0 0 1))] := by rw [updLup, updL0] at hD; exact hD
  refine lv_iinc (v := 1) (lv' := [(1, .int 1), (0, .ref (z 0))]) hx hb dX10_isThen_28 hl (k := 0) rfl (by decide +kernel) (by decide) rfl (fun ls hl => ?_)
  refine lv_goto (tgt := 2) hx hb dX10_isThen_31 (by decide) ?_
  refine loopW 10000 (X := fun (i_2 : Nat) (H : Heap) (locs : List Loc) (ls : Array Slot) => 1 ≤ i_2 ∧ va_P V.1 vwCl [(z 30, aJ V 10000 (vp_updL (fun _ => 0) 0 10)), (z 31, aJ V 10000 (fun _ => 0)), (z 0, .inr (10, mo z 0 0 0 0 0 0 0 0 0 0 (-1) 0 0 0 0 1))] H ∧ va_D A [(z 30, aJ V 10000 (vp_updL (fun _ => 0) 0 10)), (z 31, aJ V 10000 (fun _ => 0)), (z 0, .inr (10, mo z 0 0 0 0 0 0 0 0 0 0 (-1) 0 0 0 0 1))] ∧ va_S A s.heap H locs ∧ lv_has ls 2 [(1, .int (nI i_2)), (0, .ref (z 0))]) (g := fun ls => F0 m 2 ls []) (fun i_2 H locs ls hi_i_2 hX ih_i_2 => ?_) 1 (Nat.le_of_ble_eq_true rfl) ⟨Nat.le_refl _, hP, hD, hS, lv_sub hl [0, 1] rfl⟩
  obtain ⟨hlo_i_2, hP, hD, hS, hl⟩ := hX
  refine lv_iload_n hx hb dX10_isThen_2 rfl (lv_at hl 0 rfl) ?_
  refine lv_sipush (v := 10000) hx hb dX10_isThen_3 (by decide) ?_
  refine lv_icmp_ge (tgt := 34) hx hb dX10_isThen_6 (by decide) (fun c_3 => ?_) (fun c_3 => ?_)
  · have e_4 : i_2 = 10000 := by have q9 := (nI_leI (a := 10000) (b := i_2) (by omega) (by omega)).mp c_3; omega
    rw [e_4] at hl
    have hl : lv_has ls 2 [(1, .int 10000), (0, .ref (z 0))] := hl
    exact fiV hx hb hr hlk hK hP hD hS dX10_isThen_34 (Nat.le_of_ble_eq_true rfl) (Nat.le_of_ble_eq_true rfl) (rfl)
  · have e_4 : i_2 < 10000 := by rcases Nat.lt_or_ge i_2 10000 with q9 | q9; exact q9; exact absurd (nI_le q9 (by omega)) c_3
    refine lv_aload_n hx hb dX10_isThen_9 rfl (lv_at hl 1 rfl) ?_
    refine va_get (ci := 10) (v := .ref (z 30)) (C := RX10) (T := TX10) (N := 40) hx hb hg inX10 hown hK hP 2 rfl rfl 30 (by decide) (hg _ q_6_14) (fun _ h9 => h9) rfl dX10_isThen_10 ?_
    refine lv_iload_n hx hb dX10_isThen_13 rfl (lv_at hl 0 rfl) ?_
    refine lv_aload_n hx hb dX10_isThen_14 rfl (lv_at hl 1 rfl) ?_
    refine va_get (ci := 10) (v := .ref (z 31)) (C := RX10) (T := TX10) (N := 40) hx hb hg inX10 hown hK hP 2 rfl rfl 31 (by decide) (hg _ q_6_15) (fun _ h9 => h9) rfl dX10_isThen_15 ?_
    refine lv_iload_n hx hb dX10_isThen_18 rfl (lv_at hl 0 rfl) ?_
    refine va_lald hx hb hK hP 1 2 rfl rfl (vp_in_nI (by omega) (by decide)) dX10_isThen_19 ?_
    refine tpl (y := 0) rfl ?_
    refine va_last hx hb hK hP hD hS 0 2 rfl rfl (vp_in_nI (by omega) (by decide)) dX10_isThen_20 (fun H locs hP hD hS => ?_)
    have hP : va_P V.1 vwCl [(z 30, aJ V 10000 (vp_updL (vp_updL (fun _ => 0) 0 10) (nI i_2).toNatClampNeg 0)), (z 31, aJ V 10000 (fun _ => 0)), (z 0, .inr (10, mo z 0 0 0 0 0 0 0 0 0 0 (-1) 0 0 0 0 1))] H := hP
    have hD : va_D A [(z 30, aJ V 10000 (vp_updL (vp_updL (fun _ => 0) 0 10) (nI i_2).toNatClampNeg 0)), (z 31, aJ V 10000 (fun _ => 0)), (z 0, .inr (10, mo z 0 0 0 0 0 0 0 0 0 0 (-1) 0 0 0 0 1))] := hD
    have hP : va_P V.1 vwCl [(z 30, aJ V 10000 (vp_updL (fun _ => 0) 0 10)), (z 31, aJ V 10000 (fun _ => 0)), (z 0, .inr (10, mo z 0 0 0 0 0 0 0 0 0 0 (-1) 0 0 0 0 1))] H := by rw [updLid (k := (nI i_2).toNatClampNeg) (v := 0) (by rw [nI_clamp (by omega)]; exact if_neg (by omega))] at hP; exact hP
    have hD : va_D A [(z 30, aJ V 10000 (vp_updL (fun _ => 0) 0 10)), (z 31, aJ V 10000 (fun _ => 0)), (z 0, .inr (10, mo z 0 0 0 0 0 0 0 0 0 0 (-1) 0 0 0 0 1))] := by rw [updLid (k := (nI i_2).toNatClampNeg) (v := 0) (by rw [nI_clamp (by omega)]; exact if_neg (by omega))] at hD; exact hD
    refine lv_aload_n hx hb dX10_isThen_21 rfl (lv_at hl 1 rfl) ?_
    refine va_get (ci := 10) (v := .ref (z 31)) (C := RX10) (T := TX10) (N := 40) hx hb hg inX10 hown hK hP 2 rfl rfl 31 (by decide) (hg _ q_6_15) (fun _ h9 => h9) rfl dX10_isThen_22 ?_
    refine lv_iload_n hx hb dX10_isThen_25 rfl (lv_at hl 0 rfl) ?_
    refine lv_lconst (v := 0) hx hb dX10_isThen_26 (by decide) ?_
    refine va_last hx hb hK hP hD hS 1 2 rfl rfl (vp_in_nI (by omega) (by decide)) dX10_isThen_27 (fun H locs hP hD hS => ?_)
    have hP : va_P V.1 vwCl [(z 30, aJ V 10000 (vp_updL (fun _ => 0) 0 10)), (z 31, aJ V 10000 (vp_updL (fun _ => 0) (nI i_2).toNatClampNeg 0)), (z 0, .inr (10, mo z 0 0 0 0 0 0 0 0 0 0 (-1) 0 0 0 0 1))] H := hP
    have hD : va_D A [(z 30, aJ V 10000 (vp_updL (fun _ => 0) 0 10)), (z 31, aJ V 10000 (vp_updL (fun _ => 0) (nI i_2).toNatClampNeg 0)), (z 0, .inr (10, mo z 0 0 0 0 0 0 0 0 0 0 (-1) 0 0 0 0 1))] := hD
    have hP : va_P V.1 vwCl [(z 30, aJ V 10000 (vp_updL (fun _ => 0) 0 10)), (z 31, aJ V 10000 (fun _ => 0)), (z 0, .inr (10, mo z 0 0 0 0 0 0 0 0 0 0 (-1) 0 0 0 0 1))] H := by rw [updL0] at hP; exact hP
    have hD : va_D A [(z 30, aJ V 10000 (vp_updL (fun _ => 0) 0 10)), (z 31, aJ V 10000 (fun _ => 0)), (z 0, .inr (10, mo z 0 0 0 0 0 0 0 0 0 0 (-1) 0 0 0 0 1))] := by rw [updL0] at hD; exact hD
    refine lv_iinc (v := nI (i_2 + 1)) (lv' := [(1, .int (nI (i_2 + 1))), (0, .ref (z 0))]) hx hb dX10_isThen_28 hl (k := 0) rfl (nI_add i_2 1) (by decide) rfl (fun ls hl => ?_)
    refine lv_goto (tgt := 2) hx hb dX10_isThen_31 (by decide) ?_
    exact ih_i_2 e_4 _ _ _ ⟨(by omega), hP, hD, hS, lv_sub hl [0, 1] rfl⟩
theorem dX10_goesMany_0 : decode cX10_goesMany 0 = .ok (.iconst 0, 1) := by decide +kernel
theorem dX10_goesMany_1 : decode cX10_goesMany 1 = .ok (.istore 5, 2) := by decide +kernel
theorem dX10_goesMany_3 : decode cX10_goesMany 3 = .ok (.iload 5, 2) := by decide +kernel
theorem dX10_goesMany_5 : decode cX10_goesMany 5 = .ok (.aload_n 0, 1) := by decide +kernel
theorem dX10_goesMany_6 : decode cX10_goesMany 6 = .ok (.getfield 355, 3) := by decide +kernel
theorem dX10_goesMany_9 : decode cX10_goesMany 9 = .ok (.if_icmp .ge 99, 3) := by decide +kernel
theorem dX10_goesMany_12 : decode cX10_goesMany 12 = .ok (.aload_n 0, 1) := by decide +kernel
theorem dX10_goesMany_13 : decode cX10_goesMany 13 = .ok (.getfield 45, 3) := by decide +kernel
theorem dX10_goesMany_16 : decode cX10_goesMany 16 = .ok (.iload 5, 2) := by decide +kernel
theorem dX10_goesMany_18 : decode cX10_goesMany 18 = .ok (.iaload, 1) := by decide +kernel
theorem dX10_goesMany_19 : decode cX10_goesMany 19 = .ok (.istore 6, 2) := by decide +kernel
theorem dX10_goesMany_21 : decode cX10_goesMany 21 = .ok (.iconst 0, 1) := by decide +kernel
theorem dX10_goesMany_22 : decode cX10_goesMany 22 = .ok (.istore 7, 2) := by decide +kernel
theorem dX10_goesMany_24 : decode cX10_goesMany 24 = .ok (.iload 7, 2) := by decide +kernel
theorem dX10_goesMany_26 : decode cX10_goesMany 26 = .ok (.iconst 4, 1) := by decide +kernel
theorem dX10_goesMany_27 : decode cX10_goesMany 27 = .ok (.if_icmp .ge 75, 3) := by decide +kernel
theorem dX10_goesMany_30 : decode cX10_goesMany 30 = .ok (.aload_n 0, 1) := by decide +kernel
theorem dX10_goesMany_31 : decode cX10_goesMany 31 = .ok (.getfield 61, 3) := by decide +kernel
theorem dX10_goesMany_34 : decode cX10_goesMany 34 = .ok (.iload 6, 2) := by decide +kernel
theorem dX10_goesMany_36 : decode cX10_goesMany 36 = .ok (.laload, 1) := by decide +kernel
theorem dX10_goesMany_37 : decode cX10_goesMany 37 = .ok (.lconst 0, 1) := by decide +kernel
theorem dX10_goesMany_38 : decode cX10_goesMany 38 = .ok (.lcmp, 1) := by decide +kernel
theorem dX10_goesMany_39 : decode cX10_goesMany 39 = .ok (.ifCond .le 63, 3) := by decide +kernel
theorem dX10_goesMany_42 : decode cX10_goesMany 42 = .ok (.aload_n 0, 1) := by decide +kernel
theorem dX10_goesMany_43 : decode cX10_goesMany 43 = .ok (.getfield 49, 3) := by decide +kernel
theorem dX10_goesMany_46 : decode cX10_goesMany 46 = .ok (.iconst 4, 1) := by decide +kernel
theorem dX10_goesMany_47 : decode cX10_goesMany 47 = .ok (.iload 6, 2) := by decide +kernel
theorem dX10_goesMany_49 : decode cX10_goesMany 49 = .ok (.imul, 1) := by decide +kernel
theorem dX10_goesMany_50 : decode cX10_goesMany 50 = .ok (.iload 7, 2) := by decide +kernel
theorem dX10_goesMany_52 : decode cX10_goesMany 52 = .ok (.iadd, 1) := by decide +kernel
theorem dX10_goesMany_53 : decode cX10_goesMany 53 = .ok (.iaload, 1) := by decide +kernel
theorem dX10_goesMany_54 : decode cX10_goesMany 54 = .ok (.iconst (-1), 1) := by decide +kernel
theorem dX10_goesMany_55 : decode cX10_goesMany 55 = .ok (.if_icmp .eq 41, 3) := by decide +kernel
theorem dX10_goesMany_58 : decode cX10_goesMany 58 = .ok (.aload_n 0, 1) := by decide +kernel
theorem dX10_goesMany_59 : decode cX10_goesMany 59 = .ok (.getfield 65, 3) := by decide +kernel
theorem dX10_goesMany_62 : decode cX10_goesMany 62 = .ok (.aload_n 0, 1) := by decide +kernel
theorem dX10_goesMany_63 : decode cX10_goesMany 63 = .ok (.getfield 49, 3) := by decide +kernel
theorem dX10_goesMany_66 : decode cX10_goesMany 66 = .ok (.iconst 4, 1) := by decide +kernel
theorem dX10_goesMany_67 : decode cX10_goesMany 67 = .ok (.iload 6, 2) := by decide +kernel
theorem dX10_goesMany_69 : decode cX10_goesMany 69 = .ok (.imul, 1) := by decide +kernel
theorem dX10_goesMany_70 : decode cX10_goesMany 70 = .ok (.iload 7, 2) := by decide +kernel
theorem dX10_goesMany_72 : decode cX10_goesMany 72 = .ok (.iadd, 1) := by decide +kernel
theorem dX10_goesMany_73 : decode cX10_goesMany 73 = .ok (.iaload, 1) := by decide +kernel
theorem dX10_goesMany_74 : decode cX10_goesMany 74 = .ok (.dup2, 1) := by decide +kernel
theorem dX10_goesMany_75 : decode cX10_goesMany 75 = .ok (.laload, 1) := by decide +kernel
theorem dX10_goesMany_76 : decode cX10_goesMany 76 = .ok (.aload_n 0, 1) := by decide +kernel
theorem dX10_goesMany_77 : decode cX10_goesMany 77 = .ok (.getfield 61, 3) := by decide +kernel
theorem dX10_goesMany_80 : decode cX10_goesMany 80 = .ok (.iload 6, 2) := by decide +kernel
theorem dX10_goesMany_82 : decode cX10_goesMany 82 = .ok (.laload, 1) := by decide +kernel
theorem dX10_goesMany_83 : decode cX10_goesMany 83 = .ok (.iload 7, 2) := by decide +kernel
theorem dX10_goesMany_85 : decode cX10_goesMany 85 = .ok (.ifCond .ne 7, 3) := by decide +kernel
theorem dX10_goesMany_88 : decode cX10_goesMany 88 = .ok (.lload_n 1, 1) := by decide +kernel
theorem dX10_goesMany_89 : decode cX10_goesMany 89 = .ok (.goto 4, 3) := by decide +kernel
theorem dX10_goesMany_93 : decode cX10_goesMany 93 = .ok (.lmul, 1) := by decide +kernel
theorem dX10_goesMany_94 : decode cX10_goesMany 94 = .ok (.ladd, 1) := by decide +kernel
theorem dX10_goesMany_95 : decode cX10_goesMany 95 = .ok (.lastore, 1) := by decide +kernel
theorem dX10_goesMany_96 : decode cX10_goesMany 96 = .ok (.iinc 7 1, 3) := by decide +kernel
theorem dX10_goesMany_99 : decode cX10_goesMany 99 = .ok (.goto (-75), 3) := by decide +kernel
theorem dX10_goesMany_102 : decode cX10_goesMany 102 = .ok (.iinc 5 1, 3) := by decide +kernel
theorem dX10_goesMany_105 : decode cX10_goesMany 105 = .ok (.goto (-102), 3) := by decide +kernel
theorem dX10_goesMany_108 : decode cX10_goesMany 108 = .ok (.aload_n 0, 1) := by decide +kernel
theorem q_7_231 : Cond.code yX10_isThen prog_12_method_92_code 2 none ∈ gw := gw_7 (i := 231) (rfl) rfl
theorem q_7_230 : Cond.instanceMethod yX10_isThen ∈ gw := gw_7 (i := 230) (by decide +kernel) rfl
theorem q_s_110 : Cond.selects "BeaconDelayModel" yX10_isThen yX10_isThen ∈ gw := gw_s (i := 110) (by decide +kernel) rfl
theorem mt_X10_isThen : MtV yX10_isThen cX10_isThen 2 none 0 := ⟨⟨q_7_231, q_1_9, by decide +kernel, by decide +kernel, by decide +kernel⟩, q_7_230, q_s_110⟩
theorem q_7_228 : Cond.methodLink "BeaconDelayModel" 382 yX10_isThen ∈ gw := gw_7 (i := 228) (by decide +kernel) rfl
theorem dX10_goesMany_109 : decode cX10_goesMany 109 = .ok (.invokevirtual 382, 3) := by decide +kernel
theorem dX10_goesMany_112 : decode cX10_goesMany 112 = .ok (.return_, 1) := by decide +kernel
set_option maxHeartbeats 4000000 in
set_option maxRecDepth 100000 in
theorem c_X10_goesMany_0 (l : Launch) (V : GV) (z : Nat → Nat) : Ct l V yX10_goesMany (.code yX10_goesMany cX10_goesMany 8 none) 2 [.ref (z 0), .long 10, .long 1] [(z 24, aI V 10000 (fun _ => 0)), (z 25, aI V 40000 (upd (upd (upd (fun _ => 0) 1 (-1)) 2 (-1)) 3 (-1))), (z 30, aJ V 10000 (vp_updL (fun _ => 0) 0 1)), (z 31, aJ V 10000 (fun _ => 0)), (z 0, .inr (10, mo z 0 0 0 0 0 0 0 0 0 0 (-1) 0 0 0 0 1))] 0 0 (QV V (fun (w : va_W) => (w = [(z 24, aI V 10000 (fun _ => 0)), (z 25, aI V 40000 (upd (upd (upd (fun _ => 0) 1 (-1)) 2 (-1)) 3 (-1))), (z 30, aJ V 10000 (vp_updL (fun _ => 0) 0 10)), (z 31, aJ V 10000 (fun _ => 0)), (z 0, .inr (10, mo z 0 0 0 0 0 0 0 0 0 0 (-1) 0 0 0 0 1))]))) := by
  refine Ct.of (by decide) (Nat.le_of_ble_eq_true rfl) (fun p e s m below meth c A ls hx hb hr hml hown hlk hnm hg hP hK hD hE hA hS hl => ?_)
  have hl : lv_has ls 8 [(0, .ref (z 0)), (1, .long 10), (3, .long 1)] := hl
  refine lv_iconst (v := 0) hx hb dX10_goesMany_0 (by decide) ?_
  refine lv_istore (lv' := [(5, .int 0), (0, .ref (z 0)), (1, .long 10), (3, .long 1)]) hx hb dX10_goesMany_1 hl (by decide) rfl (fun ls hl => ?_)
  refine lv_iload hx hb dX10_goesMany_3 (lv_at hl 0 rfl) ?_
  refine lv_aload_n hx hb dX10_goesMany_5 rfl (lv_at hl 1 rfl) ?_
  refine va_get (ci := 10) (v := .int 1) (C := RX10) (T := TX10) (N := 40) hx hb hg inX10 hown hK hP 4 rfl rfl 29 (by decide) (hg _ q_6_13) (fun _ h9 => h9) rfl dX10_goesMany_6 ?_
  refine lv_icmp_ge (tgt := 108) hx hb dX10_goesMany_9 (by decide) (fun c_1 => absurd c_1 (by decide)) (fun _ => ?_)
  refine lv_aload_n hx hb dX10_goesMany_12 rfl (lv_at hl 1 rfl) ?_
  refine va_get (ci := 10) (v := .ref (z 24)) (C := RX10) (T := TX10) (N := 40) hx hb hg inX10 hown hK hP 4 rfl rfl 24 (by decide) (hg _ q_6_8) (fun _ h9 => h9) rfl dX10_goesMany_13 ?_
  refine lv_iload hx hb dX10_goesMany_16 (lv_at hl 0 rfl) ?_
  refine va_iald hx hb hK hP 0 0 rfl rfl (vin (by decide +kernel)) dX10_goesMany_18 ?_
  refine tpi (y := 0) (rfl) ?_
  refine lv_istore (lv' := [(6, .int 0), (5, .int 0), (0, .ref (z 0)), (1, .long 10), (3, .long 1)]) hx hb dX10_goesMany_19 hl (by decide) rfl (fun ls hl => ?_)
  refine lv_iconst (v := 0) hx hb dX10_goesMany_21 (by decide) ?_
  refine lv_istore (lv' := [(7, .int 0), (6, .int 0), (5, .int 0), (0, .ref (z 0)), (1, .long 10), (3, .long 1)]) hx hb dX10_goesMany_22 hl (by decide) rfl (fun ls hl => ?_)
  refine lv_iload hx hb dX10_goesMany_24 (lv_at hl 0 rfl) ?_
  refine lv_iconst (v := 4) hx hb dX10_goesMany_26 (by decide) ?_
  refine lv_icmp_ge (tgt := 102) hx hb dX10_goesMany_27 (by decide) (fun c_2 => absurd c_2 (by decide)) (fun _ => ?_)
  refine lv_aload_n hx hb dX10_goesMany_30 rfl (lv_at hl 3 rfl) ?_
  refine va_get (ci := 10) (v := .ref (z 30)) (C := RX10) (T := TX10) (N := 40) hx hb hg inX10 hown hK hP 4 rfl rfl 30 (by decide) (hg _ q_6_14) (fun _ h9 => h9) rfl dX10_goesMany_31 ?_
  refine lv_iload hx hb dX10_goesMany_34 (lv_at hl 1 rfl) ?_
  refine va_lald hx hb hK hP 2 2 rfl rfl (vin (by decide +kernel)) dX10_goesMany_36 ?_
  refine tpl (y := 1) (rfl) ?_
  refine lv_lconst (v := 0) hx hb dX10_goesMany_37 (by decide) ?_
  refine W.lcmp hx hb dX10_goesMany_38 ?_
  refine lv_if_le (tgt := 102) hx hb dX10_goesMany_39 (by decide) (fun c_3 => absurd ((lg_cmp_le _ _).mp c_3) (by decide)) (fun _ => ?_)
  refine lv_aload_n hx hb dX10_goesMany_42 rfl (lv_at hl 3 rfl) ?_
  refine va_get (ci := 10) (v := .ref (z 25)) (C := RX10) (T := TX10) (N := 40) hx hb hg inX10 hown hK hP 4 rfl rfl 25 (by decide) (hg _ q_6_9) (fun _ h9 => h9) rfl dX10_goesMany_43 ?_
  refine lv_iconst (v := 4) hx hb dX10_goesMany_46 (by decide) ?_
  refine lv_iload hx hb dX10_goesMany_47 (lv_at hl 1 rfl) ?_
  refine lv_imul hx hb dX10_goesMany_49 ?_
  refine tpi (y := 0) (by decide +kernel) ?_
  refine lv_iload hx hb dX10_goesMany_50 (lv_at hl 0 rfl) ?_
  refine lv_iadd hx hb dX10_goesMany_52 ?_
  refine tpi (y := 0) (by decide +kernel) ?_
  refine va_iald hx hb hK hP 1 0 rfl rfl (vin (by decide +kernel)) dX10_goesMany_53 ?_
  refine tpi (y := 0) (rfl) ?_
  refine lv_iconst (v := (-1)) hx hb dX10_goesMany_54 (by decide) ?_
  refine lv_icmp_eq (tgt := 96) hx hb dX10_goesMany_55 (by decide) (fun c_4 => absurd c_4 (by decide)) (fun _ => ?_)
  refine lv_aload_n hx hb dX10_goesMany_58 rfl (lv_at hl 3 rfl) ?_
  refine va_get (ci := 10) (v := .ref (z 31)) (C := RX10) (T := TX10) (N := 40) hx hb hg inX10 hown hK hP 4 rfl rfl 31 (by decide) (hg _ q_6_15) (fun _ h9 => h9) rfl dX10_goesMany_59 ?_
  refine lv_aload_n hx hb dX10_goesMany_62 rfl (lv_at hl 3 rfl) ?_
  refine va_get (ci := 10) (v := .ref (z 25)) (C := RX10) (T := TX10) (N := 40) hx hb hg inX10 hown hK hP 4 rfl rfl 25 (by decide) (hg _ q_6_9) (fun _ h9 => h9) rfl dX10_goesMany_63 ?_
  refine lv_iconst (v := 4) hx hb dX10_goesMany_66 (by decide) ?_
  refine lv_iload hx hb dX10_goesMany_67 (lv_at hl 1 rfl) ?_
  refine lv_imul hx hb dX10_goesMany_69 ?_
  refine tpi (y := 0) (by decide +kernel) ?_
  refine lv_iload hx hb dX10_goesMany_70 (lv_at hl 0 rfl) ?_
  refine lv_iadd hx hb dX10_goesMany_72 ?_
  refine tpi (y := 0) (by decide +kernel) ?_
  refine va_iald hx hb hK hP 1 0 rfl rfl (vin (by decide +kernel)) dX10_goesMany_73 ?_
  refine tpi (y := 0) (rfl) ?_
  refine lv_dup2_11 hx hb dX10_goesMany_74 rfl rfl ?_
  refine va_lald hx hb hK hP 3 2 rfl rfl (vin (by decide +kernel)) dX10_goesMany_75 ?_
  refine tpl (y := 0) (rfl) ?_
  refine lv_aload_n hx hb dX10_goesMany_76 rfl (lv_at hl 3 rfl) ?_
  refine va_get (ci := 10) (v := .ref (z 30)) (C := RX10) (T := TX10) (N := 40) hx hb hg inX10 hown hK hP 4 rfl rfl 30 (by decide) (hg _ q_6_14) (fun _ h9 => h9) rfl dX10_goesMany_77 ?_
  refine lv_iload hx hb dX10_goesMany_80 (lv_at hl 1 rfl) ?_
  refine va_lald hx hb hK hP 2 2 rfl rfl (vin (by decide +kernel)) dX10_goesMany_82 ?_
  refine tpl (y := 1) (rfl) ?_
  refine lv_iload hx hb dX10_goesMany_83 (lv_at hl 0 rfl) ?_
  refine lv_if_ne (tgt := 92) hx hb dX10_goesMany_85 (by decide) (fun c_5 => absurd c_5 (by decide)) (fun _ => ?_)
  refine lv_lload_n hx hb dX10_goesMany_88 rfl (lv_at hl 4 rfl) ?_
  refine lv_goto (tgt := 93) hx hb dX10_goesMany_89 (by decide) ?_
  refine lv_lmul hx hb dX10_goesMany_93 ?_
  refine tpl (y := 10) (by decide +kernel) ?_
  refine lv_ladd hx hb dX10_goesMany_94 ?_
  refine tpl (y := 10) (by decide +kernel) ?_
  refine va_last hx hb hK hP hD hS 3 2 rfl rfl (vin (by decide +kernel)) dX10_goesMany_95 (fun H locs hP hD hS => ?_)
  have hP : va_P V.1 vwCl [(z 24, aI V 10000 (fun _ => 0)), (z 25, aI V 40000 (upd (upd (upd (fun _ => 0) 1 (-1)) 2 (-1)) 3 (-1))), (z 30, aJ V 10000 (vp_updL (fun _ => 0) 0 1)), (z 31, aJ V 10000 (vp_updL (fun _ => 0) 0 10)), (z 0, .inr (10, mo z 0 0 0 0 0 0 0 0 0 0 (-1) 0 0 0 0 1))] H := hP
  have hD : va_D A [(z 24, aI V 10000 (fun _ => 0)), (z 25, aI V 40000 (upd (upd (upd (fun _ => 0) 1 (-1)) 2 (-1)) 3 (-1))), (z 30, aJ V 10000 (vp_updL (fun _ => 0) 0 1)), (z 31, aJ V 10000 (vp_updL (fun _ => 0) 0 10)), (z 0, .inr (10, mo z 0 0 0 0 0 0 0 0 0 0 (-1) 0 0 0 0 1))] := hD
  refine lv_iinc (v := 1) (lv' := [(7, .int 1), (6, .int 0), (5, .int 0), (0, .ref (z 0)), (1, .long 10), (3, .long 1)]) hx hb dX10_goesMany_96 hl (k := 0) rfl (by decide +kernel) (by decide) rfl (fun ls hl => ?_)
  refine lv_goto (tgt := 24) hx hb dX10_goesMany_99 (by decide) ?_
  refine lv_iload hx hb dX10_goesMany_24 (lv_at hl 0 rfl) ?_
  refine lv_iconst (v := 4) hx hb dX10_goesMany_26 (by decide) ?_
  refine lv_icmp_ge (tgt := 102) hx hb dX10_goesMany_27 (by decide) (fun c_6 => absurd c_6 (by decide)) (fun _ => ?_)
  refine lv_aload_n hx hb dX10_goesMany_30 rfl (lv_at hl 3 rfl) ?_
  refine va_get (ci := 10) (v := .ref (z 30)) (C := RX10) (T := TX10) (N := 40) hx hb hg inX10 hown hK hP 4 rfl rfl 30 (by decide) (hg _ q_6_14) (fun _ h9 => h9) rfl dX10_goesMany_31 ?_
  refine lv_iload hx hb dX10_goesMany_34 (lv_at hl 1 rfl) ?_
  refine va_lald hx hb hK hP 2 2 rfl rfl (vin (by decide +kernel)) dX10_goesMany_36 ?_
  refine tpl (y := 1) (rfl) ?_
  refine lv_lconst (v := 0) hx hb dX10_goesMany_37 (by decide) ?_
  refine W.lcmp hx hb dX10_goesMany_38 ?_
  refine lv_if_le (tgt := 102) hx hb dX10_goesMany_39 (by decide) (fun c_7 => absurd ((lg_cmp_le _ _).mp c_7) (by decide)) (fun _ => ?_)
  refine lv_aload_n hx hb dX10_goesMany_42 rfl (lv_at hl 3 rfl) ?_
  refine va_get (ci := 10) (v := .ref (z 25)) (C := RX10) (T := TX10) (N := 40) hx hb hg inX10 hown hK hP 4 rfl rfl 25 (by decide) (hg _ q_6_9) (fun _ h9 => h9) rfl dX10_goesMany_43 ?_
  refine lv_iconst (v := 4) hx hb dX10_goesMany_46 (by decide) ?_
  refine lv_iload hx hb dX10_goesMany_47 (lv_at hl 1 rfl) ?_
  refine lv_imul hx hb dX10_goesMany_49 ?_
  refine tpi (y := 0) (by decide +kernel) ?_
  refine lv_iload hx hb dX10_goesMany_50 (lv_at hl 0 rfl) ?_
  refine lv_iadd hx hb dX10_goesMany_52 ?_
  refine tpi (y := 1) (by decide +kernel) ?_
  refine va_iald hx hb hK hP 1 0 rfl rfl (vin (by decide +kernel)) dX10_goesMany_53 ?_
  refine tpi (y := (-1)) (rfl) ?_
  refine lv_iconst (v := (-1)) hx hb dX10_goesMany_54 (by decide) ?_
  refine lv_icmp_eq (tgt := 96) hx hb dX10_goesMany_55 (by decide) (fun _ => ?_) (fun c_8 => absurd c_8 (by decide))
  refine lv_iinc (v := 2) (lv' := [(7, .int 2), (6, .int 0), (5, .int 0), (0, .ref (z 0)), (1, .long 10), (3, .long 1)]) hx hb dX10_goesMany_96 hl (k := 0) rfl (by decide +kernel) (by decide) rfl (fun ls hl => ?_)
  refine lv_goto (tgt := 24) hx hb dX10_goesMany_99 (by decide) ?_
  refine lv_iload hx hb dX10_goesMany_24 (lv_at hl 0 rfl) ?_
  refine lv_iconst (v := 4) hx hb dX10_goesMany_26 (by decide) ?_
  refine lv_icmp_ge (tgt := 102) hx hb dX10_goesMany_27 (by decide) (fun c_9 => absurd c_9 (by decide)) (fun _ => ?_)
  refine lv_aload_n hx hb dX10_goesMany_30 rfl (lv_at hl 3 rfl) ?_
  refine va_get (ci := 10) (v := .ref (z 30)) (C := RX10) (T := TX10) (N := 40) hx hb hg inX10 hown hK hP 4 rfl rfl 30 (by decide) (hg _ q_6_14) (fun _ h9 => h9) rfl dX10_goesMany_31 ?_
  refine lv_iload hx hb dX10_goesMany_34 (lv_at hl 1 rfl) ?_
  refine va_lald hx hb hK hP 2 2 rfl rfl (vin (by decide +kernel)) dX10_goesMany_36 ?_
  refine tpl (y := 1) (rfl) ?_
  refine lv_lconst (v := 0) hx hb dX10_goesMany_37 (by decide) ?_
  refine W.lcmp hx hb dX10_goesMany_38 ?_
  refine lv_if_le (tgt := 102) hx hb dX10_goesMany_39 (by decide) (fun c_10 => absurd ((lg_cmp_le _ _).mp c_10) (by decide)) (fun _ => ?_)
  refine lv_aload_n hx hb dX10_goesMany_42 rfl (lv_at hl 3 rfl) ?_
  refine va_get (ci := 10) (v := .ref (z 25)) (C := RX10) (T := TX10) (N := 40) hx hb hg inX10 hown hK hP 4 rfl rfl 25 (by decide) (hg _ q_6_9) (fun _ h9 => h9) rfl dX10_goesMany_43 ?_
  refine lv_iconst (v := 4) hx hb dX10_goesMany_46 (by decide) ?_
  refine lv_iload hx hb dX10_goesMany_47 (lv_at hl 1 rfl) ?_
  refine lv_imul hx hb dX10_goesMany_49 ?_
  refine tpi (y := 0) (by decide +kernel) ?_
  refine lv_iload hx hb dX10_goesMany_50 (lv_at hl 0 rfl) ?_
  refine lv_iadd hx hb dX10_goesMany_52 ?_
  refine tpi (y := 2) (by decide +kernel) ?_
  refine va_iald hx hb hK hP 1 0 rfl rfl (vin (by decide +kernel)) dX10_goesMany_53 ?_
  refine tpi (y := (-1)) (rfl) ?_
  refine lv_iconst (v := (-1)) hx hb dX10_goesMany_54 (by decide) ?_
  refine lv_icmp_eq (tgt := 96) hx hb dX10_goesMany_55 (by decide) (fun _ => ?_) (fun c_11 => absurd c_11 (by decide))
  refine lv_iinc (v := 3) (lv' := [(7, .int 3), (6, .int 0), (5, .int 0), (0, .ref (z 0)), (1, .long 10), (3, .long 1)]) hx hb dX10_goesMany_96 hl (k := 0) rfl (by decide +kernel) (by decide) rfl (fun ls hl => ?_)
  refine lv_goto (tgt := 24) hx hb dX10_goesMany_99 (by decide) ?_
  refine lv_iload hx hb dX10_goesMany_24 (lv_at hl 0 rfl) ?_
  refine lv_iconst (v := 4) hx hb dX10_goesMany_26 (by decide) ?_
  refine lv_icmp_ge (tgt := 102) hx hb dX10_goesMany_27 (by decide) (fun c_12 => absurd c_12 (by decide)) (fun _ => ?_)
  refine lv_aload_n hx hb dX10_goesMany_30 rfl (lv_at hl 3 rfl) ?_
  refine va_get (ci := 10) (v := .ref (z 30)) (C := RX10) (T := TX10) (N := 40) hx hb hg inX10 hown hK hP 4 rfl rfl 30 (by decide) (hg _ q_6_14) (fun _ h9 => h9) rfl dX10_goesMany_31 ?_
  refine lv_iload hx hb dX10_goesMany_34 (lv_at hl 1 rfl) ?_
  refine va_lald hx hb hK hP 2 2 rfl rfl (vin (by decide +kernel)) dX10_goesMany_36 ?_
  refine tpl (y := 1) (rfl) ?_
  refine lv_lconst (v := 0) hx hb dX10_goesMany_37 (by decide) ?_
  refine W.lcmp hx hb dX10_goesMany_38 ?_
  refine lv_if_le (tgt := 102) hx hb dX10_goesMany_39 (by decide) (fun c_13 => absurd ((lg_cmp_le _ _).mp c_13) (by decide)) (fun _ => ?_)
  refine lv_aload_n hx hb dX10_goesMany_42 rfl (lv_at hl 3 rfl) ?_
  refine va_get (ci := 10) (v := .ref (z 25)) (C := RX10) (T := TX10) (N := 40) hx hb hg inX10 hown hK hP 4 rfl rfl 25 (by decide) (hg _ q_6_9) (fun _ h9 => h9) rfl dX10_goesMany_43 ?_
  refine lv_iconst (v := 4) hx hb dX10_goesMany_46 (by decide) ?_
  refine lv_iload hx hb dX10_goesMany_47 (lv_at hl 1 rfl) ?_
  refine lv_imul hx hb dX10_goesMany_49 ?_
  refine tpi (y := 0) (by decide +kernel) ?_
  refine lv_iload hx hb dX10_goesMany_50 (lv_at hl 0 rfl) ?_
  refine lv_iadd hx hb dX10_goesMany_52 ?_
  refine tpi (y := 3) (by decide +kernel) ?_
  refine va_iald hx hb hK hP 1 0 rfl rfl (vin (by decide +kernel)) dX10_goesMany_53 ?_
  refine tpi (y := (-1)) (rfl) ?_
  refine lv_iconst (v := (-1)) hx hb dX10_goesMany_54 (by decide) ?_
  refine lv_icmp_eq (tgt := 96) hx hb dX10_goesMany_55 (by decide) (fun _ => ?_) (fun c_14 => absurd c_14 (by decide))
  refine lv_iinc (v := 4) (lv' := [(7, .int 4), (6, .int 0), (5, .int 0), (0, .ref (z 0)), (1, .long 10), (3, .long 1)]) hx hb dX10_goesMany_96 hl (k := 0) rfl (by decide +kernel) (by decide) rfl (fun ls hl => ?_)
  refine lv_goto (tgt := 24) hx hb dX10_goesMany_99 (by decide) ?_
  refine lv_iload hx hb dX10_goesMany_24 (lv_at hl 0 rfl) ?_
  refine lv_iconst (v := 4) hx hb dX10_goesMany_26 (by decide) ?_
  refine lv_icmp_ge (tgt := 102) hx hb dX10_goesMany_27 (by decide) (fun _ => ?_) (fun c_15 => absurd c_15 (by decide))
  refine lv_iinc (v := 1) (lv' := [(5, .int 1), (7, .int 4), (6, .int 0), (0, .ref (z 0)), (1, .long 10), (3, .long 1)]) hx hb dX10_goesMany_102 hl (k := 2) rfl (by decide +kernel) (by decide) rfl (fun ls hl => ?_)
  refine lv_goto (tgt := 3) hx hb dX10_goesMany_105 (by decide) ?_
  refine lv_iload hx hb dX10_goesMany_3 (lv_at hl 0 rfl) ?_
  refine lv_aload_n hx hb dX10_goesMany_5 rfl (lv_at hl 3 rfl) ?_
  refine va_get (ci := 10) (v := .int 1) (C := RX10) (T := TX10) (N := 40) hx hb hg inX10 hown hK hP 4 rfl rfl 29 (by decide) (hg _ q_6_13) (fun _ h9 => h9) rfl dX10_goesMany_6 ?_
  refine lv_icmp_ge (tgt := 108) hx hb dX10_goesMany_9 (by decide) (fun _ => ?_) (fun c_16 => absurd c_16 (by decide))
  refine lv_aload_n hx hb dX10_goesMany_108 rfl (lv_at hl 3 rfl) ?_
  refine jnV (wr := [(z 24, aI V 10000 (fun _ => 0)), (z 25, aI V 40000 (upd (upd (upd (fun _ => 0) 1 (-1)) 2 (-1)) 3 (-1)))]) (rnV (rest := []) ⟨hx, hb, hml, hown, hg⟩ (c_X10_isThen_0 l V z) mt_X10_isThen q_7_228 ⟨Nat.le_of_ble_eq_true rfl, Nat.le_of_ble_eq_true rfl⟩ hK hP hD hS hA hE [2, 3, 4] rfl rfl 4 rfl rfl rfl rfl hl.1 rfl (Nat.le_of_ble_eq_true rfl) dX10_goesMany_109 ⟨Nat.le_of_ble_eq_true rfl, Nat.le_of_ble_eq_true rfl⟩) hP hD hS hA [2, 3, 4] [0, 1] rfl rfl rfl (by decide) (fun  w H locs hw hP hD hS => ?_)
  subst hw
  have hP : va_P V.1 vwCl [(z 24, aI V 10000 (fun _ => 0)), (z 25, aI V 40000 (upd (upd (upd (fun _ => 0) 1 (-1)) 2 (-1)) 3 (-1))), (z 30, aJ V 10000 (vp_updL (fun _ => 0) 0 10)), (z 31, aJ V 10000 (fun _ => 0)), (z 0, .inr (10, mo z 0 0 0 0 0 0 0 0 0 0 (-1) 0 0 0 0 1))] H := hP
  have hD : va_D A [(z 24, aI V 10000 (fun _ => 0)), (z 25, aI V 40000 (upd (upd (upd (fun _ => 0) 1 (-1)) 2 (-1)) 3 (-1))), (z 30, aJ V 10000 (vp_updL (fun _ => 0) 0 10)), (z 31, aJ V 10000 (fun _ => 0)), (z 0, .inr (10, mo z 0 0 0 0 0 0 0 0 0 0 (-1) 0 0 0 0 1))] := hD
  exact fiV hx hb hr hlk hK hP hD hS dX10_goesMany_112 (Nat.le_of_ble_eq_true rfl) (Nat.le_of_ble_eq_true rfl) (rfl)
theorem dX10_laysLikely_37 : decode cX10_laysLikely 37 = .ok (.aload_n 0, 1) := by decide +kernel
theorem dX10_laysLikely_38 : decode cX10_laysLikely 38 = .ok (.ldc2_w 298, 3) := by decide +kernel
theorem dX10_laysLikely_41 : decode cX10_laysLikely 41 = .ok (.iload_n 2, 1) := by decide +kernel
theorem dX10_laysLikely_42 : decode cX10_laysLikely 42 = .ok (.i2l, 1) := by decide +kernel
theorem dX10_laysLikely_43 : decode cX10_laysLikely 43 = .ok (.lsub, 1) := by decide +kernel
theorem dX10_laysLikely_44 : decode cX10_laysLikely 44 = .ok (.lconst 1, 1) := by decide +kernel
theorem q_7_227 : Cond.code yX10_goesMany prog_12_method_93_code 8 none ∈ gw := gw_7 (i := 227) (rfl) rfl
theorem q_7_226 : Cond.instanceMethod yX10_goesMany ∈ gw := gw_7 (i := 226) (by decide +kernel) rfl
theorem q_s_109 : Cond.selects "BeaconDelayModel" yX10_goesMany yX10_goesMany ∈ gw := gw_s (i := 109) (by decide +kernel) rfl
theorem mt_X10_goesMany : MtV yX10_goesMany cX10_goesMany 8 none 2 := ⟨⟨q_7_227, q_1_9, by decide +kernel, by decide +kernel, by decide +kernel⟩, q_7_226, q_s_109⟩
theorem q_7_224 : Cond.methodLink "BeaconDelayModel" 392 yX10_goesMany ∈ gw := gw_7 (i := 224) (by decide +kernel) rfl
theorem dX10_laysLikely_45 : decode cX10_laysLikely 45 = .ok (.invokevirtual 392, 3) := by decide +kernel
theorem dX10_laysLikely_48 : decode cX10_laysLikely 48 = .ok (.iinc 3 1, 3) := by decide +kernel
theorem dX10_laysLikely_51 : decode cX10_laysLikely 51 = .ok (.goto (-19), 3) := by decide +kernel
set_option maxHeartbeats 4000000 in
set_option maxRecDepth 100000 in
theorem c_X10_laysLikely_1 (l : Launch) (V : GV) (z : Nat → Nat) : Ct l V yX10_laysLikely (.code yX10_laysLikely cX10_laysLikely 4 none) 4 [.ref (z 0), .int 1] [(z 0, .inr (10, mo z 0 0 0 0 0 0 0 0 0 0 (-1) 0 0 0 0 0)), (z 24, aI V 10000 (fun _ => 0)), (z 25, aI V 40000 (fun _ => 0)), (z 28, aZ V 10000 (fun _ => 0)), (z 30, aJ V 10000 (fun _ => 0)), (z 31, aJ V 10000 (fun _ => 0)), (z 1, aI V 3075 (fun _ => 0))] 0 0 (QV V (fun (w : va_W) => (w = [(z 0, .inr (10, mo z 0 0 0 0 0 0 0 0 0 0 (-1) 0 0 0 0 1)), (z 24, aI V 10000 (fun _ => 0)), (z 25, aI V 40000 (upd (upd (upd (fun _ => 0) 1 (-1)) 2 (-1)) 3 (-1))), (z 28, aZ V 10000 (upd (fun _ => 0) 0 1)), (z 30, aJ V 10000 (vp_updL (fun _ => 0) 0 10)), (z 31, aJ V 10000 (fun _ => 0)), (z 1, aI V 3075 (fun _ => 0))]))) := by
  refine Ct.of (by decide) (Nat.le_of_ble_eq_true rfl) (fun p e s m below meth c A ls hx hb hr hml hown hlk hnm hg hP hK hD hE hA hS hl => ?_)
  have hl : lv_has ls 4 [(0, .ref (z 0)), (1, .int 1)] := hl
  refine lv_aload_n hx hb dX10_laysLikely_0 rfl (lv_at hl 0 rfl) ?_
  refine jnV (wr := [(z 30, aJ V 10000 (fun _ => 0)), (z 31, aJ V 10000 (fun _ => 0))]) (rnV (rest := []) ⟨hx, hb, hml, hown, hg⟩ (c_X10_laysStands_0 l V z) mt_X10_laysStands q_7_194 ⟨Nat.le_of_ble_eq_true rfl, Nat.le_of_ble_eq_true rfl⟩ hK hP hD hS hA hE [0, 1, 2, 3, 6] rfl rfl 0 rfl rfl rfl rfl hl.1 rfl (Nat.le_of_ble_eq_true rfl) dX10_laysLikely_1 ⟨Nat.le_of_ble_eq_true rfl, Nat.le_of_ble_eq_true rfl⟩) hP hD hS hA [0, 1, 2, 3, 6] [4, 5] rfl rfl rfl (by decide) (fun  w H locs hw hP hD hS => ?_)
  subst hw
  have hP : va_P V.1 vwCl [(z 30, aJ V 10000 (fun _ => 0)), (z 31, aJ V 10000 (fun _ => 0)), (z 0, .inr (10, mo z 0 0 0 0 0 0 0 0 0 0 (-1) 0 0 0 0 1)), (z 24, aI V 10000 (fun _ => 0)), (z 25, aI V 40000 (upd (upd (upd (fun _ => 0) 1 (-1)) 2 (-1)) 3 (-1))), (z 28, aZ V 10000 (upd (fun _ => 0) 0 1)), (z 1, aI V 3075 (fun _ => 0))] H := hP
  have hD : va_D A [(z 30, aJ V 10000 (fun _ => 0)), (z 31, aJ V 10000 (fun _ => 0)), (z 0, .inr (10, mo z 0 0 0 0 0 0 0 0 0 0 (-1) 0 0 0 0 1)), (z 24, aI V 10000 (fun _ => 0)), (z 25, aI V 40000 (upd (upd (upd (fun _ => 0) 1 (-1)) 2 (-1)) 3 (-1))), (z 28, aZ V 10000 (upd (fun _ => 0) 0 1)), (z 1, aI V 3075 (fun _ => 0))] := hD
  refine lv_aload_n hx hb dX10_laysLikely_4 rfl (lv_at hl 0 rfl) ?_
  refine jnV (wr := [(z 24, aI V 10000 (fun _ => 0)), (z 25, aI V 40000 (upd (upd (upd (fun _ => 0) 1 (-1)) 2 (-1)) 3 (-1))), (z 28, aZ V 10000 (upd (fun _ => 0) 0 1))]) (rnV (rest := []) ⟨hx, hb, hml, hown, hg⟩ (c_X10_beginsMany_0 l V z) mt_X10_beginsMany q_7_220 ⟨Nat.le_of_ble_eq_true rfl, Nat.le_of_ble_eq_true rfl⟩ hK hP hD hS hA hE [0, 1, 2, 6] rfl rfl 2 rfl rfl rfl rfl hl.1 rfl (Nat.le_of_ble_eq_true rfl) dX10_laysLikely_5 ⟨Nat.le_of_ble_eq_true rfl, Nat.le_of_ble_eq_true rfl⟩) hP hD hS hA [0, 1, 2, 6] [3, 4, 5] rfl rfl rfl (by decide) (fun  w H locs hw hP hD hS => ?_)
  subst hw
  have hP : va_P V.1 vwCl [(z 24, aI V 10000 (fun _ => 0)), (z 25, aI V 40000 (upd (upd (upd (fun _ => 0) 1 (-1)) 2 (-1)) 3 (-1))), (z 28, aZ V 10000 (upd (fun _ => 0) 0 1)), (z 30, aJ V 10000 (vp_updL (fun _ => 0) 0 1)), (z 31, aJ V 10000 (fun _ => 0)), (z 0, .inr (10, mo z 0 0 0 0 0 0 0 0 0 0 (-1) 0 0 0 0 1)), (z 1, aI V 3075 (fun _ => 0))] H := hP
  have hD : va_D A [(z 24, aI V 10000 (fun _ => 0)), (z 25, aI V 40000 (upd (upd (upd (fun _ => 0) 1 (-1)) 2 (-1)) 3 (-1))), (z 28, aZ V 10000 (upd (fun _ => 0) 0 1)), (z 30, aJ V 10000 (vp_updL (fun _ => 0) 0 1)), (z 31, aJ V 10000 (fun _ => 0)), (z 0, .inr (10, mo z 0 0 0 0 0 0 0 0 0 0 (-1) 0 0 0 0 1)), (z 1, aI V 3075 (fun _ => 0))] := hD
  refine lv_aload_n hx hb dX10_laysLikely_8 rfl (lv_at hl 0 rfl) ?_
  refine va_get (ci := 10) (v := .ref (z 1)) (C := RX10) (T := TX10) (N := 40) hx hb hg inX10 hown hK hP 5 rfl rfl 1 (by decide) (hg _ q_5_225) (fun _ h9 => h9) rfl dX10_laysLikely_9 ?_
  refine lv_iconst (v := 1) hx hb dX10_laysLikely_12 (by decide) ?_
  refine va_iald hx hb hK hP 6 0 rfl rfl (vin (by decide +kernel)) dX10_laysLikely_13 ?_
  refine tpi (y := 0) (rfl) ?_
  refine lv_if_ne (tgt := 21) hx hb dX10_laysLikely_14 (by decide) (fun c_1 => absurd c_1 (by decide)) (fun _ => ?_)
  refine lv_iconst (v := 0) hx hb dX10_laysLikely_17 (by decide) ?_
  refine lv_goto (tgt := 29) hx hb dX10_laysLikely_18 (by decide) ?_
  refine lv_istore_n (lv' := [(2, .int 0), (0, .ref (z 0)), (1, .int 1)]) hx hb dX10_laysLikely_29 rfl hl (by decide) rfl (fun ls hl => ?_)
  refine lv_iconst (v := 0) hx hb dX10_laysLikely_30 (by decide) ?_
  refine lv_istore_n (lv' := [(3, .int 0), (2, .int 0), (0, .ref (z 0)), (1, .int 1)]) hx hb dX10_laysLikely_31 rfl hl (by decide) rfl (fun ls hl => ?_)
  refine lv_iload_n hx hb dX10_laysLikely_32 rfl (lv_at hl 0 rfl) ?_
  refine lv_iload_n hx hb dX10_laysLikely_33 rfl (lv_at hl 3 rfl) ?_
  refine lv_icmp_ge (tgt := 54) hx hb dX10_laysLikely_34 (by decide) (fun c_2 => absurd c_2 (by decide)) (fun _ => ?_)
  refine lv_aload_n hx hb dX10_laysLikely_37 rfl (lv_at hl 2 rfl) ?_
  refine lv_ldc2 (v := 10) hx hb hown (hg _ q_7_102) dX10_laysLikely_38 ?_
  refine lv_iload_n hx hb dX10_laysLikely_41 rfl (lv_at hl 1 rfl) ?_
  refine lv_i2l (v := 0) hx hb dX10_laysLikely_42 (by decide +kernel) ?_
  refine lv_lsub hx hb dX10_laysLikely_43 ?_
  refine tpl (y := 10) (by decide +kernel) ?_
  refine lv_lconst (v := 1) hx hb dX10_laysLikely_44 (by decide) ?_
  refine jnV (wr := [(z 28, aZ V 10000 (upd (fun _ => 0) 0 1)), (z 1, aI V 3075 (fun _ => 0))]) (rnV (rest := []) ⟨hx, hb, hml, hown, hg⟩ (c_X10_goesMany_0 l V z) mt_X10_goesMany q_7_224 ⟨Nat.le_of_ble_eq_true rfl, Nat.le_of_ble_eq_true rfl⟩ hK hP hD hS hA hE [0, 1, 3, 4, 5] rfl rfl 5 rfl rfl rfl rfl hl.1 rfl (Nat.le_of_ble_eq_true rfl) dX10_laysLikely_45 ⟨Nat.le_of_ble_eq_true rfl, Nat.le_of_ble_eq_true rfl⟩) hP hD hS hA [0, 1, 3, 4, 5] [2, 6] rfl rfl rfl (by decide) (fun  w H locs hw hP hD hS => ?_)
  subst hw
  have hP : va_P V.1 vwCl [(z 28, aZ V 10000 (upd (fun _ => 0) 0 1)), (z 1, aI V 3075 (fun _ => 0)), (z 24, aI V 10000 (fun _ => 0)), (z 25, aI V 40000 (upd (upd (upd (fun _ => 0) 1 (-1)) 2 (-1)) 3 (-1))), (z 30, aJ V 10000 (vp_updL (fun _ => 0) 0 10)), (z 31, aJ V 10000 (fun _ => 0)), (z 0, .inr (10, mo z 0 0 0 0 0 0 0 0 0 0 (-1) 0 0 0 0 1))] H := hP
  have hD : va_D A [(z 28, aZ V 10000 (upd (fun _ => 0) 0 1)), (z 1, aI V 3075 (fun _ => 0)), (z 24, aI V 10000 (fun _ => 0)), (z 25, aI V 40000 (upd (upd (upd (fun _ => 0) 1 (-1)) 2 (-1)) 3 (-1))), (z 30, aJ V 10000 (vp_updL (fun _ => 0) 0 10)), (z 31, aJ V 10000 (fun _ => 0)), (z 0, .inr (10, mo z 0 0 0 0 0 0 0 0 0 0 (-1) 0 0 0 0 1))] := hD
  refine lv_iinc (v := 1) (lv' := [(3, .int 1), (2, .int 0), (0, .ref (z 0)), (1, .int 1)]) hx hb dX10_laysLikely_48 hl (k := 0) rfl (by decide +kernel) (by decide) rfl (fun ls hl => ?_)
  refine lv_goto (tgt := 32) hx hb dX10_laysLikely_51 (by decide) ?_
  refine lv_iload_n hx hb dX10_laysLikely_32 rfl (lv_at hl 0 rfl) ?_
  refine lv_iload_n hx hb dX10_laysLikely_33 rfl (lv_at hl 3 rfl) ?_
  refine lv_icmp_ge (tgt := 54) hx hb dX10_laysLikely_34 (by decide) (fun _ => ?_) (fun c_3 => absurd c_3 (by decide))
  have hP := subP (ws' := [(z 0, .inr (10, mo z 0 0 0 0 0 0 0 0 0 0 (-1) 0 0 0 0 1)), (z 24, aI V 10000 (fun _ => 0)), (z 25, aI V 40000 (upd (upd (upd (fun _ => 0) 1 (-1)) 2 (-1)) 3 (-1))), (z 28, aZ V 10000 (upd (fun _ => 0) 0 1)), (z 30, aJ V 10000 (vp_updL (fun _ => 0) 0 10)), (z 31, aJ V 10000 (fun _ => 0)), (z 1, aI V 3075 (fun _ => 0))]) hP [6, 2, 3, 0, 4, 5, 1] rfl
  have hD := hD.sub (ws' := [(z 0, .inr (10, mo z 0 0 0 0 0 0 0 0 0 0 (-1) 0 0 0 0 1)), (z 24, aI V 10000 (fun _ => 0)), (z 25, aI V 40000 (upd (upd (upd (fun _ => 0) 1 (-1)) 2 (-1)) 3 (-1))), (z 28, aZ V 10000 (upd (fun _ => 0) 0 1)), (z 30, aJ V 10000 (vp_updL (fun _ => 0) 0 10)), (z 31, aJ V 10000 (fun _ => 0)), (z 1, aI V 3075 (fun _ => 0))]) [6, 2, 3, 0, 4, 5, 1] rfl rfl
  exact fiV hx hb hr hlk hK hP hD hS dX10_laysLikely_54 (Nat.le_of_ble_eq_true rfl) (Nat.le_of_ble_eq_true rfl) (rfl)
theorem dX10_wholeOf_9 : decode cX10_wholeOf 9 = .ok (.lload_n 1, 1) := by decide +kernel
theorem dX10_wholeOf_10 : decode cX10_wholeOf 10 = .ok (.ldc2_w 298, 3) := by decide +kernel
theorem dX10_wholeOf_13 : decode cX10_wholeOf 13 = .ok (.lmul, 1) := by decide +kernel
theorem dX10_wholeOf_14 : decode cX10_wholeOf 14 = .ok (.lstore_n 1, 1) := by decide +kernel
theorem dX10_wholeOf_15 : decode cX10_wholeOf 15 = .ok (.iinc 3 1, 3) := by decide +kernel
theorem dX10_wholeOf_18 : decode cX10_wholeOf 18 = .ok (.goto (-14), 3) := by decide +kernel
set_option maxHeartbeats 4000000 in
set_option maxRecDepth 100000 in
theorem c_X10_wholeOf_1 (l : Launch) (V : GV) : Ct l V yX10_wholeOf (.code yX10_wholeOf cX10_wholeOf 4 (some .long)) 1 [.int 1] [] 0 0 (QL V (fun (r : Int64) (w : va_W) => (r = 10 ∧ w = []))) := by
  refine Ct.of (by decide) (Nat.le_of_ble_eq_true rfl) (fun p e s m below meth c A ls hx hb hr hml hown hlk hnm hg hP hK hD hE hA hS hl => ?_)
  have hl : lv_has ls 4 [(0, .int 1)] := hl
  refine lv_lconst (v := 1) hx hb dX10_wholeOf_0 (by decide) ?_
  refine lv_lstore_n (lv' := [(1, .long 1), (0, .int 1)]) hx hb dX10_wholeOf_1 rfl hl (by decide) rfl (fun ls hl => ?_)
  refine lv_iconst (v := 0) hx hb dX10_wholeOf_2 (by decide) ?_
  refine lv_istore_n (lv' := [(3, .int 0), (1, .long 1), (0, .int 1)]) hx hb dX10_wholeOf_3 rfl hl (by decide) rfl (fun ls hl => ?_)
  refine lv_iload_n hx hb dX10_wholeOf_4 rfl (lv_at hl 0 rfl) ?_
  refine lv_iload_n hx hb dX10_wholeOf_5 rfl (lv_at hl 2 rfl) ?_
  refine lv_icmp_ge (tgt := 21) hx hb dX10_wholeOf_6 (by decide) (fun c_1 => absurd c_1 (by decide)) (fun _ => ?_)
  refine lv_lload_n hx hb dX10_wholeOf_9 rfl (lv_at hl 1 rfl) ?_
  refine lv_ldc2 (v := 10) hx hb hown (hg _ q_7_102) dX10_wholeOf_10 ?_
  refine lv_lmul hx hb dX10_wholeOf_13 ?_
  refine tpl (y := 10) (by decide +kernel) ?_
  refine lv_lstore_n (lv' := [(1, .long 10), (3, .int 0), (0, .int 1)]) hx hb dX10_wholeOf_14 rfl hl (by decide) rfl (fun ls hl => ?_)
  refine lv_iinc (v := 1) (lv' := [(3, .int 1), (1, .long 10), (0, .int 1)]) hx hb dX10_wholeOf_15 hl (k := 1) rfl (by decide +kernel) (by decide) rfl (fun ls hl => ?_)
  refine lv_goto (tgt := 4) hx hb dX10_wholeOf_18 (by decide) ?_
  refine lv_iload_n hx hb dX10_wholeOf_4 rfl (lv_at hl 0 rfl) ?_
  refine lv_iload_n hx hb dX10_wholeOf_5 rfl (lv_at hl 2 rfl) ?_
  refine lv_icmp_ge (tgt := 21) hx hb dX10_wholeOf_6 (by decide) (fun _ => ?_) (fun c_2 => absurd c_2 (by decide))
  refine lv_lload_n hx hb dX10_wholeOf_21 rfl (lv_at hl 1 rfl) ?_
  exact fiL hx hb hr hlk hK hP hD hS dX10_wholeOf_22 (Nat.le_of_ble_eq_true rfl) (Nat.le_of_ble_eq_true rfl) (⟨rfl, rfl⟩)
set_option maxHeartbeats 4000000 in
set_option maxRecDepth 100000 in
theorem c_X10_common_2 (l : Launch) (V : GV) : Ct l V yX10_common (.code yX10_common cX10_common 4 (some .long)) 1 [.long 10, .long 0] [] 0 0 (QL V (fun (r : Int64) (w : va_W) => (r = 10 ∧ w = []))) := by
  refine Ct.of (by decide) (Nat.le_of_ble_eq_true rfl) (fun p e s m below meth c A ls hx hb hr hml hown hlk hnm hg hP hK hD hE hA hS hl => ?_)
  have hl : lv_has ls 4 [(0, .long 10), (2, .long 0)] := hl
  refine lv_lload_n hx hb dX10_common_0 rfl (lv_at hl 1 rfl) ?_
  refine lv_lconst (v := 0) hx hb dX10_common_1 (by decide) ?_
  refine W.lcmp hx hb dX10_common_2 ?_
  refine lv_if_ne (tgt := 10) hx hb dX10_common_3 (by decide) (fun c_1 => absurd (fun z => c_1 ((lg_cmp_eq _ _).mpr z)) (by decide)) (fun _ => ?_)
  refine lv_lload_n hx hb dX10_common_6 rfl (lv_at hl 0 rfl) ?_
  refine lv_goto (tgt := 17) hx hb dX10_common_7 (by decide) ?_
  exact fiL hx hb hr hlk hK hP hD hS dX10_common_17 (Nat.le_of_ble_eq_true rfl) (Nat.le_of_ble_eq_true rfl) (⟨rfl, rfl⟩)
set_option maxHeartbeats 4000000 in
set_option maxRecDepth 100000 in
theorem c_X10_common_3 (l : Launch) (V : GV) : Ct l V yX10_common (.code yX10_common cX10_common 4 (some .long)) 2 [.long 0, .long 10] [] 0 0 (QL V (fun (r : Int64) (w : va_W) => (r = 10 ∧ w = []))) := by
  refine Ct.of (by decide) (Nat.le_of_ble_eq_true rfl) (fun p e s m below meth c A ls hx hb hr hml hown hlk hnm hg hP hK hD hE hA hS hl => ?_)
  have hl : lv_has ls 4 [(0, .long 0), (2, .long 10)] := hl
  refine lv_lload_n hx hb dX10_common_0 rfl (lv_at hl 1 rfl) ?_
  refine lv_lconst (v := 0) hx hb dX10_common_1 (by decide) ?_
  refine W.lcmp hx hb dX10_common_2 ?_
  refine lv_if_ne (tgt := 10) hx hb dX10_common_3 (by decide) (fun _ => ?_) (fun c_1 => absurd ((lg_cmp_eq _ _).mp c_1) (by decide))
  refine lv_lload_n hx hb dX10_common_10 rfl (lv_at hl 1 rfl) ?_
  refine lv_lload_n hx hb dX10_common_11 rfl (lv_at hl 0 rfl) ?_
  refine lv_lload_n hx hb dX10_common_12 rfl (lv_at hl 1 rfl) ?_
  refine lv_lrem hx hb dX10_common_13 (by decide) ?_
  refine tpl (y := 0) (by decide +kernel) ?_
  refine jnL (wr := []) (rnS (rest := []) ⟨hx, hb, hml, hown, hg⟩ (c_X10_common_2 l V) mt_X10_common q_8_124 ⟨Nat.le_of_ble_eq_true rfl, Nat.le_of_ble_eq_true rfl⟩ hK hP hD hS hA hE [] rfl rfl rfl hl.1 rfl (Nat.le_of_ble_eq_true rfl) dX10_common_14 ⟨Nat.le_of_ble_eq_true rfl, Nat.le_of_ble_eq_true rfl⟩) hP hD hS hA [] [] rfl rfl rfl (by decide) (fun r_2 w H locs hw hP hD hS => ?_)
  obtain ⟨rfl, rfl⟩ := hw
  have hP : va_P V.1 vwCl [] H := hP
  have hD : va_D A [] := hD
  exact fiL hx hb hr hlk hK hP hD hS dX10_common_17 (Nat.le_of_ble_eq_true rfl) (Nat.le_of_ble_eq_true rfl) (⟨rfl, rfl⟩)
set_option maxHeartbeats 4000000 in
set_option maxRecDepth 100000 in
theorem c_X10_part_1 (l : Launch) (V : GV) (p0 : Int32) : Ct l V yX10_part (.code yX10_part cX10_part 5 (some .int)) 3 [.long 0, .long 10, .int p0] [] 0 0 (QI V (fun (r : Int32) (w : va_W) => ((¬ p0 = 0) ∧ r = 1 ∧ w = []) ∨ (p0 = 0 ∧ r = 0 ∧ w = []))) := by
  refine Ct.of (by decide) (Nat.le_of_ble_eq_true rfl) (fun p e s m below meth c A ls hx hb hr hml hown hlk hnm hg hP hK hD hE hA hS hl => ?_)
  have hl : lv_has ls 5 [(0, .long 0), (2, .long 10), (4, .int p0)] := hl
  refine lv_iload hx hb dX10_part_0 (lv_at hl 2 rfl) ?_
  refine lv_if_ne (tgt := 9) hx hb dX10_part_2 (by decide) (fun c_1 => ?_) (fun c_1 => ?_)
  · refine lv_lload_n hx hb dX10_part_9 rfl (lv_at hl 1 rfl) ?_
    refine lv_lload_n hx hb dX10_part_10 rfl (lv_at hl 0 rfl) ?_
    refine lv_lload_n hx hb dX10_part_11 rfl (lv_at hl 1 rfl) ?_
    refine jnL (wr := []) (rnS (rest := [.long 10]) ⟨hx, hb, hml, hown, hg⟩ (c_X10_common_3 l V) mt_X10_common q_8_124 ⟨Nat.le_of_ble_eq_true rfl, Nat.le_of_ble_eq_true rfl⟩ hK hP hD hS hA hE [] rfl rfl rfl hl.1 rfl (Nat.le_of_ble_eq_true rfl) dX10_part_12 ⟨Nat.le_of_ble_eq_true rfl, Nat.le_of_ble_eq_true rfl⟩) hP hD hS hA [] [] rfl rfl rfl (by decide) (fun r_2 w H locs hw hP hD hS => ?_)
    obtain ⟨rfl, rfl⟩ := hw
    have hP : va_P V.1 vwCl [] H := hP
    have hD : va_D A [] := hD
    refine lv_ldiv hx hb dX10_part_15 (by decide) ?_
    refine tpl (y := 1) (by decide +kernel) ?_
    refine lv_l2i (v := 1) hx hb dX10_part_16 (by decide +kernel) ?_
    exact fiI hx hb hr hlk hK hP hD hS dX10_part_17 (Nat.le_of_ble_eq_true rfl) (Nat.le_of_ble_eq_true rfl) (Or.inl ⟨c_1, rfl, rfl⟩)
  · refine lv_lload_n hx hb dX10_part_5 rfl (lv_at hl 0 rfl) ?_
    refine lv_goto (tgt := 10) hx hb dX10_part_6 (by decide) ?_
    refine lv_lload_n hx hb dX10_part_10 rfl (lv_at hl 0 rfl) ?_
    refine lv_lload_n hx hb dX10_part_11 rfl (lv_at hl 1 rfl) ?_
    refine jnL (wr := []) (rnS (rest := [.long 0]) ⟨hx, hb, hml, hown, hg⟩ (c_X10_common_3 l V) mt_X10_common q_8_124 ⟨Nat.le_of_ble_eq_true rfl, Nat.le_of_ble_eq_true rfl⟩ hK hP hD hS hA hE [] rfl rfl rfl hl.1 rfl (Nat.le_of_ble_eq_true rfl) dX10_part_12 ⟨Nat.le_of_ble_eq_true rfl, Nat.le_of_ble_eq_true rfl⟩) hP hD hS hA [] [] rfl rfl rfl (by decide) (fun r_3 w H locs hw hP hD hS => ?_)
    obtain ⟨rfl, rfl⟩ := hw
    have hP : va_P V.1 vwCl [] H := hP
    have hD : va_D A [] := hD
    refine lv_ldiv hx hb dX10_part_15 (by decide) ?_
    refine tpl (y := 0) (by decide +kernel) ?_
    refine lv_l2i (v := 0) hx hb dX10_part_16 (by decide +kernel) ?_
    exact fiI hx hb hr hlk hK hP hD hS dX10_part_17 (Nat.le_of_ble_eq_true rfl) (Nat.le_of_ble_eq_true rfl) (Or.inr (⟨c_1, rfl, rfl⟩))
set_option maxHeartbeats 4000000 in
set_option maxRecDepth 100000 in
theorem c_X10_isThen_1 (l : Launch) (V : GV) (z : Nat → Nat) : Ct l V yX10_isThen (.code yX10_isThen cX10_isThen 2 none) 1 [.ref (z 0)] [(z 30, aJ V 10000 (vp_updL (fun _ => 0) 0 10)), (z 31, aJ V 10000 (vp_updL (fun _ => 0) 0 100)), (z 0, .inr (10, mo z 0 0 0 0 0 0 0 0 0 0 (-1) 0 0 0 0 1))] 0 0 (QV V (fun (w : va_W) => (w = [(z 30, aJ V 10000 (vp_updL (fun _ => 0) 0 100)), (z 31, aJ V 10000 (fun _ => 0)), (z 0, .inr (10, mo z 0 0 0 0 0 0 0 0 0 0 (-1) 0 0 0 0 1))]))) := by
  refine Ct.of (by decide) (Nat.le_of_ble_eq_true rfl) (fun p e s m below meth c A ls hx hb hr hml hown hlk hnm hg hP hK hD hE hA hS hl => ?_)
  have hl : lv_has ls 2 [(0, .ref (z 0))] := hl
  refine lv_iconst (v := 0) hx hb dX10_isThen_0 (by decide) ?_
  refine lv_istore_n (lv' := [(1, .int 0), (0, .ref (z 0))]) hx hb dX10_isThen_1 rfl hl (by decide) rfl (fun ls hl => ?_)
  refine lv_iload_n hx hb dX10_isThen_2 rfl (lv_at hl 0 rfl) ?_
  refine lv_sipush (v := 10000) hx hb dX10_isThen_3 (by decide) ?_
  refine lv_icmp_ge (tgt := 34) hx hb dX10_isThen_6 (by decide) (fun c_1 => absurd c_1 (by decide)) (fun _ => ?_)
  refine lv_aload_n hx hb dX10_isThen_9 rfl (lv_at hl 1 rfl) ?_
  refine va_get (ci := 10) (v := .ref (z 30)) (C := RX10) (T := TX10) (N := 40) hx hb hg inX10 hown hK hP 2 rfl rfl 30 (by decide) (hg _ q_6_14) (fun _ h9 => h9) rfl dX10_isThen_10 ?_
  refine lv_iload_n hx hb dX10_isThen_13 rfl (lv_at hl 0 rfl) ?_
  refine lv_aload_n hx hb dX10_isThen_14 rfl (lv_at hl 1 rfl) ?_
  refine va_get (ci := 10) (v := .ref (z 31)) (C := RX10) (T := TX10) (N := 40) hx hb hg inX10 hown hK hP 2 rfl rfl 31 (by decide) (hg _ q_6_15) (fun _ h9 => h9) rfl dX10_isThen_15 ?_
  refine lv_iload_n hx hb dX10_isThen_18 rfl (lv_at hl 0 rfl) ?_
  refine va_lald hx hb hK hP 1 2 rfl rfl (vin (by decide +kernel)) dX10_isThen_19 ?_
  refine tpl (y := 100) (rfl) ?_
  refine va_last hx hb hK hP hD hS 0 2 rfl rfl (vin (by decide +kernel)) dX10_isThen_20 (fun H locs hP hD hS => ?_)
  have hP : va_P V.1 vwCl [(z 30, aJ V 10000 (vp_updL (vp_updL (fun _ => 0) 0 10) 0 100)), (z 31, aJ V 10000 (vp_updL (fun _ => 0) 0 100)), (z 0, .inr (10, mo z 0 0 0 0 0 0 0 0 0 0 (-1) 0 0 0 0 1))] H := hP
  have hD : va_D A [(z 30, aJ V 10000 (vp_updL (vp_updL (fun _ => 0) 0 10) 0 100)), (z 31, aJ V 10000 (vp_updL (fun _ => 0) 0 100)), (z 0, .inr (10, mo z 0 0 0 0 0 0 0 0 0 0 (-1) 0 0 0 0 1))] := hD
  have hP : va_P V.1 vwCl [(z 30, aJ V 10000 (vp_updL (fun _ => 0) 0 100)), (z 31, aJ V 10000 (vp_updL (fun _ => 0) 0 100)), (z 0, .inr (10, mo z 0 0 0 0 0 0 0 0 0 0 (-1) 0 0 0 0 1))] H := by rw [updLup] at hP; exact hP
  have hD : va_D A [(z 30, aJ V 10000 (vp_updL (fun _ => 0) 0 100)), (z 31, aJ V 10000 (vp_updL (fun _ => 0) 0 100)), (z 0, .inr (10, mo z 0 0 0 0 0 0 0 0 0 0 (-1) 0 0 0 0 1))] := by rw [updLup] at hD; exact hD
  refine lv_aload_n hx hb dX10_isThen_21 rfl (lv_at hl 1 rfl) ?_
  refine va_get (ci := 10) (v := .ref (z 31)) (C := RX10) (T := TX10) (N := 40) hx hb hg inX10 hown hK hP 2 rfl rfl 31 (by decide) (hg _ q_6_15) (fun _ h9 => h9) rfl dX10_isThen_22 ?_
  refine lv_iload_n hx hb dX10_isThen_25 rfl (lv_at hl 0 rfl) ?_
  refine lv_lconst (v := 0) hx hb dX10_isThen_26 (by decide) ?_
  refine va_last hx hb hK hP hD hS 1 2 rfl rfl (vin (by decide +kernel)) dX10_isThen_27 (fun H locs hP hD hS => ?_)
  have hP : va_P V.1 vwCl [(z 30, aJ V 10000 (vp_updL (fun _ => 0) 0 100)), (z 31, aJ V 10000 (vp_updL (vp_updL (fun _ => 0) 0 100) 0 0)), (z 0, .inr (10, mo z 0 0 0 0 0 0 0 0 0 0 (-1) 0 0 0 0 1))] H := hP
  have hD : va_D A [(z 30, aJ V 10000 (vp_updL (fun _ => 0) 0 100)), (z 31, aJ V 10000 (vp_updL (vp_updL (fun _ => 0) 0 100) 0 0)), (z 0, .inr (10, mo z 0 0 0 0 0 0 0 0 0 0 (-1) 0 0 0 0 1))] := hD
  have hP : va_P V.1 vwCl [(z 30, aJ V 10000 (vp_updL (fun _ => 0) 0 100)), (z 31, aJ V 10000 (fun _ => 0)), (z 0, .inr (10, mo z 0 0 0 0 0 0 0 0 0 0 (-1) 0 0 0 0 1))] H := by rw [updLup, updL0] at hP; exact hP
  have hD : va_D A [(z 30, aJ V 10000 (vp_updL (fun _ => 0) 0 100)), (z 31, aJ V 10000 (fun _ => 0)), (z 0, .inr (10, mo z 0 0 0 0 0 0 0 0 0 0 (-1) 0 0 0 0 1))] := by rw [updLup, updL0] at hD; exact hD
  refine lv_iinc (v := 1) (lv' := [(1, .int 1), (0, .ref (z 0))]) hx hb dX10_isThen_28 hl (k := 0) rfl (by decide +kernel) (by decide) rfl (fun ls hl => ?_)
  refine lv_goto (tgt := 2) hx hb dX10_isThen_31 (by decide) ?_
  refine loopW 10000 (X := fun (i_2 : Nat) (H : Heap) (locs : List Loc) (ls : Array Slot) => 1 ≤ i_2 ∧ va_P V.1 vwCl [(z 30, aJ V 10000 (vp_updL (fun _ => 0) 0 100)), (z 31, aJ V 10000 (fun _ => 0)), (z 0, .inr (10, mo z 0 0 0 0 0 0 0 0 0 0 (-1) 0 0 0 0 1))] H ∧ va_D A [(z 30, aJ V 10000 (vp_updL (fun _ => 0) 0 100)), (z 31, aJ V 10000 (fun _ => 0)), (z 0, .inr (10, mo z 0 0 0 0 0 0 0 0 0 0 (-1) 0 0 0 0 1))] ∧ va_S A s.heap H locs ∧ lv_has ls 2 [(1, .int (nI i_2)), (0, .ref (z 0))]) (g := fun ls => F0 m 2 ls []) (fun i_2 H locs ls hi_i_2 hX ih_i_2 => ?_) 1 (Nat.le_of_ble_eq_true rfl) ⟨Nat.le_refl _, hP, hD, hS, lv_sub hl [0, 1] rfl⟩
  obtain ⟨hlo_i_2, hP, hD, hS, hl⟩ := hX
  refine lv_iload_n hx hb dX10_isThen_2 rfl (lv_at hl 0 rfl) ?_
  refine lv_sipush (v := 10000) hx hb dX10_isThen_3 (by decide) ?_
  refine lv_icmp_ge (tgt := 34) hx hb dX10_isThen_6 (by decide) (fun c_3 => ?_) (fun c_3 => ?_)
  · have e_4 : i_2 = 10000 := by have q9 := (nI_leI (a := 10000) (b := i_2) (by omega) (by omega)).mp c_3; omega
    rw [e_4] at hl
    have hl : lv_has ls 2 [(1, .int 10000), (0, .ref (z 0))] := hl
    exact fiV hx hb hr hlk hK hP hD hS dX10_isThen_34 (Nat.le_of_ble_eq_true rfl) (Nat.le_of_ble_eq_true rfl) (rfl)
  · have e_4 : i_2 < 10000 := by rcases Nat.lt_or_ge i_2 10000 with q9 | q9; exact q9; exact absurd (nI_le q9 (by omega)) c_3
    refine lv_aload_n hx hb dX10_isThen_9 rfl (lv_at hl 1 rfl) ?_
    refine va_get (ci := 10) (v := .ref (z 30)) (C := RX10) (T := TX10) (N := 40) hx hb hg inX10 hown hK hP 2 rfl rfl 30 (by decide) (hg _ q_6_14) (fun _ h9 => h9) rfl dX10_isThen_10 ?_
    refine lv_iload_n hx hb dX10_isThen_13 rfl (lv_at hl 0 rfl) ?_
    refine lv_aload_n hx hb dX10_isThen_14 rfl (lv_at hl 1 rfl) ?_
    refine va_get (ci := 10) (v := .ref (z 31)) (C := RX10) (T := TX10) (N := 40) hx hb hg inX10 hown hK hP 2 rfl rfl 31 (by decide) (hg _ q_6_15) (fun _ h9 => h9) rfl dX10_isThen_15 ?_
    refine lv_iload_n hx hb dX10_isThen_18 rfl (lv_at hl 0 rfl) ?_
    refine va_lald hx hb hK hP 1 2 rfl rfl (vp_in_nI (by omega) (by decide)) dX10_isThen_19 ?_
    refine tpl (y := 0) rfl ?_
    refine va_last hx hb hK hP hD hS 0 2 rfl rfl (vp_in_nI (by omega) (by decide)) dX10_isThen_20 (fun H locs hP hD hS => ?_)
    have hP : va_P V.1 vwCl [(z 30, aJ V 10000 (vp_updL (vp_updL (fun _ => 0) 0 100) (nI i_2).toNatClampNeg 0)), (z 31, aJ V 10000 (fun _ => 0)), (z 0, .inr (10, mo z 0 0 0 0 0 0 0 0 0 0 (-1) 0 0 0 0 1))] H := hP
    have hD : va_D A [(z 30, aJ V 10000 (vp_updL (vp_updL (fun _ => 0) 0 100) (nI i_2).toNatClampNeg 0)), (z 31, aJ V 10000 (fun _ => 0)), (z 0, .inr (10, mo z 0 0 0 0 0 0 0 0 0 0 (-1) 0 0 0 0 1))] := hD
    have hP : va_P V.1 vwCl [(z 30, aJ V 10000 (vp_updL (fun _ => 0) 0 100)), (z 31, aJ V 10000 (fun _ => 0)), (z 0, .inr (10, mo z 0 0 0 0 0 0 0 0 0 0 (-1) 0 0 0 0 1))] H := by rw [updLid (k := (nI i_2).toNatClampNeg) (v := 0) (by rw [nI_clamp (by omega)]; exact if_neg (by omega))] at hP; exact hP
    have hD : va_D A [(z 30, aJ V 10000 (vp_updL (fun _ => 0) 0 100)), (z 31, aJ V 10000 (fun _ => 0)), (z 0, .inr (10, mo z 0 0 0 0 0 0 0 0 0 0 (-1) 0 0 0 0 1))] := by rw [updLid (k := (nI i_2).toNatClampNeg) (v := 0) (by rw [nI_clamp (by omega)]; exact if_neg (by omega))] at hD; exact hD
    refine lv_aload_n hx hb dX10_isThen_21 rfl (lv_at hl 1 rfl) ?_
    refine va_get (ci := 10) (v := .ref (z 31)) (C := RX10) (T := TX10) (N := 40) hx hb hg inX10 hown hK hP 2 rfl rfl 31 (by decide) (hg _ q_6_15) (fun _ h9 => h9) rfl dX10_isThen_22 ?_
    refine lv_iload_n hx hb dX10_isThen_25 rfl (lv_at hl 0 rfl) ?_
    refine lv_lconst (v := 0) hx hb dX10_isThen_26 (by decide) ?_
    refine va_last hx hb hK hP hD hS 1 2 rfl rfl (vp_in_nI (by omega) (by decide)) dX10_isThen_27 (fun H locs hP hD hS => ?_)
    have hP : va_P V.1 vwCl [(z 30, aJ V 10000 (vp_updL (fun _ => 0) 0 100)), (z 31, aJ V 10000 (vp_updL (fun _ => 0) (nI i_2).toNatClampNeg 0)), (z 0, .inr (10, mo z 0 0 0 0 0 0 0 0 0 0 (-1) 0 0 0 0 1))] H := hP
    have hD : va_D A [(z 30, aJ V 10000 (vp_updL (fun _ => 0) 0 100)), (z 31, aJ V 10000 (vp_updL (fun _ => 0) (nI i_2).toNatClampNeg 0)), (z 0, .inr (10, mo z 0 0 0 0 0 0 0 0 0 0 (-1) 0 0 0 0 1))] := hD
    have hP : va_P V.1 vwCl [(z 30, aJ V 10000 (vp_updL (fun _ => 0) 0 100)), (z 31, aJ V 10000 (fun _ => 0)), (z 0, .inr (10, mo z 0 0 0 0 0 0 0 0 0 0 (-1) 0 0 0 0 1))] H := by rw [updL0] at hP; exact hP
    have hD : va_D A [(z 30, aJ V 10000 (vp_updL (fun _ => 0) 0 100)), (z 31, aJ V 10000 (fun _ => 0)), (z 0, .inr (10, mo z 0 0 0 0 0 0 0 0 0 0 (-1) 0 0 0 0 1))] := by rw [updL0] at hD; exact hD
    refine lv_iinc (v := nI (i_2 + 1)) (lv' := [(1, .int (nI (i_2 + 1))), (0, .ref (z 0))]) hx hb dX10_isThen_28 hl (k := 0) rfl (nI_add i_2 1) (by decide) rfl (fun ls hl => ?_)
    refine lv_goto (tgt := 2) hx hb dX10_isThen_31 (by decide) ?_
    exact ih_i_2 e_4 _ _ _ ⟨(by omega), hP, hD, hS, lv_sub hl [0, 1] rfl⟩
set_option maxHeartbeats 4000000 in
set_option maxRecDepth 100000 in
theorem c_X10_goesMany_1 (l : Launch) (V : GV) (z : Nat → Nat) : Ct l V yX10_goesMany (.code yX10_goesMany cX10_goesMany 8 none) 2 [.ref (z 0), .long 10, .long 1] [(z 24, aI V 10000 (fun _ => 0)), (z 25, aI V 40000 (upd (upd (upd (fun _ => 0) 1 (-1)) 2 (-1)) 3 (-1))), (z 30, aJ V 10000 (vp_updL (fun _ => 0) 0 10)), (z 31, aJ V 10000 (fun _ => 0)), (z 0, .inr (10, mo z 0 0 0 0 0 0 0 0 0 0 (-1) 0 0 0 0 1))] 0 0 (QV V (fun (w : va_W) => (w = [(z 24, aI V 10000 (fun _ => 0)), (z 25, aI V 40000 (upd (upd (upd (fun _ => 0) 1 (-1)) 2 (-1)) 3 (-1))), (z 30, aJ V 10000 (vp_updL (fun _ => 0) 0 100)), (z 31, aJ V 10000 (fun _ => 0)), (z 0, .inr (10, mo z 0 0 0 0 0 0 0 0 0 0 (-1) 0 0 0 0 1))]))) := by
  refine Ct.of (by decide) (Nat.le_of_ble_eq_true rfl) (fun p e s m below meth c A ls hx hb hr hml hown hlk hnm hg hP hK hD hE hA hS hl => ?_)
  have hl : lv_has ls 8 [(0, .ref (z 0)), (1, .long 10), (3, .long 1)] := hl
  refine lv_iconst (v := 0) hx hb dX10_goesMany_0 (by decide) ?_
  refine lv_istore (lv' := [(5, .int 0), (0, .ref (z 0)), (1, .long 10), (3, .long 1)]) hx hb dX10_goesMany_1 hl (by decide) rfl (fun ls hl => ?_)
  refine lv_iload hx hb dX10_goesMany_3 (lv_at hl 0 rfl) ?_
  refine lv_aload_n hx hb dX10_goesMany_5 rfl (lv_at hl 1 rfl) ?_
  refine va_get (ci := 10) (v := .int 1) (C := RX10) (T := TX10) (N := 40) hx hb hg inX10 hown hK hP 4 rfl rfl 29 (by decide) (hg _ q_6_13) (fun _ h9 => h9) rfl dX10_goesMany_6 ?_
  refine lv_icmp_ge (tgt := 108) hx hb dX10_goesMany_9 (by decide) (fun c_1 => absurd c_1 (by decide)) (fun _ => ?_)
  refine lv_aload_n hx hb dX10_goesMany_12 rfl (lv_at hl 1 rfl) ?_
  refine va_get (ci := 10) (v := .ref (z 24)) (C := RX10) (T := TX10) (N := 40) hx hb hg inX10 hown hK hP 4 rfl rfl 24 (by decide) (hg _ q_6_8) (fun _ h9 => h9) rfl dX10_goesMany_13 ?_
  refine lv_iload hx hb dX10_goesMany_16 (lv_at hl 0 rfl) ?_
  refine va_iald hx hb hK hP 0 0 rfl rfl (vin (by decide +kernel)) dX10_goesMany_18 ?_
  refine tpi (y := 0) (rfl) ?_
  refine lv_istore (lv' := [(6, .int 0), (5, .int 0), (0, .ref (z 0)), (1, .long 10), (3, .long 1)]) hx hb dX10_goesMany_19 hl (by decide) rfl (fun ls hl => ?_)
  refine lv_iconst (v := 0) hx hb dX10_goesMany_21 (by decide) ?_
  refine lv_istore (lv' := [(7, .int 0), (6, .int 0), (5, .int 0), (0, .ref (z 0)), (1, .long 10), (3, .long 1)]) hx hb dX10_goesMany_22 hl (by decide) rfl (fun ls hl => ?_)
  refine lv_iload hx hb dX10_goesMany_24 (lv_at hl 0 rfl) ?_
  refine lv_iconst (v := 4) hx hb dX10_goesMany_26 (by decide) ?_
  refine lv_icmp_ge (tgt := 102) hx hb dX10_goesMany_27 (by decide) (fun c_2 => absurd c_2 (by decide)) (fun _ => ?_)
  refine lv_aload_n hx hb dX10_goesMany_30 rfl (lv_at hl 3 rfl) ?_
  refine va_get (ci := 10) (v := .ref (z 30)) (C := RX10) (T := TX10) (N := 40) hx hb hg inX10 hown hK hP 4 rfl rfl 30 (by decide) (hg _ q_6_14) (fun _ h9 => h9) rfl dX10_goesMany_31 ?_
  refine lv_iload hx hb dX10_goesMany_34 (lv_at hl 1 rfl) ?_
  refine va_lald hx hb hK hP 2 2 rfl rfl (vin (by decide +kernel)) dX10_goesMany_36 ?_
  refine tpl (y := 10) (rfl) ?_
  refine lv_lconst (v := 0) hx hb dX10_goesMany_37 (by decide) ?_
  refine W.lcmp hx hb dX10_goesMany_38 ?_
  refine lv_if_le (tgt := 102) hx hb dX10_goesMany_39 (by decide) (fun c_3 => absurd ((lg_cmp_le _ _).mp c_3) (by decide)) (fun _ => ?_)
  refine lv_aload_n hx hb dX10_goesMany_42 rfl (lv_at hl 3 rfl) ?_
  refine va_get (ci := 10) (v := .ref (z 25)) (C := RX10) (T := TX10) (N := 40) hx hb hg inX10 hown hK hP 4 rfl rfl 25 (by decide) (hg _ q_6_9) (fun _ h9 => h9) rfl dX10_goesMany_43 ?_
  refine lv_iconst (v := 4) hx hb dX10_goesMany_46 (by decide) ?_
  refine lv_iload hx hb dX10_goesMany_47 (lv_at hl 1 rfl) ?_
  refine lv_imul hx hb dX10_goesMany_49 ?_
  refine tpi (y := 0) (by decide +kernel) ?_
  refine lv_iload hx hb dX10_goesMany_50 (lv_at hl 0 rfl) ?_
  refine lv_iadd hx hb dX10_goesMany_52 ?_
  refine tpi (y := 0) (by decide +kernel) ?_
  refine va_iald hx hb hK hP 1 0 rfl rfl (vin (by decide +kernel)) dX10_goesMany_53 ?_
  refine tpi (y := 0) (rfl) ?_
  refine lv_iconst (v := (-1)) hx hb dX10_goesMany_54 (by decide) ?_
  refine lv_icmp_eq (tgt := 96) hx hb dX10_goesMany_55 (by decide) (fun c_4 => absurd c_4 (by decide)) (fun _ => ?_)
  refine lv_aload_n hx hb dX10_goesMany_58 rfl (lv_at hl 3 rfl) ?_
  refine va_get (ci := 10) (v := .ref (z 31)) (C := RX10) (T := TX10) (N := 40) hx hb hg inX10 hown hK hP 4 rfl rfl 31 (by decide) (hg _ q_6_15) (fun _ h9 => h9) rfl dX10_goesMany_59 ?_
  refine lv_aload_n hx hb dX10_goesMany_62 rfl (lv_at hl 3 rfl) ?_
  refine va_get (ci := 10) (v := .ref (z 25)) (C := RX10) (T := TX10) (N := 40) hx hb hg inX10 hown hK hP 4 rfl rfl 25 (by decide) (hg _ q_6_9) (fun _ h9 => h9) rfl dX10_goesMany_63 ?_
  refine lv_iconst (v := 4) hx hb dX10_goesMany_66 (by decide) ?_
  refine lv_iload hx hb dX10_goesMany_67 (lv_at hl 1 rfl) ?_
  refine lv_imul hx hb dX10_goesMany_69 ?_
  refine tpi (y := 0) (by decide +kernel) ?_
  refine lv_iload hx hb dX10_goesMany_70 (lv_at hl 0 rfl) ?_
  refine lv_iadd hx hb dX10_goesMany_72 ?_
  refine tpi (y := 0) (by decide +kernel) ?_
  refine va_iald hx hb hK hP 1 0 rfl rfl (vin (by decide +kernel)) dX10_goesMany_73 ?_
  refine tpi (y := 0) (rfl) ?_
  refine lv_dup2_11 hx hb dX10_goesMany_74 rfl rfl ?_
  refine va_lald hx hb hK hP 3 2 rfl rfl (vin (by decide +kernel)) dX10_goesMany_75 ?_
  refine tpl (y := 0) (rfl) ?_
  refine lv_aload_n hx hb dX10_goesMany_76 rfl (lv_at hl 3 rfl) ?_
  refine va_get (ci := 10) (v := .ref (z 30)) (C := RX10) (T := TX10) (N := 40) hx hb hg inX10 hown hK hP 4 rfl rfl 30 (by decide) (hg _ q_6_14) (fun _ h9 => h9) rfl dX10_goesMany_77 ?_
  refine lv_iload hx hb dX10_goesMany_80 (lv_at hl 1 rfl) ?_
  refine va_lald hx hb hK hP 2 2 rfl rfl (vin (by decide +kernel)) dX10_goesMany_82 ?_
  refine tpl (y := 10) (rfl) ?_
  refine lv_iload hx hb dX10_goesMany_83 (lv_at hl 0 rfl) ?_
  refine lv_if_ne (tgt := 92) hx hb dX10_goesMany_85 (by decide) (fun c_5 => absurd c_5 (by decide)) (fun _ => ?_)
  refine lv_lload_n hx hb dX10_goesMany_88 rfl (lv_at hl 4 rfl) ?_
  refine lv_goto (tgt := 93) hx hb dX10_goesMany_89 (by decide) ?_
  refine lv_lmul hx hb dX10_goesMany_93 ?_
  refine tpl (y := 100) (by decide +kernel) ?_
  refine lv_ladd hx hb dX10_goesMany_94 ?_
  refine tpl (y := 100) (by decide +kernel) ?_
  refine va_last hx hb hK hP hD hS 3 2 rfl rfl (vin (by decide +kernel)) dX10_goesMany_95 (fun H locs hP hD hS => ?_)
  have hP : va_P V.1 vwCl [(z 24, aI V 10000 (fun _ => 0)), (z 25, aI V 40000 (upd (upd (upd (fun _ => 0) 1 (-1)) 2 (-1)) 3 (-1))), (z 30, aJ V 10000 (vp_updL (fun _ => 0) 0 10)), (z 31, aJ V 10000 (vp_updL (fun _ => 0) 0 100)), (z 0, .inr (10, mo z 0 0 0 0 0 0 0 0 0 0 (-1) 0 0 0 0 1))] H := hP
  have hD : va_D A [(z 24, aI V 10000 (fun _ => 0)), (z 25, aI V 40000 (upd (upd (upd (fun _ => 0) 1 (-1)) 2 (-1)) 3 (-1))), (z 30, aJ V 10000 (vp_updL (fun _ => 0) 0 10)), (z 31, aJ V 10000 (vp_updL (fun _ => 0) 0 100)), (z 0, .inr (10, mo z 0 0 0 0 0 0 0 0 0 0 (-1) 0 0 0 0 1))] := hD
  refine lv_iinc (v := 1) (lv' := [(7, .int 1), (6, .int 0), (5, .int 0), (0, .ref (z 0)), (1, .long 10), (3, .long 1)]) hx hb dX10_goesMany_96 hl (k := 0) rfl (by decide +kernel) (by decide) rfl (fun ls hl => ?_)
  refine lv_goto (tgt := 24) hx hb dX10_goesMany_99 (by decide) ?_
  refine lv_iload hx hb dX10_goesMany_24 (lv_at hl 0 rfl) ?_
  refine lv_iconst (v := 4) hx hb dX10_goesMany_26 (by decide) ?_
  refine lv_icmp_ge (tgt := 102) hx hb dX10_goesMany_27 (by decide) (fun c_6 => absurd c_6 (by decide)) (fun _ => ?_)
  refine lv_aload_n hx hb dX10_goesMany_30 rfl (lv_at hl 3 rfl) ?_
  refine va_get (ci := 10) (v := .ref (z 30)) (C := RX10) (T := TX10) (N := 40) hx hb hg inX10 hown hK hP 4 rfl rfl 30 (by decide) (hg _ q_6_14) (fun _ h9 => h9) rfl dX10_goesMany_31 ?_
  refine lv_iload hx hb dX10_goesMany_34 (lv_at hl 1 rfl) ?_
  refine va_lald hx hb hK hP 2 2 rfl rfl (vin (by decide +kernel)) dX10_goesMany_36 ?_
  refine tpl (y := 10) (rfl) ?_
  refine lv_lconst (v := 0) hx hb dX10_goesMany_37 (by decide) ?_
  refine W.lcmp hx hb dX10_goesMany_38 ?_
  refine lv_if_le (tgt := 102) hx hb dX10_goesMany_39 (by decide) (fun c_7 => absurd ((lg_cmp_le _ _).mp c_7) (by decide)) (fun _ => ?_)
  refine lv_aload_n hx hb dX10_goesMany_42 rfl (lv_at hl 3 rfl) ?_
  refine va_get (ci := 10) (v := .ref (z 25)) (C := RX10) (T := TX10) (N := 40) hx hb hg inX10 hown hK hP 4 rfl rfl 25 (by decide) (hg _ q_6_9) (fun _ h9 => h9) rfl dX10_goesMany_43 ?_
  refine lv_iconst (v := 4) hx hb dX10_goesMany_46 (by decide) ?_
  refine lv_iload hx hb dX10_goesMany_47 (lv_at hl 1 rfl) ?_
  refine lv_imul hx hb dX10_goesMany_49 ?_
  refine tpi (y := 0) (by decide +kernel) ?_
  refine lv_iload hx hb dX10_goesMany_50 (lv_at hl 0 rfl) ?_
  refine lv_iadd hx hb dX10_goesMany_52 ?_
  refine tpi (y := 1) (by decide +kernel) ?_
  refine va_iald hx hb hK hP 1 0 rfl rfl (vin (by decide +kernel)) dX10_goesMany_53 ?_
  refine tpi (y := (-1)) (rfl) ?_
  refine lv_iconst (v := (-1)) hx hb dX10_goesMany_54 (by decide) ?_
  refine lv_icmp_eq (tgt := 96) hx hb dX10_goesMany_55 (by decide) (fun _ => ?_) (fun c_8 => absurd c_8 (by decide))
  refine lv_iinc (v := 2) (lv' := [(7, .int 2), (6, .int 0), (5, .int 0), (0, .ref (z 0)), (1, .long 10), (3, .long 1)]) hx hb dX10_goesMany_96 hl (k := 0) rfl (by decide +kernel) (by decide) rfl (fun ls hl => ?_)
  refine lv_goto (tgt := 24) hx hb dX10_goesMany_99 (by decide) ?_
  refine lv_iload hx hb dX10_goesMany_24 (lv_at hl 0 rfl) ?_
  refine lv_iconst (v := 4) hx hb dX10_goesMany_26 (by decide) ?_
  refine lv_icmp_ge (tgt := 102) hx hb dX10_goesMany_27 (by decide) (fun c_9 => absurd c_9 (by decide)) (fun _ => ?_)
  refine lv_aload_n hx hb dX10_goesMany_30 rfl (lv_at hl 3 rfl) ?_
  refine va_get (ci := 10) (v := .ref (z 30)) (C := RX10) (T := TX10) (N := 40) hx hb hg inX10 hown hK hP 4 rfl rfl 30 (by decide) (hg _ q_6_14) (fun _ h9 => h9) rfl dX10_goesMany_31 ?_
  refine lv_iload hx hb dX10_goesMany_34 (lv_at hl 1 rfl) ?_
  refine va_lald hx hb hK hP 2 2 rfl rfl (vin (by decide +kernel)) dX10_goesMany_36 ?_
  refine tpl (y := 10) (rfl) ?_
  refine lv_lconst (v := 0) hx hb dX10_goesMany_37 (by decide) ?_
  refine W.lcmp hx hb dX10_goesMany_38 ?_
  refine lv_if_le (tgt := 102) hx hb dX10_goesMany_39 (by decide) (fun c_10 => absurd ((lg_cmp_le _ _).mp c_10) (by decide)) (fun _ => ?_)
  refine lv_aload_n hx hb dX10_goesMany_42 rfl (lv_at hl 3 rfl) ?_
  refine va_get (ci := 10) (v := .ref (z 25)) (C := RX10) (T := TX10) (N := 40) hx hb hg inX10 hown hK hP 4 rfl rfl 25 (by decide) (hg _ q_6_9) (fun _ h9 => h9) rfl dX10_goesMany_43 ?_
  refine lv_iconst (v := 4) hx hb dX10_goesMany_46 (by decide) ?_
  refine lv_iload hx hb dX10_goesMany_47 (lv_at hl 1 rfl) ?_
  refine lv_imul hx hb dX10_goesMany_49 ?_
  refine tpi (y := 0) (by decide +kernel) ?_
  refine lv_iload hx hb dX10_goesMany_50 (lv_at hl 0 rfl) ?_
  refine lv_iadd hx hb dX10_goesMany_52 ?_
  refine tpi (y := 2) (by decide +kernel) ?_
  refine va_iald hx hb hK hP 1 0 rfl rfl (vin (by decide +kernel)) dX10_goesMany_53 ?_
  refine tpi (y := (-1)) (rfl) ?_
  refine lv_iconst (v := (-1)) hx hb dX10_goesMany_54 (by decide) ?_
  refine lv_icmp_eq (tgt := 96) hx hb dX10_goesMany_55 (by decide) (fun _ => ?_) (fun c_11 => absurd c_11 (by decide))
  refine lv_iinc (v := 3) (lv' := [(7, .int 3), (6, .int 0), (5, .int 0), (0, .ref (z 0)), (1, .long 10), (3, .long 1)]) hx hb dX10_goesMany_96 hl (k := 0) rfl (by decide +kernel) (by decide) rfl (fun ls hl => ?_)
  refine lv_goto (tgt := 24) hx hb dX10_goesMany_99 (by decide) ?_
  refine lv_iload hx hb dX10_goesMany_24 (lv_at hl 0 rfl) ?_
  refine lv_iconst (v := 4) hx hb dX10_goesMany_26 (by decide) ?_
  refine lv_icmp_ge (tgt := 102) hx hb dX10_goesMany_27 (by decide) (fun c_12 => absurd c_12 (by decide)) (fun _ => ?_)
  refine lv_aload_n hx hb dX10_goesMany_30 rfl (lv_at hl 3 rfl) ?_
  refine va_get (ci := 10) (v := .ref (z 30)) (C := RX10) (T := TX10) (N := 40) hx hb hg inX10 hown hK hP 4 rfl rfl 30 (by decide) (hg _ q_6_14) (fun _ h9 => h9) rfl dX10_goesMany_31 ?_
  refine lv_iload hx hb dX10_goesMany_34 (lv_at hl 1 rfl) ?_
  refine va_lald hx hb hK hP 2 2 rfl rfl (vin (by decide +kernel)) dX10_goesMany_36 ?_
  refine tpl (y := 10) (rfl) ?_
  refine lv_lconst (v := 0) hx hb dX10_goesMany_37 (by decide) ?_
  refine W.lcmp hx hb dX10_goesMany_38 ?_
  refine lv_if_le (tgt := 102) hx hb dX10_goesMany_39 (by decide) (fun c_13 => absurd ((lg_cmp_le _ _).mp c_13) (by decide)) (fun _ => ?_)
  refine lv_aload_n hx hb dX10_goesMany_42 rfl (lv_at hl 3 rfl) ?_
  refine va_get (ci := 10) (v := .ref (z 25)) (C := RX10) (T := TX10) (N := 40) hx hb hg inX10 hown hK hP 4 rfl rfl 25 (by decide) (hg _ q_6_9) (fun _ h9 => h9) rfl dX10_goesMany_43 ?_
  refine lv_iconst (v := 4) hx hb dX10_goesMany_46 (by decide) ?_
  refine lv_iload hx hb dX10_goesMany_47 (lv_at hl 1 rfl) ?_
  refine lv_imul hx hb dX10_goesMany_49 ?_
  refine tpi (y := 0) (by decide +kernel) ?_
  refine lv_iload hx hb dX10_goesMany_50 (lv_at hl 0 rfl) ?_
  refine lv_iadd hx hb dX10_goesMany_52 ?_
  refine tpi (y := 3) (by decide +kernel) ?_
  refine va_iald hx hb hK hP 1 0 rfl rfl (vin (by decide +kernel)) dX10_goesMany_53 ?_
  refine tpi (y := (-1)) (rfl) ?_
  refine lv_iconst (v := (-1)) hx hb dX10_goesMany_54 (by decide) ?_
  refine lv_icmp_eq (tgt := 96) hx hb dX10_goesMany_55 (by decide) (fun _ => ?_) (fun c_14 => absurd c_14 (by decide))
  refine lv_iinc (v := 4) (lv' := [(7, .int 4), (6, .int 0), (5, .int 0), (0, .ref (z 0)), (1, .long 10), (3, .long 1)]) hx hb dX10_goesMany_96 hl (k := 0) rfl (by decide +kernel) (by decide) rfl (fun ls hl => ?_)
  refine lv_goto (tgt := 24) hx hb dX10_goesMany_99 (by decide) ?_
  refine lv_iload hx hb dX10_goesMany_24 (lv_at hl 0 rfl) ?_
  refine lv_iconst (v := 4) hx hb dX10_goesMany_26 (by decide) ?_
  refine lv_icmp_ge (tgt := 102) hx hb dX10_goesMany_27 (by decide) (fun _ => ?_) (fun c_15 => absurd c_15 (by decide))
  refine lv_iinc (v := 1) (lv' := [(5, .int 1), (7, .int 4), (6, .int 0), (0, .ref (z 0)), (1, .long 10), (3, .long 1)]) hx hb dX10_goesMany_102 hl (k := 2) rfl (by decide +kernel) (by decide) rfl (fun ls hl => ?_)
  refine lv_goto (tgt := 3) hx hb dX10_goesMany_105 (by decide) ?_
  refine lv_iload hx hb dX10_goesMany_3 (lv_at hl 0 rfl) ?_
  refine lv_aload_n hx hb dX10_goesMany_5 rfl (lv_at hl 3 rfl) ?_
  refine va_get (ci := 10) (v := .int 1) (C := RX10) (T := TX10) (N := 40) hx hb hg inX10 hown hK hP 4 rfl rfl 29 (by decide) (hg _ q_6_13) (fun _ h9 => h9) rfl dX10_goesMany_6 ?_
  refine lv_icmp_ge (tgt := 108) hx hb dX10_goesMany_9 (by decide) (fun _ => ?_) (fun c_16 => absurd c_16 (by decide))
  refine lv_aload_n hx hb dX10_goesMany_108 rfl (lv_at hl 3 rfl) ?_
  refine jnV (wr := [(z 24, aI V 10000 (fun _ => 0)), (z 25, aI V 40000 (upd (upd (upd (fun _ => 0) 1 (-1)) 2 (-1)) 3 (-1)))]) (rnV (rest := []) ⟨hx, hb, hml, hown, hg⟩ (c_X10_isThen_1 l V z) mt_X10_isThen q_7_228 ⟨Nat.le_of_ble_eq_true rfl, Nat.le_of_ble_eq_true rfl⟩ hK hP hD hS hA hE [2, 3, 4] rfl rfl 4 rfl rfl rfl rfl hl.1 rfl (Nat.le_of_ble_eq_true rfl) dX10_goesMany_109 ⟨Nat.le_of_ble_eq_true rfl, Nat.le_of_ble_eq_true rfl⟩) hP hD hS hA [2, 3, 4] [0, 1] rfl rfl rfl (by decide) (fun  w H locs hw hP hD hS => ?_)
  subst hw
  have hP : va_P V.1 vwCl [(z 24, aI V 10000 (fun _ => 0)), (z 25, aI V 40000 (upd (upd (upd (fun _ => 0) 1 (-1)) 2 (-1)) 3 (-1))), (z 30, aJ V 10000 (vp_updL (fun _ => 0) 0 100)), (z 31, aJ V 10000 (fun _ => 0)), (z 0, .inr (10, mo z 0 0 0 0 0 0 0 0 0 0 (-1) 0 0 0 0 1))] H := hP
  have hD : va_D A [(z 24, aI V 10000 (fun _ => 0)), (z 25, aI V 40000 (upd (upd (upd (fun _ => 0) 1 (-1)) 2 (-1)) 3 (-1))), (z 30, aJ V 10000 (vp_updL (fun _ => 0) 0 100)), (z 31, aJ V 10000 (fun _ => 0)), (z 0, .inr (10, mo z 0 0 0 0 0 0 0 0 0 0 (-1) 0 0 0 0 1))] := hD
  exact fiV hx hb hr hlk hK hP hD hS dX10_goesMany_112 (Nat.le_of_ble_eq_true rfl) (Nat.le_of_ble_eq_true rfl) (rfl)
set_option maxHeartbeats 4000000 in
set_option maxRecDepth 100000 in
theorem c_X10_laysLikely_2 (l : Launch) (V : GV) (z : Nat → Nat) : Ct l V yX10_laysLikely (.code yX10_laysLikely cX10_laysLikely 4 none) 4 [.ref (z 0), .int 2] [(z 0, .inr (10, mo z 0 0 0 0 0 0 0 0 0 0 (-1) 0 0 0 0 0)), (z 24, aI V 10000 (fun _ => 0)), (z 25, aI V 40000 (fun _ => 0)), (z 28, aZ V 10000 (fun _ => 0)), (z 30, aJ V 10000 (fun _ => 0)), (z 31, aJ V 10000 (fun _ => 0)), (z 1, aI V 3075 (fun _ => 0))] 0 0 (QV V (fun (w : va_W) => (w = [(z 0, .inr (10, mo z 0 0 0 0 0 0 0 0 0 0 (-1) 0 0 0 0 1)), (z 24, aI V 10000 (fun _ => 0)), (z 25, aI V 40000 (upd (upd (upd (fun _ => 0) 1 (-1)) 2 (-1)) 3 (-1))), (z 28, aZ V 10000 (upd (fun _ => 0) 0 1)), (z 30, aJ V 10000 (vp_updL (fun _ => 0) 0 100)), (z 31, aJ V 10000 (fun _ => 0)), (z 1, aI V 3075 (fun _ => 0))]))) := by
  refine Ct.of (by decide) (Nat.le_of_ble_eq_true rfl) (fun p e s m below meth c A ls hx hb hr hml hown hlk hnm hg hP hK hD hE hA hS hl => ?_)
  have hl : lv_has ls 4 [(0, .ref (z 0)), (1, .int 2)] := hl
  refine lv_aload_n hx hb dX10_laysLikely_0 rfl (lv_at hl 0 rfl) ?_
  refine jnV (wr := [(z 30, aJ V 10000 (fun _ => 0)), (z 31, aJ V 10000 (fun _ => 0))]) (rnV (rest := []) ⟨hx, hb, hml, hown, hg⟩ (c_X10_laysStands_0 l V z) mt_X10_laysStands q_7_194 ⟨Nat.le_of_ble_eq_true rfl, Nat.le_of_ble_eq_true rfl⟩ hK hP hD hS hA hE [0, 1, 2, 3, 6] rfl rfl 0 rfl rfl rfl rfl hl.1 rfl (Nat.le_of_ble_eq_true rfl) dX10_laysLikely_1 ⟨Nat.le_of_ble_eq_true rfl, Nat.le_of_ble_eq_true rfl⟩) hP hD hS hA [0, 1, 2, 3, 6] [4, 5] rfl rfl rfl (by decide) (fun  w H locs hw hP hD hS => ?_)
  subst hw
  have hP : va_P V.1 vwCl [(z 30, aJ V 10000 (fun _ => 0)), (z 31, aJ V 10000 (fun _ => 0)), (z 0, .inr (10, mo z 0 0 0 0 0 0 0 0 0 0 (-1) 0 0 0 0 1)), (z 24, aI V 10000 (fun _ => 0)), (z 25, aI V 40000 (upd (upd (upd (fun _ => 0) 1 (-1)) 2 (-1)) 3 (-1))), (z 28, aZ V 10000 (upd (fun _ => 0) 0 1)), (z 1, aI V 3075 (fun _ => 0))] H := hP
  have hD : va_D A [(z 30, aJ V 10000 (fun _ => 0)), (z 31, aJ V 10000 (fun _ => 0)), (z 0, .inr (10, mo z 0 0 0 0 0 0 0 0 0 0 (-1) 0 0 0 0 1)), (z 24, aI V 10000 (fun _ => 0)), (z 25, aI V 40000 (upd (upd (upd (fun _ => 0) 1 (-1)) 2 (-1)) 3 (-1))), (z 28, aZ V 10000 (upd (fun _ => 0) 0 1)), (z 1, aI V 3075 (fun _ => 0))] := hD
  refine lv_aload_n hx hb dX10_laysLikely_4 rfl (lv_at hl 0 rfl) ?_
  refine jnV (wr := [(z 24, aI V 10000 (fun _ => 0)), (z 25, aI V 40000 (upd (upd (upd (fun _ => 0) 1 (-1)) 2 (-1)) 3 (-1))), (z 28, aZ V 10000 (upd (fun _ => 0) 0 1))]) (rnV (rest := []) ⟨hx, hb, hml, hown, hg⟩ (c_X10_beginsMany_0 l V z) mt_X10_beginsMany q_7_220 ⟨Nat.le_of_ble_eq_true rfl, Nat.le_of_ble_eq_true rfl⟩ hK hP hD hS hA hE [0, 1, 2, 6] rfl rfl 2 rfl rfl rfl rfl hl.1 rfl (Nat.le_of_ble_eq_true rfl) dX10_laysLikely_5 ⟨Nat.le_of_ble_eq_true rfl, Nat.le_of_ble_eq_true rfl⟩) hP hD hS hA [0, 1, 2, 6] [3, 4, 5] rfl rfl rfl (by decide) (fun  w H locs hw hP hD hS => ?_)
  subst hw
  have hP : va_P V.1 vwCl [(z 24, aI V 10000 (fun _ => 0)), (z 25, aI V 40000 (upd (upd (upd (fun _ => 0) 1 (-1)) 2 (-1)) 3 (-1))), (z 28, aZ V 10000 (upd (fun _ => 0) 0 1)), (z 30, aJ V 10000 (vp_updL (fun _ => 0) 0 1)), (z 31, aJ V 10000 (fun _ => 0)), (z 0, .inr (10, mo z 0 0 0 0 0 0 0 0 0 0 (-1) 0 0 0 0 1)), (z 1, aI V 3075 (fun _ => 0))] H := hP
  have hD : va_D A [(z 24, aI V 10000 (fun _ => 0)), (z 25, aI V 40000 (upd (upd (upd (fun _ => 0) 1 (-1)) 2 (-1)) 3 (-1))), (z 28, aZ V 10000 (upd (fun _ => 0) 0 1)), (z 30, aJ V 10000 (vp_updL (fun _ => 0) 0 1)), (z 31, aJ V 10000 (fun _ => 0)), (z 0, .inr (10, mo z 0 0 0 0 0 0 0 0 0 0 (-1) 0 0 0 0 1)), (z 1, aI V 3075 (fun _ => 0))] := hD
  refine lv_aload_n hx hb dX10_laysLikely_8 rfl (lv_at hl 0 rfl) ?_
  refine va_get (ci := 10) (v := .ref (z 1)) (C := RX10) (T := TX10) (N := 40) hx hb hg inX10 hown hK hP 5 rfl rfl 1 (by decide) (hg _ q_5_225) (fun _ h9 => h9) rfl dX10_laysLikely_9 ?_
  refine lv_iconst (v := 1) hx hb dX10_laysLikely_12 (by decide) ?_
  refine va_iald hx hb hK hP 6 0 rfl rfl (vin (by decide +kernel)) dX10_laysLikely_13 ?_
  refine tpi (y := 0) (rfl) ?_
  refine lv_if_ne (tgt := 21) hx hb dX10_laysLikely_14 (by decide) (fun c_1 => absurd c_1 (by decide)) (fun _ => ?_)
  refine lv_iconst (v := 0) hx hb dX10_laysLikely_17 (by decide) ?_
  refine lv_goto (tgt := 29) hx hb dX10_laysLikely_18 (by decide) ?_
  refine lv_istore_n (lv' := [(2, .int 0), (0, .ref (z 0)), (1, .int 2)]) hx hb dX10_laysLikely_29 rfl hl (by decide) rfl (fun ls hl => ?_)
  refine lv_iconst (v := 0) hx hb dX10_laysLikely_30 (by decide) ?_
  refine lv_istore_n (lv' := [(3, .int 0), (2, .int 0), (0, .ref (z 0)), (1, .int 2)]) hx hb dX10_laysLikely_31 rfl hl (by decide) rfl (fun ls hl => ?_)
  refine lv_iload_n hx hb dX10_laysLikely_32 rfl (lv_at hl 0 rfl) ?_
  refine lv_iload_n hx hb dX10_laysLikely_33 rfl (lv_at hl 3 rfl) ?_
  refine lv_icmp_ge (tgt := 54) hx hb dX10_laysLikely_34 (by decide) (fun c_2 => absurd c_2 (by decide)) (fun _ => ?_)
  refine lv_aload_n hx hb dX10_laysLikely_37 rfl (lv_at hl 2 rfl) ?_
  refine lv_ldc2 (v := 10) hx hb hown (hg _ q_7_102) dX10_laysLikely_38 ?_
  refine lv_iload_n hx hb dX10_laysLikely_41 rfl (lv_at hl 1 rfl) ?_
  refine lv_i2l (v := 0) hx hb dX10_laysLikely_42 (by decide +kernel) ?_
  refine lv_lsub hx hb dX10_laysLikely_43 ?_
  refine tpl (y := 10) (by decide +kernel) ?_
  refine lv_lconst (v := 1) hx hb dX10_laysLikely_44 (by decide) ?_
  refine jnV (wr := [(z 28, aZ V 10000 (upd (fun _ => 0) 0 1)), (z 1, aI V 3075 (fun _ => 0))]) (rnV (rest := []) ⟨hx, hb, hml, hown, hg⟩ (c_X10_goesMany_0 l V z) mt_X10_goesMany q_7_224 ⟨Nat.le_of_ble_eq_true rfl, Nat.le_of_ble_eq_true rfl⟩ hK hP hD hS hA hE [0, 1, 3, 4, 5] rfl rfl 5 rfl rfl rfl rfl hl.1 rfl (Nat.le_of_ble_eq_true rfl) dX10_laysLikely_45 ⟨Nat.le_of_ble_eq_true rfl, Nat.le_of_ble_eq_true rfl⟩) hP hD hS hA [0, 1, 3, 4, 5] [2, 6] rfl rfl rfl (by decide) (fun  w H locs hw hP hD hS => ?_)
  subst hw
  have hP : va_P V.1 vwCl [(z 28, aZ V 10000 (upd (fun _ => 0) 0 1)), (z 1, aI V 3075 (fun _ => 0)), (z 24, aI V 10000 (fun _ => 0)), (z 25, aI V 40000 (upd (upd (upd (fun _ => 0) 1 (-1)) 2 (-1)) 3 (-1))), (z 30, aJ V 10000 (vp_updL (fun _ => 0) 0 10)), (z 31, aJ V 10000 (fun _ => 0)), (z 0, .inr (10, mo z 0 0 0 0 0 0 0 0 0 0 (-1) 0 0 0 0 1))] H := hP
  have hD : va_D A [(z 28, aZ V 10000 (upd (fun _ => 0) 0 1)), (z 1, aI V 3075 (fun _ => 0)), (z 24, aI V 10000 (fun _ => 0)), (z 25, aI V 40000 (upd (upd (upd (fun _ => 0) 1 (-1)) 2 (-1)) 3 (-1))), (z 30, aJ V 10000 (vp_updL (fun _ => 0) 0 10)), (z 31, aJ V 10000 (fun _ => 0)), (z 0, .inr (10, mo z 0 0 0 0 0 0 0 0 0 0 (-1) 0 0 0 0 1))] := hD
  refine lv_iinc (v := 1) (lv' := [(3, .int 1), (2, .int 0), (0, .ref (z 0)), (1, .int 2)]) hx hb dX10_laysLikely_48 hl (k := 0) rfl (by decide +kernel) (by decide) rfl (fun ls hl => ?_)
  refine lv_goto (tgt := 32) hx hb dX10_laysLikely_51 (by decide) ?_
  refine lv_iload_n hx hb dX10_laysLikely_32 rfl (lv_at hl 0 rfl) ?_
  refine lv_iload_n hx hb dX10_laysLikely_33 rfl (lv_at hl 3 rfl) ?_
  refine lv_icmp_ge (tgt := 54) hx hb dX10_laysLikely_34 (by decide) (fun c_3 => absurd c_3 (by decide)) (fun _ => ?_)
  refine lv_aload_n hx hb dX10_laysLikely_37 rfl (lv_at hl 2 rfl) ?_
  refine lv_ldc2 (v := 10) hx hb hown (hg _ q_7_102) dX10_laysLikely_38 ?_
  refine lv_iload_n hx hb dX10_laysLikely_41 rfl (lv_at hl 1 rfl) ?_
  refine lv_i2l (v := 0) hx hb dX10_laysLikely_42 (by decide +kernel) ?_
  refine lv_lsub hx hb dX10_laysLikely_43 ?_
  refine tpl (y := 10) (by decide +kernel) ?_
  refine lv_lconst (v := 1) hx hb dX10_laysLikely_44 (by decide) ?_
  refine jnV (wr := [(z 28, aZ V 10000 (upd (fun _ => 0) 0 1)), (z 1, aI V 3075 (fun _ => 0))]) (rnV (rest := []) ⟨hx, hb, hml, hown, hg⟩ (c_X10_goesMany_1 l V z) mt_X10_goesMany q_7_224 ⟨Nat.le_of_ble_eq_true rfl, Nat.le_of_ble_eq_true rfl⟩ hK hP hD hS hA hE [2, 3, 4, 5, 6] rfl rfl 6 rfl rfl rfl rfl hl.1 rfl (Nat.le_of_ble_eq_true rfl) dX10_laysLikely_45 ⟨Nat.le_of_ble_eq_true rfl, Nat.le_of_ble_eq_true rfl⟩) hP hD hS hA [2, 3, 4, 5, 6] [0, 1] rfl rfl rfl (by decide) (fun  w H locs hw hP hD hS => ?_)
  subst hw
  have hP : va_P V.1 vwCl [(z 28, aZ V 10000 (upd (fun _ => 0) 0 1)), (z 1, aI V 3075 (fun _ => 0)), (z 24, aI V 10000 (fun _ => 0)), (z 25, aI V 40000 (upd (upd (upd (fun _ => 0) 1 (-1)) 2 (-1)) 3 (-1))), (z 30, aJ V 10000 (vp_updL (fun _ => 0) 0 100)), (z 31, aJ V 10000 (fun _ => 0)), (z 0, .inr (10, mo z 0 0 0 0 0 0 0 0 0 0 (-1) 0 0 0 0 1))] H := hP
  have hD : va_D A [(z 28, aZ V 10000 (upd (fun _ => 0) 0 1)), (z 1, aI V 3075 (fun _ => 0)), (z 24, aI V 10000 (fun _ => 0)), (z 25, aI V 40000 (upd (upd (upd (fun _ => 0) 1 (-1)) 2 (-1)) 3 (-1))), (z 30, aJ V 10000 (vp_updL (fun _ => 0) 0 100)), (z 31, aJ V 10000 (fun _ => 0)), (z 0, .inr (10, mo z 0 0 0 0 0 0 0 0 0 0 (-1) 0 0 0 0 1))] := hD
  refine lv_iinc (v := 2) (lv' := [(3, .int 2), (2, .int 0), (0, .ref (z 0)), (1, .int 2)]) hx hb dX10_laysLikely_48 hl (k := 0) rfl (by decide +kernel) (by decide) rfl (fun ls hl => ?_)
  refine lv_goto (tgt := 32) hx hb dX10_laysLikely_51 (by decide) ?_
  refine lv_iload_n hx hb dX10_laysLikely_32 rfl (lv_at hl 0 rfl) ?_
  refine lv_iload_n hx hb dX10_laysLikely_33 rfl (lv_at hl 3 rfl) ?_
  refine lv_icmp_ge (tgt := 54) hx hb dX10_laysLikely_34 (by decide) (fun _ => ?_) (fun c_4 => absurd c_4 (by decide))
  have hP := subP (ws' := [(z 0, .inr (10, mo z 0 0 0 0 0 0 0 0 0 0 (-1) 0 0 0 0 1)), (z 24, aI V 10000 (fun _ => 0)), (z 25, aI V 40000 (upd (upd (upd (fun _ => 0) 1 (-1)) 2 (-1)) 3 (-1))), (z 28, aZ V 10000 (upd (fun _ => 0) 0 1)), (z 30, aJ V 10000 (vp_updL (fun _ => 0) 0 100)), (z 31, aJ V 10000 (fun _ => 0)), (z 1, aI V 3075 (fun _ => 0))]) hP [6, 2, 3, 0, 4, 5, 1] rfl
  have hD := hD.sub (ws' := [(z 0, .inr (10, mo z 0 0 0 0 0 0 0 0 0 0 (-1) 0 0 0 0 1)), (z 24, aI V 10000 (fun _ => 0)), (z 25, aI V 40000 (upd (upd (upd (fun _ => 0) 1 (-1)) 2 (-1)) 3 (-1))), (z 28, aZ V 10000 (upd (fun _ => 0) 0 1)), (z 30, aJ V 10000 (vp_updL (fun _ => 0) 0 100)), (z 31, aJ V 10000 (fun _ => 0)), (z 1, aI V 3075 (fun _ => 0))]) [6, 2, 3, 0, 4, 5, 1] rfl rfl
  exact fiV hx hb hr hlk hK hP hD hS dX10_laysLikely_54 (Nat.le_of_ble_eq_true rfl) (Nat.le_of_ble_eq_true rfl) (rfl)
set_option maxHeartbeats 4000000 in
set_option maxRecDepth 100000 in
theorem c_X10_wholeOf_2 (l : Launch) (V : GV) : Ct l V yX10_wholeOf (.code yX10_wholeOf cX10_wholeOf 4 (some .long)) 1 [.int 2] [] 0 0 (QL V (fun (r : Int64) (w : va_W) => (r = 100 ∧ w = []))) := by
  refine Ct.of (by decide) (Nat.le_of_ble_eq_true rfl) (fun p e s m below meth c A ls hx hb hr hml hown hlk hnm hg hP hK hD hE hA hS hl => ?_)
  have hl : lv_has ls 4 [(0, .int 2)] := hl
  refine lv_lconst (v := 1) hx hb dX10_wholeOf_0 (by decide) ?_
  refine lv_lstore_n (lv' := [(1, .long 1), (0, .int 2)]) hx hb dX10_wholeOf_1 rfl hl (by decide) rfl (fun ls hl => ?_)
  refine lv_iconst (v := 0) hx hb dX10_wholeOf_2 (by decide) ?_
  refine lv_istore_n (lv' := [(3, .int 0), (1, .long 1), (0, .int 2)]) hx hb dX10_wholeOf_3 rfl hl (by decide) rfl (fun ls hl => ?_)
  refine lv_iload_n hx hb dX10_wholeOf_4 rfl (lv_at hl 0 rfl) ?_
  refine lv_iload_n hx hb dX10_wholeOf_5 rfl (lv_at hl 2 rfl) ?_
  refine lv_icmp_ge (tgt := 21) hx hb dX10_wholeOf_6 (by decide) (fun c_1 => absurd c_1 (by decide)) (fun _ => ?_)
  refine lv_lload_n hx hb dX10_wholeOf_9 rfl (lv_at hl 1 rfl) ?_
  refine lv_ldc2 (v := 10) hx hb hown (hg _ q_7_102) dX10_wholeOf_10 ?_
  refine lv_lmul hx hb dX10_wholeOf_13 ?_
  refine tpl (y := 10) (by decide +kernel) ?_
  refine lv_lstore_n (lv' := [(1, .long 10), (3, .int 0), (0, .int 2)]) hx hb dX10_wholeOf_14 rfl hl (by decide) rfl (fun ls hl => ?_)
  refine lv_iinc (v := 1) (lv' := [(3, .int 1), (1, .long 10), (0, .int 2)]) hx hb dX10_wholeOf_15 hl (k := 1) rfl (by decide +kernel) (by decide) rfl (fun ls hl => ?_)
  refine lv_goto (tgt := 4) hx hb dX10_wholeOf_18 (by decide) ?_
  refine lv_iload_n hx hb dX10_wholeOf_4 rfl (lv_at hl 0 rfl) ?_
  refine lv_iload_n hx hb dX10_wholeOf_5 rfl (lv_at hl 2 rfl) ?_
  refine lv_icmp_ge (tgt := 21) hx hb dX10_wholeOf_6 (by decide) (fun c_2 => absurd c_2 (by decide)) (fun _ => ?_)
  refine lv_lload_n hx hb dX10_wholeOf_9 rfl (lv_at hl 1 rfl) ?_
  refine lv_ldc2 (v := 10) hx hb hown (hg _ q_7_102) dX10_wholeOf_10 ?_
  refine lv_lmul hx hb dX10_wholeOf_13 ?_
  refine tpl (y := 100) (by decide +kernel) ?_
  refine lv_lstore_n (lv' := [(1, .long 100), (3, .int 1), (0, .int 2)]) hx hb dX10_wholeOf_14 rfl hl (by decide) rfl (fun ls hl => ?_)
  refine lv_iinc (v := 2) (lv' := [(3, .int 2), (1, .long 100), (0, .int 2)]) hx hb dX10_wholeOf_15 hl (k := 1) rfl (by decide +kernel) (by decide) rfl (fun ls hl => ?_)
  refine lv_goto (tgt := 4) hx hb dX10_wholeOf_18 (by decide) ?_
  refine lv_iload_n hx hb dX10_wholeOf_4 rfl (lv_at hl 0 rfl) ?_
  refine lv_iload_n hx hb dX10_wholeOf_5 rfl (lv_at hl 2 rfl) ?_
  refine lv_icmp_ge (tgt := 21) hx hb dX10_wholeOf_6 (by decide) (fun _ => ?_) (fun c_3 => absurd c_3 (by decide))
  refine lv_lload_n hx hb dX10_wholeOf_21 rfl (lv_at hl 1 rfl) ?_
  exact fiL hx hb hr hlk hK hP hD hS dX10_wholeOf_22 (Nat.le_of_ble_eq_true rfl) (Nat.le_of_ble_eq_true rfl) (⟨rfl, rfl⟩)
set_option maxHeartbeats 4000000 in
set_option maxRecDepth 100000 in
theorem c_X10_common_4 (l : Launch) (V : GV) : Ct l V yX10_common (.code yX10_common cX10_common 4 (some .long)) 1 [.long 100, .long 0] [] 0 0 (QL V (fun (r : Int64) (w : va_W) => (r = 100 ∧ w = []))) := by
  refine Ct.of (by decide) (Nat.le_of_ble_eq_true rfl) (fun p e s m below meth c A ls hx hb hr hml hown hlk hnm hg hP hK hD hE hA hS hl => ?_)
  have hl : lv_has ls 4 [(0, .long 100), (2, .long 0)] := hl
  refine lv_lload_n hx hb dX10_common_0 rfl (lv_at hl 1 rfl) ?_
  refine lv_lconst (v := 0) hx hb dX10_common_1 (by decide) ?_
  refine W.lcmp hx hb dX10_common_2 ?_
  refine lv_if_ne (tgt := 10) hx hb dX10_common_3 (by decide) (fun c_1 => absurd (fun z => c_1 ((lg_cmp_eq _ _).mpr z)) (by decide)) (fun _ => ?_)
  refine lv_lload_n hx hb dX10_common_6 rfl (lv_at hl 0 rfl) ?_
  refine lv_goto (tgt := 17) hx hb dX10_common_7 (by decide) ?_
  exact fiL hx hb hr hlk hK hP hD hS dX10_common_17 (Nat.le_of_ble_eq_true rfl) (Nat.le_of_ble_eq_true rfl) (⟨rfl, rfl⟩)
set_option maxHeartbeats 4000000 in
set_option maxRecDepth 100000 in
theorem c_X10_common_5 (l : Launch) (V : GV) : Ct l V yX10_common (.code yX10_common cX10_common 4 (some .long)) 2 [.long 0, .long 100] [] 0 0 (QL V (fun (r : Int64) (w : va_W) => (r = 100 ∧ w = []))) := by
  refine Ct.of (by decide) (Nat.le_of_ble_eq_true rfl) (fun p e s m below meth c A ls hx hb hr hml hown hlk hnm hg hP hK hD hE hA hS hl => ?_)
  have hl : lv_has ls 4 [(0, .long 0), (2, .long 100)] := hl
  refine lv_lload_n hx hb dX10_common_0 rfl (lv_at hl 1 rfl) ?_
  refine lv_lconst (v := 0) hx hb dX10_common_1 (by decide) ?_
  refine W.lcmp hx hb dX10_common_2 ?_
  refine lv_if_ne (tgt := 10) hx hb dX10_common_3 (by decide) (fun _ => ?_) (fun c_1 => absurd ((lg_cmp_eq _ _).mp c_1) (by decide))
  refine lv_lload_n hx hb dX10_common_10 rfl (lv_at hl 1 rfl) ?_
  refine lv_lload_n hx hb dX10_common_11 rfl (lv_at hl 0 rfl) ?_
  refine lv_lload_n hx hb dX10_common_12 rfl (lv_at hl 1 rfl) ?_
  refine lv_lrem hx hb dX10_common_13 (by decide) ?_
  refine tpl (y := 0) (by decide +kernel) ?_
  refine jnL (wr := []) (rnS (rest := []) ⟨hx, hb, hml, hown, hg⟩ (c_X10_common_4 l V) mt_X10_common q_8_124 ⟨Nat.le_of_ble_eq_true rfl, Nat.le_of_ble_eq_true rfl⟩ hK hP hD hS hA hE [] rfl rfl rfl hl.1 rfl (Nat.le_of_ble_eq_true rfl) dX10_common_14 ⟨Nat.le_of_ble_eq_true rfl, Nat.le_of_ble_eq_true rfl⟩) hP hD hS hA [] [] rfl rfl rfl (by decide) (fun r_2 w H locs hw hP hD hS => ?_)
  obtain ⟨rfl, rfl⟩ := hw
  have hP : va_P V.1 vwCl [] H := hP
  have hD : va_D A [] := hD
  exact fiL hx hb hr hlk hK hP hD hS dX10_common_17 (Nat.le_of_ble_eq_true rfl) (Nat.le_of_ble_eq_true rfl) (⟨rfl, rfl⟩)
set_option maxHeartbeats 4000000 in
set_option maxRecDepth 100000 in
theorem c_X10_part_2 (l : Launch) (V : GV) (p0 : Int32) : Ct l V yX10_part (.code yX10_part cX10_part 5 (some .int)) 3 [.long 0, .long 100, .int p0] [] 0 0 (QI V (fun (r : Int32) (w : va_W) => ((¬ p0 = 0) ∧ r = 1 ∧ w = []) ∨ (p0 = 0 ∧ r = 0 ∧ w = []))) := by
  refine Ct.of (by decide) (Nat.le_of_ble_eq_true rfl) (fun p e s m below meth c A ls hx hb hr hml hown hlk hnm hg hP hK hD hE hA hS hl => ?_)
  have hl : lv_has ls 5 [(0, .long 0), (2, .long 100), (4, .int p0)] := hl
  refine lv_iload hx hb dX10_part_0 (lv_at hl 2 rfl) ?_
  refine lv_if_ne (tgt := 9) hx hb dX10_part_2 (by decide) (fun c_1 => ?_) (fun c_1 => ?_)
  · refine lv_lload_n hx hb dX10_part_9 rfl (lv_at hl 1 rfl) ?_
    refine lv_lload_n hx hb dX10_part_10 rfl (lv_at hl 0 rfl) ?_
    refine lv_lload_n hx hb dX10_part_11 rfl (lv_at hl 1 rfl) ?_
    refine jnL (wr := []) (rnS (rest := [.long 100]) ⟨hx, hb, hml, hown, hg⟩ (c_X10_common_5 l V) mt_X10_common q_8_124 ⟨Nat.le_of_ble_eq_true rfl, Nat.le_of_ble_eq_true rfl⟩ hK hP hD hS hA hE [] rfl rfl rfl hl.1 rfl (Nat.le_of_ble_eq_true rfl) dX10_part_12 ⟨Nat.le_of_ble_eq_true rfl, Nat.le_of_ble_eq_true rfl⟩) hP hD hS hA [] [] rfl rfl rfl (by decide) (fun r_2 w H locs hw hP hD hS => ?_)
    obtain ⟨rfl, rfl⟩ := hw
    have hP : va_P V.1 vwCl [] H := hP
    have hD : va_D A [] := hD
    refine lv_ldiv hx hb dX10_part_15 (by decide) ?_
    refine tpl (y := 1) (by decide +kernel) ?_
    refine lv_l2i (v := 1) hx hb dX10_part_16 (by decide +kernel) ?_
    exact fiI hx hb hr hlk hK hP hD hS dX10_part_17 (Nat.le_of_ble_eq_true rfl) (Nat.le_of_ble_eq_true rfl) (Or.inl ⟨c_1, rfl, rfl⟩)
  · refine lv_lload_n hx hb dX10_part_5 rfl (lv_at hl 0 rfl) ?_
    refine lv_goto (tgt := 10) hx hb dX10_part_6 (by decide) ?_
    refine lv_lload_n hx hb dX10_part_10 rfl (lv_at hl 0 rfl) ?_
    refine lv_lload_n hx hb dX10_part_11 rfl (lv_at hl 1 rfl) ?_
    refine jnL (wr := []) (rnS (rest := [.long 0]) ⟨hx, hb, hml, hown, hg⟩ (c_X10_common_5 l V) mt_X10_common q_8_124 ⟨Nat.le_of_ble_eq_true rfl, Nat.le_of_ble_eq_true rfl⟩ hK hP hD hS hA hE [] rfl rfl rfl hl.1 rfl (Nat.le_of_ble_eq_true rfl) dX10_part_12 ⟨Nat.le_of_ble_eq_true rfl, Nat.le_of_ble_eq_true rfl⟩) hP hD hS hA [] [] rfl rfl rfl (by decide) (fun r_3 w H locs hw hP hD hS => ?_)
    obtain ⟨rfl, rfl⟩ := hw
    have hP : va_P V.1 vwCl [] H := hP
    have hD : va_D A [] := hD
    refine lv_ldiv hx hb dX10_part_15 (by decide) ?_
    refine tpl (y := 0) (by decide +kernel) ?_
    refine lv_l2i (v := 0) hx hb dX10_part_16 (by decide +kernel) ?_
    exact fiI hx hb hr hlk hK hP hD hS dX10_part_17 (Nat.le_of_ble_eq_true rfl) (Nat.le_of_ble_eq_true rfl) (Or.inr (⟨c_1, rfl, rfl⟩))
set_option maxHeartbeats 4000000 in
set_option maxRecDepth 100000 in
theorem c_X10_isThen_2 (l : Launch) (V : GV) (z : Nat → Nat) : Ct l V yX10_isThen (.code yX10_isThen cX10_isThen 2 none) 1 [.ref (z 0)] [(z 30, aJ V 10000 (vp_updL (fun _ => 0) 0 100)), (z 31, aJ V 10000 (vp_updL (fun _ => 0) 0 1000)), (z 0, .inr (10, mo z 0 0 0 0 0 0 0 0 0 0 (-1) 0 0 0 0 1))] 0 0 (QV V (fun (w : va_W) => (w = [(z 30, aJ V 10000 (vp_updL (fun _ => 0) 0 1000)), (z 31, aJ V 10000 (fun _ => 0)), (z 0, .inr (10, mo z 0 0 0 0 0 0 0 0 0 0 (-1) 0 0 0 0 1))]))) := by
  refine Ct.of (by decide) (Nat.le_of_ble_eq_true rfl) (fun p e s m below meth c A ls hx hb hr hml hown hlk hnm hg hP hK hD hE hA hS hl => ?_)
  have hl : lv_has ls 2 [(0, .ref (z 0))] := hl
  refine lv_iconst (v := 0) hx hb dX10_isThen_0 (by decide) ?_
  refine lv_istore_n (lv' := [(1, .int 0), (0, .ref (z 0))]) hx hb dX10_isThen_1 rfl hl (by decide) rfl (fun ls hl => ?_)
  refine lv_iload_n hx hb dX10_isThen_2 rfl (lv_at hl 0 rfl) ?_
  refine lv_sipush (v := 10000) hx hb dX10_isThen_3 (by decide) ?_
  refine lv_icmp_ge (tgt := 34) hx hb dX10_isThen_6 (by decide) (fun c_1 => absurd c_1 (by decide)) (fun _ => ?_)
  refine lv_aload_n hx hb dX10_isThen_9 rfl (lv_at hl 1 rfl) ?_
  refine va_get (ci := 10) (v := .ref (z 30)) (C := RX10) (T := TX10) (N := 40) hx hb hg inX10 hown hK hP 2 rfl rfl 30 (by decide) (hg _ q_6_14) (fun _ h9 => h9) rfl dX10_isThen_10 ?_
  refine lv_iload_n hx hb dX10_isThen_13 rfl (lv_at hl 0 rfl) ?_
  refine lv_aload_n hx hb dX10_isThen_14 rfl (lv_at hl 1 rfl) ?_
  refine va_get (ci := 10) (v := .ref (z 31)) (C := RX10) (T := TX10) (N := 40) hx hb hg inX10 hown hK hP 2 rfl rfl 31 (by decide) (hg _ q_6_15) (fun _ h9 => h9) rfl dX10_isThen_15 ?_
  refine lv_iload_n hx hb dX10_isThen_18 rfl (lv_at hl 0 rfl) ?_
  refine va_lald hx hb hK hP 1 2 rfl rfl (vin (by decide +kernel)) dX10_isThen_19 ?_
  refine tpl (y := 1000) (rfl) ?_
  refine va_last hx hb hK hP hD hS 0 2 rfl rfl (vin (by decide +kernel)) dX10_isThen_20 (fun H locs hP hD hS => ?_)
  have hP : va_P V.1 vwCl [(z 30, aJ V 10000 (vp_updL (vp_updL (fun _ => 0) 0 100) 0 1000)), (z 31, aJ V 10000 (vp_updL (fun _ => 0) 0 1000)), (z 0, .inr (10, mo z 0 0 0 0 0 0 0 0 0 0 (-1) 0 0 0 0 1))] H := hP
  have hD : va_D A [(z 30, aJ V 10000 (vp_updL (vp_updL (fun _ => 0) 0 100) 0 1000)), (z 31, aJ V 10000 (vp_updL (fun _ => 0) 0 1000)), (z 0, .inr (10, mo z 0 0 0 0 0 0 0 0 0 0 (-1) 0 0 0 0 1))] := hD
  have hP : va_P V.1 vwCl [(z 30, aJ V 10000 (vp_updL (fun _ => 0) 0 1000)), (z 31, aJ V 10000 (vp_updL (fun _ => 0) 0 1000)), (z 0, .inr (10, mo z 0 0 0 0 0 0 0 0 0 0 (-1) 0 0 0 0 1))] H := by rw [updLup] at hP; exact hP
  have hD : va_D A [(z 30, aJ V 10000 (vp_updL (fun _ => 0) 0 1000)), (z 31, aJ V 10000 (vp_updL (fun _ => 0) 0 1000)), (z 0, .inr (10, mo z 0 0 0 0 0 0 0 0 0 0 (-1) 0 0 0 0 1))] := by rw [updLup] at hD; exact hD
  refine lv_aload_n hx hb dX10_isThen_21 rfl (lv_at hl 1 rfl) ?_
  refine va_get (ci := 10) (v := .ref (z 31)) (C := RX10) (T := TX10) (N := 40) hx hb hg inX10 hown hK hP 2 rfl rfl 31 (by decide) (hg _ q_6_15) (fun _ h9 => h9) rfl dX10_isThen_22 ?_
  refine lv_iload_n hx hb dX10_isThen_25 rfl (lv_at hl 0 rfl) ?_
  refine lv_lconst (v := 0) hx hb dX10_isThen_26 (by decide) ?_
  refine va_last hx hb hK hP hD hS 1 2 rfl rfl (vin (by decide +kernel)) dX10_isThen_27 (fun H locs hP hD hS => ?_)
  have hP : va_P V.1 vwCl [(z 30, aJ V 10000 (vp_updL (fun _ => 0) 0 1000)), (z 31, aJ V 10000 (vp_updL (vp_updL (fun _ => 0) 0 1000) 0 0)), (z 0, .inr (10, mo z 0 0 0 0 0 0 0 0 0 0 (-1) 0 0 0 0 1))] H := hP
  have hD : va_D A [(z 30, aJ V 10000 (vp_updL (fun _ => 0) 0 1000)), (z 31, aJ V 10000 (vp_updL (vp_updL (fun _ => 0) 0 1000) 0 0)), (z 0, .inr (10, mo z 0 0 0 0 0 0 0 0 0 0 (-1) 0 0 0 0 1))] := hD
  have hP : va_P V.1 vwCl [(z 30, aJ V 10000 (vp_updL (fun _ => 0) 0 1000)), (z 31, aJ V 10000 (fun _ => 0)), (z 0, .inr (10, mo z 0 0 0 0 0 0 0 0 0 0 (-1) 0 0 0 0 1))] H := by rw [updLup, updL0] at hP; exact hP
  have hD : va_D A [(z 30, aJ V 10000 (vp_updL (fun _ => 0) 0 1000)), (z 31, aJ V 10000 (fun _ => 0)), (z 0, .inr (10, mo z 0 0 0 0 0 0 0 0 0 0 (-1) 0 0 0 0 1))] := by rw [updLup, updL0] at hD; exact hD
  refine lv_iinc (v := 1) (lv' := [(1, .int 1), (0, .ref (z 0))]) hx hb dX10_isThen_28 hl (k := 0) rfl (by decide +kernel) (by decide) rfl (fun ls hl => ?_)
  refine lv_goto (tgt := 2) hx hb dX10_isThen_31 (by decide) ?_
  refine loopW 10000 (X := fun (i_2 : Nat) (H : Heap) (locs : List Loc) (ls : Array Slot) => 1 ≤ i_2 ∧ va_P V.1 vwCl [(z 30, aJ V 10000 (vp_updL (fun _ => 0) 0 1000)), (z 31, aJ V 10000 (fun _ => 0)), (z 0, .inr (10, mo z 0 0 0 0 0 0 0 0 0 0 (-1) 0 0 0 0 1))] H ∧ va_D A [(z 30, aJ V 10000 (vp_updL (fun _ => 0) 0 1000)), (z 31, aJ V 10000 (fun _ => 0)), (z 0, .inr (10, mo z 0 0 0 0 0 0 0 0 0 0 (-1) 0 0 0 0 1))] ∧ va_S A s.heap H locs ∧ lv_has ls 2 [(1, .int (nI i_2)), (0, .ref (z 0))]) (g := fun ls => F0 m 2 ls []) (fun i_2 H locs ls hi_i_2 hX ih_i_2 => ?_) 1 (Nat.le_of_ble_eq_true rfl) ⟨Nat.le_refl _, hP, hD, hS, lv_sub hl [0, 1] rfl⟩
  obtain ⟨hlo_i_2, hP, hD, hS, hl⟩ := hX
  refine lv_iload_n hx hb dX10_isThen_2 rfl (lv_at hl 0 rfl) ?_
  refine lv_sipush (v := 10000) hx hb dX10_isThen_3 (by decide) ?_
  refine lv_icmp_ge (tgt := 34) hx hb dX10_isThen_6 (by decide) (fun c_3 => ?_) (fun c_3 => ?_)
  · have e_4 : i_2 = 10000 := by have q9 := (nI_leI (a := 10000) (b := i_2) (by omega) (by omega)).mp c_3; omega
    rw [e_4] at hl
    have hl : lv_has ls 2 [(1, .int 10000), (0, .ref (z 0))] := hl
    exact fiV hx hb hr hlk hK hP hD hS dX10_isThen_34 (Nat.le_of_ble_eq_true rfl) (Nat.le_of_ble_eq_true rfl) (rfl)
  · have e_4 : i_2 < 10000 := by rcases Nat.lt_or_ge i_2 10000 with q9 | q9; exact q9; exact absurd (nI_le q9 (by omega)) c_3
    refine lv_aload_n hx hb dX10_isThen_9 rfl (lv_at hl 1 rfl) ?_
    refine va_get (ci := 10) (v := .ref (z 30)) (C := RX10) (T := TX10) (N := 40) hx hb hg inX10 hown hK hP 2 rfl rfl 30 (by decide) (hg _ q_6_14) (fun _ h9 => h9) rfl dX10_isThen_10 ?_
    refine lv_iload_n hx hb dX10_isThen_13 rfl (lv_at hl 0 rfl) ?_
    refine lv_aload_n hx hb dX10_isThen_14 rfl (lv_at hl 1 rfl) ?_
    refine va_get (ci := 10) (v := .ref (z 31)) (C := RX10) (T := TX10) (N := 40) hx hb hg inX10 hown hK hP 2 rfl rfl 31 (by decide) (hg _ q_6_15) (fun _ h9 => h9) rfl dX10_isThen_15 ?_
    refine lv_iload_n hx hb dX10_isThen_18 rfl (lv_at hl 0 rfl) ?_
    refine va_lald hx hb hK hP 1 2 rfl rfl (vp_in_nI (by omega) (by decide)) dX10_isThen_19 ?_
    refine tpl (y := 0) rfl ?_
    refine va_last hx hb hK hP hD hS 0 2 rfl rfl (vp_in_nI (by omega) (by decide)) dX10_isThen_20 (fun H locs hP hD hS => ?_)
    have hP : va_P V.1 vwCl [(z 30, aJ V 10000 (vp_updL (vp_updL (fun _ => 0) 0 1000) (nI i_2).toNatClampNeg 0)), (z 31, aJ V 10000 (fun _ => 0)), (z 0, .inr (10, mo z 0 0 0 0 0 0 0 0 0 0 (-1) 0 0 0 0 1))] H := hP
    have hD : va_D A [(z 30, aJ V 10000 (vp_updL (vp_updL (fun _ => 0) 0 1000) (nI i_2).toNatClampNeg 0)), (z 31, aJ V 10000 (fun _ => 0)), (z 0, .inr (10, mo z 0 0 0 0 0 0 0 0 0 0 (-1) 0 0 0 0 1))] := hD
    have hP : va_P V.1 vwCl [(z 30, aJ V 10000 (vp_updL (fun _ => 0) 0 1000)), (z 31, aJ V 10000 (fun _ => 0)), (z 0, .inr (10, mo z 0 0 0 0 0 0 0 0 0 0 (-1) 0 0 0 0 1))] H := by rw [updLid (k := (nI i_2).toNatClampNeg) (v := 0) (by rw [nI_clamp (by omega)]; exact if_neg (by omega))] at hP; exact hP
    have hD : va_D A [(z 30, aJ V 10000 (vp_updL (fun _ => 0) 0 1000)), (z 31, aJ V 10000 (fun _ => 0)), (z 0, .inr (10, mo z 0 0 0 0 0 0 0 0 0 0 (-1) 0 0 0 0 1))] := by rw [updLid (k := (nI i_2).toNatClampNeg) (v := 0) (by rw [nI_clamp (by omega)]; exact if_neg (by omega))] at hD; exact hD
    refine lv_aload_n hx hb dX10_isThen_21 rfl (lv_at hl 1 rfl) ?_
    refine va_get (ci := 10) (v := .ref (z 31)) (C := RX10) (T := TX10) (N := 40) hx hb hg inX10 hown hK hP 2 rfl rfl 31 (by decide) (hg _ q_6_15) (fun _ h9 => h9) rfl dX10_isThen_22 ?_
    refine lv_iload_n hx hb dX10_isThen_25 rfl (lv_at hl 0 rfl) ?_
    refine lv_lconst (v := 0) hx hb dX10_isThen_26 (by decide) ?_
    refine va_last hx hb hK hP hD hS 1 2 rfl rfl (vp_in_nI (by omega) (by decide)) dX10_isThen_27 (fun H locs hP hD hS => ?_)
    have hP : va_P V.1 vwCl [(z 30, aJ V 10000 (vp_updL (fun _ => 0) 0 1000)), (z 31, aJ V 10000 (vp_updL (fun _ => 0) (nI i_2).toNatClampNeg 0)), (z 0, .inr (10, mo z 0 0 0 0 0 0 0 0 0 0 (-1) 0 0 0 0 1))] H := hP
    have hD : va_D A [(z 30, aJ V 10000 (vp_updL (fun _ => 0) 0 1000)), (z 31, aJ V 10000 (vp_updL (fun _ => 0) (nI i_2).toNatClampNeg 0)), (z 0, .inr (10, mo z 0 0 0 0 0 0 0 0 0 0 (-1) 0 0 0 0 1))] := hD
    have hP : va_P V.1 vwCl [(z 30, aJ V 10000 (vp_updL (fun _ => 0) 0 1000)), (z 31, aJ V 10000 (fun _ => 0)), (z 0, .inr (10, mo z 0 0 0 0 0 0 0 0 0 0 (-1) 0 0 0 0 1))] H := by rw [updL0] at hP; exact hP
    have hD : va_D A [(z 30, aJ V 10000 (vp_updL (fun _ => 0) 0 1000)), (z 31, aJ V 10000 (fun _ => 0)), (z 0, .inr (10, mo z 0 0 0 0 0 0 0 0 0 0 (-1) 0 0 0 0 1))] := by rw [updL0] at hD; exact hD
    refine lv_iinc (v := nI (i_2 + 1)) (lv' := [(1, .int (nI (i_2 + 1))), (0, .ref (z 0))]) hx hb dX10_isThen_28 hl (k := 0) rfl (nI_add i_2 1) (by decide) rfl (fun ls hl => ?_)
    refine lv_goto (tgt := 2) hx hb dX10_isThen_31 (by decide) ?_
    exact ih_i_2 e_4 _ _ _ ⟨(by omega), hP, hD, hS, lv_sub hl [0, 1] rfl⟩
set_option maxHeartbeats 4000000 in
set_option maxRecDepth 100000 in
theorem c_X10_goesMany_2 (l : Launch) (V : GV) (z : Nat → Nat) : Ct l V yX10_goesMany (.code yX10_goesMany cX10_goesMany 8 none) 2 [.ref (z 0), .long 10, .long 1] [(z 24, aI V 10000 (fun _ => 0)), (z 25, aI V 40000 (upd (upd (upd (fun _ => 0) 1 (-1)) 2 (-1)) 3 (-1))), (z 30, aJ V 10000 (vp_updL (fun _ => 0) 0 100)), (z 31, aJ V 10000 (fun _ => 0)), (z 0, .inr (10, mo z 0 0 0 0 0 0 0 0 0 0 (-1) 0 0 0 0 1))] 0 0 (QV V (fun (w : va_W) => (w = [(z 24, aI V 10000 (fun _ => 0)), (z 25, aI V 40000 (upd (upd (upd (fun _ => 0) 1 (-1)) 2 (-1)) 3 (-1))), (z 30, aJ V 10000 (vp_updL (fun _ => 0) 0 1000)), (z 31, aJ V 10000 (fun _ => 0)), (z 0, .inr (10, mo z 0 0 0 0 0 0 0 0 0 0 (-1) 0 0 0 0 1))]))) := by
  refine Ct.of (by decide) (Nat.le_of_ble_eq_true rfl) (fun p e s m below meth c A ls hx hb hr hml hown hlk hnm hg hP hK hD hE hA hS hl => ?_)
  have hl : lv_has ls 8 [(0, .ref (z 0)), (1, .long 10), (3, .long 1)] := hl
  refine lv_iconst (v := 0) hx hb dX10_goesMany_0 (by decide) ?_
  refine lv_istore (lv' := [(5, .int 0), (0, .ref (z 0)), (1, .long 10), (3, .long 1)]) hx hb dX10_goesMany_1 hl (by decide) rfl (fun ls hl => ?_)
  refine lv_iload hx hb dX10_goesMany_3 (lv_at hl 0 rfl) ?_
  refine lv_aload_n hx hb dX10_goesMany_5 rfl (lv_at hl 1 rfl) ?_
  refine va_get (ci := 10) (v := .int 1) (C := RX10) (T := TX10) (N := 40) hx hb hg inX10 hown hK hP 4 rfl rfl 29 (by decide) (hg _ q_6_13) (fun _ h9 => h9) rfl dX10_goesMany_6 ?_
  refine lv_icmp_ge (tgt := 108) hx hb dX10_goesMany_9 (by decide) (fun c_1 => absurd c_1 (by decide)) (fun _ => ?_)
  refine lv_aload_n hx hb dX10_goesMany_12 rfl (lv_at hl 1 rfl) ?_
  refine va_get (ci := 10) (v := .ref (z 24)) (C := RX10) (T := TX10) (N := 40) hx hb hg inX10 hown hK hP 4 rfl rfl 24 (by decide) (hg _ q_6_8) (fun _ h9 => h9) rfl dX10_goesMany_13 ?_
  refine lv_iload hx hb dX10_goesMany_16 (lv_at hl 0 rfl) ?_
  refine va_iald hx hb hK hP 0 0 rfl rfl (vin (by decide +kernel)) dX10_goesMany_18 ?_
  refine tpi (y := 0) (rfl) ?_
  refine lv_istore (lv' := [(6, .int 0), (5, .int 0), (0, .ref (z 0)), (1, .long 10), (3, .long 1)]) hx hb dX10_goesMany_19 hl (by decide) rfl (fun ls hl => ?_)
  refine lv_iconst (v := 0) hx hb dX10_goesMany_21 (by decide) ?_
  refine lv_istore (lv' := [(7, .int 0), (6, .int 0), (5, .int 0), (0, .ref (z 0)), (1, .long 10), (3, .long 1)]) hx hb dX10_goesMany_22 hl (by decide) rfl (fun ls hl => ?_)
  refine lv_iload hx hb dX10_goesMany_24 (lv_at hl 0 rfl) ?_
  refine lv_iconst (v := 4) hx hb dX10_goesMany_26 (by decide) ?_
  refine lv_icmp_ge (tgt := 102) hx hb dX10_goesMany_27 (by decide) (fun c_2 => absurd c_2 (by decide)) (fun _ => ?_)
  refine lv_aload_n hx hb dX10_goesMany_30 rfl (lv_at hl 3 rfl) ?_
  refine va_get (ci := 10) (v := .ref (z 30)) (C := RX10) (T := TX10) (N := 40) hx hb hg inX10 hown hK hP 4 rfl rfl 30 (by decide) (hg _ q_6_14) (fun _ h9 => h9) rfl dX10_goesMany_31 ?_
  refine lv_iload hx hb dX10_goesMany_34 (lv_at hl 1 rfl) ?_
  refine va_lald hx hb hK hP 2 2 rfl rfl (vin (by decide +kernel)) dX10_goesMany_36 ?_
  refine tpl (y := 100) (rfl) ?_
  refine lv_lconst (v := 0) hx hb dX10_goesMany_37 (by decide) ?_
  refine W.lcmp hx hb dX10_goesMany_38 ?_
  refine lv_if_le (tgt := 102) hx hb dX10_goesMany_39 (by decide) (fun c_3 => absurd ((lg_cmp_le _ _).mp c_3) (by decide)) (fun _ => ?_)
  refine lv_aload_n hx hb dX10_goesMany_42 rfl (lv_at hl 3 rfl) ?_
  refine va_get (ci := 10) (v := .ref (z 25)) (C := RX10) (T := TX10) (N := 40) hx hb hg inX10 hown hK hP 4 rfl rfl 25 (by decide) (hg _ q_6_9) (fun _ h9 => h9) rfl dX10_goesMany_43 ?_
  refine lv_iconst (v := 4) hx hb dX10_goesMany_46 (by decide) ?_
  refine lv_iload hx hb dX10_goesMany_47 (lv_at hl 1 rfl) ?_
  refine lv_imul hx hb dX10_goesMany_49 ?_
  refine tpi (y := 0) (by decide +kernel) ?_
  refine lv_iload hx hb dX10_goesMany_50 (lv_at hl 0 rfl) ?_
  refine lv_iadd hx hb dX10_goesMany_52 ?_
  refine tpi (y := 0) (by decide +kernel) ?_
  refine va_iald hx hb hK hP 1 0 rfl rfl (vin (by decide +kernel)) dX10_goesMany_53 ?_
  refine tpi (y := 0) (rfl) ?_
  refine lv_iconst (v := (-1)) hx hb dX10_goesMany_54 (by decide) ?_
  refine lv_icmp_eq (tgt := 96) hx hb dX10_goesMany_55 (by decide) (fun c_4 => absurd c_4 (by decide)) (fun _ => ?_)
  refine lv_aload_n hx hb dX10_goesMany_58 rfl (lv_at hl 3 rfl) ?_
  refine va_get (ci := 10) (v := .ref (z 31)) (C := RX10) (T := TX10) (N := 40) hx hb hg inX10 hown hK hP 4 rfl rfl 31 (by decide) (hg _ q_6_15) (fun _ h9 => h9) rfl dX10_goesMany_59 ?_
  refine lv_aload_n hx hb dX10_goesMany_62 rfl (lv_at hl 3 rfl) ?_
  refine va_get (ci := 10) (v := .ref (z 25)) (C := RX10) (T := TX10) (N := 40) hx hb hg inX10 hown hK hP 4 rfl rfl 25 (by decide) (hg _ q_6_9) (fun _ h9 => h9) rfl dX10_goesMany_63 ?_
  refine lv_iconst (v := 4) hx hb dX10_goesMany_66 (by decide) ?_
  refine lv_iload hx hb dX10_goesMany_67 (lv_at hl 1 rfl) ?_
  refine lv_imul hx hb dX10_goesMany_69 ?_
  refine tpi (y := 0) (by decide +kernel) ?_
  refine lv_iload hx hb dX10_goesMany_70 (lv_at hl 0 rfl) ?_
  refine lv_iadd hx hb dX10_goesMany_72 ?_
  refine tpi (y := 0) (by decide +kernel) ?_
  refine va_iald hx hb hK hP 1 0 rfl rfl (vin (by decide +kernel)) dX10_goesMany_73 ?_
  refine tpi (y := 0) (rfl) ?_
  refine lv_dup2_11 hx hb dX10_goesMany_74 rfl rfl ?_
  refine va_lald hx hb hK hP 3 2 rfl rfl (vin (by decide +kernel)) dX10_goesMany_75 ?_
  refine tpl (y := 0) (rfl) ?_
  refine lv_aload_n hx hb dX10_goesMany_76 rfl (lv_at hl 3 rfl) ?_
  refine va_get (ci := 10) (v := .ref (z 30)) (C := RX10) (T := TX10) (N := 40) hx hb hg inX10 hown hK hP 4 rfl rfl 30 (by decide) (hg _ q_6_14) (fun _ h9 => h9) rfl dX10_goesMany_77 ?_
  refine lv_iload hx hb dX10_goesMany_80 (lv_at hl 1 rfl) ?_
  refine va_lald hx hb hK hP 2 2 rfl rfl (vin (by decide +kernel)) dX10_goesMany_82 ?_
  refine tpl (y := 100) (rfl) ?_
  refine lv_iload hx hb dX10_goesMany_83 (lv_at hl 0 rfl) ?_
  refine lv_if_ne (tgt := 92) hx hb dX10_goesMany_85 (by decide) (fun c_5 => absurd c_5 (by decide)) (fun _ => ?_)
  refine lv_lload_n hx hb dX10_goesMany_88 rfl (lv_at hl 4 rfl) ?_
  refine lv_goto (tgt := 93) hx hb dX10_goesMany_89 (by decide) ?_
  refine lv_lmul hx hb dX10_goesMany_93 ?_
  refine tpl (y := 1000) (by decide +kernel) ?_
  refine lv_ladd hx hb dX10_goesMany_94 ?_
  refine tpl (y := 1000) (by decide +kernel) ?_
  refine va_last hx hb hK hP hD hS 3 2 rfl rfl (vin (by decide +kernel)) dX10_goesMany_95 (fun H locs hP hD hS => ?_)
  have hP : va_P V.1 vwCl [(z 24, aI V 10000 (fun _ => 0)), (z 25, aI V 40000 (upd (upd (upd (fun _ => 0) 1 (-1)) 2 (-1)) 3 (-1))), (z 30, aJ V 10000 (vp_updL (fun _ => 0) 0 100)), (z 31, aJ V 10000 (vp_updL (fun _ => 0) 0 1000)), (z 0, .inr (10, mo z 0 0 0 0 0 0 0 0 0 0 (-1) 0 0 0 0 1))] H := hP
  have hD : va_D A [(z 24, aI V 10000 (fun _ => 0)), (z 25, aI V 40000 (upd (upd (upd (fun _ => 0) 1 (-1)) 2 (-1)) 3 (-1))), (z 30, aJ V 10000 (vp_updL (fun _ => 0) 0 100)), (z 31, aJ V 10000 (vp_updL (fun _ => 0) 0 1000)), (z 0, .inr (10, mo z 0 0 0 0 0 0 0 0 0 0 (-1) 0 0 0 0 1))] := hD
  refine lv_iinc (v := 1) (lv' := [(7, .int 1), (6, .int 0), (5, .int 0), (0, .ref (z 0)), (1, .long 10), (3, .long 1)]) hx hb dX10_goesMany_96 hl (k := 0) rfl (by decide +kernel) (by decide) rfl (fun ls hl => ?_)
  refine lv_goto (tgt := 24) hx hb dX10_goesMany_99 (by decide) ?_
  refine lv_iload hx hb dX10_goesMany_24 (lv_at hl 0 rfl) ?_
  refine lv_iconst (v := 4) hx hb dX10_goesMany_26 (by decide) ?_
  refine lv_icmp_ge (tgt := 102) hx hb dX10_goesMany_27 (by decide) (fun c_6 => absurd c_6 (by decide)) (fun _ => ?_)
  refine lv_aload_n hx hb dX10_goesMany_30 rfl (lv_at hl 3 rfl) ?_
  refine va_get (ci := 10) (v := .ref (z 30)) (C := RX10) (T := TX10) (N := 40) hx hb hg inX10 hown hK hP 4 rfl rfl 30 (by decide) (hg _ q_6_14) (fun _ h9 => h9) rfl dX10_goesMany_31 ?_
  refine lv_iload hx hb dX10_goesMany_34 (lv_at hl 1 rfl) ?_
  refine va_lald hx hb hK hP 2 2 rfl rfl (vin (by decide +kernel)) dX10_goesMany_36 ?_
  refine tpl (y := 100) (rfl) ?_
  refine lv_lconst (v := 0) hx hb dX10_goesMany_37 (by decide) ?_
  refine W.lcmp hx hb dX10_goesMany_38 ?_
  refine lv_if_le (tgt := 102) hx hb dX10_goesMany_39 (by decide) (fun c_7 => absurd ((lg_cmp_le _ _).mp c_7) (by decide)) (fun _ => ?_)
  refine lv_aload_n hx hb dX10_goesMany_42 rfl (lv_at hl 3 rfl) ?_
  refine va_get (ci := 10) (v := .ref (z 25)) (C := RX10) (T := TX10) (N := 40) hx hb hg inX10 hown hK hP 4 rfl rfl 25 (by decide) (hg _ q_6_9) (fun _ h9 => h9) rfl dX10_goesMany_43 ?_
  refine lv_iconst (v := 4) hx hb dX10_goesMany_46 (by decide) ?_
  refine lv_iload hx hb dX10_goesMany_47 (lv_at hl 1 rfl) ?_
  refine lv_imul hx hb dX10_goesMany_49 ?_
  refine tpi (y := 0) (by decide +kernel) ?_
  refine lv_iload hx hb dX10_goesMany_50 (lv_at hl 0 rfl) ?_
  refine lv_iadd hx hb dX10_goesMany_52 ?_
  refine tpi (y := 1) (by decide +kernel) ?_
  refine va_iald hx hb hK hP 1 0 rfl rfl (vin (by decide +kernel)) dX10_goesMany_53 ?_
  refine tpi (y := (-1)) (rfl) ?_
  refine lv_iconst (v := (-1)) hx hb dX10_goesMany_54 (by decide) ?_
  refine lv_icmp_eq (tgt := 96) hx hb dX10_goesMany_55 (by decide) (fun _ => ?_) (fun c_8 => absurd c_8 (by decide))
  refine lv_iinc (v := 2) (lv' := [(7, .int 2), (6, .int 0), (5, .int 0), (0, .ref (z 0)), (1, .long 10), (3, .long 1)]) hx hb dX10_goesMany_96 hl (k := 0) rfl (by decide +kernel) (by decide) rfl (fun ls hl => ?_)
  refine lv_goto (tgt := 24) hx hb dX10_goesMany_99 (by decide) ?_
  refine lv_iload hx hb dX10_goesMany_24 (lv_at hl 0 rfl) ?_
  refine lv_iconst (v := 4) hx hb dX10_goesMany_26 (by decide) ?_
  refine lv_icmp_ge (tgt := 102) hx hb dX10_goesMany_27 (by decide) (fun c_9 => absurd c_9 (by decide)) (fun _ => ?_)
  refine lv_aload_n hx hb dX10_goesMany_30 rfl (lv_at hl 3 rfl) ?_
  refine va_get (ci := 10) (v := .ref (z 30)) (C := RX10) (T := TX10) (N := 40) hx hb hg inX10 hown hK hP 4 rfl rfl 30 (by decide) (hg _ q_6_14) (fun _ h9 => h9) rfl dX10_goesMany_31 ?_
  refine lv_iload hx hb dX10_goesMany_34 (lv_at hl 1 rfl) ?_
  refine va_lald hx hb hK hP 2 2 rfl rfl (vin (by decide +kernel)) dX10_goesMany_36 ?_
  refine tpl (y := 100) (rfl) ?_
  refine lv_lconst (v := 0) hx hb dX10_goesMany_37 (by decide) ?_
  refine W.lcmp hx hb dX10_goesMany_38 ?_
  refine lv_if_le (tgt := 102) hx hb dX10_goesMany_39 (by decide) (fun c_10 => absurd ((lg_cmp_le _ _).mp c_10) (by decide)) (fun _ => ?_)
  refine lv_aload_n hx hb dX10_goesMany_42 rfl (lv_at hl 3 rfl) ?_
  refine va_get (ci := 10) (v := .ref (z 25)) (C := RX10) (T := TX10) (N := 40) hx hb hg inX10 hown hK hP 4 rfl rfl 25 (by decide) (hg _ q_6_9) (fun _ h9 => h9) rfl dX10_goesMany_43 ?_
  refine lv_iconst (v := 4) hx hb dX10_goesMany_46 (by decide) ?_
  refine lv_iload hx hb dX10_goesMany_47 (lv_at hl 1 rfl) ?_
  refine lv_imul hx hb dX10_goesMany_49 ?_
  refine tpi (y := 0) (by decide +kernel) ?_
  refine lv_iload hx hb dX10_goesMany_50 (lv_at hl 0 rfl) ?_
  refine lv_iadd hx hb dX10_goesMany_52 ?_
  refine tpi (y := 2) (by decide +kernel) ?_
  refine va_iald hx hb hK hP 1 0 rfl rfl (vin (by decide +kernel)) dX10_goesMany_53 ?_
  refine tpi (y := (-1)) (rfl) ?_
  refine lv_iconst (v := (-1)) hx hb dX10_goesMany_54 (by decide) ?_
  refine lv_icmp_eq (tgt := 96) hx hb dX10_goesMany_55 (by decide) (fun _ => ?_) (fun c_11 => absurd c_11 (by decide))
  refine lv_iinc (v := 3) (lv' := [(7, .int 3), (6, .int 0), (5, .int 0), (0, .ref (z 0)), (1, .long 10), (3, .long 1)]) hx hb dX10_goesMany_96 hl (k := 0) rfl (by decide +kernel) (by decide) rfl (fun ls hl => ?_)
  refine lv_goto (tgt := 24) hx hb dX10_goesMany_99 (by decide) ?_
  refine lv_iload hx hb dX10_goesMany_24 (lv_at hl 0 rfl) ?_
  refine lv_iconst (v := 4) hx hb dX10_goesMany_26 (by decide) ?_
  refine lv_icmp_ge (tgt := 102) hx hb dX10_goesMany_27 (by decide) (fun c_12 => absurd c_12 (by decide)) (fun _ => ?_)
  refine lv_aload_n hx hb dX10_goesMany_30 rfl (lv_at hl 3 rfl) ?_
  refine va_get (ci := 10) (v := .ref (z 30)) (C := RX10) (T := TX10) (N := 40) hx hb hg inX10 hown hK hP 4 rfl rfl 30 (by decide) (hg _ q_6_14) (fun _ h9 => h9) rfl dX10_goesMany_31 ?_
  refine lv_iload hx hb dX10_goesMany_34 (lv_at hl 1 rfl) ?_
  refine va_lald hx hb hK hP 2 2 rfl rfl (vin (by decide +kernel)) dX10_goesMany_36 ?_
  refine tpl (y := 100) (rfl) ?_
  refine lv_lconst (v := 0) hx hb dX10_goesMany_37 (by decide) ?_
  refine W.lcmp hx hb dX10_goesMany_38 ?_
  refine lv_if_le (tgt := 102) hx hb dX10_goesMany_39 (by decide) (fun c_13 => absurd ((lg_cmp_le _ _).mp c_13) (by decide)) (fun _ => ?_)
  refine lv_aload_n hx hb dX10_goesMany_42 rfl (lv_at hl 3 rfl) ?_
  refine va_get (ci := 10) (v := .ref (z 25)) (C := RX10) (T := TX10) (N := 40) hx hb hg inX10 hown hK hP 4 rfl rfl 25 (by decide) (hg _ q_6_9) (fun _ h9 => h9) rfl dX10_goesMany_43 ?_
  refine lv_iconst (v := 4) hx hb dX10_goesMany_46 (by decide) ?_
  refine lv_iload hx hb dX10_goesMany_47 (lv_at hl 1 rfl) ?_
  refine lv_imul hx hb dX10_goesMany_49 ?_
  refine tpi (y := 0) (by decide +kernel) ?_
  refine lv_iload hx hb dX10_goesMany_50 (lv_at hl 0 rfl) ?_
  refine lv_iadd hx hb dX10_goesMany_52 ?_
  refine tpi (y := 3) (by decide +kernel) ?_
  refine va_iald hx hb hK hP 1 0 rfl rfl (vin (by decide +kernel)) dX10_goesMany_53 ?_
  refine tpi (y := (-1)) (rfl) ?_
  refine lv_iconst (v := (-1)) hx hb dX10_goesMany_54 (by decide) ?_
  refine lv_icmp_eq (tgt := 96) hx hb dX10_goesMany_55 (by decide) (fun _ => ?_) (fun c_14 => absurd c_14 (by decide))
  refine lv_iinc (v := 4) (lv' := [(7, .int 4), (6, .int 0), (5, .int 0), (0, .ref (z 0)), (1, .long 10), (3, .long 1)]) hx hb dX10_goesMany_96 hl (k := 0) rfl (by decide +kernel) (by decide) rfl (fun ls hl => ?_)
  refine lv_goto (tgt := 24) hx hb dX10_goesMany_99 (by decide) ?_
  refine lv_iload hx hb dX10_goesMany_24 (lv_at hl 0 rfl) ?_
  refine lv_iconst (v := 4) hx hb dX10_goesMany_26 (by decide) ?_
  refine lv_icmp_ge (tgt := 102) hx hb dX10_goesMany_27 (by decide) (fun _ => ?_) (fun c_15 => absurd c_15 (by decide))
  refine lv_iinc (v := 1) (lv' := [(5, .int 1), (7, .int 4), (6, .int 0), (0, .ref (z 0)), (1, .long 10), (3, .long 1)]) hx hb dX10_goesMany_102 hl (k := 2) rfl (by decide +kernel) (by decide) rfl (fun ls hl => ?_)
  refine lv_goto (tgt := 3) hx hb dX10_goesMany_105 (by decide) ?_
  refine lv_iload hx hb dX10_goesMany_3 (lv_at hl 0 rfl) ?_
  refine lv_aload_n hx hb dX10_goesMany_5 rfl (lv_at hl 3 rfl) ?_
  refine va_get (ci := 10) (v := .int 1) (C := RX10) (T := TX10) (N := 40) hx hb hg inX10 hown hK hP 4 rfl rfl 29 (by decide) (hg _ q_6_13) (fun _ h9 => h9) rfl dX10_goesMany_6 ?_
  refine lv_icmp_ge (tgt := 108) hx hb dX10_goesMany_9 (by decide) (fun _ => ?_) (fun c_16 => absurd c_16 (by decide))
  refine lv_aload_n hx hb dX10_goesMany_108 rfl (lv_at hl 3 rfl) ?_
  refine jnV (wr := [(z 24, aI V 10000 (fun _ => 0)), (z 25, aI V 40000 (upd (upd (upd (fun _ => 0) 1 (-1)) 2 (-1)) 3 (-1)))]) (rnV (rest := []) ⟨hx, hb, hml, hown, hg⟩ (c_X10_isThen_2 l V z) mt_X10_isThen q_7_228 ⟨Nat.le_of_ble_eq_true rfl, Nat.le_of_ble_eq_true rfl⟩ hK hP hD hS hA hE [2, 3, 4] rfl rfl 4 rfl rfl rfl rfl hl.1 rfl (Nat.le_of_ble_eq_true rfl) dX10_goesMany_109 ⟨Nat.le_of_ble_eq_true rfl, Nat.le_of_ble_eq_true rfl⟩) hP hD hS hA [2, 3, 4] [0, 1] rfl rfl rfl (by decide) (fun  w H locs hw hP hD hS => ?_)
  subst hw
  have hP : va_P V.1 vwCl [(z 24, aI V 10000 (fun _ => 0)), (z 25, aI V 40000 (upd (upd (upd (fun _ => 0) 1 (-1)) 2 (-1)) 3 (-1))), (z 30, aJ V 10000 (vp_updL (fun _ => 0) 0 1000)), (z 31, aJ V 10000 (fun _ => 0)), (z 0, .inr (10, mo z 0 0 0 0 0 0 0 0 0 0 (-1) 0 0 0 0 1))] H := hP
  have hD : va_D A [(z 24, aI V 10000 (fun _ => 0)), (z 25, aI V 40000 (upd (upd (upd (fun _ => 0) 1 (-1)) 2 (-1)) 3 (-1))), (z 30, aJ V 10000 (vp_updL (fun _ => 0) 0 1000)), (z 31, aJ V 10000 (fun _ => 0)), (z 0, .inr (10, mo z 0 0 0 0 0 0 0 0 0 0 (-1) 0 0 0 0 1))] := hD
  exact fiV hx hb hr hlk hK hP hD hS dX10_goesMany_112 (Nat.le_of_ble_eq_true rfl) (Nat.le_of_ble_eq_true rfl) (rfl)
set_option maxHeartbeats 4000000 in
set_option maxRecDepth 100000 in
theorem c_X10_laysLikely_3 (l : Launch) (V : GV) (z : Nat → Nat) : Ct l V yX10_laysLikely (.code yX10_laysLikely cX10_laysLikely 4 none) 4 [.ref (z 0), .int 3] [(z 0, .inr (10, mo z 0 0 0 0 0 0 0 0 0 0 (-1) 0 0 0 0 0)), (z 24, aI V 10000 (fun _ => 0)), (z 25, aI V 40000 (fun _ => 0)), (z 28, aZ V 10000 (fun _ => 0)), (z 30, aJ V 10000 (fun _ => 0)), (z 31, aJ V 10000 (fun _ => 0)), (z 1, aI V 3075 (fun _ => 0))] 0 0 (QV V (fun (w : va_W) => (w = [(z 0, .inr (10, mo z 0 0 0 0 0 0 0 0 0 0 (-1) 0 0 0 0 1)), (z 24, aI V 10000 (fun _ => 0)), (z 25, aI V 40000 (upd (upd (upd (fun _ => 0) 1 (-1)) 2 (-1)) 3 (-1))), (z 28, aZ V 10000 (upd (fun _ => 0) 0 1)), (z 30, aJ V 10000 (vp_updL (fun _ => 0) 0 1000)), (z 31, aJ V 10000 (fun _ => 0)), (z 1, aI V 3075 (fun _ => 0))]))) := by
  refine Ct.of (by decide) (Nat.le_of_ble_eq_true rfl) (fun p e s m below meth c A ls hx hb hr hml hown hlk hnm hg hP hK hD hE hA hS hl => ?_)
  have hl : lv_has ls 4 [(0, .ref (z 0)), (1, .int 3)] := hl
  refine lv_aload_n hx hb dX10_laysLikely_0 rfl (lv_at hl 0 rfl) ?_
  refine jnV (wr := [(z 30, aJ V 10000 (fun _ => 0)), (z 31, aJ V 10000 (fun _ => 0))]) (rnV (rest := []) ⟨hx, hb, hml, hown, hg⟩ (c_X10_laysStands_0 l V z) mt_X10_laysStands q_7_194 ⟨Nat.le_of_ble_eq_true rfl, Nat.le_of_ble_eq_true rfl⟩ hK hP hD hS hA hE [0, 1, 2, 3, 6] rfl rfl 0 rfl rfl rfl rfl hl.1 rfl (Nat.le_of_ble_eq_true rfl) dX10_laysLikely_1 ⟨Nat.le_of_ble_eq_true rfl, Nat.le_of_ble_eq_true rfl⟩) hP hD hS hA [0, 1, 2, 3, 6] [4, 5] rfl rfl rfl (by decide) (fun  w H locs hw hP hD hS => ?_)
  subst hw
  have hP : va_P V.1 vwCl [(z 30, aJ V 10000 (fun _ => 0)), (z 31, aJ V 10000 (fun _ => 0)), (z 0, .inr (10, mo z 0 0 0 0 0 0 0 0 0 0 (-1) 0 0 0 0 1)), (z 24, aI V 10000 (fun _ => 0)), (z 25, aI V 40000 (upd (upd (upd (fun _ => 0) 1 (-1)) 2 (-1)) 3 (-1))), (z 28, aZ V 10000 (upd (fun _ => 0) 0 1)), (z 1, aI V 3075 (fun _ => 0))] H := hP
  have hD : va_D A [(z 30, aJ V 10000 (fun _ => 0)), (z 31, aJ V 10000 (fun _ => 0)), (z 0, .inr (10, mo z 0 0 0 0 0 0 0 0 0 0 (-1) 0 0 0 0 1)), (z 24, aI V 10000 (fun _ => 0)), (z 25, aI V 40000 (upd (upd (upd (fun _ => 0) 1 (-1)) 2 (-1)) 3 (-1))), (z 28, aZ V 10000 (upd (fun _ => 0) 0 1)), (z 1, aI V 3075 (fun _ => 0))] := hD
  refine lv_aload_n hx hb dX10_laysLikely_4 rfl (lv_at hl 0 rfl) ?_
  refine jnV (wr := [(z 24, aI V 10000 (fun _ => 0)), (z 25, aI V 40000 (upd (upd (upd (fun _ => 0) 1 (-1)) 2 (-1)) 3 (-1))), (z 28, aZ V 10000 (upd (fun _ => 0) 0 1))]) (rnV (rest := []) ⟨hx, hb, hml, hown, hg⟩ (c_X10_beginsMany_0 l V z) mt_X10_beginsMany q_7_220 ⟨Nat.le_of_ble_eq_true rfl, Nat.le_of_ble_eq_true rfl⟩ hK hP hD hS hA hE [0, 1, 2, 6] rfl rfl 2 rfl rfl rfl rfl hl.1 rfl (Nat.le_of_ble_eq_true rfl) dX10_laysLikely_5 ⟨Nat.le_of_ble_eq_true rfl, Nat.le_of_ble_eq_true rfl⟩) hP hD hS hA [0, 1, 2, 6] [3, 4, 5] rfl rfl rfl (by decide) (fun  w H locs hw hP hD hS => ?_)
  subst hw
  have hP : va_P V.1 vwCl [(z 24, aI V 10000 (fun _ => 0)), (z 25, aI V 40000 (upd (upd (upd (fun _ => 0) 1 (-1)) 2 (-1)) 3 (-1))), (z 28, aZ V 10000 (upd (fun _ => 0) 0 1)), (z 30, aJ V 10000 (vp_updL (fun _ => 0) 0 1)), (z 31, aJ V 10000 (fun _ => 0)), (z 0, .inr (10, mo z 0 0 0 0 0 0 0 0 0 0 (-1) 0 0 0 0 1)), (z 1, aI V 3075 (fun _ => 0))] H := hP
  have hD : va_D A [(z 24, aI V 10000 (fun _ => 0)), (z 25, aI V 40000 (upd (upd (upd (fun _ => 0) 1 (-1)) 2 (-1)) 3 (-1))), (z 28, aZ V 10000 (upd (fun _ => 0) 0 1)), (z 30, aJ V 10000 (vp_updL (fun _ => 0) 0 1)), (z 31, aJ V 10000 (fun _ => 0)), (z 0, .inr (10, mo z 0 0 0 0 0 0 0 0 0 0 (-1) 0 0 0 0 1)), (z 1, aI V 3075 (fun _ => 0))] := hD
  refine lv_aload_n hx hb dX10_laysLikely_8 rfl (lv_at hl 0 rfl) ?_
  refine va_get (ci := 10) (v := .ref (z 1)) (C := RX10) (T := TX10) (N := 40) hx hb hg inX10 hown hK hP 5 rfl rfl 1 (by decide) (hg _ q_5_225) (fun _ h9 => h9) rfl dX10_laysLikely_9 ?_
  refine lv_iconst (v := 1) hx hb dX10_laysLikely_12 (by decide) ?_
  refine va_iald hx hb hK hP 6 0 rfl rfl (vin (by decide +kernel)) dX10_laysLikely_13 ?_
  refine tpi (y := 0) (rfl) ?_
  refine lv_if_ne (tgt := 21) hx hb dX10_laysLikely_14 (by decide) (fun c_1 => absurd c_1 (by decide)) (fun _ => ?_)
  refine lv_iconst (v := 0) hx hb dX10_laysLikely_17 (by decide) ?_
  refine lv_goto (tgt := 29) hx hb dX10_laysLikely_18 (by decide) ?_
  refine lv_istore_n (lv' := [(2, .int 0), (0, .ref (z 0)), (1, .int 3)]) hx hb dX10_laysLikely_29 rfl hl (by decide) rfl (fun ls hl => ?_)
  refine lv_iconst (v := 0) hx hb dX10_laysLikely_30 (by decide) ?_
  refine lv_istore_n (lv' := [(3, .int 0), (2, .int 0), (0, .ref (z 0)), (1, .int 3)]) hx hb dX10_laysLikely_31 rfl hl (by decide) rfl (fun ls hl => ?_)
  refine lv_iload_n hx hb dX10_laysLikely_32 rfl (lv_at hl 0 rfl) ?_
  refine lv_iload_n hx hb dX10_laysLikely_33 rfl (lv_at hl 3 rfl) ?_
  refine lv_icmp_ge (tgt := 54) hx hb dX10_laysLikely_34 (by decide) (fun c_2 => absurd c_2 (by decide)) (fun _ => ?_)
  refine lv_aload_n hx hb dX10_laysLikely_37 rfl (lv_at hl 2 rfl) ?_
  refine lv_ldc2 (v := 10) hx hb hown (hg _ q_7_102) dX10_laysLikely_38 ?_
  refine lv_iload_n hx hb dX10_laysLikely_41 rfl (lv_at hl 1 rfl) ?_
  refine lv_i2l (v := 0) hx hb dX10_laysLikely_42 (by decide +kernel) ?_
  refine lv_lsub hx hb dX10_laysLikely_43 ?_
  refine tpl (y := 10) (by decide +kernel) ?_
  refine lv_lconst (v := 1) hx hb dX10_laysLikely_44 (by decide) ?_
  refine jnV (wr := [(z 28, aZ V 10000 (upd (fun _ => 0) 0 1)), (z 1, aI V 3075 (fun _ => 0))]) (rnV (rest := []) ⟨hx, hb, hml, hown, hg⟩ (c_X10_goesMany_0 l V z) mt_X10_goesMany q_7_224 ⟨Nat.le_of_ble_eq_true rfl, Nat.le_of_ble_eq_true rfl⟩ hK hP hD hS hA hE [0, 1, 3, 4, 5] rfl rfl 5 rfl rfl rfl rfl hl.1 rfl (Nat.le_of_ble_eq_true rfl) dX10_laysLikely_45 ⟨Nat.le_of_ble_eq_true rfl, Nat.le_of_ble_eq_true rfl⟩) hP hD hS hA [0, 1, 3, 4, 5] [2, 6] rfl rfl rfl (by decide) (fun  w H locs hw hP hD hS => ?_)
  subst hw
  have hP : va_P V.1 vwCl [(z 28, aZ V 10000 (upd (fun _ => 0) 0 1)), (z 1, aI V 3075 (fun _ => 0)), (z 24, aI V 10000 (fun _ => 0)), (z 25, aI V 40000 (upd (upd (upd (fun _ => 0) 1 (-1)) 2 (-1)) 3 (-1))), (z 30, aJ V 10000 (vp_updL (fun _ => 0) 0 10)), (z 31, aJ V 10000 (fun _ => 0)), (z 0, .inr (10, mo z 0 0 0 0 0 0 0 0 0 0 (-1) 0 0 0 0 1))] H := hP
  have hD : va_D A [(z 28, aZ V 10000 (upd (fun _ => 0) 0 1)), (z 1, aI V 3075 (fun _ => 0)), (z 24, aI V 10000 (fun _ => 0)), (z 25, aI V 40000 (upd (upd (upd (fun _ => 0) 1 (-1)) 2 (-1)) 3 (-1))), (z 30, aJ V 10000 (vp_updL (fun _ => 0) 0 10)), (z 31, aJ V 10000 (fun _ => 0)), (z 0, .inr (10, mo z 0 0 0 0 0 0 0 0 0 0 (-1) 0 0 0 0 1))] := hD
  refine lv_iinc (v := 1) (lv' := [(3, .int 1), (2, .int 0), (0, .ref (z 0)), (1, .int 3)]) hx hb dX10_laysLikely_48 hl (k := 0) rfl (by decide +kernel) (by decide) rfl (fun ls hl => ?_)
  refine lv_goto (tgt := 32) hx hb dX10_laysLikely_51 (by decide) ?_
  refine lv_iload_n hx hb dX10_laysLikely_32 rfl (lv_at hl 0 rfl) ?_
  refine lv_iload_n hx hb dX10_laysLikely_33 rfl (lv_at hl 3 rfl) ?_
  refine lv_icmp_ge (tgt := 54) hx hb dX10_laysLikely_34 (by decide) (fun c_3 => absurd c_3 (by decide)) (fun _ => ?_)
  refine lv_aload_n hx hb dX10_laysLikely_37 rfl (lv_at hl 2 rfl) ?_
  refine lv_ldc2 (v := 10) hx hb hown (hg _ q_7_102) dX10_laysLikely_38 ?_
  refine lv_iload_n hx hb dX10_laysLikely_41 rfl (lv_at hl 1 rfl) ?_
  refine lv_i2l (v := 0) hx hb dX10_laysLikely_42 (by decide +kernel) ?_
  refine lv_lsub hx hb dX10_laysLikely_43 ?_
  refine tpl (y := 10) (by decide +kernel) ?_
  refine lv_lconst (v := 1) hx hb dX10_laysLikely_44 (by decide) ?_
  refine jnV (wr := [(z 28, aZ V 10000 (upd (fun _ => 0) 0 1)), (z 1, aI V 3075 (fun _ => 0))]) (rnV (rest := []) ⟨hx, hb, hml, hown, hg⟩ (c_X10_goesMany_1 l V z) mt_X10_goesMany q_7_224 ⟨Nat.le_of_ble_eq_true rfl, Nat.le_of_ble_eq_true rfl⟩ hK hP hD hS hA hE [2, 3, 4, 5, 6] rfl rfl 6 rfl rfl rfl rfl hl.1 rfl (Nat.le_of_ble_eq_true rfl) dX10_laysLikely_45 ⟨Nat.le_of_ble_eq_true rfl, Nat.le_of_ble_eq_true rfl⟩) hP hD hS hA [2, 3, 4, 5, 6] [0, 1] rfl rfl rfl (by decide) (fun  w H locs hw hP hD hS => ?_)
  subst hw
  have hP : va_P V.1 vwCl [(z 28, aZ V 10000 (upd (fun _ => 0) 0 1)), (z 1, aI V 3075 (fun _ => 0)), (z 24, aI V 10000 (fun _ => 0)), (z 25, aI V 40000 (upd (upd (upd (fun _ => 0) 1 (-1)) 2 (-1)) 3 (-1))), (z 30, aJ V 10000 (vp_updL (fun _ => 0) 0 100)), (z 31, aJ V 10000 (fun _ => 0)), (z 0, .inr (10, mo z 0 0 0 0 0 0 0 0 0 0 (-1) 0 0 0 0 1))] H := hP
  have hD : va_D A [(z 28, aZ V 10000 (upd (fun _ => 0) 0 1)), (z 1, aI V 3075 (fun _ => 0)), (z 24, aI V 10000 (fun _ => 0)), (z 25, aI V 40000 (upd (upd (upd (fun _ => 0) 1 (-1)) 2 (-1)) 3 (-1))), (z 30, aJ V 10000 (vp_updL (fun _ => 0) 0 100)), (z 31, aJ V 10000 (fun _ => 0)), (z 0, .inr (10, mo z 0 0 0 0 0 0 0 0 0 0 (-1) 0 0 0 0 1))] := hD
  refine lv_iinc (v := 2) (lv' := [(3, .int 2), (2, .int 0), (0, .ref (z 0)), (1, .int 3)]) hx hb dX10_laysLikely_48 hl (k := 0) rfl (by decide +kernel) (by decide) rfl (fun ls hl => ?_)
  refine lv_goto (tgt := 32) hx hb dX10_laysLikely_51 (by decide) ?_
  refine lv_iload_n hx hb dX10_laysLikely_32 rfl (lv_at hl 0 rfl) ?_
  refine lv_iload_n hx hb dX10_laysLikely_33 rfl (lv_at hl 3 rfl) ?_
  refine lv_icmp_ge (tgt := 54) hx hb dX10_laysLikely_34 (by decide) (fun c_4 => absurd c_4 (by decide)) (fun _ => ?_)
  refine lv_aload_n hx hb dX10_laysLikely_37 rfl (lv_at hl 2 rfl) ?_
  refine lv_ldc2 (v := 10) hx hb hown (hg _ q_7_102) dX10_laysLikely_38 ?_
  refine lv_iload_n hx hb dX10_laysLikely_41 rfl (lv_at hl 1 rfl) ?_
  refine lv_i2l (v := 0) hx hb dX10_laysLikely_42 (by decide +kernel) ?_
  refine lv_lsub hx hb dX10_laysLikely_43 ?_
  refine tpl (y := 10) (by decide +kernel) ?_
  refine lv_lconst (v := 1) hx hb dX10_laysLikely_44 (by decide) ?_
  refine jnV (wr := [(z 28, aZ V 10000 (upd (fun _ => 0) 0 1)), (z 1, aI V 3075 (fun _ => 0))]) (rnV (rest := []) ⟨hx, hb, hml, hown, hg⟩ (c_X10_goesMany_2 l V z) mt_X10_goesMany q_7_224 ⟨Nat.le_of_ble_eq_true rfl, Nat.le_of_ble_eq_true rfl⟩ hK hP hD hS hA hE [2, 3, 4, 5, 6] rfl rfl 6 rfl rfl rfl rfl hl.1 rfl (Nat.le_of_ble_eq_true rfl) dX10_laysLikely_45 ⟨Nat.le_of_ble_eq_true rfl, Nat.le_of_ble_eq_true rfl⟩) hP hD hS hA [2, 3, 4, 5, 6] [0, 1] rfl rfl rfl (by decide) (fun  w H locs hw hP hD hS => ?_)
  subst hw
  have hP : va_P V.1 vwCl [(z 28, aZ V 10000 (upd (fun _ => 0) 0 1)), (z 1, aI V 3075 (fun _ => 0)), (z 24, aI V 10000 (fun _ => 0)), (z 25, aI V 40000 (upd (upd (upd (fun _ => 0) 1 (-1)) 2 (-1)) 3 (-1))), (z 30, aJ V 10000 (vp_updL (fun _ => 0) 0 1000)), (z 31, aJ V 10000 (fun _ => 0)), (z 0, .inr (10, mo z 0 0 0 0 0 0 0 0 0 0 (-1) 0 0 0 0 1))] H := hP
  have hD : va_D A [(z 28, aZ V 10000 (upd (fun _ => 0) 0 1)), (z 1, aI V 3075 (fun _ => 0)), (z 24, aI V 10000 (fun _ => 0)), (z 25, aI V 40000 (upd (upd (upd (fun _ => 0) 1 (-1)) 2 (-1)) 3 (-1))), (z 30, aJ V 10000 (vp_updL (fun _ => 0) 0 1000)), (z 31, aJ V 10000 (fun _ => 0)), (z 0, .inr (10, mo z 0 0 0 0 0 0 0 0 0 0 (-1) 0 0 0 0 1))] := hD
  refine lv_iinc (v := 3) (lv' := [(3, .int 3), (2, .int 0), (0, .ref (z 0)), (1, .int 3)]) hx hb dX10_laysLikely_48 hl (k := 0) rfl (by decide +kernel) (by decide) rfl (fun ls hl => ?_)
  refine lv_goto (tgt := 32) hx hb dX10_laysLikely_51 (by decide) ?_
  refine lv_iload_n hx hb dX10_laysLikely_32 rfl (lv_at hl 0 rfl) ?_
  refine lv_iload_n hx hb dX10_laysLikely_33 rfl (lv_at hl 3 rfl) ?_
  refine lv_icmp_ge (tgt := 54) hx hb dX10_laysLikely_34 (by decide) (fun _ => ?_) (fun c_5 => absurd c_5 (by decide))
  have hP := subP (ws' := [(z 0, .inr (10, mo z 0 0 0 0 0 0 0 0 0 0 (-1) 0 0 0 0 1)), (z 24, aI V 10000 (fun _ => 0)), (z 25, aI V 40000 (upd (upd (upd (fun _ => 0) 1 (-1)) 2 (-1)) 3 (-1))), (z 28, aZ V 10000 (upd (fun _ => 0) 0 1)), (z 30, aJ V 10000 (vp_updL (fun _ => 0) 0 1000)), (z 31, aJ V 10000 (fun _ => 0)), (z 1, aI V 3075 (fun _ => 0))]) hP [6, 2, 3, 0, 4, 5, 1] rfl
  have hD := hD.sub (ws' := [(z 0, .inr (10, mo z 0 0 0 0 0 0 0 0 0 0 (-1) 0 0 0 0 1)), (z 24, aI V 10000 (fun _ => 0)), (z 25, aI V 40000 (upd (upd (upd (fun _ => 0) 1 (-1)) 2 (-1)) 3 (-1))), (z 28, aZ V 10000 (upd (fun _ => 0) 0 1)), (z 30, aJ V 10000 (vp_updL (fun _ => 0) 0 1000)), (z 31, aJ V 10000 (fun _ => 0)), (z 1, aI V 3075 (fun _ => 0))]) [6, 2, 3, 0, 4, 5, 1] rfl rfl
  exact fiV hx hb hr hlk hK hP hD hS dX10_laysLikely_54 (Nat.le_of_ble_eq_true rfl) (Nat.le_of_ble_eq_true rfl) (rfl)
set_option maxHeartbeats 4000000 in
set_option maxRecDepth 100000 in
theorem c_X10_wholeOf_3 (l : Launch) (V : GV) : Ct l V yX10_wholeOf (.code yX10_wholeOf cX10_wholeOf 4 (some .long)) 1 [.int 3] [] 0 0 (QL V (fun (r : Int64) (w : va_W) => (r = 1000 ∧ w = []))) := by
  refine Ct.of (by decide) (Nat.le_of_ble_eq_true rfl) (fun p e s m below meth c A ls hx hb hr hml hown hlk hnm hg hP hK hD hE hA hS hl => ?_)
  have hl : lv_has ls 4 [(0, .int 3)] := hl
  refine lv_lconst (v := 1) hx hb dX10_wholeOf_0 (by decide) ?_
  refine lv_lstore_n (lv' := [(1, .long 1), (0, .int 3)]) hx hb dX10_wholeOf_1 rfl hl (by decide) rfl (fun ls hl => ?_)
  refine lv_iconst (v := 0) hx hb dX10_wholeOf_2 (by decide) ?_
  refine lv_istore_n (lv' := [(3, .int 0), (1, .long 1), (0, .int 3)]) hx hb dX10_wholeOf_3 rfl hl (by decide) rfl (fun ls hl => ?_)
  refine lv_iload_n hx hb dX10_wholeOf_4 rfl (lv_at hl 0 rfl) ?_
  refine lv_iload_n hx hb dX10_wholeOf_5 rfl (lv_at hl 2 rfl) ?_
  refine lv_icmp_ge (tgt := 21) hx hb dX10_wholeOf_6 (by decide) (fun c_1 => absurd c_1 (by decide)) (fun _ => ?_)
  refine lv_lload_n hx hb dX10_wholeOf_9 rfl (lv_at hl 1 rfl) ?_
  refine lv_ldc2 (v := 10) hx hb hown (hg _ q_7_102) dX10_wholeOf_10 ?_
  refine lv_lmul hx hb dX10_wholeOf_13 ?_
  refine tpl (y := 10) (by decide +kernel) ?_
  refine lv_lstore_n (lv' := [(1, .long 10), (3, .int 0), (0, .int 3)]) hx hb dX10_wholeOf_14 rfl hl (by decide) rfl (fun ls hl => ?_)
  refine lv_iinc (v := 1) (lv' := [(3, .int 1), (1, .long 10), (0, .int 3)]) hx hb dX10_wholeOf_15 hl (k := 1) rfl (by decide +kernel) (by decide) rfl (fun ls hl => ?_)
  refine lv_goto (tgt := 4) hx hb dX10_wholeOf_18 (by decide) ?_
  refine lv_iload_n hx hb dX10_wholeOf_4 rfl (lv_at hl 0 rfl) ?_
  refine lv_iload_n hx hb dX10_wholeOf_5 rfl (lv_at hl 2 rfl) ?_
  refine lv_icmp_ge (tgt := 21) hx hb dX10_wholeOf_6 (by decide) (fun c_2 => absurd c_2 (by decide)) (fun _ => ?_)
  refine lv_lload_n hx hb dX10_wholeOf_9 rfl (lv_at hl 1 rfl) ?_
  refine lv_ldc2 (v := 10) hx hb hown (hg _ q_7_102) dX10_wholeOf_10 ?_
  refine lv_lmul hx hb dX10_wholeOf_13 ?_
  refine tpl (y := 100) (by decide +kernel) ?_
  refine lv_lstore_n (lv' := [(1, .long 100), (3, .int 1), (0, .int 3)]) hx hb dX10_wholeOf_14 rfl hl (by decide) rfl (fun ls hl => ?_)
  refine lv_iinc (v := 2) (lv' := [(3, .int 2), (1, .long 100), (0, .int 3)]) hx hb dX10_wholeOf_15 hl (k := 1) rfl (by decide +kernel) (by decide) rfl (fun ls hl => ?_)
  refine lv_goto (tgt := 4) hx hb dX10_wholeOf_18 (by decide) ?_
  refine lv_iload_n hx hb dX10_wholeOf_4 rfl (lv_at hl 0 rfl) ?_
  refine lv_iload_n hx hb dX10_wholeOf_5 rfl (lv_at hl 2 rfl) ?_
  refine lv_icmp_ge (tgt := 21) hx hb dX10_wholeOf_6 (by decide) (fun c_3 => absurd c_3 (by decide)) (fun _ => ?_)
  refine lv_lload_n hx hb dX10_wholeOf_9 rfl (lv_at hl 1 rfl) ?_
  refine lv_ldc2 (v := 10) hx hb hown (hg _ q_7_102) dX10_wholeOf_10 ?_
  refine lv_lmul hx hb dX10_wholeOf_13 ?_
  refine tpl (y := 1000) (by decide +kernel) ?_
  refine lv_lstore_n (lv' := [(1, .long 1000), (3, .int 2), (0, .int 3)]) hx hb dX10_wholeOf_14 rfl hl (by decide) rfl (fun ls hl => ?_)
  refine lv_iinc (v := 3) (lv' := [(3, .int 3), (1, .long 1000), (0, .int 3)]) hx hb dX10_wholeOf_15 hl (k := 1) rfl (by decide +kernel) (by decide) rfl (fun ls hl => ?_)
  refine lv_goto (tgt := 4) hx hb dX10_wholeOf_18 (by decide) ?_
  refine lv_iload_n hx hb dX10_wholeOf_4 rfl (lv_at hl 0 rfl) ?_
  refine lv_iload_n hx hb dX10_wholeOf_5 rfl (lv_at hl 2 rfl) ?_
  refine lv_icmp_ge (tgt := 21) hx hb dX10_wholeOf_6 (by decide) (fun _ => ?_) (fun c_4 => absurd c_4 (by decide))
  refine lv_lload_n hx hb dX10_wholeOf_21 rfl (lv_at hl 1 rfl) ?_
  exact fiL hx hb hr hlk hK hP hD hS dX10_wholeOf_22 (Nat.le_of_ble_eq_true rfl) (Nat.le_of_ble_eq_true rfl) (⟨rfl, rfl⟩)
set_option maxHeartbeats 4000000 in
set_option maxRecDepth 100000 in
theorem c_X10_common_6 (l : Launch) (V : GV) : Ct l V yX10_common (.code yX10_common cX10_common 4 (some .long)) 1 [.long 1000, .long 0] [] 0 0 (QL V (fun (r : Int64) (w : va_W) => (r = 1000 ∧ w = []))) := by
  refine Ct.of (by decide) (Nat.le_of_ble_eq_true rfl) (fun p e s m below meth c A ls hx hb hr hml hown hlk hnm hg hP hK hD hE hA hS hl => ?_)
  have hl : lv_has ls 4 [(0, .long 1000), (2, .long 0)] := hl
  refine lv_lload_n hx hb dX10_common_0 rfl (lv_at hl 1 rfl) ?_
  refine lv_lconst (v := 0) hx hb dX10_common_1 (by decide) ?_
  refine W.lcmp hx hb dX10_common_2 ?_
  refine lv_if_ne (tgt := 10) hx hb dX10_common_3 (by decide) (fun c_1 => absurd (fun z => c_1 ((lg_cmp_eq _ _).mpr z)) (by decide)) (fun _ => ?_)
  refine lv_lload_n hx hb dX10_common_6 rfl (lv_at hl 0 rfl) ?_
  refine lv_goto (tgt := 17) hx hb dX10_common_7 (by decide) ?_
  exact fiL hx hb hr hlk hK hP hD hS dX10_common_17 (Nat.le_of_ble_eq_true rfl) (Nat.le_of_ble_eq_true rfl) (⟨rfl, rfl⟩)
set_option maxHeartbeats 4000000 in
set_option maxRecDepth 100000 in
theorem c_X10_common_7 (l : Launch) (V : GV) : Ct l V yX10_common (.code yX10_common cX10_common 4 (some .long)) 2 [.long 0, .long 1000] [] 0 0 (QL V (fun (r : Int64) (w : va_W) => (r = 1000 ∧ w = []))) := by
  refine Ct.of (by decide) (Nat.le_of_ble_eq_true rfl) (fun p e s m below meth c A ls hx hb hr hml hown hlk hnm hg hP hK hD hE hA hS hl => ?_)
  have hl : lv_has ls 4 [(0, .long 0), (2, .long 1000)] := hl
  refine lv_lload_n hx hb dX10_common_0 rfl (lv_at hl 1 rfl) ?_
  refine lv_lconst (v := 0) hx hb dX10_common_1 (by decide) ?_
  refine W.lcmp hx hb dX10_common_2 ?_
  refine lv_if_ne (tgt := 10) hx hb dX10_common_3 (by decide) (fun _ => ?_) (fun c_1 => absurd ((lg_cmp_eq _ _).mp c_1) (by decide))
  refine lv_lload_n hx hb dX10_common_10 rfl (lv_at hl 1 rfl) ?_
  refine lv_lload_n hx hb dX10_common_11 rfl (lv_at hl 0 rfl) ?_
  refine lv_lload_n hx hb dX10_common_12 rfl (lv_at hl 1 rfl) ?_
  refine lv_lrem hx hb dX10_common_13 (by decide) ?_
  refine tpl (y := 0) (by decide +kernel) ?_
  refine jnL (wr := []) (rnS (rest := []) ⟨hx, hb, hml, hown, hg⟩ (c_X10_common_6 l V) mt_X10_common q_8_124 ⟨Nat.le_of_ble_eq_true rfl, Nat.le_of_ble_eq_true rfl⟩ hK hP hD hS hA hE [] rfl rfl rfl hl.1 rfl (Nat.le_of_ble_eq_true rfl) dX10_common_14 ⟨Nat.le_of_ble_eq_true rfl, Nat.le_of_ble_eq_true rfl⟩) hP hD hS hA [] [] rfl rfl rfl (by decide) (fun r_2 w H locs hw hP hD hS => ?_)
  obtain ⟨rfl, rfl⟩ := hw
  have hP : va_P V.1 vwCl [] H := hP
  have hD : va_D A [] := hD
  exact fiL hx hb hr hlk hK hP hD hS dX10_common_17 (Nat.le_of_ble_eq_true rfl) (Nat.le_of_ble_eq_true rfl) (⟨rfl, rfl⟩)
set_option maxHeartbeats 4000000 in
set_option maxRecDepth 100000 in
theorem c_X10_part_3 (l : Launch) (V : GV) (p0 : Int32) : Ct l V yX10_part (.code yX10_part cX10_part 5 (some .int)) 3 [.long 0, .long 1000, .int p0] [] 0 0 (QI V (fun (r : Int32) (w : va_W) => ((¬ p0 = 0) ∧ r = 1 ∧ w = []) ∨ (p0 = 0 ∧ r = 0 ∧ w = []))) := by
  refine Ct.of (by decide) (Nat.le_of_ble_eq_true rfl) (fun p e s m below meth c A ls hx hb hr hml hown hlk hnm hg hP hK hD hE hA hS hl => ?_)
  have hl : lv_has ls 5 [(0, .long 0), (2, .long 1000), (4, .int p0)] := hl
  refine lv_iload hx hb dX10_part_0 (lv_at hl 2 rfl) ?_
  refine lv_if_ne (tgt := 9) hx hb dX10_part_2 (by decide) (fun c_1 => ?_) (fun c_1 => ?_)
  · refine lv_lload_n hx hb dX10_part_9 rfl (lv_at hl 1 rfl) ?_
    refine lv_lload_n hx hb dX10_part_10 rfl (lv_at hl 0 rfl) ?_
    refine lv_lload_n hx hb dX10_part_11 rfl (lv_at hl 1 rfl) ?_
    refine jnL (wr := []) (rnS (rest := [.long 1000]) ⟨hx, hb, hml, hown, hg⟩ (c_X10_common_7 l V) mt_X10_common q_8_124 ⟨Nat.le_of_ble_eq_true rfl, Nat.le_of_ble_eq_true rfl⟩ hK hP hD hS hA hE [] rfl rfl rfl hl.1 rfl (Nat.le_of_ble_eq_true rfl) dX10_part_12 ⟨Nat.le_of_ble_eq_true rfl, Nat.le_of_ble_eq_true rfl⟩) hP hD hS hA [] [] rfl rfl rfl (by decide) (fun r_2 w H locs hw hP hD hS => ?_)
    obtain ⟨rfl, rfl⟩ := hw
    have hP : va_P V.1 vwCl [] H := hP
    have hD : va_D A [] := hD
    refine lv_ldiv hx hb dX10_part_15 (by decide) ?_
    refine tpl (y := 1) (by decide +kernel) ?_
    refine lv_l2i (v := 1) hx hb dX10_part_16 (by decide +kernel) ?_
    exact fiI hx hb hr hlk hK hP hD hS dX10_part_17 (Nat.le_of_ble_eq_true rfl) (Nat.le_of_ble_eq_true rfl) (Or.inl ⟨c_1, rfl, rfl⟩)
  · refine lv_lload_n hx hb dX10_part_5 rfl (lv_at hl 0 rfl) ?_
    refine lv_goto (tgt := 10) hx hb dX10_part_6 (by decide) ?_
    refine lv_lload_n hx hb dX10_part_10 rfl (lv_at hl 0 rfl) ?_
    refine lv_lload_n hx hb dX10_part_11 rfl (lv_at hl 1 rfl) ?_
    refine jnL (wr := []) (rnS (rest := [.long 0]) ⟨hx, hb, hml, hown, hg⟩ (c_X10_common_7 l V) mt_X10_common q_8_124 ⟨Nat.le_of_ble_eq_true rfl, Nat.le_of_ble_eq_true rfl⟩ hK hP hD hS hA hE [] rfl rfl rfl hl.1 rfl (Nat.le_of_ble_eq_true rfl) dX10_part_12 ⟨Nat.le_of_ble_eq_true rfl, Nat.le_of_ble_eq_true rfl⟩) hP hD hS hA [] [] rfl rfl rfl (by decide) (fun r_3 w H locs hw hP hD hS => ?_)
    obtain ⟨rfl, rfl⟩ := hw
    have hP : va_P V.1 vwCl [] H := hP
    have hD : va_D A [] := hD
    refine lv_ldiv hx hb dX10_part_15 (by decide) ?_
    refine tpl (y := 0) (by decide +kernel) ?_
    refine lv_l2i (v := 0) hx hb dX10_part_16 (by decide +kernel) ?_
    exact fiI hx hb hr hlk hK hP hD hS dX10_part_17 (Nat.le_of_ble_eq_true rfl) (Nat.le_of_ble_eq_true rfl) (Or.inr (⟨c_1, rfl, rfl⟩))
set_option maxHeartbeats 4000000 in
set_option maxRecDepth 100000 in
theorem c_X10_isThen_3 (l : Launch) (V : GV) (z : Nat → Nat) : Ct l V yX10_isThen (.code yX10_isThen cX10_isThen 2 none) 1 [.ref (z 0)] [(z 30, aJ V 10000 (vp_updL (fun _ => 0) 0 1000)), (z 31, aJ V 10000 (vp_updL (fun _ => 0) 0 10000)), (z 0, .inr (10, mo z 0 0 0 0 0 0 0 0 0 0 (-1) 0 0 0 0 1))] 0 0 (QV V (fun (w : va_W) => (w = [(z 30, aJ V 10000 (vp_updL (fun _ => 0) 0 10000)), (z 31, aJ V 10000 (fun _ => 0)), (z 0, .inr (10, mo z 0 0 0 0 0 0 0 0 0 0 (-1) 0 0 0 0 1))]))) := by
  refine Ct.of (by decide) (Nat.le_of_ble_eq_true rfl) (fun p e s m below meth c A ls hx hb hr hml hown hlk hnm hg hP hK hD hE hA hS hl => ?_)
  have hl : lv_has ls 2 [(0, .ref (z 0))] := hl
  refine lv_iconst (v := 0) hx hb dX10_isThen_0 (by decide) ?_
  refine lv_istore_n (lv' := [(1, .int 0), (0, .ref (z 0))]) hx hb dX10_isThen_1 rfl hl (by decide) rfl (fun ls hl => ?_)
  refine lv_iload_n hx hb dX10_isThen_2 rfl (lv_at hl 0 rfl) ?_
  refine lv_sipush (v := 10000) hx hb dX10_isThen_3 (by decide) ?_
  refine lv_icmp_ge (tgt := 34) hx hb dX10_isThen_6 (by decide) (fun c_1 => absurd c_1 (by decide)) (fun _ => ?_)
  refine lv_aload_n hx hb dX10_isThen_9 rfl (lv_at hl 1 rfl) ?_
  refine va_get (ci := 10) (v := .ref (z 30)) (C := RX10) (T := TX10) (N := 40) hx hb hg inX10 hown hK hP 2 rfl rfl 30 (by decide) (hg _ q_6_14) (fun _ h9 => h9) rfl dX10_isThen_10 ?_
  refine lv_iload_n hx hb dX10_isThen_13 rfl (lv_at hl 0 rfl) ?_
  refine lv_aload_n hx hb dX10_isThen_14 rfl (lv_at hl 1 rfl) ?_
  refine va_get (ci := 10) (v := .ref (z 31)) (C := RX10) (T := TX10) (N := 40) hx hb hg inX10 hown hK hP 2 rfl rfl 31 (by decide) (hg _ q_6_15) (fun _ h9 => h9) rfl dX10_isThen_15 ?_
  refine lv_iload_n hx hb dX10_isThen_18 rfl (lv_at hl 0 rfl) ?_
  refine va_lald hx hb hK hP 1 2 rfl rfl (vin (by decide +kernel)) dX10_isThen_19 ?_
  refine tpl (y := 10000) (rfl) ?_
  refine va_last hx hb hK hP hD hS 0 2 rfl rfl (vin (by decide +kernel)) dX10_isThen_20 (fun H locs hP hD hS => ?_)
  have hP : va_P V.1 vwCl [(z 30, aJ V 10000 (vp_updL (vp_updL (fun _ => 0) 0 1000) 0 10000)), (z 31, aJ V 10000 (vp_updL (fun _ => 0) 0 10000)), (z 0, .inr (10, mo z 0 0 0 0 0 0 0 0 0 0 (-1) 0 0 0 0 1))] H := hP
  have hD : va_D A [(z 30, aJ V 10000 (vp_updL (vp_updL (fun _ => 0) 0 1000) 0 10000)), (z 31, aJ V 10000 (vp_updL (fun _ => 0) 0 10000)), (z 0, .inr (10, mo z 0 0 0 0 0 0 0 0 0 0 (-1) 0 0 0 0 1))] := hD
  have hP : va_P V.1 vwCl [(z 30, aJ V 10000 (vp_updL (fun _ => 0) 0 10000)), (z 31, aJ V 10000 (vp_updL (fun _ => 0) 0 10000)), (z 0, .inr (10, mo z 0 0 0 0 0 0 0 0 0 0 (-1) 0 0 0 0 1))] H := by rw [updLup] at hP; exact hP
  have hD : va_D A [(z 30, aJ V 10000 (vp_updL (fun _ => 0) 0 10000)), (z 31, aJ V 10000 (vp_updL (fun _ => 0) 0 10000)), (z 0, .inr (10, mo z 0 0 0 0 0 0 0 0 0 0 (-1) 0 0 0 0 1))] := by rw [updLup] at hD; exact hD
  refine lv_aload_n hx hb dX10_isThen_21 rfl (lv_at hl 1 rfl) ?_
  refine va_get (ci := 10) (v := .ref (z 31)) (C := RX10) (T := TX10) (N := 40) hx hb hg inX10 hown hK hP 2 rfl rfl 31 (by decide) (hg _ q_6_15) (fun _ h9 => h9) rfl dX10_isThen_22 ?_
  refine lv_iload_n hx hb dX10_isThen_25 rfl (lv_at hl 0 rfl) ?_
  refine lv_lconst (v := 0) hx hb dX10_isThen_26 (by decide) ?_
  refine va_last hx hb hK hP hD hS 1 2 rfl rfl (vin (by decide +kernel)) dX10_isThen_27 (fun H locs hP hD hS => ?_)
  have hP : va_P V.1 vwCl [(z 30, aJ V 10000 (vp_updL (fun _ => 0) 0 10000)), (z 31, aJ V 10000 (vp_updL (vp_updL (fun _ => 0) 0 10000) 0 0)), (z 0, .inr (10, mo z 0 0 0 0 0 0 0 0 0 0 (-1) 0 0 0 0 1))] H := hP
  have hD : va_D A [(z 30, aJ V 10000 (vp_updL (fun _ => 0) 0 10000)), (z 31, aJ V 10000 (vp_updL (vp_updL (fun _ => 0) 0 10000) 0 0)), (z 0, .inr (10, mo z 0 0 0 0 0 0 0 0 0 0 (-1) 0 0 0 0 1))] := hD
  have hP : va_P V.1 vwCl [(z 30, aJ V 10000 (vp_updL (fun _ => 0) 0 10000)), (z 31, aJ V 10000 (fun _ => 0)), (z 0, .inr (10, mo z 0 0 0 0 0 0 0 0 0 0 (-1) 0 0 0 0 1))] H := by rw [updLup, updL0] at hP; exact hP
  have hD : va_D A [(z 30, aJ V 10000 (vp_updL (fun _ => 0) 0 10000)), (z 31, aJ V 10000 (fun _ => 0)), (z 0, .inr (10, mo z 0 0 0 0 0 0 0 0 0 0 (-1) 0 0 0 0 1))] := by rw [updLup, updL0] at hD; exact hD
  refine lv_iinc (v := 1) (lv' := [(1, .int 1), (0, .ref (z 0))]) hx hb dX10_isThen_28 hl (k := 0) rfl (by decide +kernel) (by decide) rfl (fun ls hl => ?_)
  refine lv_goto (tgt := 2) hx hb dX10_isThen_31 (by decide) ?_
  refine loopW 10000 (X := fun (i_2 : Nat) (H : Heap) (locs : List Loc) (ls : Array Slot) => 1 ≤ i_2 ∧ va_P V.1 vwCl [(z 30, aJ V 10000 (vp_updL (fun _ => 0) 0 10000)), (z 31, aJ V 10000 (fun _ => 0)), (z 0, .inr (10, mo z 0 0 0 0 0 0 0 0 0 0 (-1) 0 0 0 0 1))] H ∧ va_D A [(z 30, aJ V 10000 (vp_updL (fun _ => 0) 0 10000)), (z 31, aJ V 10000 (fun _ => 0)), (z 0, .inr (10, mo z 0 0 0 0 0 0 0 0 0 0 (-1) 0 0 0 0 1))] ∧ va_S A s.heap H locs ∧ lv_has ls 2 [(1, .int (nI i_2)), (0, .ref (z 0))]) (g := fun ls => F0 m 2 ls []) (fun i_2 H locs ls hi_i_2 hX ih_i_2 => ?_) 1 (Nat.le_of_ble_eq_true rfl) ⟨Nat.le_refl _, hP, hD, hS, lv_sub hl [0, 1] rfl⟩
  obtain ⟨hlo_i_2, hP, hD, hS, hl⟩ := hX
  refine lv_iload_n hx hb dX10_isThen_2 rfl (lv_at hl 0 rfl) ?_
  refine lv_sipush (v := 10000) hx hb dX10_isThen_3 (by decide) ?_
  refine lv_icmp_ge (tgt := 34) hx hb dX10_isThen_6 (by decide) (fun c_3 => ?_) (fun c_3 => ?_)
  · have e_4 : i_2 = 10000 := by have q9 := (nI_leI (a := 10000) (b := i_2) (by omega) (by omega)).mp c_3; omega
    rw [e_4] at hl
    have hl : lv_has ls 2 [(1, .int 10000), (0, .ref (z 0))] := hl
    exact fiV hx hb hr hlk hK hP hD hS dX10_isThen_34 (Nat.le_of_ble_eq_true rfl) (Nat.le_of_ble_eq_true rfl) (rfl)
  · have e_4 : i_2 < 10000 := by rcases Nat.lt_or_ge i_2 10000 with q9 | q9; exact q9; exact absurd (nI_le q9 (by omega)) c_3
    refine lv_aload_n hx hb dX10_isThen_9 rfl (lv_at hl 1 rfl) ?_
    refine va_get (ci := 10) (v := .ref (z 30)) (C := RX10) (T := TX10) (N := 40) hx hb hg inX10 hown hK hP 2 rfl rfl 30 (by decide) (hg _ q_6_14) (fun _ h9 => h9) rfl dX10_isThen_10 ?_
    refine lv_iload_n hx hb dX10_isThen_13 rfl (lv_at hl 0 rfl) ?_
    refine lv_aload_n hx hb dX10_isThen_14 rfl (lv_at hl 1 rfl) ?_
    refine va_get (ci := 10) (v := .ref (z 31)) (C := RX10) (T := TX10) (N := 40) hx hb hg inX10 hown hK hP 2 rfl rfl 31 (by decide) (hg _ q_6_15) (fun _ h9 => h9) rfl dX10_isThen_15 ?_
    refine lv_iload_n hx hb dX10_isThen_18 rfl (lv_at hl 0 rfl) ?_
    refine va_lald hx hb hK hP 1 2 rfl rfl (vp_in_nI (by omega) (by decide)) dX10_isThen_19 ?_
    refine tpl (y := 0) rfl ?_
    refine va_last hx hb hK hP hD hS 0 2 rfl rfl (vp_in_nI (by omega) (by decide)) dX10_isThen_20 (fun H locs hP hD hS => ?_)
    have hP : va_P V.1 vwCl [(z 30, aJ V 10000 (vp_updL (vp_updL (fun _ => 0) 0 10000) (nI i_2).toNatClampNeg 0)), (z 31, aJ V 10000 (fun _ => 0)), (z 0, .inr (10, mo z 0 0 0 0 0 0 0 0 0 0 (-1) 0 0 0 0 1))] H := hP
    have hD : va_D A [(z 30, aJ V 10000 (vp_updL (vp_updL (fun _ => 0) 0 10000) (nI i_2).toNatClampNeg 0)), (z 31, aJ V 10000 (fun _ => 0)), (z 0, .inr (10, mo z 0 0 0 0 0 0 0 0 0 0 (-1) 0 0 0 0 1))] := hD
    have hP : va_P V.1 vwCl [(z 30, aJ V 10000 (vp_updL (fun _ => 0) 0 10000)), (z 31, aJ V 10000 (fun _ => 0)), (z 0, .inr (10, mo z 0 0 0 0 0 0 0 0 0 0 (-1) 0 0 0 0 1))] H := by rw [updLid (k := (nI i_2).toNatClampNeg) (v := 0) (by rw [nI_clamp (by omega)]; exact if_neg (by omega))] at hP; exact hP
    have hD : va_D A [(z 30, aJ V 10000 (vp_updL (fun _ => 0) 0 10000)), (z 31, aJ V 10000 (fun _ => 0)), (z 0, .inr (10, mo z 0 0 0 0 0 0 0 0 0 0 (-1) 0 0 0 0 1))] := by rw [updLid (k := (nI i_2).toNatClampNeg) (v := 0) (by rw [nI_clamp (by omega)]; exact if_neg (by omega))] at hD; exact hD
    refine lv_aload_n hx hb dX10_isThen_21 rfl (lv_at hl 1 rfl) ?_
    refine va_get (ci := 10) (v := .ref (z 31)) (C := RX10) (T := TX10) (N := 40) hx hb hg inX10 hown hK hP 2 rfl rfl 31 (by decide) (hg _ q_6_15) (fun _ h9 => h9) rfl dX10_isThen_22 ?_
    refine lv_iload_n hx hb dX10_isThen_25 rfl (lv_at hl 0 rfl) ?_
    refine lv_lconst (v := 0) hx hb dX10_isThen_26 (by decide) ?_
    refine va_last hx hb hK hP hD hS 1 2 rfl rfl (vp_in_nI (by omega) (by decide)) dX10_isThen_27 (fun H locs hP hD hS => ?_)
    have hP : va_P V.1 vwCl [(z 30, aJ V 10000 (vp_updL (fun _ => 0) 0 10000)), (z 31, aJ V 10000 (vp_updL (fun _ => 0) (nI i_2).toNatClampNeg 0)), (z 0, .inr (10, mo z 0 0 0 0 0 0 0 0 0 0 (-1) 0 0 0 0 1))] H := hP
    have hD : va_D A [(z 30, aJ V 10000 (vp_updL (fun _ => 0) 0 10000)), (z 31, aJ V 10000 (vp_updL (fun _ => 0) (nI i_2).toNatClampNeg 0)), (z 0, .inr (10, mo z 0 0 0 0 0 0 0 0 0 0 (-1) 0 0 0 0 1))] := hD
    have hP : va_P V.1 vwCl [(z 30, aJ V 10000 (vp_updL (fun _ => 0) 0 10000)), (z 31, aJ V 10000 (fun _ => 0)), (z 0, .inr (10, mo z 0 0 0 0 0 0 0 0 0 0 (-1) 0 0 0 0 1))] H := by rw [updL0] at hP; exact hP
    have hD : va_D A [(z 30, aJ V 10000 (vp_updL (fun _ => 0) 0 10000)), (z 31, aJ V 10000 (fun _ => 0)), (z 0, .inr (10, mo z 0 0 0 0 0 0 0 0 0 0 (-1) 0 0 0 0 1))] := by rw [updL0] at hD; exact hD
    refine lv_iinc (v := nI (i_2 + 1)) (lv' := [(1, .int (nI (i_2 + 1))), (0, .ref (z 0))]) hx hb dX10_isThen_28 hl (k := 0) rfl (nI_add i_2 1) (by decide) rfl (fun ls hl => ?_)
    refine lv_goto (tgt := 2) hx hb dX10_isThen_31 (by decide) ?_
    exact ih_i_2 e_4 _ _ _ ⟨(by omega), hP, hD, hS, lv_sub hl [0, 1] rfl⟩
set_option maxHeartbeats 4000000 in
set_option maxRecDepth 100000 in
theorem c_X10_goesMany_3 (l : Launch) (V : GV) (z : Nat → Nat) : Ct l V yX10_goesMany (.code yX10_goesMany cX10_goesMany 8 none) 2 [.ref (z 0), .long 10, .long 1] [(z 24, aI V 10000 (fun _ => 0)), (z 25, aI V 40000 (upd (upd (upd (fun _ => 0) 1 (-1)) 2 (-1)) 3 (-1))), (z 30, aJ V 10000 (vp_updL (fun _ => 0) 0 1000)), (z 31, aJ V 10000 (fun _ => 0)), (z 0, .inr (10, mo z 0 0 0 0 0 0 0 0 0 0 (-1) 0 0 0 0 1))] 0 0 (QV V (fun (w : va_W) => (w = [(z 24, aI V 10000 (fun _ => 0)), (z 25, aI V 40000 (upd (upd (upd (fun _ => 0) 1 (-1)) 2 (-1)) 3 (-1))), (z 30, aJ V 10000 (vp_updL (fun _ => 0) 0 10000)), (z 31, aJ V 10000 (fun _ => 0)), (z 0, .inr (10, mo z 0 0 0 0 0 0 0 0 0 0 (-1) 0 0 0 0 1))]))) := by
  refine Ct.of (by decide) (Nat.le_of_ble_eq_true rfl) (fun p e s m below meth c A ls hx hb hr hml hown hlk hnm hg hP hK hD hE hA hS hl => ?_)
  have hl : lv_has ls 8 [(0, .ref (z 0)), (1, .long 10), (3, .long 1)] := hl
  refine lv_iconst (v := 0) hx hb dX10_goesMany_0 (by decide) ?_
  refine lv_istore (lv' := [(5, .int 0), (0, .ref (z 0)), (1, .long 10), (3, .long 1)]) hx hb dX10_goesMany_1 hl (by decide) rfl (fun ls hl => ?_)
  refine lv_iload hx hb dX10_goesMany_3 (lv_at hl 0 rfl) ?_
  refine lv_aload_n hx hb dX10_goesMany_5 rfl (lv_at hl 1 rfl) ?_
  refine va_get (ci := 10) (v := .int 1) (C := RX10) (T := TX10) (N := 40) hx hb hg inX10 hown hK hP 4 rfl rfl 29 (by decide) (hg _ q_6_13) (fun _ h9 => h9) rfl dX10_goesMany_6 ?_
  refine lv_icmp_ge (tgt := 108) hx hb dX10_goesMany_9 (by decide) (fun c_1 => absurd c_1 (by decide)) (fun _ => ?_)
  refine lv_aload_n hx hb dX10_goesMany_12 rfl (lv_at hl 1 rfl) ?_
  refine va_get (ci := 10) (v := .ref (z 24)) (C := RX10) (T := TX10) (N := 40) hx hb hg inX10 hown hK hP 4 rfl rfl 24 (by decide) (hg _ q_6_8) (fun _ h9 => h9) rfl dX10_goesMany_13 ?_
  refine lv_iload hx hb dX10_goesMany_16 (lv_at hl 0 rfl) ?_
  refine va_iald hx hb hK hP 0 0 rfl rfl (vin (by decide +kernel)) dX10_goesMany_18 ?_
  refine tpi (y := 0) (rfl) ?_
  refine lv_istore (lv' := [(6, .int 0), (5, .int 0), (0, .ref (z 0)), (1, .long 10), (3, .long 1)]) hx hb dX10_goesMany_19 hl (by decide) rfl (fun ls hl => ?_)
  refine lv_iconst (v := 0) hx hb dX10_goesMany_21 (by decide) ?_
  refine lv_istore (lv' := [(7, .int 0), (6, .int 0), (5, .int 0), (0, .ref (z 0)), (1, .long 10), (3, .long 1)]) hx hb dX10_goesMany_22 hl (by decide) rfl (fun ls hl => ?_)
  refine lv_iload hx hb dX10_goesMany_24 (lv_at hl 0 rfl) ?_
  refine lv_iconst (v := 4) hx hb dX10_goesMany_26 (by decide) ?_
  refine lv_icmp_ge (tgt := 102) hx hb dX10_goesMany_27 (by decide) (fun c_2 => absurd c_2 (by decide)) (fun _ => ?_)
  refine lv_aload_n hx hb dX10_goesMany_30 rfl (lv_at hl 3 rfl) ?_
  refine va_get (ci := 10) (v := .ref (z 30)) (C := RX10) (T := TX10) (N := 40) hx hb hg inX10 hown hK hP 4 rfl rfl 30 (by decide) (hg _ q_6_14) (fun _ h9 => h9) rfl dX10_goesMany_31 ?_
  refine lv_iload hx hb dX10_goesMany_34 (lv_at hl 1 rfl) ?_
  refine va_lald hx hb hK hP 2 2 rfl rfl (vin (by decide +kernel)) dX10_goesMany_36 ?_
  refine tpl (y := 1000) (rfl) ?_
  refine lv_lconst (v := 0) hx hb dX10_goesMany_37 (by decide) ?_
  refine W.lcmp hx hb dX10_goesMany_38 ?_
  refine lv_if_le (tgt := 102) hx hb dX10_goesMany_39 (by decide) (fun c_3 => absurd ((lg_cmp_le _ _).mp c_3) (by decide)) (fun _ => ?_)
  refine lv_aload_n hx hb dX10_goesMany_42 rfl (lv_at hl 3 rfl) ?_
  refine va_get (ci := 10) (v := .ref (z 25)) (C := RX10) (T := TX10) (N := 40) hx hb hg inX10 hown hK hP 4 rfl rfl 25 (by decide) (hg _ q_6_9) (fun _ h9 => h9) rfl dX10_goesMany_43 ?_
  refine lv_iconst (v := 4) hx hb dX10_goesMany_46 (by decide) ?_
  refine lv_iload hx hb dX10_goesMany_47 (lv_at hl 1 rfl) ?_
  refine lv_imul hx hb dX10_goesMany_49 ?_
  refine tpi (y := 0) (by decide +kernel) ?_
  refine lv_iload hx hb dX10_goesMany_50 (lv_at hl 0 rfl) ?_
  refine lv_iadd hx hb dX10_goesMany_52 ?_
  refine tpi (y := 0) (by decide +kernel) ?_
  refine va_iald hx hb hK hP 1 0 rfl rfl (vin (by decide +kernel)) dX10_goesMany_53 ?_
  refine tpi (y := 0) (rfl) ?_
  refine lv_iconst (v := (-1)) hx hb dX10_goesMany_54 (by decide) ?_
  refine lv_icmp_eq (tgt := 96) hx hb dX10_goesMany_55 (by decide) (fun c_4 => absurd c_4 (by decide)) (fun _ => ?_)
  refine lv_aload_n hx hb dX10_goesMany_58 rfl (lv_at hl 3 rfl) ?_
  refine va_get (ci := 10) (v := .ref (z 31)) (C := RX10) (T := TX10) (N := 40) hx hb hg inX10 hown hK hP 4 rfl rfl 31 (by decide) (hg _ q_6_15) (fun _ h9 => h9) rfl dX10_goesMany_59 ?_
  refine lv_aload_n hx hb dX10_goesMany_62 rfl (lv_at hl 3 rfl) ?_
  refine va_get (ci := 10) (v := .ref (z 25)) (C := RX10) (T := TX10) (N := 40) hx hb hg inX10 hown hK hP 4 rfl rfl 25 (by decide) (hg _ q_6_9) (fun _ h9 => h9) rfl dX10_goesMany_63 ?_
  refine lv_iconst (v := 4) hx hb dX10_goesMany_66 (by decide) ?_
  refine lv_iload hx hb dX10_goesMany_67 (lv_at hl 1 rfl) ?_
  refine lv_imul hx hb dX10_goesMany_69 ?_
  refine tpi (y := 0) (by decide +kernel) ?_
  refine lv_iload hx hb dX10_goesMany_70 (lv_at hl 0 rfl) ?_
  refine lv_iadd hx hb dX10_goesMany_72 ?_
  refine tpi (y := 0) (by decide +kernel) ?_
  refine va_iald hx hb hK hP 1 0 rfl rfl (vin (by decide +kernel)) dX10_goesMany_73 ?_
  refine tpi (y := 0) (rfl) ?_
  refine lv_dup2_11 hx hb dX10_goesMany_74 rfl rfl ?_
  refine va_lald hx hb hK hP 3 2 rfl rfl (vin (by decide +kernel)) dX10_goesMany_75 ?_
  refine tpl (y := 0) (rfl) ?_
  refine lv_aload_n hx hb dX10_goesMany_76 rfl (lv_at hl 3 rfl) ?_
  refine va_get (ci := 10) (v := .ref (z 30)) (C := RX10) (T := TX10) (N := 40) hx hb hg inX10 hown hK hP 4 rfl rfl 30 (by decide) (hg _ q_6_14) (fun _ h9 => h9) rfl dX10_goesMany_77 ?_
  refine lv_iload hx hb dX10_goesMany_80 (lv_at hl 1 rfl) ?_
  refine va_lald hx hb hK hP 2 2 rfl rfl (vin (by decide +kernel)) dX10_goesMany_82 ?_
  refine tpl (y := 1000) (rfl) ?_
  refine lv_iload hx hb dX10_goesMany_83 (lv_at hl 0 rfl) ?_
  refine lv_if_ne (tgt := 92) hx hb dX10_goesMany_85 (by decide) (fun c_5 => absurd c_5 (by decide)) (fun _ => ?_)
  refine lv_lload_n hx hb dX10_goesMany_88 rfl (lv_at hl 4 rfl) ?_
  refine lv_goto (tgt := 93) hx hb dX10_goesMany_89 (by decide) ?_
  refine lv_lmul hx hb dX10_goesMany_93 ?_
  refine tpl (y := 10000) (by decide +kernel) ?_
  refine lv_ladd hx hb dX10_goesMany_94 ?_
  refine tpl (y := 10000) (by decide +kernel) ?_
  refine va_last hx hb hK hP hD hS 3 2 rfl rfl (vin (by decide +kernel)) dX10_goesMany_95 (fun H locs hP hD hS => ?_)
  have hP : va_P V.1 vwCl [(z 24, aI V 10000 (fun _ => 0)), (z 25, aI V 40000 (upd (upd (upd (fun _ => 0) 1 (-1)) 2 (-1)) 3 (-1))), (z 30, aJ V 10000 (vp_updL (fun _ => 0) 0 1000)), (z 31, aJ V 10000 (vp_updL (fun _ => 0) 0 10000)), (z 0, .inr (10, mo z 0 0 0 0 0 0 0 0 0 0 (-1) 0 0 0 0 1))] H := hP
  have hD : va_D A [(z 24, aI V 10000 (fun _ => 0)), (z 25, aI V 40000 (upd (upd (upd (fun _ => 0) 1 (-1)) 2 (-1)) 3 (-1))), (z 30, aJ V 10000 (vp_updL (fun _ => 0) 0 1000)), (z 31, aJ V 10000 (vp_updL (fun _ => 0) 0 10000)), (z 0, .inr (10, mo z 0 0 0 0 0 0 0 0 0 0 (-1) 0 0 0 0 1))] := hD
  refine lv_iinc (v := 1) (lv' := [(7, .int 1), (6, .int 0), (5, .int 0), (0, .ref (z 0)), (1, .long 10), (3, .long 1)]) hx hb dX10_goesMany_96 hl (k := 0) rfl (by decide +kernel) (by decide) rfl (fun ls hl => ?_)
  refine lv_goto (tgt := 24) hx hb dX10_goesMany_99 (by decide) ?_
  refine lv_iload hx hb dX10_goesMany_24 (lv_at hl 0 rfl) ?_
  refine lv_iconst (v := 4) hx hb dX10_goesMany_26 (by decide) ?_
  refine lv_icmp_ge (tgt := 102) hx hb dX10_goesMany_27 (by decide) (fun c_6 => absurd c_6 (by decide)) (fun _ => ?_)
  refine lv_aload_n hx hb dX10_goesMany_30 rfl (lv_at hl 3 rfl) ?_
  refine va_get (ci := 10) (v := .ref (z 30)) (C := RX10) (T := TX10) (N := 40) hx hb hg inX10 hown hK hP 4 rfl rfl 30 (by decide) (hg _ q_6_14) (fun _ h9 => h9) rfl dX10_goesMany_31 ?_
  refine lv_iload hx hb dX10_goesMany_34 (lv_at hl 1 rfl) ?_
  refine va_lald hx hb hK hP 2 2 rfl rfl (vin (by decide +kernel)) dX10_goesMany_36 ?_
  refine tpl (y := 1000) (rfl) ?_
  refine lv_lconst (v := 0) hx hb dX10_goesMany_37 (by decide) ?_
  refine W.lcmp hx hb dX10_goesMany_38 ?_
  refine lv_if_le (tgt := 102) hx hb dX10_goesMany_39 (by decide) (fun c_7 => absurd ((lg_cmp_le _ _).mp c_7) (by decide)) (fun _ => ?_)
  refine lv_aload_n hx hb dX10_goesMany_42 rfl (lv_at hl 3 rfl) ?_
  refine va_get (ci := 10) (v := .ref (z 25)) (C := RX10) (T := TX10) (N := 40) hx hb hg inX10 hown hK hP 4 rfl rfl 25 (by decide) (hg _ q_6_9) (fun _ h9 => h9) rfl dX10_goesMany_43 ?_
  refine lv_iconst (v := 4) hx hb dX10_goesMany_46 (by decide) ?_
  refine lv_iload hx hb dX10_goesMany_47 (lv_at hl 1 rfl) ?_
  refine lv_imul hx hb dX10_goesMany_49 ?_
  refine tpi (y := 0) (by decide +kernel) ?_
  refine lv_iload hx hb dX10_goesMany_50 (lv_at hl 0 rfl) ?_
  refine lv_iadd hx hb dX10_goesMany_52 ?_
  refine tpi (y := 1) (by decide +kernel) ?_
  refine va_iald hx hb hK hP 1 0 rfl rfl (vin (by decide +kernel)) dX10_goesMany_53 ?_
  refine tpi (y := (-1)) (rfl) ?_
  refine lv_iconst (v := (-1)) hx hb dX10_goesMany_54 (by decide) ?_
  refine lv_icmp_eq (tgt := 96) hx hb dX10_goesMany_55 (by decide) (fun _ => ?_) (fun c_8 => absurd c_8 (by decide))
  refine lv_iinc (v := 2) (lv' := [(7, .int 2), (6, .int 0), (5, .int 0), (0, .ref (z 0)), (1, .long 10), (3, .long 1)]) hx hb dX10_goesMany_96 hl (k := 0) rfl (by decide +kernel) (by decide) rfl (fun ls hl => ?_)
  refine lv_goto (tgt := 24) hx hb dX10_goesMany_99 (by decide) ?_
  refine lv_iload hx hb dX10_goesMany_24 (lv_at hl 0 rfl) ?_
  refine lv_iconst (v := 4) hx hb dX10_goesMany_26 (by decide) ?_
  refine lv_icmp_ge (tgt := 102) hx hb dX10_goesMany_27 (by decide) (fun c_9 => absurd c_9 (by decide)) (fun _ => ?_)
  refine lv_aload_n hx hb dX10_goesMany_30 rfl (lv_at hl 3 rfl) ?_
  refine va_get (ci := 10) (v := .ref (z 30)) (C := RX10) (T := TX10) (N := 40) hx hb hg inX10 hown hK hP 4 rfl rfl 30 (by decide) (hg _ q_6_14) (fun _ h9 => h9) rfl dX10_goesMany_31 ?_
  refine lv_iload hx hb dX10_goesMany_34 (lv_at hl 1 rfl) ?_
  refine va_lald hx hb hK hP 2 2 rfl rfl (vin (by decide +kernel)) dX10_goesMany_36 ?_
  refine tpl (y := 1000) (rfl) ?_
  refine lv_lconst (v := 0) hx hb dX10_goesMany_37 (by decide) ?_
  refine W.lcmp hx hb dX10_goesMany_38 ?_
  refine lv_if_le (tgt := 102) hx hb dX10_goesMany_39 (by decide) (fun c_10 => absurd ((lg_cmp_le _ _).mp c_10) (by decide)) (fun _ => ?_)
  refine lv_aload_n hx hb dX10_goesMany_42 rfl (lv_at hl 3 rfl) ?_
  refine va_get (ci := 10) (v := .ref (z 25)) (C := RX10) (T := TX10) (N := 40) hx hb hg inX10 hown hK hP 4 rfl rfl 25 (by decide) (hg _ q_6_9) (fun _ h9 => h9) rfl dX10_goesMany_43 ?_
  refine lv_iconst (v := 4) hx hb dX10_goesMany_46 (by decide) ?_
  refine lv_iload hx hb dX10_goesMany_47 (lv_at hl 1 rfl) ?_
  refine lv_imul hx hb dX10_goesMany_49 ?_
  refine tpi (y := 0) (by decide +kernel) ?_
  refine lv_iload hx hb dX10_goesMany_50 (lv_at hl 0 rfl) ?_
  refine lv_iadd hx hb dX10_goesMany_52 ?_
  refine tpi (y := 2) (by decide +kernel) ?_
  refine va_iald hx hb hK hP 1 0 rfl rfl (vin (by decide +kernel)) dX10_goesMany_53 ?_
  refine tpi (y := (-1)) (rfl) ?_
  refine lv_iconst (v := (-1)) hx hb dX10_goesMany_54 (by decide) ?_
  refine lv_icmp_eq (tgt := 96) hx hb dX10_goesMany_55 (by decide) (fun _ => ?_) (fun c_11 => absurd c_11 (by decide))
  refine lv_iinc (v := 3) (lv' := [(7, .int 3), (6, .int 0), (5, .int 0), (0, .ref (z 0)), (1, .long 10), (3, .long 1)]) hx hb dX10_goesMany_96 hl (k := 0) rfl (by decide +kernel) (by decide) rfl (fun ls hl => ?_)
  refine lv_goto (tgt := 24) hx hb dX10_goesMany_99 (by decide) ?_
  refine lv_iload hx hb dX10_goesMany_24 (lv_at hl 0 rfl) ?_
  refine lv_iconst (v := 4) hx hb dX10_goesMany_26 (by decide) ?_
  refine lv_icmp_ge (tgt := 102) hx hb dX10_goesMany_27 (by decide) (fun c_12 => absurd c_12 (by decide)) (fun _ => ?_)
  refine lv_aload_n hx hb dX10_goesMany_30 rfl (lv_at hl 3 rfl) ?_
  refine va_get (ci := 10) (v := .ref (z 30)) (C := RX10) (T := TX10) (N := 40) hx hb hg inX10 hown hK hP 4 rfl rfl 30 (by decide) (hg _ q_6_14) (fun _ h9 => h9) rfl dX10_goesMany_31 ?_
  refine lv_iload hx hb dX10_goesMany_34 (lv_at hl 1 rfl) ?_
  refine va_lald hx hb hK hP 2 2 rfl rfl (vin (by decide +kernel)) dX10_goesMany_36 ?_
  refine tpl (y := 1000) (rfl) ?_
  refine lv_lconst (v := 0) hx hb dX10_goesMany_37 (by decide) ?_
  refine W.lcmp hx hb dX10_goesMany_38 ?_
  refine lv_if_le (tgt := 102) hx hb dX10_goesMany_39 (by decide) (fun c_13 => absurd ((lg_cmp_le _ _).mp c_13) (by decide)) (fun _ => ?_)
  refine lv_aload_n hx hb dX10_goesMany_42 rfl (lv_at hl 3 rfl) ?_
  refine va_get (ci := 10) (v := .ref (z 25)) (C := RX10) (T := TX10) (N := 40) hx hb hg inX10 hown hK hP 4 rfl rfl 25 (by decide) (hg _ q_6_9) (fun _ h9 => h9) rfl dX10_goesMany_43 ?_
  refine lv_iconst (v := 4) hx hb dX10_goesMany_46 (by decide) ?_
  refine lv_iload hx hb dX10_goesMany_47 (lv_at hl 1 rfl) ?_
  refine lv_imul hx hb dX10_goesMany_49 ?_
  refine tpi (y := 0) (by decide +kernel) ?_
  refine lv_iload hx hb dX10_goesMany_50 (lv_at hl 0 rfl) ?_
  refine lv_iadd hx hb dX10_goesMany_52 ?_
  refine tpi (y := 3) (by decide +kernel) ?_
  refine va_iald hx hb hK hP 1 0 rfl rfl (vin (by decide +kernel)) dX10_goesMany_53 ?_
  refine tpi (y := (-1)) (rfl) ?_
  refine lv_iconst (v := (-1)) hx hb dX10_goesMany_54 (by decide) ?_
  refine lv_icmp_eq (tgt := 96) hx hb dX10_goesMany_55 (by decide) (fun _ => ?_) (fun c_14 => absurd c_14 (by decide))
  refine lv_iinc (v := 4) (lv' := [(7, .int 4), (6, .int 0), (5, .int 0), (0, .ref (z 0)), (1, .long 10), (3, .long 1)]) hx hb dX10_goesMany_96 hl (k := 0) rfl (by decide +kernel) (by decide) rfl (fun ls hl => ?_)
  refine lv_goto (tgt := 24) hx hb dX10_goesMany_99 (by decide) ?_
  refine lv_iload hx hb dX10_goesMany_24 (lv_at hl 0 rfl) ?_
  refine lv_iconst (v := 4) hx hb dX10_goesMany_26 (by decide) ?_
  refine lv_icmp_ge (tgt := 102) hx hb dX10_goesMany_27 (by decide) (fun _ => ?_) (fun c_15 => absurd c_15 (by decide))
  refine lv_iinc (v := 1) (lv' := [(5, .int 1), (7, .int 4), (6, .int 0), (0, .ref (z 0)), (1, .long 10), (3, .long 1)]) hx hb dX10_goesMany_102 hl (k := 2) rfl (by decide +kernel) (by decide) rfl (fun ls hl => ?_)
  refine lv_goto (tgt := 3) hx hb dX10_goesMany_105 (by decide) ?_
  refine lv_iload hx hb dX10_goesMany_3 (lv_at hl 0 rfl) ?_
  refine lv_aload_n hx hb dX10_goesMany_5 rfl (lv_at hl 3 rfl) ?_
  refine va_get (ci := 10) (v := .int 1) (C := RX10) (T := TX10) (N := 40) hx hb hg inX10 hown hK hP 4 rfl rfl 29 (by decide) (hg _ q_6_13) (fun _ h9 => h9) rfl dX10_goesMany_6 ?_
  refine lv_icmp_ge (tgt := 108) hx hb dX10_goesMany_9 (by decide) (fun _ => ?_) (fun c_16 => absurd c_16 (by decide))
  refine lv_aload_n hx hb dX10_goesMany_108 rfl (lv_at hl 3 rfl) ?_
  refine jnV (wr := [(z 24, aI V 10000 (fun _ => 0)), (z 25, aI V 40000 (upd (upd (upd (fun _ => 0) 1 (-1)) 2 (-1)) 3 (-1)))]) (rnV (rest := []) ⟨hx, hb, hml, hown, hg⟩ (c_X10_isThen_3 l V z) mt_X10_isThen q_7_228 ⟨Nat.le_of_ble_eq_true rfl, Nat.le_of_ble_eq_true rfl⟩ hK hP hD hS hA hE [2, 3, 4] rfl rfl 4 rfl rfl rfl rfl hl.1 rfl (Nat.le_of_ble_eq_true rfl) dX10_goesMany_109 ⟨Nat.le_of_ble_eq_true rfl, Nat.le_of_ble_eq_true rfl⟩) hP hD hS hA [2, 3, 4] [0, 1] rfl rfl rfl (by decide) (fun  w H locs hw hP hD hS => ?_)
  subst hw
  have hP : va_P V.1 vwCl [(z 24, aI V 10000 (fun _ => 0)), (z 25, aI V 40000 (upd (upd (upd (fun _ => 0) 1 (-1)) 2 (-1)) 3 (-1))), (z 30, aJ V 10000 (vp_updL (fun _ => 0) 0 10000)), (z 31, aJ V 10000 (fun _ => 0)), (z 0, .inr (10, mo z 0 0 0 0 0 0 0 0 0 0 (-1) 0 0 0 0 1))] H := hP
  have hD : va_D A [(z 24, aI V 10000 (fun _ => 0)), (z 25, aI V 40000 (upd (upd (upd (fun _ => 0) 1 (-1)) 2 (-1)) 3 (-1))), (z 30, aJ V 10000 (vp_updL (fun _ => 0) 0 10000)), (z 31, aJ V 10000 (fun _ => 0)), (z 0, .inr (10, mo z 0 0 0 0 0 0 0 0 0 0 (-1) 0 0 0 0 1))] := hD
  exact fiV hx hb hr hlk hK hP hD hS dX10_goesMany_112 (Nat.le_of_ble_eq_true rfl) (Nat.le_of_ble_eq_true rfl) (rfl)
set_option maxHeartbeats 4000000 in
set_option maxRecDepth 100000 in
theorem c_X10_laysLikely_4 (l : Launch) (V : GV) (z : Nat → Nat) : Ct l V yX10_laysLikely (.code yX10_laysLikely cX10_laysLikely 4 none) 4 [.ref (z 0), .int 4] [(z 0, .inr (10, mo z 0 0 0 0 0 0 0 0 0 0 (-1) 0 0 0 0 0)), (z 24, aI V 10000 (fun _ => 0)), (z 25, aI V 40000 (fun _ => 0)), (z 28, aZ V 10000 (fun _ => 0)), (z 30, aJ V 10000 (fun _ => 0)), (z 31, aJ V 10000 (fun _ => 0)), (z 1, aI V 3075 (fun _ => 0))] 0 0 (QV V (fun (w : va_W) => (w = [(z 0, .inr (10, mo z 0 0 0 0 0 0 0 0 0 0 (-1) 0 0 0 0 1)), (z 24, aI V 10000 (fun _ => 0)), (z 25, aI V 40000 (upd (upd (upd (fun _ => 0) 1 (-1)) 2 (-1)) 3 (-1))), (z 28, aZ V 10000 (upd (fun _ => 0) 0 1)), (z 30, aJ V 10000 (vp_updL (fun _ => 0) 0 10000)), (z 31, aJ V 10000 (fun _ => 0)), (z 1, aI V 3075 (fun _ => 0))]))) := by
  refine Ct.of (by decide) (Nat.le_of_ble_eq_true rfl) (fun p e s m below meth c A ls hx hb hr hml hown hlk hnm hg hP hK hD hE hA hS hl => ?_)
  have hl : lv_has ls 4 [(0, .ref (z 0)), (1, .int 4)] := hl
  refine lv_aload_n hx hb dX10_laysLikely_0 rfl (lv_at hl 0 rfl) ?_
  refine jnV (wr := [(z 30, aJ V 10000 (fun _ => 0)), (z 31, aJ V 10000 (fun _ => 0))]) (rnV (rest := []) ⟨hx, hb, hml, hown, hg⟩ (c_X10_laysStands_0 l V z) mt_X10_laysStands q_7_194 ⟨Nat.le_of_ble_eq_true rfl, Nat.le_of_ble_eq_true rfl⟩ hK hP hD hS hA hE [0, 1, 2, 3, 6] rfl rfl 0 rfl rfl rfl rfl hl.1 rfl (Nat.le_of_ble_eq_true rfl) dX10_laysLikely_1 ⟨Nat.le_of_ble_eq_true rfl, Nat.le_of_ble_eq_true rfl⟩) hP hD hS hA [0, 1, 2, 3, 6] [4, 5] rfl rfl rfl (by decide) (fun  w H locs hw hP hD hS => ?_)
  subst hw
  have hP : va_P V.1 vwCl [(z 30, aJ V 10000 (fun _ => 0)), (z 31, aJ V 10000 (fun _ => 0)), (z 0, .inr (10, mo z 0 0 0 0 0 0 0 0 0 0 (-1) 0 0 0 0 1)), (z 24, aI V 10000 (fun _ => 0)), (z 25, aI V 40000 (upd (upd (upd (fun _ => 0) 1 (-1)) 2 (-1)) 3 (-1))), (z 28, aZ V 10000 (upd (fun _ => 0) 0 1)), (z 1, aI V 3075 (fun _ => 0))] H := hP
  have hD : va_D A [(z 30, aJ V 10000 (fun _ => 0)), (z 31, aJ V 10000 (fun _ => 0)), (z 0, .inr (10, mo z 0 0 0 0 0 0 0 0 0 0 (-1) 0 0 0 0 1)), (z 24, aI V 10000 (fun _ => 0)), (z 25, aI V 40000 (upd (upd (upd (fun _ => 0) 1 (-1)) 2 (-1)) 3 (-1))), (z 28, aZ V 10000 (upd (fun _ => 0) 0 1)), (z 1, aI V 3075 (fun _ => 0))] := hD
  refine lv_aload_n hx hb dX10_laysLikely_4 rfl (lv_at hl 0 rfl) ?_
  refine jnV (wr := [(z 24, aI V 10000 (fun _ => 0)), (z 25, aI V 40000 (upd (upd (upd (fun _ => 0) 1 (-1)) 2 (-1)) 3 (-1))), (z 28, aZ V 10000 (upd (fun _ => 0) 0 1))]) (rnV (rest := []) ⟨hx, hb, hml, hown, hg⟩ (c_X10_beginsMany_0 l V z) mt_X10_beginsMany q_7_220 ⟨Nat.le_of_ble_eq_true rfl, Nat.le_of_ble_eq_true rfl⟩ hK hP hD hS hA hE [0, 1, 2, 6] rfl rfl 2 rfl rfl rfl rfl hl.1 rfl (Nat.le_of_ble_eq_true rfl) dX10_laysLikely_5 ⟨Nat.le_of_ble_eq_true rfl, Nat.le_of_ble_eq_true rfl⟩) hP hD hS hA [0, 1, 2, 6] [3, 4, 5] rfl rfl rfl (by decide) (fun  w H locs hw hP hD hS => ?_)
  subst hw
  have hP : va_P V.1 vwCl [(z 24, aI V 10000 (fun _ => 0)), (z 25, aI V 40000 (upd (upd (upd (fun _ => 0) 1 (-1)) 2 (-1)) 3 (-1))), (z 28, aZ V 10000 (upd (fun _ => 0) 0 1)), (z 30, aJ V 10000 (vp_updL (fun _ => 0) 0 1)), (z 31, aJ V 10000 (fun _ => 0)), (z 0, .inr (10, mo z 0 0 0 0 0 0 0 0 0 0 (-1) 0 0 0 0 1)), (z 1, aI V 3075 (fun _ => 0))] H := hP
  have hD : va_D A [(z 24, aI V 10000 (fun _ => 0)), (z 25, aI V 40000 (upd (upd (upd (fun _ => 0) 1 (-1)) 2 (-1)) 3 (-1))), (z 28, aZ V 10000 (upd (fun _ => 0) 0 1)), (z 30, aJ V 10000 (vp_updL (fun _ => 0) 0 1)), (z 31, aJ V 10000 (fun _ => 0)), (z 0, .inr (10, mo z 0 0 0 0 0 0 0 0 0 0 (-1) 0 0 0 0 1)), (z 1, aI V 3075 (fun _ => 0))] := hD
  refine lv_aload_n hx hb dX10_laysLikely_8 rfl (lv_at hl 0 rfl) ?_
  refine va_get (ci := 10) (v := .ref (z 1)) (C := RX10) (T := TX10) (N := 40) hx hb hg inX10 hown hK hP 5 rfl rfl 1 (by decide) (hg _ q_5_225) (fun _ h9 => h9) rfl dX10_laysLikely_9 ?_
  refine lv_iconst (v := 1) hx hb dX10_laysLikely_12 (by decide) ?_
  refine va_iald hx hb hK hP 6 0 rfl rfl (vin (by decide +kernel)) dX10_laysLikely_13 ?_
  refine tpi (y := 0) (rfl) ?_
  refine lv_if_ne (tgt := 21) hx hb dX10_laysLikely_14 (by decide) (fun c_1 => absurd c_1 (by decide)) (fun _ => ?_)
  refine lv_iconst (v := 0) hx hb dX10_laysLikely_17 (by decide) ?_
  refine lv_goto (tgt := 29) hx hb dX10_laysLikely_18 (by decide) ?_
  refine lv_istore_n (lv' := [(2, .int 0), (0, .ref (z 0)), (1, .int 4)]) hx hb dX10_laysLikely_29 rfl hl (by decide) rfl (fun ls hl => ?_)
  refine lv_iconst (v := 0) hx hb dX10_laysLikely_30 (by decide) ?_
  refine lv_istore_n (lv' := [(3, .int 0), (2, .int 0), (0, .ref (z 0)), (1, .int 4)]) hx hb dX10_laysLikely_31 rfl hl (by decide) rfl (fun ls hl => ?_)
  refine lv_iload_n hx hb dX10_laysLikely_32 rfl (lv_at hl 0 rfl) ?_
  refine lv_iload_n hx hb dX10_laysLikely_33 rfl (lv_at hl 3 rfl) ?_
  refine lv_icmp_ge (tgt := 54) hx hb dX10_laysLikely_34 (by decide) (fun c_2 => absurd c_2 (by decide)) (fun _ => ?_)
  refine lv_aload_n hx hb dX10_laysLikely_37 rfl (lv_at hl 2 rfl) ?_
  refine lv_ldc2 (v := 10) hx hb hown (hg _ q_7_102) dX10_laysLikely_38 ?_
  refine lv_iload_n hx hb dX10_laysLikely_41 rfl (lv_at hl 1 rfl) ?_
  refine lv_i2l (v := 0) hx hb dX10_laysLikely_42 (by decide +kernel) ?_
  refine lv_lsub hx hb dX10_laysLikely_43 ?_
  refine tpl (y := 10) (by decide +kernel) ?_
  refine lv_lconst (v := 1) hx hb dX10_laysLikely_44 (by decide) ?_
  refine jnV (wr := [(z 28, aZ V 10000 (upd (fun _ => 0) 0 1)), (z 1, aI V 3075 (fun _ => 0))]) (rnV (rest := []) ⟨hx, hb, hml, hown, hg⟩ (c_X10_goesMany_0 l V z) mt_X10_goesMany q_7_224 ⟨Nat.le_of_ble_eq_true rfl, Nat.le_of_ble_eq_true rfl⟩ hK hP hD hS hA hE [0, 1, 3, 4, 5] rfl rfl 5 rfl rfl rfl rfl hl.1 rfl (Nat.le_of_ble_eq_true rfl) dX10_laysLikely_45 ⟨Nat.le_of_ble_eq_true rfl, Nat.le_of_ble_eq_true rfl⟩) hP hD hS hA [0, 1, 3, 4, 5] [2, 6] rfl rfl rfl (by decide) (fun  w H locs hw hP hD hS => ?_)
  subst hw
  have hP : va_P V.1 vwCl [(z 28, aZ V 10000 (upd (fun _ => 0) 0 1)), (z 1, aI V 3075 (fun _ => 0)), (z 24, aI V 10000 (fun _ => 0)), (z 25, aI V 40000 (upd (upd (upd (fun _ => 0) 1 (-1)) 2 (-1)) 3 (-1))), (z 30, aJ V 10000 (vp_updL (fun _ => 0) 0 10)), (z 31, aJ V 10000 (fun _ => 0)), (z 0, .inr (10, mo z 0 0 0 0 0 0 0 0 0 0 (-1) 0 0 0 0 1))] H := hP
  have hD : va_D A [(z 28, aZ V 10000 (upd (fun _ => 0) 0 1)), (z 1, aI V 3075 (fun _ => 0)), (z 24, aI V 10000 (fun _ => 0)), (z 25, aI V 40000 (upd (upd (upd (fun _ => 0) 1 (-1)) 2 (-1)) 3 (-1))), (z 30, aJ V 10000 (vp_updL (fun _ => 0) 0 10)), (z 31, aJ V 10000 (fun _ => 0)), (z 0, .inr (10, mo z 0 0 0 0 0 0 0 0 0 0 (-1) 0 0 0 0 1))] := hD
  refine lv_iinc (v := 1) (lv' := [(3, .int 1), (2, .int 0), (0, .ref (z 0)), (1, .int 4)]) hx hb dX10_laysLikely_48 hl (k := 0) rfl (by decide +kernel) (by decide) rfl (fun ls hl => ?_)
  refine lv_goto (tgt := 32) hx hb dX10_laysLikely_51 (by decide) ?_
  refine lv_iload_n hx hb dX10_laysLikely_32 rfl (lv_at hl 0 rfl) ?_
  refine lv_iload_n hx hb dX10_laysLikely_33 rfl (lv_at hl 3 rfl) ?_
  refine lv_icmp_ge (tgt := 54) hx hb dX10_laysLikely_34 (by decide) (fun c_3 => absurd c_3 (by decide)) (fun _ => ?_)
  refine lv_aload_n hx hb dX10_laysLikely_37 rfl (lv_at hl 2 rfl) ?_
  refine lv_ldc2 (v := 10) hx hb hown (hg _ q_7_102) dX10_laysLikely_38 ?_
  refine lv_iload_n hx hb dX10_laysLikely_41 rfl (lv_at hl 1 rfl) ?_
  refine lv_i2l (v := 0) hx hb dX10_laysLikely_42 (by decide +kernel) ?_
  refine lv_lsub hx hb dX10_laysLikely_43 ?_
  refine tpl (y := 10) (by decide +kernel) ?_
  refine lv_lconst (v := 1) hx hb dX10_laysLikely_44 (by decide) ?_
  refine jnV (wr := [(z 28, aZ V 10000 (upd (fun _ => 0) 0 1)), (z 1, aI V 3075 (fun _ => 0))]) (rnV (rest := []) ⟨hx, hb, hml, hown, hg⟩ (c_X10_goesMany_1 l V z) mt_X10_goesMany q_7_224 ⟨Nat.le_of_ble_eq_true rfl, Nat.le_of_ble_eq_true rfl⟩ hK hP hD hS hA hE [2, 3, 4, 5, 6] rfl rfl 6 rfl rfl rfl rfl hl.1 rfl (Nat.le_of_ble_eq_true rfl) dX10_laysLikely_45 ⟨Nat.le_of_ble_eq_true rfl, Nat.le_of_ble_eq_true rfl⟩) hP hD hS hA [2, 3, 4, 5, 6] [0, 1] rfl rfl rfl (by decide) (fun  w H locs hw hP hD hS => ?_)
  subst hw
  have hP : va_P V.1 vwCl [(z 28, aZ V 10000 (upd (fun _ => 0) 0 1)), (z 1, aI V 3075 (fun _ => 0)), (z 24, aI V 10000 (fun _ => 0)), (z 25, aI V 40000 (upd (upd (upd (fun _ => 0) 1 (-1)) 2 (-1)) 3 (-1))), (z 30, aJ V 10000 (vp_updL (fun _ => 0) 0 100)), (z 31, aJ V 10000 (fun _ => 0)), (z 0, .inr (10, mo z 0 0 0 0 0 0 0 0 0 0 (-1) 0 0 0 0 1))] H := hP
  have hD : va_D A [(z 28, aZ V 10000 (upd (fun _ => 0) 0 1)), (z 1, aI V 3075 (fun _ => 0)), (z 24, aI V 10000 (fun _ => 0)), (z 25, aI V 40000 (upd (upd (upd (fun _ => 0) 1 (-1)) 2 (-1)) 3 (-1))), (z 30, aJ V 10000 (vp_updL (fun _ => 0) 0 100)), (z 31, aJ V 10000 (fun _ => 0)), (z 0, .inr (10, mo z 0 0 0 0 0 0 0 0 0 0 (-1) 0 0 0 0 1))] := hD
  refine lv_iinc (v := 2) (lv' := [(3, .int 2), (2, .int 0), (0, .ref (z 0)), (1, .int 4)]) hx hb dX10_laysLikely_48 hl (k := 0) rfl (by decide +kernel) (by decide) rfl (fun ls hl => ?_)
  refine lv_goto (tgt := 32) hx hb dX10_laysLikely_51 (by decide) ?_
  refine lv_iload_n hx hb dX10_laysLikely_32 rfl (lv_at hl 0 rfl) ?_
  refine lv_iload_n hx hb dX10_laysLikely_33 rfl (lv_at hl 3 rfl) ?_
  refine lv_icmp_ge (tgt := 54) hx hb dX10_laysLikely_34 (by decide) (fun c_4 => absurd c_4 (by decide)) (fun _ => ?_)
  refine lv_aload_n hx hb dX10_laysLikely_37 rfl (lv_at hl 2 rfl) ?_
  refine lv_ldc2 (v := 10) hx hb hown (hg _ q_7_102) dX10_laysLikely_38 ?_
  refine lv_iload_n hx hb dX10_laysLikely_41 rfl (lv_at hl 1 rfl) ?_
  refine lv_i2l (v := 0) hx hb dX10_laysLikely_42 (by decide +kernel) ?_
  refine lv_lsub hx hb dX10_laysLikely_43 ?_
  refine tpl (y := 10) (by decide +kernel) ?_
  refine lv_lconst (v := 1) hx hb dX10_laysLikely_44 (by decide) ?_
  refine jnV (wr := [(z 28, aZ V 10000 (upd (fun _ => 0) 0 1)), (z 1, aI V 3075 (fun _ => 0))]) (rnV (rest := []) ⟨hx, hb, hml, hown, hg⟩ (c_X10_goesMany_2 l V z) mt_X10_goesMany q_7_224 ⟨Nat.le_of_ble_eq_true rfl, Nat.le_of_ble_eq_true rfl⟩ hK hP hD hS hA hE [2, 3, 4, 5, 6] rfl rfl 6 rfl rfl rfl rfl hl.1 rfl (Nat.le_of_ble_eq_true rfl) dX10_laysLikely_45 ⟨Nat.le_of_ble_eq_true rfl, Nat.le_of_ble_eq_true rfl⟩) hP hD hS hA [2, 3, 4, 5, 6] [0, 1] rfl rfl rfl (by decide) (fun  w H locs hw hP hD hS => ?_)
  subst hw
  have hP : va_P V.1 vwCl [(z 28, aZ V 10000 (upd (fun _ => 0) 0 1)), (z 1, aI V 3075 (fun _ => 0)), (z 24, aI V 10000 (fun _ => 0)), (z 25, aI V 40000 (upd (upd (upd (fun _ => 0) 1 (-1)) 2 (-1)) 3 (-1))), (z 30, aJ V 10000 (vp_updL (fun _ => 0) 0 1000)), (z 31, aJ V 10000 (fun _ => 0)), (z 0, .inr (10, mo z 0 0 0 0 0 0 0 0 0 0 (-1) 0 0 0 0 1))] H := hP
  have hD : va_D A [(z 28, aZ V 10000 (upd (fun _ => 0) 0 1)), (z 1, aI V 3075 (fun _ => 0)), (z 24, aI V 10000 (fun _ => 0)), (z 25, aI V 40000 (upd (upd (upd (fun _ => 0) 1 (-1)) 2 (-1)) 3 (-1))), (z 30, aJ V 10000 (vp_updL (fun _ => 0) 0 1000)), (z 31, aJ V 10000 (fun _ => 0)), (z 0, .inr (10, mo z 0 0 0 0 0 0 0 0 0 0 (-1) 0 0 0 0 1))] := hD
  refine lv_iinc (v := 3) (lv' := [(3, .int 3), (2, .int 0), (0, .ref (z 0)), (1, .int 4)]) hx hb dX10_laysLikely_48 hl (k := 0) rfl (by decide +kernel) (by decide) rfl (fun ls hl => ?_)
  refine lv_goto (tgt := 32) hx hb dX10_laysLikely_51 (by decide) ?_
  refine lv_iload_n hx hb dX10_laysLikely_32 rfl (lv_at hl 0 rfl) ?_
  refine lv_iload_n hx hb dX10_laysLikely_33 rfl (lv_at hl 3 rfl) ?_
  refine lv_icmp_ge (tgt := 54) hx hb dX10_laysLikely_34 (by decide) (fun c_5 => absurd c_5 (by decide)) (fun _ => ?_)
  refine lv_aload_n hx hb dX10_laysLikely_37 rfl (lv_at hl 2 rfl) ?_
  refine lv_ldc2 (v := 10) hx hb hown (hg _ q_7_102) dX10_laysLikely_38 ?_
  refine lv_iload_n hx hb dX10_laysLikely_41 rfl (lv_at hl 1 rfl) ?_
  refine lv_i2l (v := 0) hx hb dX10_laysLikely_42 (by decide +kernel) ?_
  refine lv_lsub hx hb dX10_laysLikely_43 ?_
  refine tpl (y := 10) (by decide +kernel) ?_
  refine lv_lconst (v := 1) hx hb dX10_laysLikely_44 (by decide) ?_
  refine jnV (wr := [(z 28, aZ V 10000 (upd (fun _ => 0) 0 1)), (z 1, aI V 3075 (fun _ => 0))]) (rnV (rest := []) ⟨hx, hb, hml, hown, hg⟩ (c_X10_goesMany_3 l V z) mt_X10_goesMany q_7_224 ⟨Nat.le_of_ble_eq_true rfl, Nat.le_of_ble_eq_true rfl⟩ hK hP hD hS hA hE [2, 3, 4, 5, 6] rfl rfl 6 rfl rfl rfl rfl hl.1 rfl (Nat.le_of_ble_eq_true rfl) dX10_laysLikely_45 ⟨Nat.le_of_ble_eq_true rfl, Nat.le_of_ble_eq_true rfl⟩) hP hD hS hA [2, 3, 4, 5, 6] [0, 1] rfl rfl rfl (by decide) (fun  w H locs hw hP hD hS => ?_)
  subst hw
  have hP : va_P V.1 vwCl [(z 28, aZ V 10000 (upd (fun _ => 0) 0 1)), (z 1, aI V 3075 (fun _ => 0)), (z 24, aI V 10000 (fun _ => 0)), (z 25, aI V 40000 (upd (upd (upd (fun _ => 0) 1 (-1)) 2 (-1)) 3 (-1))), (z 30, aJ V 10000 (vp_updL (fun _ => 0) 0 10000)), (z 31, aJ V 10000 (fun _ => 0)), (z 0, .inr (10, mo z 0 0 0 0 0 0 0 0 0 0 (-1) 0 0 0 0 1))] H := hP
  have hD : va_D A [(z 28, aZ V 10000 (upd (fun _ => 0) 0 1)), (z 1, aI V 3075 (fun _ => 0)), (z 24, aI V 10000 (fun _ => 0)), (z 25, aI V 40000 (upd (upd (upd (fun _ => 0) 1 (-1)) 2 (-1)) 3 (-1))), (z 30, aJ V 10000 (vp_updL (fun _ => 0) 0 10000)), (z 31, aJ V 10000 (fun _ => 0)), (z 0, .inr (10, mo z 0 0 0 0 0 0 0 0 0 0 (-1) 0 0 0 0 1))] := hD
  refine lv_iinc (v := 4) (lv' := [(3, .int 4), (2, .int 0), (0, .ref (z 0)), (1, .int 4)]) hx hb dX10_laysLikely_48 hl (k := 0) rfl (by decide +kernel) (by decide) rfl (fun ls hl => ?_)
  refine lv_goto (tgt := 32) hx hb dX10_laysLikely_51 (by decide) ?_
  refine lv_iload_n hx hb dX10_laysLikely_32 rfl (lv_at hl 0 rfl) ?_
  refine lv_iload_n hx hb dX10_laysLikely_33 rfl (lv_at hl 3 rfl) ?_
  refine lv_icmp_ge (tgt := 54) hx hb dX10_laysLikely_34 (by decide) (fun _ => ?_) (fun c_6 => absurd c_6 (by decide))
  have hP := subP (ws' := [(z 0, .inr (10, mo z 0 0 0 0 0 0 0 0 0 0 (-1) 0 0 0 0 1)), (z 24, aI V 10000 (fun _ => 0)), (z 25, aI V 40000 (upd (upd (upd (fun _ => 0) 1 (-1)) 2 (-1)) 3 (-1))), (z 28, aZ V 10000 (upd (fun _ => 0) 0 1)), (z 30, aJ V 10000 (vp_updL (fun _ => 0) 0 10000)), (z 31, aJ V 10000 (fun _ => 0)), (z 1, aI V 3075 (fun _ => 0))]) hP [6, 2, 3, 0, 4, 5, 1] rfl
  have hD := hD.sub (ws' := [(z 0, .inr (10, mo z 0 0 0 0 0 0 0 0 0 0 (-1) 0 0 0 0 1)), (z 24, aI V 10000 (fun _ => 0)), (z 25, aI V 40000 (upd (upd (upd (fun _ => 0) 1 (-1)) 2 (-1)) 3 (-1))), (z 28, aZ V 10000 (upd (fun _ => 0) 0 1)), (z 30, aJ V 10000 (vp_updL (fun _ => 0) 0 10000)), (z 31, aJ V 10000 (fun _ => 0)), (z 1, aI V 3075 (fun _ => 0))]) [6, 2, 3, 0, 4, 5, 1] rfl rfl
  exact fiV hx hb hr hlk hK hP hD hS dX10_laysLikely_54 (Nat.le_of_ble_eq_true rfl) (Nat.le_of_ble_eq_true rfl) (rfl)
set_option maxHeartbeats 4000000 in
set_option maxRecDepth 100000 in
theorem c_X10_wholeOf_4 (l : Launch) (V : GV) : Ct l V yX10_wholeOf (.code yX10_wholeOf cX10_wholeOf 4 (some .long)) 1 [.int 4] [] 0 0 (QL V (fun (r : Int64) (w : va_W) => (r = 10000 ∧ w = []))) := by
  refine Ct.of (by decide) (Nat.le_of_ble_eq_true rfl) (fun p e s m below meth c A ls hx hb hr hml hown hlk hnm hg hP hK hD hE hA hS hl => ?_)
  have hl : lv_has ls 4 [(0, .int 4)] := hl
  refine lv_lconst (v := 1) hx hb dX10_wholeOf_0 (by decide) ?_
  refine lv_lstore_n (lv' := [(1, .long 1), (0, .int 4)]) hx hb dX10_wholeOf_1 rfl hl (by decide) rfl (fun ls hl => ?_)
  refine lv_iconst (v := 0) hx hb dX10_wholeOf_2 (by decide) ?_
  refine lv_istore_n (lv' := [(3, .int 0), (1, .long 1), (0, .int 4)]) hx hb dX10_wholeOf_3 rfl hl (by decide) rfl (fun ls hl => ?_)
  refine lv_iload_n hx hb dX10_wholeOf_4 rfl (lv_at hl 0 rfl) ?_
  refine lv_iload_n hx hb dX10_wholeOf_5 rfl (lv_at hl 2 rfl) ?_
  refine lv_icmp_ge (tgt := 21) hx hb dX10_wholeOf_6 (by decide) (fun c_1 => absurd c_1 (by decide)) (fun _ => ?_)
  refine lv_lload_n hx hb dX10_wholeOf_9 rfl (lv_at hl 1 rfl) ?_
  refine lv_ldc2 (v := 10) hx hb hown (hg _ q_7_102) dX10_wholeOf_10 ?_
  refine lv_lmul hx hb dX10_wholeOf_13 ?_
  refine tpl (y := 10) (by decide +kernel) ?_
  refine lv_lstore_n (lv' := [(1, .long 10), (3, .int 0), (0, .int 4)]) hx hb dX10_wholeOf_14 rfl hl (by decide) rfl (fun ls hl => ?_)
  refine lv_iinc (v := 1) (lv' := [(3, .int 1), (1, .long 10), (0, .int 4)]) hx hb dX10_wholeOf_15 hl (k := 1) rfl (by decide +kernel) (by decide) rfl (fun ls hl => ?_)
  refine lv_goto (tgt := 4) hx hb dX10_wholeOf_18 (by decide) ?_
  refine lv_iload_n hx hb dX10_wholeOf_4 rfl (lv_at hl 0 rfl) ?_
  refine lv_iload_n hx hb dX10_wholeOf_5 rfl (lv_at hl 2 rfl) ?_
  refine lv_icmp_ge (tgt := 21) hx hb dX10_wholeOf_6 (by decide) (fun c_2 => absurd c_2 (by decide)) (fun _ => ?_)
  refine lv_lload_n hx hb dX10_wholeOf_9 rfl (lv_at hl 1 rfl) ?_
  refine lv_ldc2 (v := 10) hx hb hown (hg _ q_7_102) dX10_wholeOf_10 ?_
  refine lv_lmul hx hb dX10_wholeOf_13 ?_
  refine tpl (y := 100) (by decide +kernel) ?_
  refine lv_lstore_n (lv' := [(1, .long 100), (3, .int 1), (0, .int 4)]) hx hb dX10_wholeOf_14 rfl hl (by decide) rfl (fun ls hl => ?_)
  refine lv_iinc (v := 2) (lv' := [(3, .int 2), (1, .long 100), (0, .int 4)]) hx hb dX10_wholeOf_15 hl (k := 1) rfl (by decide +kernel) (by decide) rfl (fun ls hl => ?_)
  refine lv_goto (tgt := 4) hx hb dX10_wholeOf_18 (by decide) ?_
  refine lv_iload_n hx hb dX10_wholeOf_4 rfl (lv_at hl 0 rfl) ?_
  refine lv_iload_n hx hb dX10_wholeOf_5 rfl (lv_at hl 2 rfl) ?_
  refine lv_icmp_ge (tgt := 21) hx hb dX10_wholeOf_6 (by decide) (fun c_3 => absurd c_3 (by decide)) (fun _ => ?_)
  refine lv_lload_n hx hb dX10_wholeOf_9 rfl (lv_at hl 1 rfl) ?_
  refine lv_ldc2 (v := 10) hx hb hown (hg _ q_7_102) dX10_wholeOf_10 ?_
  refine lv_lmul hx hb dX10_wholeOf_13 ?_
  refine tpl (y := 1000) (by decide +kernel) ?_
  refine lv_lstore_n (lv' := [(1, .long 1000), (3, .int 2), (0, .int 4)]) hx hb dX10_wholeOf_14 rfl hl (by decide) rfl (fun ls hl => ?_)
  refine lv_iinc (v := 3) (lv' := [(3, .int 3), (1, .long 1000), (0, .int 4)]) hx hb dX10_wholeOf_15 hl (k := 1) rfl (by decide +kernel) (by decide) rfl (fun ls hl => ?_)
  refine lv_goto (tgt := 4) hx hb dX10_wholeOf_18 (by decide) ?_
  refine lv_iload_n hx hb dX10_wholeOf_4 rfl (lv_at hl 0 rfl) ?_
  refine lv_iload_n hx hb dX10_wholeOf_5 rfl (lv_at hl 2 rfl) ?_
  refine lv_icmp_ge (tgt := 21) hx hb dX10_wholeOf_6 (by decide) (fun c_4 => absurd c_4 (by decide)) (fun _ => ?_)
  refine lv_lload_n hx hb dX10_wholeOf_9 rfl (lv_at hl 1 rfl) ?_
  refine lv_ldc2 (v := 10) hx hb hown (hg _ q_7_102) dX10_wholeOf_10 ?_
  refine lv_lmul hx hb dX10_wholeOf_13 ?_
  refine tpl (y := 10000) (by decide +kernel) ?_
  refine lv_lstore_n (lv' := [(1, .long 10000), (3, .int 3), (0, .int 4)]) hx hb dX10_wholeOf_14 rfl hl (by decide) rfl (fun ls hl => ?_)
  refine lv_iinc (v := 4) (lv' := [(3, .int 4), (1, .long 10000), (0, .int 4)]) hx hb dX10_wholeOf_15 hl (k := 1) rfl (by decide +kernel) (by decide) rfl (fun ls hl => ?_)
  refine lv_goto (tgt := 4) hx hb dX10_wholeOf_18 (by decide) ?_
  refine lv_iload_n hx hb dX10_wholeOf_4 rfl (lv_at hl 0 rfl) ?_
  refine lv_iload_n hx hb dX10_wholeOf_5 rfl (lv_at hl 2 rfl) ?_
  refine lv_icmp_ge (tgt := 21) hx hb dX10_wholeOf_6 (by decide) (fun _ => ?_) (fun c_5 => absurd c_5 (by decide))
  refine lv_lload_n hx hb dX10_wholeOf_21 rfl (lv_at hl 1 rfl) ?_
  exact fiL hx hb hr hlk hK hP hD hS dX10_wholeOf_22 (Nat.le_of_ble_eq_true rfl) (Nat.le_of_ble_eq_true rfl) (⟨rfl, rfl⟩)
set_option maxHeartbeats 4000000 in
set_option maxRecDepth 100000 in
theorem c_X10_common_8 (l : Launch) (V : GV) : Ct l V yX10_common (.code yX10_common cX10_common 4 (some .long)) 1 [.long 10000, .long 0] [] 0 0 (QL V (fun (r : Int64) (w : va_W) => (r = 10000 ∧ w = []))) := by
  refine Ct.of (by decide) (Nat.le_of_ble_eq_true rfl) (fun p e s m below meth c A ls hx hb hr hml hown hlk hnm hg hP hK hD hE hA hS hl => ?_)
  have hl : lv_has ls 4 [(0, .long 10000), (2, .long 0)] := hl
  refine lv_lload_n hx hb dX10_common_0 rfl (lv_at hl 1 rfl) ?_
  refine lv_lconst (v := 0) hx hb dX10_common_1 (by decide) ?_
  refine W.lcmp hx hb dX10_common_2 ?_
  refine lv_if_ne (tgt := 10) hx hb dX10_common_3 (by decide) (fun c_1 => absurd (fun z => c_1 ((lg_cmp_eq _ _).mpr z)) (by decide)) (fun _ => ?_)
  refine lv_lload_n hx hb dX10_common_6 rfl (lv_at hl 0 rfl) ?_
  refine lv_goto (tgt := 17) hx hb dX10_common_7 (by decide) ?_
  exact fiL hx hb hr hlk hK hP hD hS dX10_common_17 (Nat.le_of_ble_eq_true rfl) (Nat.le_of_ble_eq_true rfl) (⟨rfl, rfl⟩)
set_option maxHeartbeats 4000000 in
set_option maxRecDepth 100000 in
theorem c_X10_common_9 (l : Launch) (V : GV) : Ct l V yX10_common (.code yX10_common cX10_common 4 (some .long)) 2 [.long 0, .long 10000] [] 0 0 (QL V (fun (r : Int64) (w : va_W) => (r = 10000 ∧ w = []))) := by
  refine Ct.of (by decide) (Nat.le_of_ble_eq_true rfl) (fun p e s m below meth c A ls hx hb hr hml hown hlk hnm hg hP hK hD hE hA hS hl => ?_)
  have hl : lv_has ls 4 [(0, .long 0), (2, .long 10000)] := hl
  refine lv_lload_n hx hb dX10_common_0 rfl (lv_at hl 1 rfl) ?_
  refine lv_lconst (v := 0) hx hb dX10_common_1 (by decide) ?_
  refine W.lcmp hx hb dX10_common_2 ?_
  refine lv_if_ne (tgt := 10) hx hb dX10_common_3 (by decide) (fun _ => ?_) (fun c_1 => absurd ((lg_cmp_eq _ _).mp c_1) (by decide))
  refine lv_lload_n hx hb dX10_common_10 rfl (lv_at hl 1 rfl) ?_
  refine lv_lload_n hx hb dX10_common_11 rfl (lv_at hl 0 rfl) ?_
  refine lv_lload_n hx hb dX10_common_12 rfl (lv_at hl 1 rfl) ?_
  refine lv_lrem hx hb dX10_common_13 (by decide) ?_
  refine tpl (y := 0) (by decide +kernel) ?_
  refine jnL (wr := []) (rnS (rest := []) ⟨hx, hb, hml, hown, hg⟩ (c_X10_common_8 l V) mt_X10_common q_8_124 ⟨Nat.le_of_ble_eq_true rfl, Nat.le_of_ble_eq_true rfl⟩ hK hP hD hS hA hE [] rfl rfl rfl hl.1 rfl (Nat.le_of_ble_eq_true rfl) dX10_common_14 ⟨Nat.le_of_ble_eq_true rfl, Nat.le_of_ble_eq_true rfl⟩) hP hD hS hA [] [] rfl rfl rfl (by decide) (fun r_2 w H locs hw hP hD hS => ?_)
  obtain ⟨rfl, rfl⟩ := hw
  have hP : va_P V.1 vwCl [] H := hP
  have hD : va_D A [] := hD
  exact fiL hx hb hr hlk hK hP hD hS dX10_common_17 (Nat.le_of_ble_eq_true rfl) (Nat.le_of_ble_eq_true rfl) (⟨rfl, rfl⟩)
set_option maxHeartbeats 4000000 in
set_option maxRecDepth 100000 in
theorem c_X10_part_4 (l : Launch) (V : GV) (p0 : Int32) : Ct l V yX10_part (.code yX10_part cX10_part 5 (some .int)) 3 [.long 0, .long 10000, .int p0] [] 0 0 (QI V (fun (r : Int32) (w : va_W) => ((¬ p0 = 0) ∧ r = 1 ∧ w = []) ∨ (p0 = 0 ∧ r = 0 ∧ w = []))) := by
  refine Ct.of (by decide) (Nat.le_of_ble_eq_true rfl) (fun p e s m below meth c A ls hx hb hr hml hown hlk hnm hg hP hK hD hE hA hS hl => ?_)
  have hl : lv_has ls 5 [(0, .long 0), (2, .long 10000), (4, .int p0)] := hl
  refine lv_iload hx hb dX10_part_0 (lv_at hl 2 rfl) ?_
  refine lv_if_ne (tgt := 9) hx hb dX10_part_2 (by decide) (fun c_1 => ?_) (fun c_1 => ?_)
  · refine lv_lload_n hx hb dX10_part_9 rfl (lv_at hl 1 rfl) ?_
    refine lv_lload_n hx hb dX10_part_10 rfl (lv_at hl 0 rfl) ?_
    refine lv_lload_n hx hb dX10_part_11 rfl (lv_at hl 1 rfl) ?_
    refine jnL (wr := []) (rnS (rest := [.long 10000]) ⟨hx, hb, hml, hown, hg⟩ (c_X10_common_9 l V) mt_X10_common q_8_124 ⟨Nat.le_of_ble_eq_true rfl, Nat.le_of_ble_eq_true rfl⟩ hK hP hD hS hA hE [] rfl rfl rfl hl.1 rfl (Nat.le_of_ble_eq_true rfl) dX10_part_12 ⟨Nat.le_of_ble_eq_true rfl, Nat.le_of_ble_eq_true rfl⟩) hP hD hS hA [] [] rfl rfl rfl (by decide) (fun r_2 w H locs hw hP hD hS => ?_)
    obtain ⟨rfl, rfl⟩ := hw
    have hP : va_P V.1 vwCl [] H := hP
    have hD : va_D A [] := hD
    refine lv_ldiv hx hb dX10_part_15 (by decide) ?_
    refine tpl (y := 1) (by decide +kernel) ?_
    refine lv_l2i (v := 1) hx hb dX10_part_16 (by decide +kernel) ?_
    exact fiI hx hb hr hlk hK hP hD hS dX10_part_17 (Nat.le_of_ble_eq_true rfl) (Nat.le_of_ble_eq_true rfl) (Or.inl ⟨c_1, rfl, rfl⟩)
  · refine lv_lload_n hx hb dX10_part_5 rfl (lv_at hl 0 rfl) ?_
    refine lv_goto (tgt := 10) hx hb dX10_part_6 (by decide) ?_
    refine lv_lload_n hx hb dX10_part_10 rfl (lv_at hl 0 rfl) ?_
    refine lv_lload_n hx hb dX10_part_11 rfl (lv_at hl 1 rfl) ?_
    refine jnL (wr := []) (rnS (rest := [.long 0]) ⟨hx, hb, hml, hown, hg⟩ (c_X10_common_9 l V) mt_X10_common q_8_124 ⟨Nat.le_of_ble_eq_true rfl, Nat.le_of_ble_eq_true rfl⟩ hK hP hD hS hA hE [] rfl rfl rfl hl.1 rfl (Nat.le_of_ble_eq_true rfl) dX10_part_12 ⟨Nat.le_of_ble_eq_true rfl, Nat.le_of_ble_eq_true rfl⟩) hP hD hS hA [] [] rfl rfl rfl (by decide) (fun r_3 w H locs hw hP hD hS => ?_)
    obtain ⟨rfl, rfl⟩ := hw
    have hP : va_P V.1 vwCl [] H := hP
    have hD : va_D A [] := hD
    refine lv_ldiv hx hb dX10_part_15 (by decide) ?_
    refine tpl (y := 0) (by decide +kernel) ?_
    refine lv_l2i (v := 0) hx hb dX10_part_16 (by decide +kernel) ?_
    exact fiI hx hb hr hlk hK hP hD hS dX10_part_17 (Nat.le_of_ble_eq_true rfl) (Nat.le_of_ble_eq_true rfl) (Or.inr (⟨c_1, rfl, rfl⟩))
set_option maxHeartbeats 4000000 in
set_option maxRecDepth 100000 in
theorem c_X10_isThen_4 (l : Launch) (V : GV) (z : Nat → Nat) : Ct l V yX10_isThen (.code yX10_isThen cX10_isThen 2 none) 1 [.ref (z 0)] [(z 30, aJ V 10000 (vp_updL (fun _ => 0) 0 10000)), (z 31, aJ V 10000 (vp_updL (fun _ => 0) 0 100000)), (z 0, .inr (10, mo z 0 0 0 0 0 0 0 0 0 0 (-1) 0 0 0 0 1))] 0 0 (QV V (fun (w : va_W) => (w = [(z 30, aJ V 10000 (vp_updL (fun _ => 0) 0 100000)), (z 31, aJ V 10000 (fun _ => 0)), (z 0, .inr (10, mo z 0 0 0 0 0 0 0 0 0 0 (-1) 0 0 0 0 1))]))) := by
  refine Ct.of (by decide) (Nat.le_of_ble_eq_true rfl) (fun p e s m below meth c A ls hx hb hr hml hown hlk hnm hg hP hK hD hE hA hS hl => ?_)
  have hl : lv_has ls 2 [(0, .ref (z 0))] := hl
  refine lv_iconst (v := 0) hx hb dX10_isThen_0 (by decide) ?_
  refine lv_istore_n (lv' := [(1, .int 0), (0, .ref (z 0))]) hx hb dX10_isThen_1 rfl hl (by decide) rfl (fun ls hl => ?_)
  refine lv_iload_n hx hb dX10_isThen_2 rfl (lv_at hl 0 rfl) ?_
  refine lv_sipush (v := 10000) hx hb dX10_isThen_3 (by decide) ?_
  refine lv_icmp_ge (tgt := 34) hx hb dX10_isThen_6 (by decide) (fun c_1 => absurd c_1 (by decide)) (fun _ => ?_)
  refine lv_aload_n hx hb dX10_isThen_9 rfl (lv_at hl 1 rfl) ?_
  refine va_get (ci := 10) (v := .ref (z 30)) (C := RX10) (T := TX10) (N := 40) hx hb hg inX10 hown hK hP 2 rfl rfl 30 (by decide) (hg _ q_6_14) (fun _ h9 => h9) rfl dX10_isThen_10 ?_
  refine lv_iload_n hx hb dX10_isThen_13 rfl (lv_at hl 0 rfl) ?_
  refine lv_aload_n hx hb dX10_isThen_14 rfl (lv_at hl 1 rfl) ?_
  refine va_get (ci := 10) (v := .ref (z 31)) (C := RX10) (T := TX10) (N := 40) hx hb hg inX10 hown hK hP 2 rfl rfl 31 (by decide) (hg _ q_6_15) (fun _ h9 => h9) rfl dX10_isThen_15 ?_
  refine lv_iload_n hx hb dX10_isThen_18 rfl (lv_at hl 0 rfl) ?_
  refine va_lald hx hb hK hP 1 2 rfl rfl (vin (by decide +kernel)) dX10_isThen_19 ?_
  refine tpl (y := 100000) (rfl) ?_
  refine va_last hx hb hK hP hD hS 0 2 rfl rfl (vin (by decide +kernel)) dX10_isThen_20 (fun H locs hP hD hS => ?_)
  have hP : va_P V.1 vwCl [(z 30, aJ V 10000 (vp_updL (vp_updL (fun _ => 0) 0 10000) 0 100000)), (z 31, aJ V 10000 (vp_updL (fun _ => 0) 0 100000)), (z 0, .inr (10, mo z 0 0 0 0 0 0 0 0 0 0 (-1) 0 0 0 0 1))] H := hP
  have hD : va_D A [(z 30, aJ V 10000 (vp_updL (vp_updL (fun _ => 0) 0 10000) 0 100000)), (z 31, aJ V 10000 (vp_updL (fun _ => 0) 0 100000)), (z 0, .inr (10, mo z 0 0 0 0 0 0 0 0 0 0 (-1) 0 0 0 0 1))] := hD
  have hP : va_P V.1 vwCl [(z 30, aJ V 10000 (vp_updL (fun _ => 0) 0 100000)), (z 31, aJ V 10000 (vp_updL (fun _ => 0) 0 100000)), (z 0, .inr (10, mo z 0 0 0 0 0 0 0 0 0 0 (-1) 0 0 0 0 1))] H := by rw [updLup] at hP; exact hP
  have hD : va_D A [(z 30, aJ V 10000 (vp_updL (fun _ => 0) 0 100000)), (z 31, aJ V 10000 (vp_updL (fun _ => 0) 0 100000)), (z 0, .inr (10, mo z 0 0 0 0 0 0 0 0 0 0 (-1) 0 0 0 0 1))] := by rw [updLup] at hD; exact hD
  refine lv_aload_n hx hb dX10_isThen_21 rfl (lv_at hl 1 rfl) ?_
  refine va_get (ci := 10) (v := .ref (z 31)) (C := RX10) (T := TX10) (N := 40) hx hb hg inX10 hown hK hP 2 rfl rfl 31 (by decide) (hg _ q_6_15) (fun _ h9 => h9) rfl dX10_isThen_22 ?_
  refine lv_iload_n hx hb dX10_isThen_25 rfl (lv_at hl 0 rfl) ?_
  refine lv_lconst (v := 0) hx hb dX10_isThen_26 (by decide) ?_
  refine va_last hx hb hK hP hD hS 1 2 rfl rfl (vin (by decide +kernel)) dX10_isThen_27 (fun H locs hP hD hS => ?_)
  have hP : va_P V.1 vwCl [(z 30, aJ V 10000 (vp_updL (fun _ => 0) 0 100000)), (z 31, aJ V 10000 (vp_updL (vp_updL (fun _ => 0) 0 100000) 0 0)), (z 0, .inr (10, mo z 0 0 0 0 0 0 0 0 0 0 (-1) 0 0 0 0 1))] H := hP
  have hD : va_D A [(z 30, aJ V 10000 (vp_updL (fun _ => 0) 0 100000)), (z 31, aJ V 10000 (vp_updL (vp_updL (fun _ => 0) 0 100000) 0 0)), (z 0, .inr (10, mo z 0 0 0 0 0 0 0 0 0 0 (-1) 0 0 0 0 1))] := hD
  have hP : va_P V.1 vwCl [(z 30, aJ V 10000 (vp_updL (fun _ => 0) 0 100000)), (z 31, aJ V 10000 (fun _ => 0)), (z 0, .inr (10, mo z 0 0 0 0 0 0 0 0 0 0 (-1) 0 0 0 0 1))] H := by rw [updLup, updL0] at hP; exact hP
  have hD : va_D A [(z 30, aJ V 10000 (vp_updL (fun _ => 0) 0 100000)), (z 31, aJ V 10000 (fun _ => 0)), (z 0, .inr (10, mo z 0 0 0 0 0 0 0 0 0 0 (-1) 0 0 0 0 1))] := by rw [updLup, updL0] at hD; exact hD
  refine lv_iinc (v := 1) (lv' := [(1, .int 1), (0, .ref (z 0))]) hx hb dX10_isThen_28 hl (k := 0) rfl (by decide +kernel) (by decide) rfl (fun ls hl => ?_)
  refine lv_goto (tgt := 2) hx hb dX10_isThen_31 (by decide) ?_
  refine loopW 10000 (X := fun (i_2 : Nat) (H : Heap) (locs : List Loc) (ls : Array Slot) => 1 ≤ i_2 ∧ va_P V.1 vwCl [(z 30, aJ V 10000 (vp_updL (fun _ => 0) 0 100000)), (z 31, aJ V 10000 (fun _ => 0)), (z 0, .inr (10, mo z 0 0 0 0 0 0 0 0 0 0 (-1) 0 0 0 0 1))] H ∧ va_D A [(z 30, aJ V 10000 (vp_updL (fun _ => 0) 0 100000)), (z 31, aJ V 10000 (fun _ => 0)), (z 0, .inr (10, mo z 0 0 0 0 0 0 0 0 0 0 (-1) 0 0 0 0 1))] ∧ va_S A s.heap H locs ∧ lv_has ls 2 [(1, .int (nI i_2)), (0, .ref (z 0))]) (g := fun ls => F0 m 2 ls []) (fun i_2 H locs ls hi_i_2 hX ih_i_2 => ?_) 1 (Nat.le_of_ble_eq_true rfl) ⟨Nat.le_refl _, hP, hD, hS, lv_sub hl [0, 1] rfl⟩
  obtain ⟨hlo_i_2, hP, hD, hS, hl⟩ := hX
  refine lv_iload_n hx hb dX10_isThen_2 rfl (lv_at hl 0 rfl) ?_
  refine lv_sipush (v := 10000) hx hb dX10_isThen_3 (by decide) ?_
  refine lv_icmp_ge (tgt := 34) hx hb dX10_isThen_6 (by decide) (fun c_3 => ?_) (fun c_3 => ?_)
  · have e_4 : i_2 = 10000 := by have q9 := (nI_leI (a := 10000) (b := i_2) (by omega) (by omega)).mp c_3; omega
    rw [e_4] at hl
    have hl : lv_has ls 2 [(1, .int 10000), (0, .ref (z 0))] := hl
    exact fiV hx hb hr hlk hK hP hD hS dX10_isThen_34 (Nat.le_of_ble_eq_true rfl) (Nat.le_of_ble_eq_true rfl) (rfl)
  · have e_4 : i_2 < 10000 := by rcases Nat.lt_or_ge i_2 10000 with q9 | q9; exact q9; exact absurd (nI_le q9 (by omega)) c_3
    refine lv_aload_n hx hb dX10_isThen_9 rfl (lv_at hl 1 rfl) ?_
    refine va_get (ci := 10) (v := .ref (z 30)) (C := RX10) (T := TX10) (N := 40) hx hb hg inX10 hown hK hP 2 rfl rfl 30 (by decide) (hg _ q_6_14) (fun _ h9 => h9) rfl dX10_isThen_10 ?_
    refine lv_iload_n hx hb dX10_isThen_13 rfl (lv_at hl 0 rfl) ?_
    refine lv_aload_n hx hb dX10_isThen_14 rfl (lv_at hl 1 rfl) ?_
    refine va_get (ci := 10) (v := .ref (z 31)) (C := RX10) (T := TX10) (N := 40) hx hb hg inX10 hown hK hP 2 rfl rfl 31 (by decide) (hg _ q_6_15) (fun _ h9 => h9) rfl dX10_isThen_15 ?_
    refine lv_iload_n hx hb dX10_isThen_18 rfl (lv_at hl 0 rfl) ?_
    refine va_lald hx hb hK hP 1 2 rfl rfl (vp_in_nI (by omega) (by decide)) dX10_isThen_19 ?_
    refine tpl (y := 0) rfl ?_
    refine va_last hx hb hK hP hD hS 0 2 rfl rfl (vp_in_nI (by omega) (by decide)) dX10_isThen_20 (fun H locs hP hD hS => ?_)
    have hP : va_P V.1 vwCl [(z 30, aJ V 10000 (vp_updL (vp_updL (fun _ => 0) 0 100000) (nI i_2).toNatClampNeg 0)), (z 31, aJ V 10000 (fun _ => 0)), (z 0, .inr (10, mo z 0 0 0 0 0 0 0 0 0 0 (-1) 0 0 0 0 1))] H := hP
    have hD : va_D A [(z 30, aJ V 10000 (vp_updL (vp_updL (fun _ => 0) 0 100000) (nI i_2).toNatClampNeg 0)), (z 31, aJ V 10000 (fun _ => 0)), (z 0, .inr (10, mo z 0 0 0 0 0 0 0 0 0 0 (-1) 0 0 0 0 1))] := hD
    have hP : va_P V.1 vwCl [(z 30, aJ V 10000 (vp_updL (fun _ => 0) 0 100000)), (z 31, aJ V 10000 (fun _ => 0)), (z 0, .inr (10, mo z 0 0 0 0 0 0 0 0 0 0 (-1) 0 0 0 0 1))] H := by rw [updLid (k := (nI i_2).toNatClampNeg) (v := 0) (by rw [nI_clamp (by omega)]; exact if_neg (by omega))] at hP; exact hP
    have hD : va_D A [(z 30, aJ V 10000 (vp_updL (fun _ => 0) 0 100000)), (z 31, aJ V 10000 (fun _ => 0)), (z 0, .inr (10, mo z 0 0 0 0 0 0 0 0 0 0 (-1) 0 0 0 0 1))] := by rw [updLid (k := (nI i_2).toNatClampNeg) (v := 0) (by rw [nI_clamp (by omega)]; exact if_neg (by omega))] at hD; exact hD
    refine lv_aload_n hx hb dX10_isThen_21 rfl (lv_at hl 1 rfl) ?_
    refine va_get (ci := 10) (v := .ref (z 31)) (C := RX10) (T := TX10) (N := 40) hx hb hg inX10 hown hK hP 2 rfl rfl 31 (by decide) (hg _ q_6_15) (fun _ h9 => h9) rfl dX10_isThen_22 ?_
    refine lv_iload_n hx hb dX10_isThen_25 rfl (lv_at hl 0 rfl) ?_
    refine lv_lconst (v := 0) hx hb dX10_isThen_26 (by decide) ?_
    refine va_last hx hb hK hP hD hS 1 2 rfl rfl (vp_in_nI (by omega) (by decide)) dX10_isThen_27 (fun H locs hP hD hS => ?_)
    have hP : va_P V.1 vwCl [(z 30, aJ V 10000 (vp_updL (fun _ => 0) 0 100000)), (z 31, aJ V 10000 (vp_updL (fun _ => 0) (nI i_2).toNatClampNeg 0)), (z 0, .inr (10, mo z 0 0 0 0 0 0 0 0 0 0 (-1) 0 0 0 0 1))] H := hP
    have hD : va_D A [(z 30, aJ V 10000 (vp_updL (fun _ => 0) 0 100000)), (z 31, aJ V 10000 (vp_updL (fun _ => 0) (nI i_2).toNatClampNeg 0)), (z 0, .inr (10, mo z 0 0 0 0 0 0 0 0 0 0 (-1) 0 0 0 0 1))] := hD
    have hP : va_P V.1 vwCl [(z 30, aJ V 10000 (vp_updL (fun _ => 0) 0 100000)), (z 31, aJ V 10000 (fun _ => 0)), (z 0, .inr (10, mo z 0 0 0 0 0 0 0 0 0 0 (-1) 0 0 0 0 1))] H := by rw [updL0] at hP; exact hP
    have hD : va_D A [(z 30, aJ V 10000 (vp_updL (fun _ => 0) 0 100000)), (z 31, aJ V 10000 (fun _ => 0)), (z 0, .inr (10, mo z 0 0 0 0 0 0 0 0 0 0 (-1) 0 0 0 0 1))] := by rw [updL0] at hD; exact hD
    refine lv_iinc (v := nI (i_2 + 1)) (lv' := [(1, .int (nI (i_2 + 1))), (0, .ref (z 0))]) hx hb dX10_isThen_28 hl (k := 0) rfl (nI_add i_2 1) (by decide) rfl (fun ls hl => ?_)
    refine lv_goto (tgt := 2) hx hb dX10_isThen_31 (by decide) ?_
    exact ih_i_2 e_4 _ _ _ ⟨(by omega), hP, hD, hS, lv_sub hl [0, 1] rfl⟩
set_option maxHeartbeats 4000000 in
set_option maxRecDepth 100000 in
theorem c_X10_goesMany_4 (l : Launch) (V : GV) (z : Nat → Nat) : Ct l V yX10_goesMany (.code yX10_goesMany cX10_goesMany 8 none) 2 [.ref (z 0), .long 10, .long 1] [(z 24, aI V 10000 (fun _ => 0)), (z 25, aI V 40000 (upd (upd (upd (fun _ => 0) 1 (-1)) 2 (-1)) 3 (-1))), (z 30, aJ V 10000 (vp_updL (fun _ => 0) 0 10000)), (z 31, aJ V 10000 (fun _ => 0)), (z 0, .inr (10, mo z 0 0 0 0 0 0 0 0 0 0 (-1) 0 0 0 0 1))] 0 0 (QV V (fun (w : va_W) => (w = [(z 24, aI V 10000 (fun _ => 0)), (z 25, aI V 40000 (upd (upd (upd (fun _ => 0) 1 (-1)) 2 (-1)) 3 (-1))), (z 30, aJ V 10000 (vp_updL (fun _ => 0) 0 100000)), (z 31, aJ V 10000 (fun _ => 0)), (z 0, .inr (10, mo z 0 0 0 0 0 0 0 0 0 0 (-1) 0 0 0 0 1))]))) := by
  refine Ct.of (by decide) (Nat.le_of_ble_eq_true rfl) (fun p e s m below meth c A ls hx hb hr hml hown hlk hnm hg hP hK hD hE hA hS hl => ?_)
  have hl : lv_has ls 8 [(0, .ref (z 0)), (1, .long 10), (3, .long 1)] := hl
  refine lv_iconst (v := 0) hx hb dX10_goesMany_0 (by decide) ?_
  refine lv_istore (lv' := [(5, .int 0), (0, .ref (z 0)), (1, .long 10), (3, .long 1)]) hx hb dX10_goesMany_1 hl (by decide) rfl (fun ls hl => ?_)
  refine lv_iload hx hb dX10_goesMany_3 (lv_at hl 0 rfl) ?_
  refine lv_aload_n hx hb dX10_goesMany_5 rfl (lv_at hl 1 rfl) ?_
  refine va_get (ci := 10) (v := .int 1) (C := RX10) (T := TX10) (N := 40) hx hb hg inX10 hown hK hP 4 rfl rfl 29 (by decide) (hg _ q_6_13) (fun _ h9 => h9) rfl dX10_goesMany_6 ?_
  refine lv_icmp_ge (tgt := 108) hx hb dX10_goesMany_9 (by decide) (fun c_1 => absurd c_1 (by decide)) (fun _ => ?_)
  refine lv_aload_n hx hb dX10_goesMany_12 rfl (lv_at hl 1 rfl) ?_
  refine va_get (ci := 10) (v := .ref (z 24)) (C := RX10) (T := TX10) (N := 40) hx hb hg inX10 hown hK hP 4 rfl rfl 24 (by decide) (hg _ q_6_8) (fun _ h9 => h9) rfl dX10_goesMany_13 ?_
  refine lv_iload hx hb dX10_goesMany_16 (lv_at hl 0 rfl) ?_
  refine va_iald hx hb hK hP 0 0 rfl rfl (vin (by decide +kernel)) dX10_goesMany_18 ?_
  refine tpi (y := 0) (rfl) ?_
  refine lv_istore (lv' := [(6, .int 0), (5, .int 0), (0, .ref (z 0)), (1, .long 10), (3, .long 1)]) hx hb dX10_goesMany_19 hl (by decide) rfl (fun ls hl => ?_)
  refine lv_iconst (v := 0) hx hb dX10_goesMany_21 (by decide) ?_
  refine lv_istore (lv' := [(7, .int 0), (6, .int 0), (5, .int 0), (0, .ref (z 0)), (1, .long 10), (3, .long 1)]) hx hb dX10_goesMany_22 hl (by decide) rfl (fun ls hl => ?_)
  refine lv_iload hx hb dX10_goesMany_24 (lv_at hl 0 rfl) ?_
  refine lv_iconst (v := 4) hx hb dX10_goesMany_26 (by decide) ?_
  refine lv_icmp_ge (tgt := 102) hx hb dX10_goesMany_27 (by decide) (fun c_2 => absurd c_2 (by decide)) (fun _ => ?_)
  refine lv_aload_n hx hb dX10_goesMany_30 rfl (lv_at hl 3 rfl) ?_
  refine va_get (ci := 10) (v := .ref (z 30)) (C := RX10) (T := TX10) (N := 40) hx hb hg inX10 hown hK hP 4 rfl rfl 30 (by decide) (hg _ q_6_14) (fun _ h9 => h9) rfl dX10_goesMany_31 ?_
  refine lv_iload hx hb dX10_goesMany_34 (lv_at hl 1 rfl) ?_
  refine va_lald hx hb hK hP 2 2 rfl rfl (vin (by decide +kernel)) dX10_goesMany_36 ?_
  refine tpl (y := 10000) (rfl) ?_
  refine lv_lconst (v := 0) hx hb dX10_goesMany_37 (by decide) ?_
  refine W.lcmp hx hb dX10_goesMany_38 ?_
  refine lv_if_le (tgt := 102) hx hb dX10_goesMany_39 (by decide) (fun c_3 => absurd ((lg_cmp_le _ _).mp c_3) (by decide)) (fun _ => ?_)
  refine lv_aload_n hx hb dX10_goesMany_42 rfl (lv_at hl 3 rfl) ?_
  refine va_get (ci := 10) (v := .ref (z 25)) (C := RX10) (T := TX10) (N := 40) hx hb hg inX10 hown hK hP 4 rfl rfl 25 (by decide) (hg _ q_6_9) (fun _ h9 => h9) rfl dX10_goesMany_43 ?_
  refine lv_iconst (v := 4) hx hb dX10_goesMany_46 (by decide) ?_
  refine lv_iload hx hb dX10_goesMany_47 (lv_at hl 1 rfl) ?_
  refine lv_imul hx hb dX10_goesMany_49 ?_
  refine tpi (y := 0) (by decide +kernel) ?_
  refine lv_iload hx hb dX10_goesMany_50 (lv_at hl 0 rfl) ?_
  refine lv_iadd hx hb dX10_goesMany_52 ?_
  refine tpi (y := 0) (by decide +kernel) ?_
  refine va_iald hx hb hK hP 1 0 rfl rfl (vin (by decide +kernel)) dX10_goesMany_53 ?_
  refine tpi (y := 0) (rfl) ?_
  refine lv_iconst (v := (-1)) hx hb dX10_goesMany_54 (by decide) ?_
  refine lv_icmp_eq (tgt := 96) hx hb dX10_goesMany_55 (by decide) (fun c_4 => absurd c_4 (by decide)) (fun _ => ?_)
  refine lv_aload_n hx hb dX10_goesMany_58 rfl (lv_at hl 3 rfl) ?_
  refine va_get (ci := 10) (v := .ref (z 31)) (C := RX10) (T := TX10) (N := 40) hx hb hg inX10 hown hK hP 4 rfl rfl 31 (by decide) (hg _ q_6_15) (fun _ h9 => h9) rfl dX10_goesMany_59 ?_
  refine lv_aload_n hx hb dX10_goesMany_62 rfl (lv_at hl 3 rfl) ?_
  refine va_get (ci := 10) (v := .ref (z 25)) (C := RX10) (T := TX10) (N := 40) hx hb hg inX10 hown hK hP 4 rfl rfl 25 (by decide) (hg _ q_6_9) (fun _ h9 => h9) rfl dX10_goesMany_63 ?_
  refine lv_iconst (v := 4) hx hb dX10_goesMany_66 (by decide) ?_
  refine lv_iload hx hb dX10_goesMany_67 (lv_at hl 1 rfl) ?_
  refine lv_imul hx hb dX10_goesMany_69 ?_
  refine tpi (y := 0) (by decide +kernel) ?_
  refine lv_iload hx hb dX10_goesMany_70 (lv_at hl 0 rfl) ?_
  refine lv_iadd hx hb dX10_goesMany_72 ?_
  refine tpi (y := 0) (by decide +kernel) ?_
  refine va_iald hx hb hK hP 1 0 rfl rfl (vin (by decide +kernel)) dX10_goesMany_73 ?_
  refine tpi (y := 0) (rfl) ?_
  refine lv_dup2_11 hx hb dX10_goesMany_74 rfl rfl ?_
  refine va_lald hx hb hK hP 3 2 rfl rfl (vin (by decide +kernel)) dX10_goesMany_75 ?_
  refine tpl (y := 0) (rfl) ?_
  refine lv_aload_n hx hb dX10_goesMany_76 rfl (lv_at hl 3 rfl) ?_
  refine va_get (ci := 10) (v := .ref (z 30)) (C := RX10) (T := TX10) (N := 40) hx hb hg inX10 hown hK hP 4 rfl rfl 30 (by decide) (hg _ q_6_14) (fun _ h9 => h9) rfl dX10_goesMany_77 ?_
  refine lv_iload hx hb dX10_goesMany_80 (lv_at hl 1 rfl) ?_
  refine va_lald hx hb hK hP 2 2 rfl rfl (vin (by decide +kernel)) dX10_goesMany_82 ?_
  refine tpl (y := 10000) (rfl) ?_
  refine lv_iload hx hb dX10_goesMany_83 (lv_at hl 0 rfl) ?_
  refine lv_if_ne (tgt := 92) hx hb dX10_goesMany_85 (by decide) (fun c_5 => absurd c_5 (by decide)) (fun _ => ?_)
  refine lv_lload_n hx hb dX10_goesMany_88 rfl (lv_at hl 4 rfl) ?_
  refine lv_goto (tgt := 93) hx hb dX10_goesMany_89 (by decide) ?_
  refine lv_lmul hx hb dX10_goesMany_93 ?_
  refine tpl (y := 100000) (by decide +kernel) ?_
  refine lv_ladd hx hb dX10_goesMany_94 ?_
  refine tpl (y := 100000) (by decide +kernel) ?_
  refine va_last hx hb hK hP hD hS 3 2 rfl rfl (vin (by decide +kernel)) dX10_goesMany_95 (fun H locs hP hD hS => ?_)
  have hP : va_P V.1 vwCl [(z 24, aI V 10000 (fun _ => 0)), (z 25, aI V 40000 (upd (upd (upd (fun _ => 0) 1 (-1)) 2 (-1)) 3 (-1))), (z 30, aJ V 10000 (vp_updL (fun _ => 0) 0 10000)), (z 31, aJ V 10000 (vp_updL (fun _ => 0) 0 100000)), (z 0, .inr (10, mo z 0 0 0 0 0 0 0 0 0 0 (-1) 0 0 0 0 1))] H := hP
  have hD : va_D A [(z 24, aI V 10000 (fun _ => 0)), (z 25, aI V 40000 (upd (upd (upd (fun _ => 0) 1 (-1)) 2 (-1)) 3 (-1))), (z 30, aJ V 10000 (vp_updL (fun _ => 0) 0 10000)), (z 31, aJ V 10000 (vp_updL (fun _ => 0) 0 100000)), (z 0, .inr (10, mo z 0 0 0 0 0 0 0 0 0 0 (-1) 0 0 0 0 1))] := hD
  refine lv_iinc (v := 1) (lv' := [(7, .int 1), (6, .int 0), (5, .int 0), (0, .ref (z 0)), (1, .long 10), (3, .long 1)]) hx hb dX10_goesMany_96 hl (k := 0) rfl (by decide +kernel) (by decide) rfl (fun ls hl => ?_)
  refine lv_goto (tgt := 24) hx hb dX10_goesMany_99 (by decide) ?_
  refine lv_iload hx hb dX10_goesMany_24 (lv_at hl 0 rfl) ?_
  refine lv_iconst (v := 4) hx hb dX10_goesMany_26 (by decide) ?_
  refine lv_icmp_ge (tgt := 102) hx hb dX10_goesMany_27 (by decide) (fun c_6 => absurd c_6 (by decide)) (fun _ => ?_)
  refine lv_aload_n hx hb dX10_goesMany_30 rfl (lv_at hl 3 rfl) ?_
  refine va_get (ci := 10) (v := .ref (z 30)) (C := RX10) (T := TX10) (N := 40) hx hb hg inX10 hown hK hP 4 rfl rfl 30 (by decide) (hg _ q_6_14) (fun _ h9 => h9) rfl dX10_goesMany_31 ?_
  refine lv_iload hx hb dX10_goesMany_34 (lv_at hl 1 rfl) ?_
  refine va_lald hx hb hK hP 2 2 rfl rfl (vin (by decide +kernel)) dX10_goesMany_36 ?_
  refine tpl (y := 10000) (rfl) ?_
  refine lv_lconst (v := 0) hx hb dX10_goesMany_37 (by decide) ?_
  refine W.lcmp hx hb dX10_goesMany_38 ?_
  refine lv_if_le (tgt := 102) hx hb dX10_goesMany_39 (by decide) (fun c_7 => absurd ((lg_cmp_le _ _).mp c_7) (by decide)) (fun _ => ?_)
  refine lv_aload_n hx hb dX10_goesMany_42 rfl (lv_at hl 3 rfl) ?_
  refine va_get (ci := 10) (v := .ref (z 25)) (C := RX10) (T := TX10) (N := 40) hx hb hg inX10 hown hK hP 4 rfl rfl 25 (by decide) (hg _ q_6_9) (fun _ h9 => h9) rfl dX10_goesMany_43 ?_
  refine lv_iconst (v := 4) hx hb dX10_goesMany_46 (by decide) ?_
  refine lv_iload hx hb dX10_goesMany_47 (lv_at hl 1 rfl) ?_
  refine lv_imul hx hb dX10_goesMany_49 ?_
  refine tpi (y := 0) (by decide +kernel) ?_
  refine lv_iload hx hb dX10_goesMany_50 (lv_at hl 0 rfl) ?_
  refine lv_iadd hx hb dX10_goesMany_52 ?_
  refine tpi (y := 1) (by decide +kernel) ?_
  refine va_iald hx hb hK hP 1 0 rfl rfl (vin (by decide +kernel)) dX10_goesMany_53 ?_
  refine tpi (y := (-1)) (rfl) ?_
  refine lv_iconst (v := (-1)) hx hb dX10_goesMany_54 (by decide) ?_
  refine lv_icmp_eq (tgt := 96) hx hb dX10_goesMany_55 (by decide) (fun _ => ?_) (fun c_8 => absurd c_8 (by decide))
  refine lv_iinc (v := 2) (lv' := [(7, .int 2), (6, .int 0), (5, .int 0), (0, .ref (z 0)), (1, .long 10), (3, .long 1)]) hx hb dX10_goesMany_96 hl (k := 0) rfl (by decide +kernel) (by decide) rfl (fun ls hl => ?_)
  refine lv_goto (tgt := 24) hx hb dX10_goesMany_99 (by decide) ?_
  refine lv_iload hx hb dX10_goesMany_24 (lv_at hl 0 rfl) ?_
  refine lv_iconst (v := 4) hx hb dX10_goesMany_26 (by decide) ?_
  refine lv_icmp_ge (tgt := 102) hx hb dX10_goesMany_27 (by decide) (fun c_9 => absurd c_9 (by decide)) (fun _ => ?_)
  refine lv_aload_n hx hb dX10_goesMany_30 rfl (lv_at hl 3 rfl) ?_
  refine va_get (ci := 10) (v := .ref (z 30)) (C := RX10) (T := TX10) (N := 40) hx hb hg inX10 hown hK hP 4 rfl rfl 30 (by decide) (hg _ q_6_14) (fun _ h9 => h9) rfl dX10_goesMany_31 ?_
  refine lv_iload hx hb dX10_goesMany_34 (lv_at hl 1 rfl) ?_
  refine va_lald hx hb hK hP 2 2 rfl rfl (vin (by decide +kernel)) dX10_goesMany_36 ?_
  refine tpl (y := 10000) (rfl) ?_
  refine lv_lconst (v := 0) hx hb dX10_goesMany_37 (by decide) ?_
  refine W.lcmp hx hb dX10_goesMany_38 ?_
  refine lv_if_le (tgt := 102) hx hb dX10_goesMany_39 (by decide) (fun c_10 => absurd ((lg_cmp_le _ _).mp c_10) (by decide)) (fun _ => ?_)
  refine lv_aload_n hx hb dX10_goesMany_42 rfl (lv_at hl 3 rfl) ?_
  refine va_get (ci := 10) (v := .ref (z 25)) (C := RX10) (T := TX10) (N := 40) hx hb hg inX10 hown hK hP 4 rfl rfl 25 (by decide) (hg _ q_6_9) (fun _ h9 => h9) rfl dX10_goesMany_43 ?_
  refine lv_iconst (v := 4) hx hb dX10_goesMany_46 (by decide) ?_
  refine lv_iload hx hb dX10_goesMany_47 (lv_at hl 1 rfl) ?_
  refine lv_imul hx hb dX10_goesMany_49 ?_
  refine tpi (y := 0) (by decide +kernel) ?_
  refine lv_iload hx hb dX10_goesMany_50 (lv_at hl 0 rfl) ?_
  refine lv_iadd hx hb dX10_goesMany_52 ?_
  refine tpi (y := 2) (by decide +kernel) ?_
  refine va_iald hx hb hK hP 1 0 rfl rfl (vin (by decide +kernel)) dX10_goesMany_53 ?_
  refine tpi (y := (-1)) (rfl) ?_
  refine lv_iconst (v := (-1)) hx hb dX10_goesMany_54 (by decide) ?_
  refine lv_icmp_eq (tgt := 96) hx hb dX10_goesMany_55 (by decide) (fun _ => ?_) (fun c_11 => absurd c_11 (by decide))
  refine lv_iinc (v := 3) (lv' := [(7, .int 3), (6, .int 0), (5, .int 0), (0, .ref (z 0)), (1, .long 10), (3, .long 1)]) hx hb dX10_goesMany_96 hl (k := 0) rfl (by decide +kernel) (by decide) rfl (fun ls hl => ?_)
  refine lv_goto (tgt := 24) hx hb dX10_goesMany_99 (by decide) ?_
  refine lv_iload hx hb dX10_goesMany_24 (lv_at hl 0 rfl) ?_
  refine lv_iconst (v := 4) hx hb dX10_goesMany_26 (by decide) ?_
  refine lv_icmp_ge (tgt := 102) hx hb dX10_goesMany_27 (by decide) (fun c_12 => absurd c_12 (by decide)) (fun _ => ?_)
  refine lv_aload_n hx hb dX10_goesMany_30 rfl (lv_at hl 3 rfl) ?_
  refine va_get (ci := 10) (v := .ref (z 30)) (C := RX10) (T := TX10) (N := 40) hx hb hg inX10 hown hK hP 4 rfl rfl 30 (by decide) (hg _ q_6_14) (fun _ h9 => h9) rfl dX10_goesMany_31 ?_
  refine lv_iload hx hb dX10_goesMany_34 (lv_at hl 1 rfl) ?_
  refine va_lald hx hb hK hP 2 2 rfl rfl (vin (by decide +kernel)) dX10_goesMany_36 ?_
  refine tpl (y := 10000) (rfl) ?_
  refine lv_lconst (v := 0) hx hb dX10_goesMany_37 (by decide) ?_
  refine W.lcmp hx hb dX10_goesMany_38 ?_
  refine lv_if_le (tgt := 102) hx hb dX10_goesMany_39 (by decide) (fun c_13 => absurd ((lg_cmp_le _ _).mp c_13) (by decide)) (fun _ => ?_)
  refine lv_aload_n hx hb dX10_goesMany_42 rfl (lv_at hl 3 rfl) ?_
  refine va_get (ci := 10) (v := .ref (z 25)) (C := RX10) (T := TX10) (N := 40) hx hb hg inX10 hown hK hP 4 rfl rfl 25 (by decide) (hg _ q_6_9) (fun _ h9 => h9) rfl dX10_goesMany_43 ?_
  refine lv_iconst (v := 4) hx hb dX10_goesMany_46 (by decide) ?_
  refine lv_iload hx hb dX10_goesMany_47 (lv_at hl 1 rfl) ?_
  refine lv_imul hx hb dX10_goesMany_49 ?_
  refine tpi (y := 0) (by decide +kernel) ?_
  refine lv_iload hx hb dX10_goesMany_50 (lv_at hl 0 rfl) ?_
  refine lv_iadd hx hb dX10_goesMany_52 ?_
  refine tpi (y := 3) (by decide +kernel) ?_
  refine va_iald hx hb hK hP 1 0 rfl rfl (vin (by decide +kernel)) dX10_goesMany_53 ?_
  refine tpi (y := (-1)) (rfl) ?_
  refine lv_iconst (v := (-1)) hx hb dX10_goesMany_54 (by decide) ?_
  refine lv_icmp_eq (tgt := 96) hx hb dX10_goesMany_55 (by decide) (fun _ => ?_) (fun c_14 => absurd c_14 (by decide))
  refine lv_iinc (v := 4) (lv' := [(7, .int 4), (6, .int 0), (5, .int 0), (0, .ref (z 0)), (1, .long 10), (3, .long 1)]) hx hb dX10_goesMany_96 hl (k := 0) rfl (by decide +kernel) (by decide) rfl (fun ls hl => ?_)
  refine lv_goto (tgt := 24) hx hb dX10_goesMany_99 (by decide) ?_
  refine lv_iload hx hb dX10_goesMany_24 (lv_at hl 0 rfl) ?_
  refine lv_iconst (v := 4) hx hb dX10_goesMany_26 (by decide) ?_
  refine lv_icmp_ge (tgt := 102) hx hb dX10_goesMany_27 (by decide) (fun _ => ?_) (fun c_15 => absurd c_15 (by decide))
  refine lv_iinc (v := 1) (lv' := [(5, .int 1), (7, .int 4), (6, .int 0), (0, .ref (z 0)), (1, .long 10), (3, .long 1)]) hx hb dX10_goesMany_102 hl (k := 2) rfl (by decide +kernel) (by decide) rfl (fun ls hl => ?_)
  refine lv_goto (tgt := 3) hx hb dX10_goesMany_105 (by decide) ?_
  refine lv_iload hx hb dX10_goesMany_3 (lv_at hl 0 rfl) ?_
  refine lv_aload_n hx hb dX10_goesMany_5 rfl (lv_at hl 3 rfl) ?_
  refine va_get (ci := 10) (v := .int 1) (C := RX10) (T := TX10) (N := 40) hx hb hg inX10 hown hK hP 4 rfl rfl 29 (by decide) (hg _ q_6_13) (fun _ h9 => h9) rfl dX10_goesMany_6 ?_
  refine lv_icmp_ge (tgt := 108) hx hb dX10_goesMany_9 (by decide) (fun _ => ?_) (fun c_16 => absurd c_16 (by decide))
  refine lv_aload_n hx hb dX10_goesMany_108 rfl (lv_at hl 3 rfl) ?_
  refine jnV (wr := [(z 24, aI V 10000 (fun _ => 0)), (z 25, aI V 40000 (upd (upd (upd (fun _ => 0) 1 (-1)) 2 (-1)) 3 (-1)))]) (rnV (rest := []) ⟨hx, hb, hml, hown, hg⟩ (c_X10_isThen_4 l V z) mt_X10_isThen q_7_228 ⟨Nat.le_of_ble_eq_true rfl, Nat.le_of_ble_eq_true rfl⟩ hK hP hD hS hA hE [2, 3, 4] rfl rfl 4 rfl rfl rfl rfl hl.1 rfl (Nat.le_of_ble_eq_true rfl) dX10_goesMany_109 ⟨Nat.le_of_ble_eq_true rfl, Nat.le_of_ble_eq_true rfl⟩) hP hD hS hA [2, 3, 4] [0, 1] rfl rfl rfl (by decide) (fun  w H locs hw hP hD hS => ?_)
  subst hw
  have hP : va_P V.1 vwCl [(z 24, aI V 10000 (fun _ => 0)), (z 25, aI V 40000 (upd (upd (upd (fun _ => 0) 1 (-1)) 2 (-1)) 3 (-1))), (z 30, aJ V 10000 (vp_updL (fun _ => 0) 0 100000)), (z 31, aJ V 10000 (fun _ => 0)), (z 0, .inr (10, mo z 0 0 0 0 0 0 0 0 0 0 (-1) 0 0 0 0 1))] H := hP
  have hD : va_D A [(z 24, aI V 10000 (fun _ => 0)), (z 25, aI V 40000 (upd (upd (upd (fun _ => 0) 1 (-1)) 2 (-1)) 3 (-1))), (z 30, aJ V 10000 (vp_updL (fun _ => 0) 0 100000)), (z 31, aJ V 10000 (fun _ => 0)), (z 0, .inr (10, mo z 0 0 0 0 0 0 0 0 0 0 (-1) 0 0 0 0 1))] := hD
  exact fiV hx hb hr hlk hK hP hD hS dX10_goesMany_112 (Nat.le_of_ble_eq_true rfl) (Nat.le_of_ble_eq_true rfl) (rfl)
