def o9_rirrrrrrrrvviii (x0 : Nat) (x1 : Int32) (x2 : Nat) (x3 : Nat) (x4 : Nat) (x5 : Nat) (x6 : Nat) (x7 : Nat) (x8 : Nat) (x9 : Nat) (x10 : Value) (x11 : Value) (x12 : Int32) (x13 : Int32) (x14 : Int32) : List Value := [.ref x0, .int x1, .ref x2, .ref x3, .ref x4, .ref x5, .ref x6, .ref x7, .ref x8, .ref x9, x10, x11, .int x12, .int x13, .int x14]
def o1_iiiiiirrrrrrriiiii (x0 : Int32) (x1 : Int32) (x2 : Int32) (x3 : Int32) (x4 : Int32) (x5 : Int32) (x6 : Nat) (x7 : Nat) (x8 : Nat) (x9 : Nat) (x10 : Nat) (x11 : Nat) (x12 : Nat) (x13 : Int32) (x14 : Int32) (x15 : Int32) (x16 : Int32) (x17 : Int32) : List Value := [.int x0, .int x1, .int x2, .int x3, .int x4, .int x5, .ref x6, .ref x7, .ref x8, .ref x9, .ref x10, .ref x11, .ref x12, .int x13, .int x14, .int x15, .int x16, .int x17]
theorem dX9_isHill_0 : decode cX9_isHill 0 = .ok (.iload_n 1, 1) := by decide +kernel
theorem dX9_isHill_1 : decode cX9_isHill 1 = .ok (.ifCond .lt 18, 3) := by decide +kernel
theorem dX9_isHill_19 : decode cX9_isHill 19 = .ok (.iconst 0, 1) := by decide +kernel
theorem dX9_isHill_20 : decode cX9_isHill 20 = .ok (.ireturn, 1) := by decide +kernel
theorem dX9_isHill_4 : decode cX9_isHill 4 = .ok (.iload_n 1, 1) := by decide +kernel
theorem dX9_isHill_5 : decode cX9_isHill 5 = .ok (.aload_n 0, 1) := by decide +kernel
theorem q_2_38 : Cond.fieldLink "BeaconDelay" 16 "BeaconDelay" "coast" "LBeaconDelay$Coast;" ∈ gw := gw_2 (i := 38) (by decide +kernel) rfl
theorem dX9_isHill_6 : decode cX9_isHill 6 = .ok (.getfield 16, 3) := by decide +kernel
theorem q_1_41 : Cond.fieldLink "BeaconDelay" 159 "BeaconDelay$Coast" "hills" "I" ∈ gw := gw_1 (i := 41) (by decide +kernel) rfl
theorem dX9_isHill_9 : decode cX9_isHill 9 = .ok (.getfield 159, 3) := by decide +kernel
theorem dX9_isHill_12 : decode cX9_isHill 12 = .ok (.if_icmp .ge 7, 3) := by decide +kernel
theorem dX9_isHill_15 : decode cX9_isHill 15 = .ok (.iconst 1, 1) := by decide +kernel
theorem dX9_isHill_16 : decode cX9_isHill 16 = .ok (.goto 4, 3) := by decide +kernel
set_option maxRecDepth 100000 in
noncomputable def F_k_X9_isHill_0 (a1 : Int32) (py2_1 : Int32) : Int32 := if a1 < (0 : Int32) then ((0)) else (if py2_1 ≤ a1 then ((1)) else ((2)))
set_option maxHeartbeats 4000000 in
set_option maxRecDepth 100000 in
theorem k_X9_isHill_0 (l : Launch) (V : GV) (y : Nat → Nat) (a1 : Int32) (py0_1 : Int32) (o10 : Value) (o11 : Value) (py0_12 : Int32) (py0_13 : Int32) (py0_14 : Int32) (py2_0 : Int32) (py2_1 : Int32) (py2_2 : Int32) (py2_3 : Int32) (py2_4 : Int32) (py2_5 : Int32) (py2_13 : Int32) (py2_14 : Int32) (py2_15 : Int32) (py2_16 : Int32) (py2_17 : Int32) (bpy0_1 : iv 0 900 py0_1) (bpy0_12 : iv 0 9999 py0_12) (bpy0_13 : iv 0 9 py0_13) (bpy2_1 : iv 0 4 py2_1) (bpy2_2 : iv 0 4 py2_2) (bpy2_3 : iv 0 8 py2_3) (bpy2_4 : iv 0 9999 py2_4) (bpy2_5 : iv 0 9 py2_5) (bpy2_13 : iv 0 900 py2_13) (bpy2_14 : iv 0 900 py2_14) (bpy2_15 : iv 0 900 py2_15) (bpy2_16 : iv 0 900 py2_16) (bpy2_17 : iv 0 900 py2_17) : Ct l V yX9_isHill (.code yX9_isHill cX9_isHill 2 (some .boolean)) 1 [.ref (y 0), .int a1] [(y 0, .inr (9, o9_rirrrrrrrrvviii (y 1) py0_1 (y 2) (y 10) (y 19) (y 25) (y 26) (y 30) (y 31) (y 32) o10 o11 py0_12 py0_13 py0_14)), (y 2, .inr (1, o1_iiiiiirrrrrrriiiii py2_0 py2_1 py2_2 py2_3 py2_4 py2_5 (y 3) (y 4) (y 5) (y 6) (y 7) (y 8) (y 9) py2_13 py2_14 py2_15 py2_16 py2_17))] 0 0 (QI V (fun (r : Int32) (w : va_W) => ((a1 < 0) ∧ r = 0 ∧ (0 : Int32) = F_k_X9_isHill_0 a1 py2_1 ∧ w = [(y 0, .inr (9, o9_rirrrrrrrrvviii (y 1) py0_1 (y 2) (y 10) (y 19) (y 25) (y 26) (y 30) (y 31) (y 32) o10 o11 py0_12 py0_13 py0_14)), (y 2, .inr (1, o1_iiiiiirrrrrrriiiii py2_0 py2_1 py2_2 py2_3 py2_4 py2_5 (y 3) (y 4) (y 5) (y 6) (y 7) (y 8) (y 9) py2_13 py2_14 py2_15 py2_16 py2_17))]) ∨ ((¬ a1 < 0) ∧ (py2_1 ≤ a1) ∧ r = 0 ∧ (1 : Int32) = F_k_X9_isHill_0 a1 py2_1 ∧ w = [(y 0, .inr (9, o9_rirrrrrrrrvviii (y 1) py0_1 (y 2) (y 10) (y 19) (y 25) (y 26) (y 30) (y 31) (y 32) o10 o11 py0_12 py0_13 py0_14)), (y 2, .inr (1, o1_iiiiiirrrrrrriiiii py2_0 py2_1 py2_2 py2_3 py2_4 py2_5 (y 3) (y 4) (y 5) (y 6) (y 7) (y 8) (y 9) py2_13 py2_14 py2_15 py2_16 py2_17))]) ∨ ((¬ a1 < 0) ∧ (¬ py2_1 ≤ a1) ∧ r = 1 ∧ (2 : Int32) = F_k_X9_isHill_0 a1 py2_1 ∧ w = [(y 0, .inr (9, o9_rirrrrrrrrvviii (y 1) py0_1 (y 2) (y 10) (y 19) (y 25) (y 26) (y 30) (y 31) (y 32) o10 o11 py0_12 py0_13 py0_14)), (y 2, .inr (1, o1_iiiiiirrrrrrriiiii py2_0 py2_1 py2_2 py2_3 py2_4 py2_5 (y 3) (y 4) (y 5) (y 6) (y 7) (y 8) (y 9) py2_13 py2_14 py2_15 py2_16 py2_17))]))) := by
  refine Ct.of (by decide) (Nat.le_of_ble_eq_true rfl) (fun p e s m below meth c A ls hx hb hr hml hown hlk hnm hg hP hK hD hE hA hS hl => ?_)
  have hl : lv_has ls 2 [(0, .ref (y 0)), (1, .int a1)] := hl
  obtain ⟨T0, hT0⟩ : ∃ T9, T9 = F_k_X9_isHill_0 a1 py2_1 := ⟨_, rfl⟩
  have hR := hT0.trans (F_k_X9_isHill_0.eq_1 ..)
  refine lv_iload_n hx hb dX9_isHill_0 rfl (lv_at hl 1 rfl) ?_
  refine lv_if_lt (tgt := 19) hx hb dX9_isHill_1 (by decide) (fun c_1 => ?_) (fun c_1 => ?_)
  · replace hR := ti hR c_1
    have b_2 : iv (-2147483648) (-1) a1 := iv_l1 c_1 (iv_top a1) (iv_c (0 : Int32) (a := 0) (b := 0) (by decide)) (by decide)
    refine lv_iconst (v := 0) hx hb dX9_isHill_19 (by decide) ?_
    exact fiZ rfl hx hb hr hlk hK hP hD hS dX9_isHill_20 (Nat.le_of_ble_eq_true rfl) (Nat.le_of_ble_eq_true rfl) (Or.inl ⟨c_1, rfl, (hR.symm.trans hT0), rfl⟩)
  · replace hR := te hR c_1
    have b_3 : iv 0 2147483647 a1 := iv_e2 (Int32.not_lt.mp c_1) (iv_c (0 : Int32) (a := 0) (b := 0) (by decide)) (iv_top a1) (by decide)
    refine lv_iload_n hx hb dX9_isHill_4 rfl (lv_at hl 1 rfl) ?_
    refine lv_aload_n hx hb dX9_isHill_5 rfl (lv_at hl 0 rfl) ?_
    refine va_get (ci := 9) (v := .ref (y 2)) (C := RX9) (T := TX9) (N := 15) hx hb hg inX9 hown hK hP 0 rfl rfl 2 (by decide) (hg _ q_2_38) (fun _ h9 => h9) rfl dX9_isHill_6 ?_
    refine va_get (ci := 1) (v := .int py2_1) (C := RX1) (T := TX1) (N := 18) hx hb hg inX1 hown hK hP 1 rfl rfl 1 (by decide) (hg _ q_1_41) (fun _ h9 => h9) rfl dX9_isHill_9 ?_
    refine lv_icmp_ge (tgt := 19) hx hb dX9_isHill_12 (by decide) (fun c_4 => ?_) (fun c_4 => ?_)
    · replace hR := ti hR c_4
      refine lv_iconst (v := 0) hx hb dX9_isHill_19 (by decide) ?_
      exact fiZ rfl hx hb hr hlk hK hP hD hS dX9_isHill_20 (Nat.le_of_ble_eq_true rfl) (Nat.le_of_ble_eq_true rfl) (Or.inr (Or.inl ⟨c_1, c_4, rfl, (hR.symm.trans hT0), rfl⟩))
    · replace hR := te hR c_4
      have b_5 : iv 0 3 a1 := iv_l1 (Int32.not_le.mp c_4) b_3 bpy2_1 (by decide)
      have b_6 : iv 1 4 py2_1 := iv_l2 (Int32.not_le.mp c_4) b_3 bpy2_1 (by decide)
      refine lv_iconst (v := 1) hx hb dX9_isHill_15 (by decide) ?_
      refine lv_goto (tgt := 20) hx hb dX9_isHill_16 (by decide) ?_
      exact fiZ rfl hx hb hr hlk hK hP hD hS dX9_isHill_20 (Nat.le_of_ble_eq_true rfl) (Nat.le_of_ble_eq_true rfl) (Or.inr (Or.inr (⟨c_1, c_4, rfl, (hR.symm.trans hT0), rfl⟩)))
theorem dX9_isNight_0 : decode cX9_isNight 0 = .ok (.lload_n 1, 1) := by decide +kernel
theorem dX9_isNight_1 : decode cX9_isNight 1 = .ok (.lconst 0, 1) := by decide +kernel
theorem dX9_isNight_2 : decode cX9_isNight 2 = .ok (.lcmp, 1) := by decide +kernel
theorem dX9_isNight_3 : decode cX9_isNight 3 = .ok (.ifCond .eq 22, 3) := by decide +kernel
theorem dX9_isNight_25 : decode cX9_isNight 25 = .ok (.iconst 1, 1) := by decide +kernel
theorem dX9_isNight_26 : decode cX9_isNight 26 = .ok (.goto 4, 3) := by decide +kernel
theorem dX9_isNight_30 : decode cX9_isNight 30 = .ok (.ireturn, 1) := by decide +kernel
theorem dX9_isNight_6 : decode cX9_isNight 6 = .ok (.lload_n 1, 1) := by decide +kernel
theorem dX9_isNight_7 : decode cX9_isNight 7 = .ok (.lconst 0, 1) := by decide +kernel
theorem dX9_isNight_8 : decode cX9_isNight 8 = .ok (.lcmp, 1) := by decide +kernel
theorem dX9_isNight_9 : decode cX9_isNight 9 = .ok (.ifCond .le 20, 3) := by decide +kernel
theorem dX9_isNight_29 : decode cX9_isNight 29 = .ok (.iconst 0, 1) := by decide +kernel
theorem dX9_isNight_12 : decode cX9_isNight 12 = .ok (.lload_n 1, 1) := by decide +kernel
theorem dX9_isNight_13 : decode cX9_isNight 13 = .ok (.aload_n 0, 1) := by decide +kernel
theorem dX9_isNight_14 : decode cX9_isNight 14 = .ok (.getfield 16, 3) := by decide +kernel
theorem dX9_isNight_17 : decode cX9_isNight 17 = .ok (.getfield 159, 3) := by decide +kernel
theorem dX9_isNight_20 : decode cX9_isNight 20 = .ok (.i2l, 1) := by decide +kernel
theorem dX9_isNight_21 : decode cX9_isNight 21 = .ok (.lcmp, 1) := by decide +kernel
theorem dX9_isNight_22 : decode cX9_isNight 22 = .ok (.ifCond .ge 7, 3) := by decide +kernel
set_option maxRecDepth 100000 in
noncomputable def F_k_X9_isNight_0 (k1 : Int64) (py2_1 : Int32) : Int32 := if k1 = (0 : Int64) then (((1 : Int32))) else (if k1 ≤ (0 : Int64) then (((0 : Int32))) else (bnd (py2_1.toInt64 : Int64) fun (j_6 : Int64) => if j_6 ≤ k1 then (((0 : Int32))) else (((1 : Int32)))))
set_option maxHeartbeats 4000000 in
set_option maxRecDepth 100000 in
theorem k_X9_isNight_0 (l : Launch) (V : GV) (y : Nat → Nat) (k1 : Int64) (py0_1 : Int32) (o10 : Value) (o11 : Value) (py0_12 : Int32) (py0_13 : Int32) (py0_14 : Int32) (py2_0 : Int32) (py2_1 : Int32) (py2_2 : Int32) (py2_3 : Int32) (py2_4 : Int32) (py2_5 : Int32) (py2_13 : Int32) (py2_14 : Int32) (py2_15 : Int32) (py2_16 : Int32) (py2_17 : Int32) (bpy0_1 : iv 0 900 py0_1) (bpy0_12 : iv 0 9999 py0_12) (bpy0_13 : iv 0 9 py0_13) (bpy2_1 : iv 0 4 py2_1) (bpy2_2 : iv 0 4 py2_2) (bpy2_3 : iv 0 8 py2_3) (bpy2_4 : iv 0 9999 py2_4) (bpy2_5 : iv 0 9 py2_5) (bpy2_13 : iv 0 900 py2_13) (bpy2_14 : iv 0 900 py2_14) (bpy2_15 : iv 0 900 py2_15) (bpy2_16 : iv 0 900 py2_16) (bpy2_17 : iv 0 900 py2_17) : Ct l V yX9_isNight (.code yX9_isNight cX9_isNight 3 (some .boolean)) 1 [.ref (y 0), .long k1] [(y 0, .inr (9, o9_rirrrrrrrrvviii (y 1) py0_1 (y 2) (y 10) (y 19) (y 25) (y 26) (y 30) (y 31) (y 32) o10 o11 py0_12 py0_13 py0_14)), (y 2, .inr (1, o1_iiiiiirrrrrrriiiii py2_0 py2_1 py2_2 py2_3 py2_4 py2_5 (y 3) (y 4) (y 5) (y 6) (y 7) (y 8) (y 9) py2_13 py2_14 py2_15 py2_16 py2_17))] 0 0 (QI V (fun (r : Int32) (w : va_W) => iv 0 1 r ∧ r = (F_k_X9_isNight_0 k1 py2_1) ∧ w = [(y 0, .inr (9, o9_rirrrrrrrrvviii (y 1) py0_1 (y 2) (y 10) (y 19) (y 25) (y 26) (y 30) (y 31) (y 32) o10 o11 py0_12 py0_13 py0_14)), (y 2, .inr (1, o1_iiiiiirrrrrrriiiii py2_0 py2_1 py2_2 py2_3 py2_4 py2_5 (y 3) (y 4) (y 5) (y 6) (y 7) (y 8) (y 9) py2_13 py2_14 py2_15 py2_16 py2_17))])) := by
  refine Ct.of (by decide) (Nat.le_of_ble_eq_true rfl) (fun p e s m below meth c A ls hx hb hr hml hown hlk hnm hg hP hK hD hE hA hS hl => ?_)
  have hl : lv_has ls 3 [(0, .ref (y 0)), (1, .long k1)] := hl
  obtain ⟨T0, hT0⟩ : ∃ T9, T9 = F_k_X9_isNight_0 k1 py2_1 := ⟨_, rfl⟩
  have hR := hT0.trans (F_k_X9_isNight_0.eq_1 ..)
  refine lv_lload_n hx hb dX9_isNight_0 rfl (lv_at hl 1 rfl) ?_
  refine lv_lconst (v := 0) hx hb dX9_isNight_1 (by decide) ?_
  refine W.lcmp hx hb dX9_isNight_2 ?_
  refine lv_if_eq (tgt := 25) hx hb dX9_isNight_3 (by decide) (fun c_1 => ?_) (fun c_1 => ?_)
  · replace c_1 : k1 = (0 : Int64) := (lg_cmp_eq _ _).mp c_1
    replace hR := ti hR c_1
    have b_2 : ivL 0 0 k1 := ivL_q c_1 (ivL_c (0 : Int64) (a := 0) (b := 0) (by decide))
    refine lv_iconst (v := 1) hx hb dX9_isNight_25 (by decide) ?_
    refine lv_goto (tgt := 30) hx hb dX9_isNight_26 (by decide) ?_
    exact fiZ rfl hx hb hr hlk hK hP hD hS dX9_isNight_30 (Nat.le_of_ble_eq_true rfl) (Nat.le_of_ble_eq_true rfl) (⟨(iv_c (1 : Int32) (by decide)), (hR.symm.trans hT0), rfl⟩)
  · replace c_1 : ¬ k1 = (0 : Int64) := fun z => c_1 ((lg_cmp_eq _ _).mpr z)
    replace hR := te hR c_1
    refine lv_lload_n hx hb dX9_isNight_6 rfl (lv_at hl 1 rfl) ?_
    refine lv_lconst (v := 0) hx hb dX9_isNight_7 (by decide) ?_
    refine W.lcmp hx hb dX9_isNight_8 ?_
    refine lv_if_le (tgt := 29) hx hb dX9_isNight_9 (by decide) (fun c_3 => ?_) (fun c_3 => ?_)
    · replace c_3 : k1 ≤ (0 : Int64) := (lg_cmp_le _ _).mp c_3
      replace hR := ti hR c_3
      have b_4 : ivL (-9223372036854775808) 0 k1 := ivL_e1 c_3 (ivL_top k1) (ivL_c (0 : Int64) (a := 0) (b := 0) (by decide)) (by decide)
      refine lv_iconst (v := 0) hx hb dX9_isNight_29 (by decide) ?_
      exact fiZ rfl hx hb hr hlk hK hP hD hS dX9_isNight_30 (Nat.le_of_ble_eq_true rfl) (Nat.le_of_ble_eq_true rfl) (⟨(iv_c (0 : Int32) (by decide)), (hR.symm.trans hT0), rfl⟩)
    · replace c_3 : ¬ k1 ≤ (0 : Int64) := fun z => c_3 ((lg_cmp_le _ _).mpr z)
      replace hR := te hR c_3
      have b_5 : ivL 1 9223372036854775807 k1 := ivL_l2 (Int64.not_le.mp c_3) (ivL_c (0 : Int64) (a := 0) (b := 0) (by decide)) (ivL_top k1) (by decide)
      refine lv_lload_n hx hb dX9_isNight_12 rfl (lv_at hl 1 rfl) ?_
      refine lv_aload_n hx hb dX9_isNight_13 rfl (lv_at hl 0 rfl) ?_
      refine va_get (ci := 9) (v := .ref (y 2)) (C := RX9) (T := TX9) (N := 15) hx hb hg inX9 hown hK hP 0 rfl rfl 2 (by decide) (hg _ q_2_38) (fun _ h9 => h9) rfl dX9_isNight_14 ?_
      refine va_get (ci := 1) (v := .int py2_1) (C := RX1) (T := TX1) (N := 18) hx hb hg inX1 hown hK hP 1 rfl rfl 1 (by decide) (hg _ q_1_41) (fun _ h9 => h9) rfl dX9_isNight_17 ?_
      refine lv_i2l hx hb dX9_isNight_20 rfl ?_
      refine lv_topl (fun j_6 ej_6 => ?_)
      have bj_6 : ivL 0 4 j_6 := by rw [ej_6]; exact ivL_of bpy2_1
      replace hR := tb hR ej_6
      refine W.lcmp hx hb dX9_isNight_21 ?_
      refine lv_if_ge (tgt := 29) hx hb dX9_isNight_22 (by decide) (fun c_7 => ?_) (fun c_7 => ?_)
      · replace c_7 : j_6 ≤ k1 := (lg_cmp_ge _ _).mp c_7
        replace hR := ti hR c_7
        refine lv_iconst (v := 0) hx hb dX9_isNight_29 (by decide) ?_
        exact fiZ rfl hx hb hr hlk hK hP hD hS dX9_isNight_30 (Nat.le_of_ble_eq_true rfl) (Nat.le_of_ble_eq_true rfl) (⟨(iv_c (0 : Int32) (by decide)), (hR.symm.trans hT0), rfl⟩)
      · replace c_7 : ¬ j_6 ≤ k1 := fun z => c_7 ((lg_cmp_ge _ _).mpr z)
        replace hR := te hR c_7
        have b_8 : ivL 1 3 k1 := ivL_l1 (Int64.not_le.mp c_7) b_5 bj_6 (by decide)
        have b_9 : ivL 2 4 j_6 := ivL_l2 (Int64.not_le.mp c_7) b_5 bj_6 (by decide)
        have b_10 : iv 2 4 py2_1 := iv_cap (ivL_i ej_6 b_9) bpy2_1 (by decide)
        refine lv_iconst (v := 1) hx hb dX9_isNight_25 (by decide) ?_
        refine lv_goto (tgt := 30) hx hb dX9_isNight_26 (by decide) ?_
        exact fiZ rfl hx hb hr hlk hK hP hD hS dX9_isNight_30 (Nat.le_of_ble_eq_true rfl) (Nat.le_of_ble_eq_true rfl) (⟨(iv_c (1 : Int32) (by decide)), (hR.symm.trans hT0), rfl⟩)
theorem dX9_stackIn_0 : decode cX9_stackIn 0 = .ok (.iload_n 0, 1) := by decide +kernel
theorem q_3_129 : Cond.fieldLink "BeaconDelay" 162 "BeaconDelay" "POWER" "[I" ∈ gw := gw_3 (i := 129) (by decide +kernel) rfl
theorem dX9_stackIn_1 : decode cX9_stackIn 1 = .ok (.getstatic 162, 3) := by decide +kernel
theorem dX9_stackIn_4 : decode cX9_stackIn 4 = .ok (.iload_n 1, 1) := by decide +kernel
theorem dX9_stackIn_5 : decode cX9_stackIn 5 = .ok (.iaload, 1) := by decide +kernel
theorem dX9_stackIn_6 : decode cX9_stackIn 6 = .ok (.idiv, 1) := by decide +kernel
theorem dX9_stackIn_7 : decode cX9_stackIn 7 = .ok (.bipush 10, 2) := by decide +kernel
theorem dX9_stackIn_9 : decode cX9_stackIn 9 = .ok (.irem, 1) := by decide +kernel
theorem dX9_stackIn_10 : decode cX9_stackIn 10 = .ok (.iconst 2, 1) := by decide +kernel
theorem dX9_stackIn_11 : decode cX9_stackIn 11 = .ok (.idiv, 1) := by decide +kernel
theorem dX9_stackIn_12 : decode cX9_stackIn 12 = .ok (.ireturn, 1) := by decide +kernel
set_option maxRecDepth 100000 in
noncomputable def F_k_X9_stackIn_0 (a0 : Int32) (a1 : Int32) : Int32 := bnd (pw (a1 : Int32).toNatClampNeg : Int32) fun (x_1 : Int32) => bnd (a0 / x_1 : Int32) fun (x_2 : Int32) => bnd (x_2 - x_2 / (10 : Int32) * (10 : Int32) : Int32) fun (x_3 : Int32) => bnd (x_3 / (2 : Int32) : Int32) fun (x_4 : Int32) => (x_4)
set_option maxHeartbeats 4000000 in
set_option maxRecDepth 100000 in
theorem k_X9_stackIn_0 (l : Launch) (V : GV) (a0 : Int32) (a1 : Int32) (ba0 : iv 0 9999 a0) (ba1 : iv 0 4 a1) : Ct l V yX9_stackIn (.code yX9_stackIn cX9_stackIn 2 (some .int)) 1 [.int a0, .int a1] [] 0 0 (QI V (fun (r : Int32) (w : va_W) => iv 0 4 r ∧ r = stW a0 (a1 : Int32).toNatClampNeg ∧ r = (F_k_X9_stackIn_0 a0 a1) ∧ w = [])) := by
  refine Ct.of (by decide) (Nat.le_of_ble_eq_true rfl) (fun p e s m below meth c A ls hx hb hr hml hown hlk hnm hg hP hK hD hE hA hS hl => ?_)
  have hl : lv_has ls 2 [(0, .int a0), (1, .int a1)] := hl
  obtain ⟨T0, hT0⟩ : ∃ T9, T9 = F_k_X9_stackIn_0 a0 a1 := ⟨_, rfl⟩
  have hR := hT0.trans (F_k_X9_stackIn_0.eq_1 ..)
  refine lv_iload_n hx hb dX9_stackIn_0 rfl (lv_at hl 0 rfl) ?_
  refine va_gets hx hb hE.1.1 hS hown (hg _ q_3_129) (fun _ h9 => h9) dX9_stackIn_1 ?_
  refine lv_iload_n hx hb dX9_stackIn_4 rfl (lv_at hl 1 rfl) ?_
  refine va_ti (v := .int (pw a1.toNatClampNeg)) hx hb hE.1.2 hS (iv_in ba1 (by decide)) rfl dX9_stackIn_5 ?_
  refine lv_topi (fun x_1 ex_1 => ?_)
  have bx_1 : iv 1 10000 x_1 := by rw [ex_1]; exact pw_iv ba1 (by decide)
  replace hR := tb hR ex_1
  refine lv_idiv hx hb dX9_stackIn_6 (iv_nz bx_1 (by decide)) ?_
  refine lv_topi (fun x_2 ex_2 => ?_)
  have bx_2 : iv 0 9999 x_2 := by rw [ex_2]; exact iv_divv ba0 bx_1 (by decide)
  replace hR := tb hR ex_2
  refine lv_bipush (v := 10) hx hb dX9_stackIn_7 (by decide) ?_
  refine lv_irem hx hb dX9_stackIn_9 (by decide) ?_
  refine lv_topi (fun x_3 ex_3 => ?_)
  have bx_3 : iv 0 9 x_3 := by rw [ex_3]; exact iv_remp bx_2 (k := 10) (by decide) (by decide)
  replace hR := tb hR ex_3
  refine lv_iconst (v := 2) hx hb dX9_stackIn_10 (by decide) ?_
  refine lv_idiv hx hb dX9_stackIn_11 (by decide) ?_
  refine lv_topi (fun x_4 ex_4 => ?_)
  have bx_4 : iv 0 4 x_4 := by rw [ex_4]; exact iv_divp bx_3 (k := 2) (by decide) (by decide)
  replace hR := tb hR ex_4
  exact fiI hx hb hr hlk hK hP hD hS dX9_stackIn_12 (Nat.le_of_ble_eq_true rfl) (Nat.le_of_ble_eq_true rfl) (⟨bx_4, (by rw [ex_4, ex_3, ex_2, ex_1]; rfl), (hR.symm.trans hT0), rfl⟩)
theorem dX9_tookIn_0 : decode cX9_tookIn 0 = .ok (.iload_n 0, 1) := by decide +kernel
theorem dX9_tookIn_1 : decode cX9_tookIn 1 = .ok (.getstatic 162, 3) := by decide +kernel
theorem dX9_tookIn_4 : decode cX9_tookIn 4 = .ok (.iload_n 1, 1) := by decide +kernel
theorem dX9_tookIn_5 : decode cX9_tookIn 5 = .ok (.iaload, 1) := by decide +kernel
theorem dX9_tookIn_6 : decode cX9_tookIn 6 = .ok (.idiv, 1) := by decide +kernel
theorem dX9_tookIn_7 : decode cX9_tookIn 7 = .ok (.iconst 2, 1) := by decide +kernel
theorem dX9_tookIn_8 : decode cX9_tookIn 8 = .ok (.irem, 1) := by decide +kernel
theorem dX9_tookIn_9 : decode cX9_tookIn 9 = .ok (.ireturn, 1) := by decide +kernel
set_option maxRecDepth 100000 in
noncomputable def F_k_X9_tookIn_0 (a0 : Int32) (a1 : Int32) : Int32 := bnd (pw (a1 : Int32).toNatClampNeg : Int32) fun (x_1 : Int32) => bnd (a0 / x_1 : Int32) fun (x_2 : Int32) => bnd (x_2 - x_2 / (2 : Int32) * (2 : Int32) : Int32) fun (x_3 : Int32) => (x_3)
set_option maxHeartbeats 4000000 in
set_option maxRecDepth 100000 in
theorem k_X9_tookIn_0 (l : Launch) (V : GV) (a0 : Int32) (a1 : Int32) (ba0 : iv 0 9999 a0) (ba1 : iv 0 4 a1) : Ct l V yX9_tookIn (.code yX9_tookIn cX9_tookIn 2 (some .int)) 1 [.int a0, .int a1] [] 0 0 (QI V (fun (r : Int32) (w : va_W) => iv 0 1 r ∧ r = tkF a0 (a1 : Int32).toNatClampNeg ∧ r = (F_k_X9_tookIn_0 a0 a1) ∧ w = [])) := by
  refine Ct.of (by decide) (Nat.le_of_ble_eq_true rfl) (fun p e s m below meth c A ls hx hb hr hml hown hlk hnm hg hP hK hD hE hA hS hl => ?_)
  have hl : lv_has ls 2 [(0, .int a0), (1, .int a1)] := hl
  obtain ⟨T0, hT0⟩ : ∃ T9, T9 = F_k_X9_tookIn_0 a0 a1 := ⟨_, rfl⟩
  have hR := hT0.trans (F_k_X9_tookIn_0.eq_1 ..)
  refine lv_iload_n hx hb dX9_tookIn_0 rfl (lv_at hl 0 rfl) ?_
  refine va_gets hx hb hE.1.1 hS hown (hg _ q_3_129) (fun _ h9 => h9) dX9_tookIn_1 ?_
  refine lv_iload_n hx hb dX9_tookIn_4 rfl (lv_at hl 1 rfl) ?_
  refine va_ti (v := .int (pw a1.toNatClampNeg)) hx hb hE.1.2 hS (iv_in ba1 (by decide)) rfl dX9_tookIn_5 ?_
  refine lv_topi (fun x_1 ex_1 => ?_)
  have bx_1 : iv 1 10000 x_1 := by rw [ex_1]; exact pw_iv ba1 (by decide)
  replace hR := tb hR ex_1
  refine lv_idiv hx hb dX9_tookIn_6 (iv_nz bx_1 (by decide)) ?_
  refine lv_topi (fun x_2 ex_2 => ?_)
  have bx_2 : iv 0 9999 x_2 := by rw [ex_2]; exact iv_divv ba0 bx_1 (by decide)
  replace hR := tb hR ex_2
  refine lv_iconst (v := 2) hx hb dX9_tookIn_7 (by decide) ?_
  refine lv_irem hx hb dX9_tookIn_8 (by decide) ?_
  refine lv_topi (fun x_3 ex_3 => ?_)
  have bx_3 : iv 0 1 x_3 := by rw [ex_3]; exact iv_remp bx_2 (k := 2) (by decide) (by decide)
  replace hR := tb hR ex_3
  exact fiI hx hb hr hlk hK hP hD hS dX9_tookIn_9 (Nat.le_of_ble_eq_true rfl) (Nat.le_of_ble_eq_true rfl) (⟨bx_3, (by rw [ex_3, ex_2, ex_1]; rfl), (hR.symm.trans hT0), rfl⟩)
theorem dX9_stacksTogether_0 : decode cX9_stacksTogether 0 = .ok (.iconst 0, 1) := by decide +kernel
theorem dX9_stacksTogether_1 : decode cX9_stacksTogether 1 = .ok (.istore_n 1, 1) := by decide +kernel
theorem dX9_stacksTogether_2 : decode cX9_stacksTogether 2 = .ok (.iconst 0, 1) := by decide +kernel
theorem dX9_stacksTogether_3 : decode cX9_stacksTogether 3 = .ok (.istore_n 2, 1) := by decide +kernel
theorem dX9_stacksTogether_4 : decode cX9_stacksTogether 4 = .ok (.iload_n 2, 1) := by decide +kernel
theorem dX9_stacksTogether_5 : decode cX9_stacksTogether 5 = .ok (.iconst 4, 1) := by decide +kernel
theorem dX9_stacksTogether_6 : decode cX9_stacksTogether 6 = .ok (.if_icmp .ge 17, 3) := by decide +kernel
theorem dX9_stacksTogether_23 : decode cX9_stacksTogether 23 = .ok (.iload_n 1, 1) := by decide +kernel
theorem dX9_stacksTogether_24 : decode cX9_stacksTogether 24 = .ok (.ireturn, 1) := by decide +kernel
theorem dX9_stacksTogether_9 : decode cX9_stacksTogether 9 = .ok (.iload_n 1, 1) := by decide +kernel
theorem dX9_stacksTogether_10 : decode cX9_stacksTogether 10 = .ok (.iload_n 0, 1) := by decide +kernel
theorem dX9_stacksTogether_11 : decode cX9_stacksTogether 11 = .ok (.iload_n 2, 1) := by decide +kernel
theorem q_3_128 : Cond.code yX9_stackIn prog_1_method_13_code 2 (some FieldType.int) ∈ gw := gw_3 (i := 128) (rfl) rfl
theorem q_1_1 : Cond.initialized "BeaconDelay" ∈ gw := gw_1 (i := 1) (by decide +kernel) rfl
theorem q_3_127 : Cond.static yX9_stackIn ∈ gw := gw_3 (i := 127) (by decide +kernel) rfl
theorem mt_X9_stackIn : MtS yX9_stackIn cX9_stackIn 2 (some .int) 2 := ⟨⟨q_3_128, q_1_1, by decide +kernel, by decide +kernel, by decide +kernel⟩, q_3_127⟩
theorem q_3_126 : Cond.methodLink "BeaconDelay" 132 yX9_stackIn ∈ gw := gw_3 (i := 126) (by decide +kernel) rfl
theorem dX9_stacksTogether_12 : decode cX9_stacksTogether 12 = .ok (.invokestatic 132, 3) := by decide +kernel
theorem dX9_stacksTogether_15 : decode cX9_stacksTogether 15 = .ok (.iadd, 1) := by decide +kernel
theorem dX9_stacksTogether_16 : decode cX9_stacksTogether 16 = .ok (.istore_n 1, 1) := by decide +kernel
theorem dX9_stacksTogether_17 : decode cX9_stacksTogether 17 = .ok (.iinc 2 1, 3) := by decide +kernel
theorem dX9_stacksTogether_20 : decode cX9_stacksTogether 20 = .ok (.goto (-16), 3) := by decide +kernel
set_option maxRecDepth 100000 in
noncomputable def B_k_X9_stacksTogether_0_1 (a0 : Int32) (u_1 : Int32) (u_2 : Int32) : (Int32 × Int32) ⊕ (Int32) := if (4 : Int32) ≤ u_1 then (Sum.inr ((u_2))) else (bnd (F_k_X9_stackIn_0 a0 u_1 : Int32) fun (r_7 : Int32) => bnd (u_2 + r_7 : Int32) fun (x_10 : Int32) => bnd (u_1 + 1 : Int32) fun (x_11 : Int32) => Sum.inl (x_11, x_10))
noncomputable def L_k_X9_stacksTogether_0_1 (a0 : Int32) (q9 : Int32 × Int32) : (Int32 × Int32) ⊕ (Int32) := B_k_X9_stacksTogether_0_1 a0 q9.1 q9.2
set_option maxRecDepth 100000 in
noncomputable def F_k_X9_stacksTogether_0 (a0 : Int32) : Int32 := W9 (L_k_X9_stacksTogether_0_1 a0) (0, 0)
set_option maxHeartbeats 4000000 in
set_option maxRecDepth 100000 in
theorem k_X9_stacksTogether_0 (l : Launch) (V : GV) (a0 : Int32) (ba0 : iv 0 9999 a0) : Ct l V yX9_stacksTogether (.code yX9_stacksTogether cX9_stacksTogether 3 (some .int)) 2 [.int a0] [] 0 0 (QI V (fun (r : Int32) (w : va_W) => r = smS a0 4 ∧ r = (F_k_X9_stacksTogether_0 a0) ∧ w = [])) := by
  refine Ct.of (by decide) (Nat.le_of_ble_eq_true rfl) (fun p e s m below meth c A ls hx hb hr hml hown hlk hnm hg hP hK hD hE hA hS hl => ?_)
  have hl : lv_has ls 3 [(0, .int a0)] := hl
  obtain ⟨T0, hT0⟩ : ∃ T9, T9 = F_k_X9_stacksTogether_0 a0 := ⟨_, rfl⟩
  have hR := hT0.trans (F_k_X9_stacksTogether_0.eq_1 ..)
  refine lv_iconst (v := 0) hx hb dX9_stacksTogether_0 (by decide) ?_
  refine lv_istore_n (lv' := [(1, .int 0), (0, .int a0)]) hx hb dX9_stacksTogether_1 rfl hl (by decide) rfl (fun ls hl => ?_)
  refine lv_iconst (v := 0) hx hb dX9_stacksTogether_2 (by decide) ?_
  refine lv_istore_n (lv' := [(2, .int 0), (1, .int 0), (0, .int a0)]) hx hb dX9_stacksTogether_3 rfl hl (by decide) rfl (fun ls hl => ?_)
  refine loopF (X := fun (n_3 : Nat) (H : Heap) (locs : List Loc) (ls : Array Slot) => ∃ (u_1 : Int32) (u_2 : Int32), (iv 0 4 u_1) ∧ (u_2 = smS a0 (u_1 : Int32).toNatClampNeg) ∧ T0 = W9 (L_k_X9_stacksTogether_0_1 a0) (u_1, u_2) ∧ n_3 = (2147483647 - (u_1 : Int32).toInt).toNat ∧ va_P V.1 vwCl [] H ∧ va_D A [] ∧ va_S A s.heap H locs ∧ lv_has ls 3 [(2, .int u_1), (1, .int u_2), (0, .int a0)]) (g := fun ls => F0 m 4 ls []) (fun n_3 H locs ls hX ihn_3 => ?_) _ ⟨0, 0, (iv_c (0 : Int32) (by decide)), rfl, hR, rfl, hP, hD, hS, lv_sub hl [0, 1, 2] rfl⟩
  obtain ⟨u_1, u_2, bu_1, inn_3_0, hR, en_3, hP, hD, hS, hl⟩ := hX
  obtain ⟨Tn_3, hR, hAn_3⟩ := tw hR
  replace hR : Tn_3 = B_k_X9_stacksTogether_0_1 a0 u_1 u_2 := hR
  replace hR := hR.trans (B_k_X9_stacksTogether_0_1.eq_1 ..)
  refine lv_iload_n hx hb dX9_stacksTogether_4 rfl (lv_at hl 0 rfl) ?_
  refine lv_iconst (v := 4) hx hb dX9_stacksTogether_5 (by decide) ?_
  refine lv_icmp_ge (tgt := 23) hx hb dX9_stacksTogether_6 (by decide) (fun c_4 => ?_) (fun c_4 => ?_)
  · replace hR := ti hR c_4
    have b_5 : iv 4 4 u_1 := iv_e2 c_4 (iv_c (4 : Int32) (a := 4) (b := 4) (by decide)) bu_1 (by decide)
    refine lv_iload_n hx hb dX9_stacksTogether_23 rfl (lv_at hl 1 rfl) ?_
    exact fiI hx hb hr hlk hK hP hD hS dX9_stacksTogether_24 (Nat.le_of_ble_eq_true rfl) (Nat.le_of_ble_eq_true rfl) (⟨(s4_e inn_3_0 (by have z_0 := Int32.le_iff_toInt_le.mp c_4; have k_4 : (4 : Int32).toInt = 4 := (by decide); have w_0 := b_5; unfold iv at w_0; omega)), ((tx hAn_3 hR).symm.trans hT0), rfl⟩)
  · replace hR := te hR c_4
    have b_6 : iv 0 3 u_1 := iv_l1 (Int32.not_le.mp c_4) bu_1 (iv_c (4 : Int32) (a := 4) (b := 4) (by decide)) (by decide)
    refine lv_iload_n hx hb dX9_stacksTogether_9 rfl (lv_at hl 1 rfl) ?_
    refine lv_iload_n hx hb dX9_stacksTogether_10 rfl (lv_at hl 2 rfl) ?_
    refine lv_iload_n hx hb dX9_stacksTogether_11 rfl (lv_at hl 0 rfl) ?_
    refine jnI (wr := []) (rnS (rest := [.int u_2]) ⟨hx, hb, hml, hown, hg⟩ (k_X9_stackIn_0 l V a0 u_1 ba0 (iv_w b_6 (by decide))) mt_X9_stackIn q_3_126 ⟨Nat.le_of_ble_eq_true rfl, Nat.le_of_ble_eq_true rfl⟩ hK hP hD hS hA hE [] rfl rfl rfl hl.1 rfl (Nat.le_of_ble_eq_true rfl) dX9_stacksTogether_12 ⟨Nat.le_of_ble_eq_true rfl, Nat.le_of_ble_eq_true rfl⟩) hP hD hS hA [] [] rfl rfl rfl (by decide) (fun r_7 w H locs hw hP hD hS => ?_)
    obtain ⟨br_7, er_7, et_8, rfl⟩ := hw
    replace hR := tb hR et_8
    have hP : va_P V.1 vwCl [] H := hP
    have hD := cpD hP hD
    refine lv_iadd hx hb dX9_stacksTogether_15 ?_
    refine lv_topi (fun x_10 ex_10 => ?_)
    replace hR := tb hR ex_10
    refine lv_istore_n (lv' := [(1, .int x_10), (2, .int u_1), (0, .int a0)]) hx hb dX9_stacksTogether_16 rfl hl (by decide) rfl (fun ls hl => ?_)
    obtain ⟨x_11, ex_11⟩ : ∃ z9 : Int32, z9 = u_1 + 1 := ⟨_, rfl⟩
    have bx_11 : iv 1 4 x_11 := by rw [ex_11]; exact iv_add b_6 (iv_c (1 : Int32) (a := 1) (b := 1) (by decide)) (by decide)
    replace hR := tb hR ex_11
    refine lv_iinc (v := x_11) (lv' := [(2, .int x_11), (1, .int x_10), (0, .int a0)]) hx hb dX9_stacksTogether_17 hl (k := 1) rfl (by rw [ex_11]; rfl) (by decide) rfl (fun ls hl => ?_)
    refine lv_goto (tgt := 4) hx hb dX9_stacksTogether_20 (by decide) ?_
    exact ihn_3 _ _ _ _ (by rw [en_3, ex_11]; exact mu_up b_6 (by decide)) ⟨x_11, x_10, (iv_w bx_11 (by decide)), (sm_s inn_3_0 b_6 (by decide) ex_11 er_7 ex_10), (tbk hAn_3 hR), rfl, hP, hD, hS, lv_sub hl [0, 1, 2] rfl⟩
theorem dX9_tookBits_0 : decode cX9_tookBits 0 = .ok (.iconst 0, 1) := by decide +kernel
theorem dX9_tookBits_1 : decode cX9_tookBits 1 = .ok (.istore_n 1, 1) := by decide +kernel
theorem dX9_tookBits_2 : decode cX9_tookBits 2 = .ok (.iconst 0, 1) := by decide +kernel
theorem dX9_tookBits_3 : decode cX9_tookBits 3 = .ok (.istore_n 2, 1) := by decide +kernel
theorem dX9_tookBits_4 : decode cX9_tookBits 4 = .ok (.iload_n 2, 1) := by decide +kernel
theorem dX9_tookBits_5 : decode cX9_tookBits 5 = .ok (.iconst 4, 1) := by decide +kernel
theorem dX9_tookBits_6 : decode cX9_tookBits 6 = .ok (.if_icmp .ge 19, 3) := by decide +kernel
theorem dX9_tookBits_25 : decode cX9_tookBits 25 = .ok (.iload_n 1, 1) := by decide +kernel
theorem dX9_tookBits_26 : decode cX9_tookBits 26 = .ok (.ireturn, 1) := by decide +kernel
theorem dX9_tookBits_9 : decode cX9_tookBits 9 = .ok (.iload_n 1, 1) := by decide +kernel
theorem dX9_tookBits_10 : decode cX9_tookBits 10 = .ok (.iload_n 0, 1) := by decide +kernel
theorem dX9_tookBits_11 : decode cX9_tookBits 11 = .ok (.iload_n 2, 1) := by decide +kernel
theorem q_3_132 : Cond.code yX9_tookIn prog_1_method_14_code 2 (some FieldType.int) ∈ gw := gw_3 (i := 132) (rfl) rfl
theorem q_3_131 : Cond.static yX9_tookIn ∈ gw := gw_3 (i := 131) (by decide +kernel) rfl
theorem mt_X9_tookIn : MtS yX9_tookIn cX9_tookIn 2 (some .int) 2 := ⟨⟨q_3_132, q_1_1, by decide +kernel, by decide +kernel, by decide +kernel⟩, q_3_131⟩
theorem q_3_130 : Cond.methodLink "BeaconDelay" 139 yX9_tookIn ∈ gw := gw_3 (i := 130) (by decide +kernel) rfl
theorem dX9_tookBits_12 : decode cX9_tookBits 12 = .ok (.invokestatic 139, 3) := by decide +kernel
theorem dX9_tookBits_15 : decode cX9_tookBits 15 = .ok (.iload_n 2, 1) := by decide +kernel
theorem dX9_tookBits_16 : decode cX9_tookBits 16 = .ok (.ishl, 1) := by decide +kernel
theorem dX9_tookBits_17 : decode cX9_tookBits 17 = .ok (.ior, 1) := by decide +kernel
theorem dX9_tookBits_18 : decode cX9_tookBits 18 = .ok (.istore_n 1, 1) := by decide +kernel
theorem dX9_tookBits_19 : decode cX9_tookBits 19 = .ok (.iinc 2 1, 3) := by decide +kernel
theorem dX9_tookBits_22 : decode cX9_tookBits 22 = .ok (.goto (-18), 3) := by decide +kernel
set_option maxRecDepth 100000 in
noncomputable def B_k_X9_tookBits_0_1 (a0 : Int32) (u_1 : Int32) (u_2 : Int32) : (Int32 × Int32) ⊕ (Int32) := if (4 : Int32) ≤ u_1 then (Sum.inr ((u_2))) else (bnd (F_k_X9_tookIn_0 a0 u_1 : Int32) fun (r_7 : Int32) => bnd (r_7 <<< (u_1 &&& 31) : Int32) fun (x_10 : Int32) => bnd (u_2 ||| x_10 : Int32) fun (x_11 : Int32) => bnd (u_1 + 1 : Int32) fun (x_12 : Int32) => Sum.inl (x_12, x_11))
noncomputable def L_k_X9_tookBits_0_1 (a0 : Int32) (q9 : Int32 × Int32) : (Int32 × Int32) ⊕ (Int32) := B_k_X9_tookBits_0_1 a0 q9.1 q9.2
set_option maxRecDepth 100000 in
noncomputable def F_k_X9_tookBits_0 (a0 : Int32) : Int32 := W9 (L_k_X9_tookBits_0_1 a0) (0, 0)
set_option maxHeartbeats 4000000 in
set_option maxRecDepth 100000 in
theorem k_X9_tookBits_0 (l : Launch) (V : GV) (a0 : Int32) (ba0 : iv 0 9999 a0) : Ct l V yX9_tookBits (.code yX9_tookBits cX9_tookBits 3 (some .int)) 2 [.int a0] [] 0 0 (QI V (fun (r : Int32) (w : va_W) => r = tbS a0 4 ∧ r = (F_k_X9_tookBits_0 a0) ∧ w = [])) := by
  refine Ct.of (by decide) (Nat.le_of_ble_eq_true rfl) (fun p e s m below meth c A ls hx hb hr hml hown hlk hnm hg hP hK hD hE hA hS hl => ?_)
  have hl : lv_has ls 3 [(0, .int a0)] := hl
  obtain ⟨T0, hT0⟩ : ∃ T9, T9 = F_k_X9_tookBits_0 a0 := ⟨_, rfl⟩
  have hR := hT0.trans (F_k_X9_tookBits_0.eq_1 ..)
  refine lv_iconst (v := 0) hx hb dX9_tookBits_0 (by decide) ?_
  refine lv_istore_n (lv' := [(1, .int 0), (0, .int a0)]) hx hb dX9_tookBits_1 rfl hl (by decide) rfl (fun ls hl => ?_)
  refine lv_iconst (v := 0) hx hb dX9_tookBits_2 (by decide) ?_
  refine lv_istore_n (lv' := [(2, .int 0), (1, .int 0), (0, .int a0)]) hx hb dX9_tookBits_3 rfl hl (by decide) rfl (fun ls hl => ?_)
  refine loopF (X := fun (n_3 : Nat) (H : Heap) (locs : List Loc) (ls : Array Slot) => ∃ (u_1 : Int32) (u_2 : Int32), (iv 0 4 u_1) ∧ (u_2 = tbS a0 (u_1 : Int32).toNatClampNeg) ∧ T0 = W9 (L_k_X9_tookBits_0_1 a0) (u_1, u_2) ∧ n_3 = (2147483647 - (u_1 : Int32).toInt).toNat ∧ va_P V.1 vwCl [] H ∧ va_D A [] ∧ va_S A s.heap H locs ∧ lv_has ls 3 [(2, .int u_1), (1, .int u_2), (0, .int a0)]) (g := fun ls => F0 m 4 ls []) (fun n_3 H locs ls hX ihn_3 => ?_) _ ⟨0, 0, (iv_c (0 : Int32) (by decide)), rfl, hR, rfl, hP, hD, hS, lv_sub hl [0, 1, 2] rfl⟩
  obtain ⟨u_1, u_2, bu_1, inn_3_0, hR, en_3, hP, hD, hS, hl⟩ := hX
  obtain ⟨Tn_3, hR, hAn_3⟩ := tw hR
  replace hR : Tn_3 = B_k_X9_tookBits_0_1 a0 u_1 u_2 := hR
  replace hR := hR.trans (B_k_X9_tookBits_0_1.eq_1 ..)
  refine lv_iload_n hx hb dX9_tookBits_4 rfl (lv_at hl 0 rfl) ?_
  refine lv_iconst (v := 4) hx hb dX9_tookBits_5 (by decide) ?_
  refine lv_icmp_ge (tgt := 25) hx hb dX9_tookBits_6 (by decide) (fun c_4 => ?_) (fun c_4 => ?_)
  · replace hR := ti hR c_4
    have b_5 : iv 4 4 u_1 := iv_e2 c_4 (iv_c (4 : Int32) (a := 4) (b := 4) (by decide)) bu_1 (by decide)
    refine lv_iload_n hx hb dX9_tookBits_25 rfl (lv_at hl 1 rfl) ?_
    exact fiI hx hb hr hlk hK hP hD hS dX9_tookBits_26 (Nat.le_of_ble_eq_true rfl) (Nat.le_of_ble_eq_true rfl) (⟨(s4_e inn_3_0 (by have z_0 := Int32.le_iff_toInt_le.mp c_4; have k_4 : (4 : Int32).toInt = 4 := (by decide); have w_0 := b_5; unfold iv at w_0; omega)), ((tx hAn_3 hR).symm.trans hT0), rfl⟩)
  · replace hR := te hR c_4
    have b_6 : iv 0 3 u_1 := iv_l1 (Int32.not_le.mp c_4) bu_1 (iv_c (4 : Int32) (a := 4) (b := 4) (by decide)) (by decide)
    refine lv_iload_n hx hb dX9_tookBits_9 rfl (lv_at hl 1 rfl) ?_
    refine lv_iload_n hx hb dX9_tookBits_10 rfl (lv_at hl 2 rfl) ?_
    refine lv_iload_n hx hb dX9_tookBits_11 rfl (lv_at hl 0 rfl) ?_
    refine jnI (wr := []) (rnS (rest := [.int u_2]) ⟨hx, hb, hml, hown, hg⟩ (k_X9_tookIn_0 l V a0 u_1 ba0 (iv_w b_6 (by decide))) mt_X9_tookIn q_3_130 ⟨Nat.le_of_ble_eq_true rfl, Nat.le_of_ble_eq_true rfl⟩ hK hP hD hS hA hE [] rfl rfl rfl hl.1 rfl (Nat.le_of_ble_eq_true rfl) dX9_tookBits_12 ⟨Nat.le_of_ble_eq_true rfl, Nat.le_of_ble_eq_true rfl⟩) hP hD hS hA [] [] rfl rfl rfl (by decide) (fun r_7 w H locs hw hP hD hS => ?_)
    obtain ⟨br_7, er_7, et_8, rfl⟩ := hw
    replace hR := tb hR et_8
    have hP : va_P V.1 vwCl [] H := hP
    have hD := cpD hP hD
    refine lv_iload_n hx hb dX9_tookBits_15 rfl (lv_at hl 0 rfl) ?_
    refine lv_ishl hx hb dX9_tookBits_16 ?_
    refine lv_topi (fun x_10 ex_10 => ?_)
    replace hR := tb hR ex_10
    refine lv_ior hx hb dX9_tookBits_17 ?_
    refine lv_topi (fun x_11 ex_11 => ?_)
    replace hR := tb hR ex_11
    refine lv_istore_n (lv' := [(1, .int x_11), (2, .int u_1), (0, .int a0)]) hx hb dX9_tookBits_18 rfl hl (by decide) rfl (fun ls hl => ?_)
    obtain ⟨x_12, ex_12⟩ : ∃ z9 : Int32, z9 = u_1 + 1 := ⟨_, rfl⟩
    have bx_12 : iv 1 4 x_12 := by rw [ex_12]; exact iv_add b_6 (iv_c (1 : Int32) (a := 1) (b := 1) (by decide)) (by decide)
    replace hR := tb hR ex_12
    refine lv_iinc (v := x_12) (lv' := [(2, .int x_12), (1, .int x_11), (0, .int a0)]) hx hb dX9_tookBits_19 hl (k := 1) rfl (by rw [ex_12]; rfl) (by decide) rfl (fun ls hl => ?_)
    refine lv_goto (tgt := 4) hx hb dX9_tookBits_22 (by decide) ?_
    exact ihn_3 _ _ _ _ (by rw [en_3, ex_12]; exact mu_up b_6 (by decide)) ⟨x_12, x_11, (iv_w bx_12 (by decide)), (tb_s inn_3_0 b_6 (by decide) ex_12 er_7 ex_10 ex_11), (tbk hAn_3 hR), rfl, hP, hD, hS, lv_sub hl [0, 1, 2] rfl⟩
theorem dX9_stacksAlone_0 : decode cX9_stacksAlone 0 = .ok (.iload_n 0, 1) := by decide +kernel
theorem dX9_stacksAlone_1 : decode cX9_stacksAlone 1 = .ok (.istore_n 1, 1) := by decide +kernel
theorem dX9_stacksAlone_2 : decode cX9_stacksAlone 2 = .ok (.iconst 0, 1) := by decide +kernel
theorem dX9_stacksAlone_3 : decode cX9_stacksAlone 3 = .ok (.istore_n 2, 1) := by decide +kernel
theorem dX9_stacksAlone_4 : decode cX9_stacksAlone 4 = .ok (.iload_n 2, 1) := by decide +kernel
theorem dX9_stacksAlone_5 : decode cX9_stacksAlone 5 = .ok (.iconst 4, 1) := by decide +kernel
theorem dX9_stacksAlone_6 : decode cX9_stacksAlone 6 = .ok (.if_icmp .ge 23, 3) := by decide +kernel
theorem dX9_stacksAlone_29 : decode cX9_stacksAlone 29 = .ok (.iload_n 1, 1) := by decide +kernel
theorem dX9_stacksAlone_30 : decode cX9_stacksAlone 30 = .ok (.ireturn, 1) := by decide +kernel
theorem dX9_stacksAlone_9 : decode cX9_stacksAlone 9 = .ok (.iload_n 1, 1) := by decide +kernel
theorem dX9_stacksAlone_10 : decode cX9_stacksAlone 10 = .ok (.iload_n 0, 1) := by decide +kernel
theorem dX9_stacksAlone_11 : decode cX9_stacksAlone 11 = .ok (.iload_n 2, 1) := by decide +kernel
theorem dX9_stacksAlone_12 : decode cX9_stacksAlone 12 = .ok (.invokestatic 139, 3) := by decide +kernel
theorem dX9_stacksAlone_15 : decode cX9_stacksAlone 15 = .ok (.getstatic 162, 3) := by decide +kernel
theorem dX9_stacksAlone_18 : decode cX9_stacksAlone 18 = .ok (.iload_n 2, 1) := by decide +kernel
theorem dX9_stacksAlone_19 : decode cX9_stacksAlone 19 = .ok (.iaload, 1) := by decide +kernel
theorem dX9_stacksAlone_20 : decode cX9_stacksAlone 20 = .ok (.imul, 1) := by decide +kernel
theorem dX9_stacksAlone_21 : decode cX9_stacksAlone 21 = .ok (.isub, 1) := by decide +kernel
theorem dX9_stacksAlone_22 : decode cX9_stacksAlone 22 = .ok (.istore_n 1, 1) := by decide +kernel
theorem dX9_stacksAlone_23 : decode cX9_stacksAlone 23 = .ok (.iinc 2 1, 3) := by decide +kernel
theorem dX9_stacksAlone_26 : decode cX9_stacksAlone 26 = .ok (.goto (-22), 3) := by decide +kernel
set_option maxHeartbeats 4000000 in
set_option maxRecDepth 100000 in
theorem k_X9_stacksAlone_0 (l : Launch) (V : GV) (a0 : Int32) (ba0 : iv 0 9999 a0) : Ct l V yX9_stacksAlone (.code yX9_stacksAlone cX9_stacksAlone 3 (some .int)) 2 [.int a0] [] 0 0 (QI V (fun (r : Int32) (w : va_W) => w = [])) := by
  refine Ct.of (by decide) (Nat.le_of_ble_eq_true rfl) (fun p e s m below meth c A ls hx hb hr hml hown hlk hnm hg hP hK hD hE hA hS hl => ?_)
  have hl : lv_has ls 3 [(0, .int a0)] := hl
  refine lv_iload_n hx hb dX9_stacksAlone_0 rfl (lv_at hl 0 rfl) ?_
  refine lv_istore_n (lv' := [(1, .int a0), (0, .int a0)]) hx hb dX9_stacksAlone_1 rfl hl (by decide) rfl (fun ls hl => ?_)
  refine lv_iconst (v := 0) hx hb dX9_stacksAlone_2 (by decide) ?_
  refine lv_istore_n (lv' := [(2, .int 0), (1, .int a0), (0, .int a0)]) hx hb dX9_stacksAlone_3 rfl hl (by decide) rfl (fun ls hl => ?_)
  refine loopF (X := fun (n_3 : Nat) (H : Heap) (locs : List Loc) (ls : Array Slot) => ∃ (u_1 : Int32) (u_2 : Int32), (iv 0 2147483647 u_1) ∧ n_3 = (2147483647 - (u_1 : Int32).toInt).toNat ∧ va_P V.1 vwCl [] H ∧ va_D A [] ∧ va_S A s.heap H locs ∧ lv_has ls 3 [(2, .int u_1), (1, .int u_2), (0, .int a0)]) (g := fun ls => F0 m 4 ls []) (fun n_3 H locs ls hX ihn_3 => ?_) _ ⟨0, a0, (iv_c (0 : Int32) (by decide)), rfl, hP, hD, hS, lv_sub hl [0, 1, 2] rfl⟩
  obtain ⟨u_1, u_2, bu_1, en_3, hP, hD, hS, hl⟩ := hX
  refine lv_iload_n hx hb dX9_stacksAlone_4 rfl (lv_at hl 0 rfl) ?_
  refine lv_iconst (v := 4) hx hb dX9_stacksAlone_5 (by decide) ?_
  refine lv_icmp_ge (tgt := 29) hx hb dX9_stacksAlone_6 (by decide) (fun c_4 => ?_) (fun c_4 => ?_)
  · have b_5 : iv 4 2147483647 u_1 := iv_e2 c_4 (iv_c (4 : Int32) (a := 4) (b := 4) (by decide)) bu_1 (by decide)
    refine lv_iload_n hx hb dX9_stacksAlone_29 rfl (lv_at hl 1 rfl) ?_
    exact fiI hx hb hr hlk hK hP hD hS dX9_stacksAlone_30 (Nat.le_of_ble_eq_true rfl) (Nat.le_of_ble_eq_true rfl) (rfl)
  · have b_6 : iv 0 3 u_1 := iv_l1 (Int32.not_le.mp c_4) bu_1 (iv_c (4 : Int32) (a := 4) (b := 4) (by decide)) (by decide)
    refine lv_iload_n hx hb dX9_stacksAlone_9 rfl (lv_at hl 1 rfl) ?_
    refine lv_iload_n hx hb dX9_stacksAlone_10 rfl (lv_at hl 2 rfl) ?_
    refine lv_iload_n hx hb dX9_stacksAlone_11 rfl (lv_at hl 0 rfl) ?_
    refine jnI (wr := []) (rnS (rest := [.int u_2]) ⟨hx, hb, hml, hown, hg⟩ (k_X9_tookIn_0 l V a0 u_1 ba0 (iv_w b_6 (by decide))) mt_X9_tookIn q_3_130 ⟨Nat.le_of_ble_eq_true rfl, Nat.le_of_ble_eq_true rfl⟩ hK hP hD hS hA hE [] rfl rfl rfl hl.1 rfl (Nat.le_of_ble_eq_true rfl) dX9_stacksAlone_12 ⟨Nat.le_of_ble_eq_true rfl, Nat.le_of_ble_eq_true rfl⟩) hP hD hS hA [] [] rfl rfl rfl (by decide) (fun r_7 w H locs hw hP hD hS => ?_)
    obtain ⟨br_7, er_7, et_8, rfl⟩ := hw
    have hP : va_P V.1 vwCl [] H := hP
    have hD := cpD hP hD
    refine va_gets hx hb hE.1.1 hS hown (hg _ q_3_129) (fun _ h9 => h9) dX9_stacksAlone_15 ?_
    refine lv_iload_n hx hb dX9_stacksAlone_18 rfl (lv_at hl 0 rfl) ?_
    refine va_ti (v := .int (pw u_1.toNatClampNeg)) hx hb hE.1.2 hS (iv_in b_6 (by decide)) rfl dX9_stacksAlone_19 ?_
    refine lv_topi (fun x_9 ex_9 => ?_)
    have bx_9 : iv 1 10000 x_9 := by rw [ex_9]; exact pw_iv b_6 (by decide)
    refine lv_imul hx hb dX9_stacksAlone_20 ?_
    refine lv_topi (fun x_10 ex_10 => ?_)
    refine lv_isub hx hb dX9_stacksAlone_21 ?_
    refine lv_topi (fun x_11 ex_11 => ?_)
    refine lv_istore_n (lv' := [(1, .int x_11), (2, .int u_1), (0, .int a0)]) hx hb dX9_stacksAlone_22 rfl hl (by decide) rfl (fun ls hl => ?_)
    obtain ⟨x_12, ex_12⟩ : ∃ z9 : Int32, z9 = u_1 + 1 := ⟨_, rfl⟩
    have bx_12 : iv 1 4 x_12 := by rw [ex_12]; exact iv_add b_6 (iv_c (1 : Int32) (a := 1) (b := 1) (by decide)) (by decide)
    refine lv_iinc (v := x_12) (lv' := [(2, .int x_12), (1, .int x_11), (0, .int a0)]) hx hb dX9_stacksAlone_23 hl (k := 1) rfl (by rw [ex_12]; rfl) (by decide) rfl (fun ls hl => ?_)
    refine lv_goto (tgt := 4) hx hb dX9_stacksAlone_26 (by decide) ?_
    exact ihn_3 _ _ _ _ (by rw [en_3, ex_12]; exact mu_up b_6 (by decide)) ⟨x_12, x_11, (iv_w bx_12 (by decide)), rfl, hP, hD, hS, lv_sub hl [0, 1, 2] rfl⟩
theorem dX9_hill_0 : decode cX9_hill 0 = .ok (.aload_n 0, 1) := by decide +kernel
theorem dX9_hill_1 : decode cX9_hill 1 = .ok (.iload_n 1, 1) := by decide +kernel
theorem q_3_125 : Cond.code yX9_isHill prog_1_method_11_code 2 (some FieldType.boolean) ∈ gw := gw_3 (i := 125) (rfl) rfl
theorem q_3_124 : Cond.instanceMethod yX9_isHill ∈ gw := gw_3 (i := 124) (by decide +kernel) rfl
theorem q_s_23 : Cond.selects "BeaconDelay" yX9_isHill yX9_isHill ∈ gw := gw_s (i := 23) (by decide +kernel) rfl
theorem mt_X9_isHill : MtV yX9_isHill cX9_isHill 2 (some .boolean) 1 := ⟨⟨q_3_125, q_1_1, by decide +kernel, by decide +kernel, by decide +kernel⟩, q_3_124, q_s_23⟩
theorem q_3_122 : Cond.methodLink "BeaconDelay" 128 yX9_isHill ∈ gw := gw_3 (i := 122) (by decide +kernel) rfl
theorem dX9_hill_2 : decode cX9_hill 2 = .ok (.invokevirtual 128, 3) := by decide +kernel
theorem dX9_hill_5 : decode cX9_hill 5 = .ok (.ifCond .ne 6, 3) := by decide +kernel
theorem dX9_hill_8 : decode cX9_hill 8 = .ok (.bipush (-2), 2) := by decide +kernel
theorem dX9_hill_10 : decode cX9_hill 10 = .ok (.ireturn, 1) := by decide +kernel
theorem dX9_hill_11 : decode cX9_hill 11 = .ok (.iload_n 2, 1) := by decide +kernel
theorem dX9_hill_12 : decode cX9_hill 12 = .ok (.tableswitch 70 0 3 #[32, 41, 51, 60], 32) := by decide +kernel
theorem dX9_hill_44 : decode cX9_hill 44 = .ok (.aload_n 0, 1) := by decide +kernel
theorem q_2_48 : Cond.fieldLink "BeaconDelay" 113 "BeaconDelay" "standing" "I" ∈ gw := gw_2 (i := 48) (by decide +kernel) rfl
theorem dX9_hill_45 : decode cX9_hill 45 = .ok (.getfield 113, 3) := by decide +kernel
theorem dX9_hill_48 : decode cX9_hill 48 = .ok (.iload_n 1, 1) := by decide +kernel
theorem dX9_hill_49 : decode cX9_hill 49 = .ok (.invokestatic 132, 3) := by decide +kernel
theorem dX9_hill_52 : decode cX9_hill 52 = .ok (.ireturn, 1) := by decide +kernel
theorem dX9_hill_53 : decode cX9_hill 53 = .ok (.aload_n 0, 1) := by decide +kernel
theorem dX9_hill_54 : decode cX9_hill 54 = .ok (.getfield 16, 3) := by decide +kernel
theorem q_1_57 : Cond.fieldLink "BeaconDelay" 136 "BeaconDelay$Coast" "fear" "[I" ∈ gw := gw_1 (i := 57) (by decide +kernel) rfl
theorem dX9_hill_57 : decode cX9_hill 57 = .ok (.getfield 136, 3) := by decide +kernel
theorem dX9_hill_60 : decode cX9_hill 60 = .ok (.iload_n 1, 1) := by decide +kernel
theorem dX9_hill_61 : decode cX9_hill 61 = .ok (.iaload, 1) := by decide +kernel
theorem dX9_hill_62 : decode cX9_hill 62 = .ok (.ireturn, 1) := by decide +kernel
theorem dX9_hill_63 : decode cX9_hill 63 = .ok (.aload_n 0, 1) := by decide +kernel
theorem dX9_hill_64 : decode cX9_hill 64 = .ok (.getfield 113, 3) := by decide +kernel
theorem dX9_hill_67 : decode cX9_hill 67 = .ok (.iload_n 1, 1) := by decide +kernel
theorem dX9_hill_68 : decode cX9_hill 68 = .ok (.invokestatic 139, 3) := by decide +kernel
theorem dX9_hill_71 : decode cX9_hill 71 = .ok (.ireturn, 1) := by decide +kernel
theorem dX9_hill_72 : decode cX9_hill 72 = .ok (.aload_n 0, 1) := by decide +kernel
theorem dX9_hill_73 : decode cX9_hill 73 = .ok (.getfield 16, 3) := by decide +kernel
theorem q_1_60 : Cond.fieldLink "BeaconDelay" 142 "BeaconDelay$Coast" "gap" "[I" ∈ gw := gw_1 (i := 60) (by decide +kernel) rfl
theorem dX9_hill_76 : decode cX9_hill 76 = .ok (.getfield 142, 3) := by decide +kernel
theorem dX9_hill_79 : decode cX9_hill 79 = .ok (.iload_n 1, 1) := by decide +kernel
theorem dX9_hill_80 : decode cX9_hill 80 = .ok (.iaload, 1) := by decide +kernel
theorem dX9_hill_81 : decode cX9_hill 81 = .ok (.ireturn, 1) := by decide +kernel
theorem dX9_hill_82 : decode cX9_hill 82 = .ok (.bipush (-2), 2) := by decide +kernel
theorem dX9_hill_84 : decode cX9_hill 84 = .ok (.ireturn, 1) := by decide +kernel
set_option maxRecDepth 100000 in
noncomputable def F_k_X9_hill_0 (a1 : Int32) (a2 : Int32) (py0_12 : Int32) (py2_1 : Int32) (fy3 : Nat → Int32) (fy4 : Nat → Int32) : Int32 := if F_k_X9_isHill_0 a1 py2_1 = 0 then ((((-2) : Int32))) else (if F_k_X9_isHill_0 a1 py2_1 = 1 then ((((-2) : Int32))) else (if a2 = 0 then (bnd (F_k_X9_stackIn_0 py0_12 a1 : Int32) fun (r_22 : Int32) => (r_22)) else (if a2 = 1 then (bnd (fy3 (a1 : Int32).toNatClampNeg : Int32) fun (x_26 : Int32) => (x_26)) else (if a2 = 2 then (bnd (F_k_X9_tookIn_0 py0_12 a1 : Int32) fun (r_28 : Int32) => (r_28)) else (if a2 = 3 then (bnd (fy4 (a1 : Int32).toNatClampNeg : Int32) fun (x_32 : Int32) => (x_32)) else ((((-2) : Int32))))))))
set_option maxHeartbeats 4000000 in
set_option maxRecDepth 100000 in
theorem k_X9_hill_0 (l : Launch) (V : GV) (y : Nat → Nat) (a1 : Int32) (a2 : Int32) (py0_1 : Int32) (o10 : Value) (o11 : Value) (py0_12 : Int32) (py0_13 : Int32) (py0_14 : Int32) (py2_0 : Int32) (py2_1 : Int32) (py2_2 : Int32) (py2_3 : Int32) (py2_4 : Int32) (py2_5 : Int32) (py2_13 : Int32) (py2_14 : Int32) (py2_15 : Int32) (py2_16 : Int32) (py2_17 : Int32) (fy3 : Nat → Int32) (fy4 : Nat → Int32) (bpy0_1 : iv 0 900 py0_1) (bpy0_12 : iv 0 9999 py0_12) (bpy0_13 : iv 0 9 py0_13) (bpy2_1 : iv 0 4 py2_1) (bpy2_2 : iv 0 4 py2_2) (bpy2_3 : iv 0 8 py2_3) (bpy2_4 : iv 0 9999 py2_4) (bpy2_5 : iv 0 9 py2_5) (bpy2_13 : iv 0 900 py2_13) (bpy2_14 : iv 0 900 py2_14) (bpy2_15 : iv 0 900 py2_15) (bpy2_16 : iv 0 900 py2_16) (bpy2_17 : iv 0 900 py2_17) : Ct l V yX9_hill (.code yX9_hill cX9_hill 3 (some .int)) 2 [.ref (y 0), .int a1, .int a2] [(y 0, .inr (9, o9_rirrrrrrrrvviii (y 1) py0_1 (y 2) (y 10) (y 19) (y 25) (y 26) (y 30) (y 31) (y 32) o10 o11 py0_12 py0_13 py0_14)), (y 2, .inr (1, o1_iiiiiirrrrrrriiiii py2_0 py2_1 py2_2 py2_3 py2_4 py2_5 (y 3) (y 4) (y 5) (y 6) (y 7) (y 8) (y 9) py2_13 py2_14 py2_15 py2_16 py2_17)), (y 3, aI V 4 fy3), (y 4, aI V 4 fy4)] 0 0 (QI V (fun (r : Int32) (w : va_W) => r = (F_k_X9_hill_0 a1 a2 py0_12 py2_1 fy3 fy4) ∧ w = [(y 0, .inr (9, o9_rirrrrrrrrvviii (y 1) py0_1 (y 2) (y 10) (y 19) (y 25) (y 26) (y 30) (y 31) (y 32) o10 o11 py0_12 py0_13 py0_14)), (y 2, .inr (1, o1_iiiiiirrrrrrriiiii py2_0 py2_1 py2_2 py2_3 py2_4 py2_5 (y 3) (y 4) (y 5) (y 6) (y 7) (y 8) (y 9) py2_13 py2_14 py2_15 py2_16 py2_17)), (y 3, aI V 4 fy3), (y 4, aI V 4 fy4)])) := by
  refine Ct.of (by decide) (Nat.le_of_ble_eq_true rfl) (fun p e s m below meth c A ls hx hb hr hml hown hlk hnm hg hP hK hD hE hA hS hl => ?_)
  have hl : lv_has ls 3 [(0, .ref (y 0)), (1, .int a1), (2, .int a2)] := hl
  obtain ⟨T0, hT0⟩ : ∃ T9, T9 = F_k_X9_hill_0 a1 a2 py0_12 py2_1 fy3 fy4 := ⟨_, rfl⟩
  have hR := hT0.trans (F_k_X9_hill_0.eq_1 ..)
  refine lv_aload_n hx hb dX9_hill_0 rfl (lv_at hl 0 rfl) ?_
  refine lv_iload_n hx hb dX9_hill_1 rfl (lv_at hl 1 rfl) ?_
  refine jnI (wr := [(y 3, aI V 4 fy3), (y 4, aI V 4 fy4)]) (rnV (rest := []) ⟨hx, hb, hml, hown, hg⟩ (k_X9_isHill_0 l V y a1 py0_1 o10 o11 py0_12 py0_13 py0_14 py2_0 py2_1 py2_2 py2_3 py2_4 py2_5 py2_13 py2_14 py2_15 py2_16 py2_17 bpy0_1 bpy0_12 bpy0_13 bpy2_1 bpy2_2 bpy2_3 bpy2_4 bpy2_5 bpy2_13 bpy2_14 bpy2_15 bpy2_16 bpy2_17) mt_X9_isHill q_3_122 ⟨Nat.le_of_ble_eq_true rfl, Nat.le_of_ble_eq_true rfl⟩ hK hP hD hS hA hE [0, 1] rfl rfl 0 rfl rfl rfl rfl hl.1 rfl (Nat.le_of_ble_eq_true rfl) dX9_hill_2 ⟨Nat.le_of_ble_eq_true rfl, Nat.le_of_ble_eq_true rfl⟩) hP hD hS hA [0, 1] [2, 3] rfl rfl rfl (by decide) (fun r_1 w H locs hw hP hD hS => ?_)
  rcases hw with ⟨c_2, rfl, et_3, rfl⟩ | ⟨c_4, c_5, rfl, et_6, rfl⟩ | ⟨c_7, c_8, rfl, et_9, rfl⟩
  · have hP : va_P V.1 vwCl [(y 3, aI V 4 fy3), (y 4, aI V 4 fy4), (y 0, .inr (9, o9_rirrrrrrrrvviii (y 1) py0_1 (y 2) (y 10) (y 19) (y 25) (y 26) (y 30) (y 31) (y 32) o10 o11 py0_12 py0_13 py0_14)), (y 2, .inr (1, o1_iiiiiirrrrrrriiiii py2_0 py2_1 py2_2 py2_3 py2_4 py2_5 (y 3) (y 4) (y 5) (y 6) (y 7) (y 8) (y 9) py2_13 py2_14 py2_15 py2_16 py2_17))] H := hP
    have hD := cpD hP hD
    replace hR := ti hR et_3.symm
    have b_10 : iv (-2147483648) (-1) a1 := iv_l1 c_2 (iv_top a1) (iv_c (0 : Int32) (a := 0) (b := 0) (by decide)) (by decide)
    refine lv_if_ne (tgt := 11) hx hb dX9_hill_5 (by decide) (fun c_12 => absurd c_12 (by decide)) (fun _ => ?_)
    refine lv_bipush (v := (-2)) hx hb dX9_hill_8 (by decide) ?_
    have hP := subP (ws' := [(y 0, .inr (9, o9_rirrrrrrrrvviii (y 1) py0_1 (y 2) (y 10) (y 19) (y 25) (y 26) (y 30) (y 31) (y 32) o10 o11 py0_12 py0_13 py0_14)), (y 2, .inr (1, o1_iiiiiirrrrrrriiiii py2_0 py2_1 py2_2 py2_3 py2_4 py2_5 (y 3) (y 4) (y 5) (y 6) (y 7) (y 8) (y 9) py2_13 py2_14 py2_15 py2_16 py2_17)), (y 3, aI V 4 fy3), (y 4, aI V 4 fy4)]) hP [2, 3, 0, 1] rfl
    have hD := subD hP hD [2, 3, 0, 1] rfl rfl
    exact fiI hx hb hr hlk hK hP hD hS dX9_hill_10 (Nat.le_of_ble_eq_true rfl) (Nat.le_of_ble_eq_true rfl) (⟨(hR.symm.trans hT0), rfl⟩)
  · have hP : va_P V.1 vwCl [(y 3, aI V 4 fy3), (y 4, aI V 4 fy4), (y 0, .inr (9, o9_rirrrrrrrrvviii (y 1) py0_1 (y 2) (y 10) (y 19) (y 25) (y 26) (y 30) (y 31) (y 32) o10 o11 py0_12 py0_13 py0_14)), (y 2, .inr (1, o1_iiiiiirrrrrrriiiii py2_0 py2_1 py2_2 py2_3 py2_4 py2_5 (y 3) (y 4) (y 5) (y 6) (y 7) (y 8) (y 9) py2_13 py2_14 py2_15 py2_16 py2_17))] H := hP
    have hD := cpD hP hD
    replace hR := te hR (by rw [← et_6]; decide)
    replace hR := ti hR et_6.symm
    have b_13 : iv 0 2147483647 a1 := iv_e2 (Int32.not_lt.mp c_4) (iv_c (0 : Int32) (a := 0) (b := 0) (by decide)) (iv_top a1) (by decide)
    refine lv_if_ne (tgt := 11) hx hb dX9_hill_5 (by decide) (fun c_15 => absurd c_15 (by decide)) (fun _ => ?_)
    refine lv_bipush (v := (-2)) hx hb dX9_hill_8 (by decide) ?_
    have hP := subP (ws' := [(y 0, .inr (9, o9_rirrrrrrrrvviii (y 1) py0_1 (y 2) (y 10) (y 19) (y 25) (y 26) (y 30) (y 31) (y 32) o10 o11 py0_12 py0_13 py0_14)), (y 2, .inr (1, o1_iiiiiirrrrrrriiiii py2_0 py2_1 py2_2 py2_3 py2_4 py2_5 (y 3) (y 4) (y 5) (y 6) (y 7) (y 8) (y 9) py2_13 py2_14 py2_15 py2_16 py2_17)), (y 3, aI V 4 fy3), (y 4, aI V 4 fy4)]) hP [2, 3, 0, 1] rfl
    have hD := subD hP hD [2, 3, 0, 1] rfl rfl
    exact fiI hx hb hr hlk hK hP hD hS dX9_hill_10 (Nat.le_of_ble_eq_true rfl) (Nat.le_of_ble_eq_true rfl) (⟨(hR.symm.trans hT0), rfl⟩)
  · have hP : va_P V.1 vwCl [(y 3, aI V 4 fy3), (y 4, aI V 4 fy4), (y 0, .inr (9, o9_rirrrrrrrrvviii (y 1) py0_1 (y 2) (y 10) (y 19) (y 25) (y 26) (y 30) (y 31) (y 32) o10 o11 py0_12 py0_13 py0_14)), (y 2, .inr (1, o1_iiiiiirrrrrrriiiii py2_0 py2_1 py2_2 py2_3 py2_4 py2_5 (y 3) (y 4) (y 5) (y 6) (y 7) (y 8) (y 9) py2_13 py2_14 py2_15 py2_16 py2_17))] H := hP
    have hD := cpD hP hD
    replace hR := te hR (by rw [← et_9]; decide)
    replace hR := te hR (by rw [← et_9]; decide)
    have b_16 : iv 0 2147483647 a1 := iv_e2 (Int32.not_lt.mp c_7) (iv_c (0 : Int32) (a := 0) (b := 0) (by decide)) (iv_top a1) (by decide)
    have b_17 : iv 0 3 a1 := iv_l1 (Int32.not_le.mp c_8) b_16 bpy2_1 (by decide)
    have b_18 : iv 1 4 py2_1 := iv_l2 (Int32.not_le.mp c_8) b_16 bpy2_1 (by decide)
    refine lv_if_ne (tgt := 11) hx hb dX9_hill_5 (by decide) (fun _ => ?_) (fun c_20 => absurd c_20 (by decide))
    refine lv_iload_n hx hb dX9_hill_11 rfl (lv_at hl 2 rfl) ?_
    by_cases c_21 : a2 = 0
    · refine lv_tableIn (off := 32) (tgt := 44) hx hb dX9_hill_12 (by rw [c_21]; decide) (by rw [c_21]; decide) (by rw [c_21]; rfl) (by decide) ?_
      replace hR := ti hR c_21
      refine lv_aload_n hx hb dX9_hill_44 rfl (lv_at hl 0 rfl) ?_
      refine va_get (ci := 9) (v := .int py0_12) (C := RX9) (T := TX9) (N := 15) hx hb hg inX9 hown hK hP 2 rfl rfl 12 (by decide) (hg _ q_2_48) (fun _ h9 => h9) rfl dX9_hill_45 ?_
      refine lv_iload_n hx hb dX9_hill_48 rfl (lv_at hl 1 rfl) ?_
      refine jnI (wr := [(y 3, aI V 4 fy3), (y 4, aI V 4 fy4), (y 0, .inr (9, o9_rirrrrrrrrvviii (y 1) py0_1 (y 2) (y 10) (y 19) (y 25) (y 26) (y 30) (y 31) (y 32) o10 o11 py0_12 py0_13 py0_14)), (y 2, .inr (1, o1_iiiiiirrrrrrriiiii py2_0 py2_1 py2_2 py2_3 py2_4 py2_5 (y 3) (y 4) (y 5) (y 6) (y 7) (y 8) (y 9) py2_13 py2_14 py2_15 py2_16 py2_17))]) (rnS (rest := []) ⟨hx, hb, hml, hown, hg⟩ (k_X9_stackIn_0 l V py0_12 a1 bpy0_12 (iv_w b_17 (by decide))) mt_X9_stackIn q_3_126 ⟨Nat.le_of_ble_eq_true rfl, Nat.le_of_ble_eq_true rfl⟩ hK hP hD hS hA hE [] rfl rfl rfl hl.1 rfl (Nat.le_of_ble_eq_true rfl) dX9_hill_49 ⟨Nat.le_of_ble_eq_true rfl, Nat.le_of_ble_eq_true rfl⟩) hP hD hS hA [] [0, 1, 2, 3] rfl rfl rfl (by decide) (fun r_22 w H locs hw hP hD hS => ?_)
      obtain ⟨br_22, er_22, et_23, rfl⟩ := hw
      replace hR := tb hR et_23
      have hP : va_P V.1 vwCl [(y 3, aI V 4 fy3), (y 4, aI V 4 fy4), (y 0, .inr (9, o9_rirrrrrrrrvviii (y 1) py0_1 (y 2) (y 10) (y 19) (y 25) (y 26) (y 30) (y 31) (y 32) o10 o11 py0_12 py0_13 py0_14)), (y 2, .inr (1, o1_iiiiiirrrrrrriiiii py2_0 py2_1 py2_2 py2_3 py2_4 py2_5 (y 3) (y 4) (y 5) (y 6) (y 7) (y 8) (y 9) py2_13 py2_14 py2_15 py2_16 py2_17))] H := hP
      have hD := cpD hP hD
      have hP := subP (ws' := [(y 0, .inr (9, o9_rirrrrrrrrvviii (y 1) py0_1 (y 2) (y 10) (y 19) (y 25) (y 26) (y 30) (y 31) (y 32) o10 o11 py0_12 py0_13 py0_14)), (y 2, .inr (1, o1_iiiiiirrrrrrriiiii py2_0 py2_1 py2_2 py2_3 py2_4 py2_5 (y 3) (y 4) (y 5) (y 6) (y 7) (y 8) (y 9) py2_13 py2_14 py2_15 py2_16 py2_17)), (y 3, aI V 4 fy3), (y 4, aI V 4 fy4)]) hP [2, 3, 0, 1] rfl
      have hD := subD hP hD [2, 3, 0, 1] rfl rfl
      exact fiI hx hb hr hlk hK hP hD hS dX9_hill_52 (Nat.le_of_ble_eq_true rfl) (Nat.le_of_ble_eq_true rfl) (⟨(hR.symm.trans hT0), rfl⟩)
    · replace hR := te hR c_21
      by_cases c_25 : a2 = 1
      · refine lv_tableIn (off := 41) (tgt := 53) hx hb dX9_hill_12 (by rw [c_25]; decide) (by rw [c_25]; decide) (by rw [c_25]; rfl) (by decide) ?_
        replace hR := ti hR c_25
        refine lv_aload_n hx hb dX9_hill_53 rfl (lv_at hl 0 rfl) ?_
        refine va_get (ci := 9) (v := .ref (y 2)) (C := RX9) (T := TX9) (N := 15) hx hb hg inX9 hown hK hP 2 rfl rfl 2 (by decide) (hg _ q_2_38) (fun _ h9 => h9) rfl dX9_hill_54 ?_
        refine va_get (ci := 1) (v := .ref (y 3)) (C := RX1) (T := TX1) (N := 18) hx hb hg inX1 hown hK hP 3 rfl rfl 6 (by decide) (hg _ q_1_57) (fun _ h9 => h9) rfl dX9_hill_57 ?_
        refine lv_iload_n hx hb dX9_hill_60 rfl (lv_at hl 1 rfl) ?_
        refine va_iald hx hb hK hP 0 0 rfl rfl (iv_in b_17 (by decide)) dX9_hill_61 ?_
        refine lv_topi (fun x_26 ex_26 => ?_)
        replace hR := tb hR ex_26
        have hP := subP (ws' := [(y 0, .inr (9, o9_rirrrrrrrrvviii (y 1) py0_1 (y 2) (y 10) (y 19) (y 25) (y 26) (y 30) (y 31) (y 32) o10 o11 py0_12 py0_13 py0_14)), (y 2, .inr (1, o1_iiiiiirrrrrrriiiii py2_0 py2_1 py2_2 py2_3 py2_4 py2_5 (y 3) (y 4) (y 5) (y 6) (y 7) (y 8) (y 9) py2_13 py2_14 py2_15 py2_16 py2_17)), (y 3, aI V 4 fy3), (y 4, aI V 4 fy4)]) hP [2, 3, 0, 1] rfl
        have hD := subD hP hD [2, 3, 0, 1] rfl rfl
        exact fiI hx hb hr hlk hK hP hD hS dX9_hill_62 (Nat.le_of_ble_eq_true rfl) (Nat.le_of_ble_eq_true rfl) (⟨(hR.symm.trans hT0), rfl⟩)
      · replace hR := te hR c_25
        by_cases c_27 : a2 = 2
        · refine lv_tableIn (off := 51) (tgt := 63) hx hb dX9_hill_12 (by rw [c_27]; decide) (by rw [c_27]; decide) (by rw [c_27]; rfl) (by decide) ?_
          replace hR := ti hR c_27
          refine lv_aload_n hx hb dX9_hill_63 rfl (lv_at hl 0 rfl) ?_
          refine va_get (ci := 9) (v := .int py0_12) (C := RX9) (T := TX9) (N := 15) hx hb hg inX9 hown hK hP 2 rfl rfl 12 (by decide) (hg _ q_2_48) (fun _ h9 => h9) rfl dX9_hill_64 ?_
          refine lv_iload_n hx hb dX9_hill_67 rfl (lv_at hl 1 rfl) ?_
          refine jnI (wr := [(y 3, aI V 4 fy3), (y 4, aI V 4 fy4), (y 0, .inr (9, o9_rirrrrrrrrvviii (y 1) py0_1 (y 2) (y 10) (y 19) (y 25) (y 26) (y 30) (y 31) (y 32) o10 o11 py0_12 py0_13 py0_14)), (y 2, .inr (1, o1_iiiiiirrrrrrriiiii py2_0 py2_1 py2_2 py2_3 py2_4 py2_5 (y 3) (y 4) (y 5) (y 6) (y 7) (y 8) (y 9) py2_13 py2_14 py2_15 py2_16 py2_17))]) (rnS (rest := []) ⟨hx, hb, hml, hown, hg⟩ (k_X9_tookIn_0 l V py0_12 a1 bpy0_12 (iv_w b_17 (by decide))) mt_X9_tookIn q_3_130 ⟨Nat.le_of_ble_eq_true rfl, Nat.le_of_ble_eq_true rfl⟩ hK hP hD hS hA hE [] rfl rfl rfl hl.1 rfl (Nat.le_of_ble_eq_true rfl) dX9_hill_68 ⟨Nat.le_of_ble_eq_true rfl, Nat.le_of_ble_eq_true rfl⟩) hP hD hS hA [] [0, 1, 2, 3] rfl rfl rfl (by decide) (fun r_28 w H locs hw hP hD hS => ?_)
          obtain ⟨br_28, er_28, et_29, rfl⟩ := hw
          replace hR := tb hR et_29
          have hP : va_P V.1 vwCl [(y 3, aI V 4 fy3), (y 4, aI V 4 fy4), (y 0, .inr (9, o9_rirrrrrrrrvviii (y 1) py0_1 (y 2) (y 10) (y 19) (y 25) (y 26) (y 30) (y 31) (y 32) o10 o11 py0_12 py0_13 py0_14)), (y 2, .inr (1, o1_iiiiiirrrrrrriiiii py2_0 py2_1 py2_2 py2_3 py2_4 py2_5 (y 3) (y 4) (y 5) (y 6) (y 7) (y 8) (y 9) py2_13 py2_14 py2_15 py2_16 py2_17))] H := hP
          have hD := cpD hP hD
          have hP := subP (ws' := [(y 0, .inr (9, o9_rirrrrrrrrvviii (y 1) py0_1 (y 2) (y 10) (y 19) (y 25) (y 26) (y 30) (y 31) (y 32) o10 o11 py0_12 py0_13 py0_14)), (y 2, .inr (1, o1_iiiiiirrrrrrriiiii py2_0 py2_1 py2_2 py2_3 py2_4 py2_5 (y 3) (y 4) (y 5) (y 6) (y 7) (y 8) (y 9) py2_13 py2_14 py2_15 py2_16 py2_17)), (y 3, aI V 4 fy3), (y 4, aI V 4 fy4)]) hP [2, 3, 0, 1] rfl
          have hD := subD hP hD [2, 3, 0, 1] rfl rfl
          exact fiI hx hb hr hlk hK hP hD hS dX9_hill_71 (Nat.le_of_ble_eq_true rfl) (Nat.le_of_ble_eq_true rfl) (⟨(hR.symm.trans hT0), rfl⟩)
        · replace hR := te hR c_27
          by_cases c_31 : a2 = 3
          · refine lv_tableIn (off := 60) (tgt := 72) hx hb dX9_hill_12 (by rw [c_31]; decide) (by rw [c_31]; decide) (by rw [c_31]; rfl) (by decide) ?_
            replace hR := ti hR c_31
            refine lv_aload_n hx hb dX9_hill_72 rfl (lv_at hl 0 rfl) ?_
            refine va_get (ci := 9) (v := .ref (y 2)) (C := RX9) (T := TX9) (N := 15) hx hb hg inX9 hown hK hP 2 rfl rfl 2 (by decide) (hg _ q_2_38) (fun _ h9 => h9) rfl dX9_hill_73 ?_
            refine va_get (ci := 1) (v := .ref (y 4)) (C := RX1) (T := TX1) (N := 18) hx hb hg inX1 hown hK hP 3 rfl rfl 7 (by decide) (hg _ q_1_60) (fun _ h9 => h9) rfl dX9_hill_76 ?_
            refine lv_iload_n hx hb dX9_hill_79 rfl (lv_at hl 1 rfl) ?_
            refine va_iald hx hb hK hP 1 0 rfl rfl (iv_in b_17 (by decide)) dX9_hill_80 ?_
            refine lv_topi (fun x_32 ex_32 => ?_)
            replace hR := tb hR ex_32
            have hP := subP (ws' := [(y 0, .inr (9, o9_rirrrrrrrrvviii (y 1) py0_1 (y 2) (y 10) (y 19) (y 25) (y 26) (y 30) (y 31) (y 32) o10 o11 py0_12 py0_13 py0_14)), (y 2, .inr (1, o1_iiiiiirrrrrrriiiii py2_0 py2_1 py2_2 py2_3 py2_4 py2_5 (y 3) (y 4) (y 5) (y 6) (y 7) (y 8) (y 9) py2_13 py2_14 py2_15 py2_16 py2_17)), (y 3, aI V 4 fy3), (y 4, aI V 4 fy4)]) hP [2, 3, 0, 1] rfl
            have hD := subD hP hD [2, 3, 0, 1] rfl rfl
            exact fiI hx hb hr hlk hK hP hD hS dX9_hill_81 (Nat.le_of_ble_eq_true rfl) (Nat.le_of_ble_eq_true rfl) (⟨(hR.symm.trans hT0), rfl⟩)
          · replace hR := te hR c_31
            refine lv_tableOut (tgt := 82) hx hb dX9_hill_12 ((Int.lt_or_le a2.toInt 0).elim Or.inl (fun c_33 => Or.inr (by simp only [tI_eq, (by decide : (0 : Int32).toInt = 0), (by decide : (1 : Int32).toInt = 1), (by decide : (2 : Int32).toInt = 2), (by decide : (3 : Int32).toInt = 3)] at c_21 c_25 c_27 c_31; omega))) (by decide) ?_
            refine lv_bipush (v := (-2)) hx hb dX9_hill_82 (by decide) ?_
            have hP := subP (ws' := [(y 0, .inr (9, o9_rirrrrrrrrvviii (y 1) py0_1 (y 2) (y 10) (y 19) (y 25) (y 26) (y 30) (y 31) (y 32) o10 o11 py0_12 py0_13 py0_14)), (y 2, .inr (1, o1_iiiiiirrrrrrriiiii py2_0 py2_1 py2_2 py2_3 py2_4 py2_5 (y 3) (y 4) (y 5) (y 6) (y 7) (y 8) (y 9) py2_13 py2_14 py2_15 py2_16 py2_17)), (y 3, aI V 4 fy3), (y 4, aI V 4 fy4)]) hP [2, 3, 0, 1] rfl
            have hD := subD hP hD [2, 3, 0, 1] rfl rfl
            exact fiI hx hb hr hlk hK hP hD hS dX9_hill_84 (Nat.le_of_ble_eq_true rfl) (Nat.le_of_ble_eq_true rfl) (⟨(hR.symm.trans hT0), rfl⟩)
theorem dX9_village_0 : decode cX9_village 0 = .ok (.iload_n 1, 1) := by decide +kernel
theorem dX9_village_1 : decode cX9_village 1 = .ok (.ifCond .lt 14, 3) := by decide +kernel
theorem dX9_village_15 : decode cX9_village 15 = .ok (.bipush (-2), 2) := by decide +kernel
theorem dX9_village_17 : decode cX9_village 17 = .ok (.goto 12, 3) := by decide +kernel
theorem dX9_village_29 : decode cX9_village 29 = .ok (.ireturn, 1) := by decide +kernel
theorem dX9_village_4 : decode cX9_village 4 = .ok (.iload_n 1, 1) := by decide +kernel
theorem dX9_village_5 : decode cX9_village 5 = .ok (.aload_n 0, 1) := by decide +kernel
theorem dX9_village_6 : decode cX9_village 6 = .ok (.getfield 16, 3) := by decide +kernel
theorem q_1_44 : Cond.fieldLink "BeaconDelay" 145 "BeaconDelay$Coast" "villages" "I" ∈ gw := gw_1 (i := 44) (by decide +kernel) rfl
theorem dX9_village_9 : decode cX9_village 9 = .ok (.getfield 145, 3) := by decide +kernel
theorem dX9_village_12 : decode cX9_village 12 = .ok (.if_icmp .lt 8, 3) := by decide +kernel
theorem dX9_village_20 : decode cX9_village 20 = .ok (.aload_n 0, 1) := by decide +kernel
theorem dX9_village_21 : decode cX9_village 21 = .ok (.getfield 16, 3) := by decide +kernel
theorem q_1_63 : Cond.fieldLink "BeaconDelay" 148 "BeaconDelay$Coast" "needs" "[I" ∈ gw := gw_1 (i := 63) (by decide +kernel) rfl
theorem dX9_village_24 : decode cX9_village 24 = .ok (.getfield 148, 3) := by decide +kernel
theorem dX9_village_27 : decode cX9_village 27 = .ok (.iload_n 1, 1) := by decide +kernel
theorem dX9_village_28 : decode cX9_village 28 = .ok (.iaload, 1) := by decide +kernel
set_option maxRecDepth 100000 in
noncomputable def F_k_X9_village_0 (a1 : Int32) (py2_2 : Int32) (fy5 : Nat → Int32) : Int32 := if a1 < (0 : Int32) then ((((-2) : Int32))) else (if a1 < py2_2 then (bnd (fy5 (a1 : Int32).toNatClampNeg : Int32) fun (x_7 : Int32) => (x_7)) else ((((-2) : Int32))))
set_option maxHeartbeats 4000000 in
set_option maxRecDepth 100000 in
theorem k_X9_village_0 (l : Launch) (V : GV) (y : Nat → Nat) (a1 : Int32) (py0_1 : Int32) (o10 : Value) (o11 : Value) (py0_12 : Int32) (py0_13 : Int32) (py0_14 : Int32) (py2_0 : Int32) (py2_1 : Int32) (py2_2 : Int32) (py2_3 : Int32) (py2_4 : Int32) (py2_5 : Int32) (py2_13 : Int32) (py2_14 : Int32) (py2_15 : Int32) (py2_16 : Int32) (py2_17 : Int32) (fy5 : Nat → Int32) (bpy0_1 : iv 0 900 py0_1) (bpy0_12 : iv 0 9999 py0_12) (bpy0_13 : iv 0 9 py0_13) (bpy2_1 : iv 0 4 py2_1) (bpy2_2 : iv 0 4 py2_2) (bpy2_3 : iv 0 8 py2_3) (bpy2_4 : iv 0 9999 py2_4) (bpy2_5 : iv 0 9 py2_5) (bpy2_13 : iv 0 900 py2_13) (bpy2_14 : iv 0 900 py2_14) (bpy2_15 : iv 0 900 py2_15) (bpy2_16 : iv 0 900 py2_16) (bpy2_17 : iv 0 900 py2_17) : Ct l V yX9_village (.code yX9_village cX9_village 2 (some .int)) 1 [.ref (y 0), .int a1] [(y 0, .inr (9, o9_rirrrrrrrrvviii (y 1) py0_1 (y 2) (y 10) (y 19) (y 25) (y 26) (y 30) (y 31) (y 32) o10 o11 py0_12 py0_13 py0_14)), (y 2, .inr (1, o1_iiiiiirrrrrrriiiii py2_0 py2_1 py2_2 py2_3 py2_4 py2_5 (y 3) (y 4) (y 5) (y 6) (y 7) (y 8) (y 9) py2_13 py2_14 py2_15 py2_16 py2_17)), (y 5, aI V 4 fy5)] 0 0 (QI V (fun (r : Int32) (w : va_W) => r = (F_k_X9_village_0 a1 py2_2 fy5) ∧ w = [(y 0, .inr (9, o9_rirrrrrrrrvviii (y 1) py0_1 (y 2) (y 10) (y 19) (y 25) (y 26) (y 30) (y 31) (y 32) o10 o11 py0_12 py0_13 py0_14)), (y 2, .inr (1, o1_iiiiiirrrrrrriiiii py2_0 py2_1 py2_2 py2_3 py2_4 py2_5 (y 3) (y 4) (y 5) (y 6) (y 7) (y 8) (y 9) py2_13 py2_14 py2_15 py2_16 py2_17)), (y 5, aI V 4 fy5)])) := by
  refine Ct.of (by decide) (Nat.le_of_ble_eq_true rfl) (fun p e s m below meth c A ls hx hb hr hml hown hlk hnm hg hP hK hD hE hA hS hl => ?_)
  have hl : lv_has ls 2 [(0, .ref (y 0)), (1, .int a1)] := hl
  obtain ⟨T0, hT0⟩ : ∃ T9, T9 = F_k_X9_village_0 a1 py2_2 fy5 := ⟨_, rfl⟩
  have hR := hT0.trans (F_k_X9_village_0.eq_1 ..)
  refine lv_iload_n hx hb dX9_village_0 rfl (lv_at hl 1 rfl) ?_
  refine lv_if_lt (tgt := 15) hx hb dX9_village_1 (by decide) (fun c_1 => ?_) (fun c_1 => ?_)
  · replace hR := ti hR c_1
    have b_2 : iv (-2147483648) (-1) a1 := iv_l1 c_1 (iv_top a1) (iv_c (0 : Int32) (a := 0) (b := 0) (by decide)) (by decide)
    refine lv_bipush (v := (-2)) hx hb dX9_village_15 (by decide) ?_
    refine lv_goto (tgt := 29) hx hb dX9_village_17 (by decide) ?_
    exact fiI hx hb hr hlk hK hP hD hS dX9_village_29 (Nat.le_of_ble_eq_true rfl) (Nat.le_of_ble_eq_true rfl) (⟨(hR.symm.trans hT0), rfl⟩)
  · replace hR := te hR c_1
    have b_3 : iv 0 2147483647 a1 := iv_e2 (Int32.not_lt.mp c_1) (iv_c (0 : Int32) (a := 0) (b := 0) (by decide)) (iv_top a1) (by decide)
    refine lv_iload_n hx hb dX9_village_4 rfl (lv_at hl 1 rfl) ?_
    refine lv_aload_n hx hb dX9_village_5 rfl (lv_at hl 0 rfl) ?_
    refine va_get (ci := 9) (v := .ref (y 2)) (C := RX9) (T := TX9) (N := 15) hx hb hg inX9 hown hK hP 0 rfl rfl 2 (by decide) (hg _ q_2_38) (fun _ h9 => h9) rfl dX9_village_6 ?_
    refine va_get (ci := 1) (v := .int py2_2) (C := RX1) (T := TX1) (N := 18) hx hb hg inX1 hown hK hP 1 rfl rfl 2 (by decide) (hg _ q_1_44) (fun _ h9 => h9) rfl dX9_village_9 ?_
    refine lv_icmp_lt (tgt := 20) hx hb dX9_village_12 (by decide) (fun c_4 => ?_) (fun c_4 => ?_)
    · replace hR := ti hR c_4
      have b_5 : iv 0 3 a1 := iv_l1 c_4 b_3 bpy2_2 (by decide)
      have b_6 : iv 1 4 py2_2 := iv_l2 c_4 b_3 bpy2_2 (by decide)
      refine lv_aload_n hx hb dX9_village_20 rfl (lv_at hl 0 rfl) ?_
      refine va_get (ci := 9) (v := .ref (y 2)) (C := RX9) (T := TX9) (N := 15) hx hb hg inX9 hown hK hP 0 rfl rfl 2 (by decide) (hg _ q_2_38) (fun _ h9 => h9) rfl dX9_village_21 ?_
      refine va_get (ci := 1) (v := .ref (y 5)) (C := RX1) (T := TX1) (N := 18) hx hb hg inX1 hown hK hP 1 rfl rfl 8 (by decide) (hg _ q_1_63) (fun _ h9 => h9) rfl dX9_village_24 ?_
      refine lv_iload_n hx hb dX9_village_27 rfl (lv_at hl 1 rfl) ?_
      refine va_iald hx hb hK hP 2 0 rfl rfl (iv_in b_5 (by decide)) dX9_village_28 ?_
      refine lv_topi (fun x_7 ex_7 => ?_)
      replace hR := tb hR ex_7
      exact fiI hx hb hr hlk hK hP hD hS dX9_village_29 (Nat.le_of_ble_eq_true rfl) (Nat.le_of_ble_eq_true rfl) (⟨(hR.symm.trans hT0), rfl⟩)
    · replace hR := te hR c_4
      refine lv_bipush (v := (-2)) hx hb dX9_village_15 (by decide) ?_
      refine lv_goto (tgt := 29) hx hb dX9_village_17 (by decide) ?_
      exact fiI hx hb hr hlk hK hP hD hS dX9_village_29 (Nat.le_of_ble_eq_true rfl) (Nat.le_of_ble_eq_true rfl) (⟨(hR.symm.trans hT0), rfl⟩)
def o6_riiriiiii (x0 : Nat) (x1 : Int32) (x2 : Int32) (x3 : Nat) (x4 : Int32) (x5 : Int32) (x6 : Int32) (x7 : Int32) (x8 : Int32) : List Value := [.ref x0, .int x1, .int x2, .ref x3, .int x4, .int x5, .int x6, .int x7, .int x8]
theorem dX9_fault_0 : decode cX9_fault 0 = .ok (.iload_n 1, 1) := by decide +kernel
theorem dX9_fault_1 : decode cX9_fault 1 = .ok (.ifCond .ne 13, 3) := by decide +kernel
theorem dX9_fault_14 : decode cX9_fault 14 = .ok (.iload_n 1, 1) := by decide +kernel
theorem dX9_fault_15 : decode cX9_fault 15 = .ok (.iconst 1, 1) := by decide +kernel
theorem dX9_fault_16 : decode cX9_fault 16 = .ok (.if_icmp .ne 13, 3) := by decide +kernel
theorem dX9_fault_29 : decode cX9_fault 29 = .ok (.iconst (-1), 1) := by decide +kernel
theorem dX9_fault_30 : decode cX9_fault 30 = .ok (.ireturn, 1) := by decide +kernel
theorem dX9_fault_19 : decode cX9_fault 19 = .ok (.aload_n 0, 1) := by decide +kernel
theorem q_2_39 : Cond.fieldLink "BeaconDelay" 25 "BeaconDelay" "reader" "LBeaconDelay$Reader;" ∈ gw := gw_2 (i := 39) (by decide +kernel) rfl
theorem dX9_fault_20 : decode cX9_fault 20 = .ok (.getfield 25, 3) := by decide +kernel
theorem q_1_139 : Cond.fieldLink "BeaconDelay" 125 "BeaconDelay$Reader" "faultPlace" "I" ∈ gw := gw_1 (i := 139) (by decide +kernel) rfl
theorem dX9_fault_23 : decode cX9_fault 23 = .ok (.getfield 125, 3) := by decide +kernel
theorem dX9_fault_26 : decode cX9_fault 26 = .ok (.goto 4, 3) := by decide +kernel
theorem dX9_fault_4 : decode cX9_fault 4 = .ok (.aload_n 0, 1) := by decide +kernel
theorem dX9_fault_5 : decode cX9_fault 5 = .ok (.getfield 25, 3) := by decide +kernel
theorem q_1_137 : Cond.fieldLink "BeaconDelay" 81 "BeaconDelay$Reader" "fault" "I" ∈ gw := gw_1 (i := 137) (by decide +kernel) rfl
theorem dX9_fault_8 : decode cX9_fault 8 = .ok (.getfield 81, 3) := by decide +kernel
theorem dX9_fault_11 : decode cX9_fault 11 = .ok (.goto 19, 3) := by decide +kernel
set_option maxHeartbeats 4000000 in
set_option maxRecDepth 100000 in
theorem k_X9_fault_0 (l : Launch) (V : GV) (y : Nat → Nat) (a1 : Int32) (py0_1 : Int32) (o10 : Value) (o11 : Value) (py0_12 : Int32) (py0_13 : Int32) (py0_14 : Int32) (py10_1 : Int32) (py10_2 : Int32) (py10_4 : Int32) (py10_5 : Int32) (py10_6 : Int32) (py10_7 : Int32) (py10_8 : Int32) (bpy0_1 : iv 0 900 py0_1) (bpy0_12 : iv 0 9999 py0_12) (bpy0_13 : iv 0 9 py0_13) (bpy10_4 : iv 0 900 py10_4) (bpy10_6 : iv 0 900 py10_6) (bpy10_7 : iv 0 900 py10_7) (bpy10_8 : iv 0 999 py10_8) : Ct l V yX9_fault (.code yX9_fault cX9_fault 2 (some .int)) 1 [.ref (y 0), .int a1] [(y 0, .inr (9, o9_rirrrrrrrrvviii (y 1) py0_1 (y 2) (y 10) (y 19) (y 25) (y 26) (y 30) (y 31) (y 32) o10 o11 py0_12 py0_13 py0_14)), (y 10, .inr (6, o6_riiriiiii (y 11) py10_1 py10_2 (y 1) py10_4 py10_5 py10_6 py10_7 py10_8))] 0 0 (QI V (fun (r : Int32) (w : va_W) => r = faF a1 py10_1 py10_2 ∧ w = [(y 0, .inr (9, o9_rirrrrrrrrvviii (y 1) py0_1 (y 2) (y 10) (y 19) (y 25) (y 26) (y 30) (y 31) (y 32) o10 o11 py0_12 py0_13 py0_14)), (y 10, .inr (6, o6_riiriiiii (y 11) py10_1 py10_2 (y 1) py10_4 py10_5 py10_6 py10_7 py10_8))])) := by
  refine Ct.of (by decide) (Nat.le_of_ble_eq_true rfl) (fun p e s m below meth c A ls hx hb hr hml hown hlk hnm hg hP hK hD hE hA hS hl => ?_)
  have hl : lv_has ls 2 [(0, .ref (y 0)), (1, .int a1)] := hl
  refine lv_iload_n hx hb dX9_fault_0 rfl (lv_at hl 1 rfl) ?_
  refine lv_if_ne (tgt := 14) hx hb dX9_fault_1 (by decide) (fun c_1 => ?_) (fun c_1 => ?_)
  · refine lv_iload_n hx hb dX9_fault_14 rfl (lv_at hl 1 rfl) ?_
    refine lv_iconst (v := 1) hx hb dX9_fault_15 (by decide) ?_
    refine lv_icmp_ne (tgt := 29) hx hb dX9_fault_16 (by decide) (fun c_2 => ?_) (fun c_2 => ?_)
    · refine lv_iconst (v := (-1)) hx hb dX9_fault_29 (by decide) ?_
      exact fiI hx hb hr hlk hK hP hD hS dX9_fault_30 (Nat.le_of_ble_eq_true rfl) (Nat.le_of_ble_eq_true rfl) (⟨(fa_n c_1 c_2), rfl⟩)
    · have b_3 : iv 1 1 a1 := iv_q c_2 (iv_c (1 : Int32) (a := 1) (b := 1) (by decide))
      refine lv_aload_n hx hb dX9_fault_19 rfl (lv_at hl 0 rfl) ?_
      refine va_get (ci := 9) (v := .ref (y 10)) (C := RX9) (T := TX9) (N := 15) hx hb hg inX9 hown hK hP 0 rfl rfl 3 (by decide) (hg _ q_2_39) (fun _ h9 => h9) rfl dX9_fault_20 ?_
      refine va_get (ci := 6) (v := .int py10_2) (C := RX6) (T := TX6) (N := 9) hx hb hg inX6 hown hK hP 1 rfl rfl 2 (by decide) (hg _ q_1_139) (fun _ h9 => h9) rfl dX9_fault_23 ?_
      refine lv_goto (tgt := 30) hx hb dX9_fault_26 (by decide) ?_
      exact fiI hx hb hr hlk hK hP hD hS dX9_fault_30 (Nat.le_of_ble_eq_true rfl) (Nat.le_of_ble_eq_true rfl) (⟨(fa_1 c_2), rfl⟩)
  · have b_4 : iv 0 0 a1 := iv_q c_1 (iv_c (0 : Int32) (a := 0) (b := 0) (by decide))
    refine lv_aload_n hx hb dX9_fault_4 rfl (lv_at hl 0 rfl) ?_
    refine va_get (ci := 9) (v := .ref (y 10)) (C := RX9) (T := TX9) (N := 15) hx hb hg inX9 hown hK hP 0 rfl rfl 3 (by decide) (hg _ q_2_39) (fun _ h9 => h9) rfl dX9_fault_5 ?_
    refine va_get (ci := 6) (v := .int py10_1) (C := RX6) (T := TX6) (N := 9) hx hb hg inX6 hown hK hP 1 rfl rfl 1 (by decide) (hg _ q_1_137) (fun _ h9 => h9) rfl dX9_fault_8 ?_
    refine lv_goto (tgt := 30) hx hb dX9_fault_11 (by decide) ?_
    exact fiI hx hb hr hlk hK hP hD hS dX9_fault_30 (Nat.le_of_ble_eq_true rfl) (Nat.le_of_ble_eq_true rfl) (⟨(fa_0 c_1), rfl⟩)
def o5_rrri (x0 : Nat) (x1 : Nat) (x2 : Nat) (x3 : Int32) : List Value := [.ref x0, .ref x1, .ref x2, .int x3]
theorem dX9_count_0 : decode cX9_count 0 = .ok (.iload_n 1, 1) := by decide +kernel
theorem dX9_count_1 : decode cX9_count 1 = .ok (.tableswitch 126 0 9 #[55, 63, 71, 79, 84, 92, 100, 105, 113, 118], 55) := by decide +kernel
theorem dX9_count_56 : decode cX9_count 56 = .ok (.aload_n 0, 1) := by decide +kernel
theorem dX9_count_57 : decode cX9_count 57 = .ok (.getfield 16, 3) := by decide +kernel
theorem dX9_count_60 : decode cX9_count 60 = .ok (.getfield 159, 3) := by decide +kernel
theorem dX9_count_63 : decode cX9_count 63 = .ok (.ireturn, 1) := by decide +kernel
theorem dX9_count_64 : decode cX9_count 64 = .ok (.aload_n 0, 1) := by decide +kernel
theorem dX9_count_65 : decode cX9_count 65 = .ok (.getfield 16, 3) := by decide +kernel
theorem dX9_count_68 : decode cX9_count 68 = .ok (.getfield 145, 3) := by decide +kernel
theorem dX9_count_71 : decode cX9_count 71 = .ok (.ireturn, 1) := by decide +kernel
theorem dX9_count_72 : decode cX9_count 72 = .ok (.aload_n 0, 1) := by decide +kernel
theorem dX9_count_73 : decode cX9_count 73 = .ok (.getfield 16, 3) := by decide +kernel
theorem q_1_47 : Cond.fieldLink "BeaconDelay" 310 "BeaconDelay$Coast" "roads" "I" ∈ gw := gw_1 (i := 47) (by decide +kernel) rfl
theorem dX9_count_76 : decode cX9_count 76 = .ok (.getfield 310, 3) := by decide +kernel
theorem dX9_count_79 : decode cX9_count 79 = .ok (.ireturn, 1) := by decide +kernel
theorem dX9_count_80 : decode cX9_count 80 = .ok (.aload_n 0, 1) := by decide +kernel
theorem q_2_49 : Cond.fieldLink "BeaconDelay" 116 "BeaconDelay" "weather" "I" ∈ gw := gw_2 (i := 49) (by decide +kernel) rfl
theorem dX9_count_81 : decode cX9_count 81 = .ok (.getfield 116, 3) := by decide +kernel
theorem dX9_count_84 : decode cX9_count 84 = .ok (.ireturn, 1) := by decide +kernel
theorem dX9_count_85 : decode cX9_count 85 = .ok (.aload_n 0, 1) := by decide +kernel
theorem dX9_count_86 : decode cX9_count 86 = .ok (.getfield 113, 3) := by decide +kernel
theorem q_4_1 : Cond.code yX9_stacksTogether prog_1_method_15_code 3 (some FieldType.int) ∈ gw := gw_4 (i := 1) (rfl) rfl
theorem q_4_0 : Cond.static yX9_stacksTogether ∈ gw := gw_4 (i := 0) (by decide +kernel) rfl
theorem mt_X9_stacksTogether : MtS yX9_stacksTogether cX9_stacksTogether 3 (some .int) 1 := ⟨⟨q_4_1, q_1_1, by decide +kernel, by decide +kernel, by decide +kernel⟩, q_4_0⟩
theorem q_3_239 : Cond.methodLink "BeaconDelay" 216 yX9_stacksTogether ∈ gw := gw_3 (i := 239) (by decide +kernel) rfl
theorem dX9_count_89 : decode cX9_count 89 = .ok (.invokestatic 216, 3) := by decide +kernel
theorem dX9_count_92 : decode cX9_count 92 = .ok (.ireturn, 1) := by decide +kernel
theorem dX9_count_93 : decode cX9_count 93 = .ok (.aload_n 0, 1) := by decide +kernel
theorem dX9_count_94 : decode cX9_count 94 = .ok (.getfield 113, 3) := by decide +kernel
theorem q_3_203 : Cond.code yX9_tookBits prog_1_method_16_code 3 (some FieldType.int) ∈ gw := gw_3 (i := 203) (rfl) rfl
theorem q_3_202 : Cond.static yX9_tookBits ∈ gw := gw_3 (i := 202) (by decide +kernel) rfl
theorem mt_X9_tookBits : MtS yX9_tookBits cX9_tookBits 3 (some .int) 1 := ⟨⟨q_3_203, q_1_1, by decide +kernel, by decide +kernel, by decide +kernel⟩, q_3_202⟩
theorem q_3_201 : Cond.methodLink "BeaconDelay" 173 yX9_tookBits ∈ gw := gw_3 (i := 201) (by decide +kernel) rfl
theorem dX9_count_97 : decode cX9_count 97 = .ok (.invokestatic 173, 3) := by decide +kernel
theorem dX9_count_100 : decode cX9_count 100 = .ok (.ireturn, 1) := by decide +kernel
theorem dX9_count_101 : decode cX9_count 101 = .ok (.aload_n 0, 1) := by decide +kernel
theorem q_2_50 : Cond.fieldLink "BeaconDelay" 119 "BeaconDelay" "nights" "I" ∈ gw := gw_2 (i := 50) (by decide +kernel) rfl
theorem dX9_count_102 : decode cX9_count 102 = .ok (.getfield 119, 3) := by decide +kernel
theorem dX9_count_105 : decode cX9_count 105 = .ok (.ireturn, 1) := by decide +kernel
theorem dX9_count_106 : decode cX9_count 106 = .ok (.aload_n 0, 1) := by decide +kernel
theorem q_2_42 : Cond.fieldLink "BeaconDelay" 48 "BeaconDelay" "past" "LBeaconDelay$Past;" ∈ gw := gw_2 (i := 42) (by decide +kernel) rfl
theorem dX9_count_107 : decode cX9_count 107 = .ok (.getfield 48, 3) := by decide +kernel
theorem q_1_218 : Cond.fieldLink "BeaconDelay" 122 "BeaconDelay$Past" "count" "I" ∈ gw := gw_1 (i := 218) (by decide +kernel) rfl
theorem dX9_count_110 : decode cX9_count 110 = .ok (.getfield 122, 3) := by decide +kernel
theorem dX9_count_113 : decode cX9_count 113 = .ok (.ireturn, 1) := by decide +kernel
theorem dX9_count_114 : decode cX9_count 114 = .ok (.aload_n 0, 1) := by decide +kernel
theorem q_2_37 : Cond.fieldLink "BeaconDelay" 70 "BeaconDelay" "tapeLength" "I" ∈ gw := gw_2 (i := 37) (by decide +kernel) rfl
theorem dX9_count_115 : decode cX9_count 115 = .ok (.getfield 70, 3) := by decide +kernel
theorem dX9_count_118 : decode cX9_count 118 = .ok (.ireturn, 1) := by decide +kernel
theorem dX9_count_119 : decode cX9_count 119 = .ok (.aload_n 0, 1) := by decide +kernel
theorem dX9_count_120 : decode cX9_count 120 = .ok (.getfield 16, 3) := by decide +kernel
theorem q_1_37 : Cond.fieldLink "BeaconDelay" 97 "BeaconDelay$Coast" "lines" "I" ∈ gw := gw_1 (i := 37) (by decide +kernel) rfl
theorem dX9_count_123 : decode cX9_count 123 = .ok (.getfield 97, 3) := by decide +kernel
theorem dX9_count_126 : decode cX9_count 126 = .ok (.ireturn, 1) := by decide +kernel
theorem dX9_count_127 : decode cX9_count 127 = .ok (.iconst (-1), 1) := by decide +kernel
theorem dX9_count_128 : decode cX9_count 128 = .ok (.ireturn, 1) := by decide +kernel
set_option maxRecDepth 100000 in
noncomputable def F_k_X9_count_0 (a1 : Int32) (py0_1 : Int32) (py0_12 : Int32) (py0_13 : Int32) (py0_14 : Int32) (py2_0 : Int32) (py2_1 : Int32) (py2_2 : Int32) (py2_3 : Int32) (py26_3 : Int32) : Int32 := if a1 = 0 then ((py2_1)) else (if a1 = 1 then ((py2_2)) else (if a1 = 2 then ((py2_3)) else (if a1 = 3 then ((py0_13)) else (if a1 = 4 then (bnd (F_k_X9_stacksTogether_0 py0_12 : Int32) fun (r_6 : Int32) => (r_6)) else (if a1 = 5 then (bnd (F_k_X9_tookBits_0 py0_12 : Int32) fun (r_10 : Int32) => (r_10)) else (if a1 = 6 then ((py0_14)) else (if a1 = 7 then ((py26_3)) else (if a1 = 8 then ((py0_1)) else (if a1 = 9 then ((py2_0)) else ((((-1) : Int32))))))))))))
set_option maxHeartbeats 4000000 in
set_option maxRecDepth 100000 in
theorem k_X9_count_0 (l : Launch) (V : GV) (y : Nat → Nat) (a1 : Int32) (py0_1 : Int32) (o10 : Value) (o11 : Value) (py0_12 : Int32) (py0_13 : Int32) (py0_14 : Int32) (py2_0 : Int32) (py2_1 : Int32) (py2_2 : Int32) (py2_3 : Int32) (py2_4 : Int32) (py2_5 : Int32) (py2_13 : Int32) (py2_14 : Int32) (py2_15 : Int32) (py2_16 : Int32) (py2_17 : Int32) (py26_3 : Int32) (bpy0_1 : iv 0 900 py0_1) (bpy0_12 : iv 0 9999 py0_12) (bpy0_13 : iv 0 9 py0_13) (bpy2_1 : iv 0 4 py2_1) (bpy2_2 : iv 0 4 py2_2) (bpy2_3 : iv 0 8 py2_3) (bpy2_4 : iv 0 9999 py2_4) (bpy2_5 : iv 0 9 py2_5) (bpy2_13 : iv 0 900 py2_13) (bpy2_14 : iv 0 900 py2_14) (bpy2_15 : iv 0 900 py2_15) (bpy2_16 : iv 0 900 py2_16) (bpy2_17 : iv 0 900 py2_17) (bpy26_3 : iv 0 10 py26_3) : Ct l V yX9_count (.code yX9_count cX9_count 2 (some .int)) 3 [.ref (y 0), .int a1] [(y 0, .inr (9, o9_rirrrrrrrrvviii (y 1) py0_1 (y 2) (y 10) (y 19) (y 25) (y 26) (y 30) (y 31) (y 32) o10 o11 py0_12 py0_13 py0_14)), (y 2, .inr (1, o1_iiiiiirrrrrrriiiii py2_0 py2_1 py2_2 py2_3 py2_4 py2_5 (y 3) (y 4) (y 5) (y 6) (y 7) (y 8) (y 9) py2_13 py2_14 py2_15 py2_16 py2_17)), (y 26, .inr (5, o5_rrri (y 27) (y 28) (y 29) py26_3))] 0 0 (QI V (fun (r : Int32) (w : va_W) => r = (F_k_X9_count_0 a1 py0_1 py0_12 py0_13 py0_14 py2_0 py2_1 py2_2 py2_3 py26_3) ∧ w = [(y 0, .inr (9, o9_rirrrrrrrrvviii (y 1) py0_1 (y 2) (y 10) (y 19) (y 25) (y 26) (y 30) (y 31) (y 32) o10 o11 py0_12 py0_13 py0_14)), (y 2, .inr (1, o1_iiiiiirrrrrrriiiii py2_0 py2_1 py2_2 py2_3 py2_4 py2_5 (y 3) (y 4) (y 5) (y 6) (y 7) (y 8) (y 9) py2_13 py2_14 py2_15 py2_16 py2_17)), (y 26, .inr (5, o5_rrri (y 27) (y 28) (y 29) py26_3))])) := by
  refine Ct.of (by decide) (Nat.le_of_ble_eq_true rfl) (fun p e s m below meth c A ls hx hb hr hml hown hlk hnm hg hP hK hD hE hA hS hl => ?_)
  have hl : lv_has ls 2 [(0, .ref (y 0)), (1, .int a1)] := hl
  obtain ⟨T0, hT0⟩ : ∃ T9, T9 = F_k_X9_count_0 a1 py0_1 py0_12 py0_13 py0_14 py2_0 py2_1 py2_2 py2_3 py26_3 := ⟨_, rfl⟩
  have hR := hT0.trans (F_k_X9_count_0.eq_1 ..)
  refine lv_iload_n hx hb dX9_count_0 rfl (lv_at hl 1 rfl) ?_
  by_cases c_1 : a1 = 0
  · refine lv_tableIn (off := 55) (tgt := 56) hx hb dX9_count_1 (by rw [c_1]; decide) (by rw [c_1]; decide) (by rw [c_1]; rfl) (by decide) ?_
    replace hR := ti hR c_1
    refine lv_aload_n hx hb dX9_count_56 rfl (lv_at hl 0 rfl) ?_
    refine va_get (ci := 9) (v := .ref (y 2)) (C := RX9) (T := TX9) (N := 15) hx hb hg inX9 hown hK hP 0 rfl rfl 2 (by decide) (hg _ q_2_38) (fun _ h9 => h9) rfl dX9_count_57 ?_
    refine va_get (ci := 1) (v := .int py2_1) (C := RX1) (T := TX1) (N := 18) hx hb hg inX1 hown hK hP 1 rfl rfl 1 (by decide) (hg _ q_1_41) (fun _ h9 => h9) rfl dX9_count_60 ?_
    exact fiI hx hb hr hlk hK hP hD hS dX9_count_63 (Nat.le_of_ble_eq_true rfl) (Nat.le_of_ble_eq_true rfl) (⟨(hR.symm.trans hT0), rfl⟩)
  · replace hR := te hR c_1
    by_cases c_2 : a1 = 1
    · refine lv_tableIn (off := 63) (tgt := 64) hx hb dX9_count_1 (by rw [c_2]; decide) (by rw [c_2]; decide) (by rw [c_2]; rfl) (by decide) ?_
      replace hR := ti hR c_2
      refine lv_aload_n hx hb dX9_count_64 rfl (lv_at hl 0 rfl) ?_
      refine va_get (ci := 9) (v := .ref (y 2)) (C := RX9) (T := TX9) (N := 15) hx hb hg inX9 hown hK hP 0 rfl rfl 2 (by decide) (hg _ q_2_38) (fun _ h9 => h9) rfl dX9_count_65 ?_
      refine va_get (ci := 1) (v := .int py2_2) (C := RX1) (T := TX1) (N := 18) hx hb hg inX1 hown hK hP 1 rfl rfl 2 (by decide) (hg _ q_1_44) (fun _ h9 => h9) rfl dX9_count_68 ?_
      exact fiI hx hb hr hlk hK hP hD hS dX9_count_71 (Nat.le_of_ble_eq_true rfl) (Nat.le_of_ble_eq_true rfl) (⟨(hR.symm.trans hT0), rfl⟩)
    · replace hR := te hR c_2
      by_cases c_3 : a1 = 2
      · refine lv_tableIn (off := 71) (tgt := 72) hx hb dX9_count_1 (by rw [c_3]; decide) (by rw [c_3]; decide) (by rw [c_3]; rfl) (by decide) ?_
        replace hR := ti hR c_3
        refine lv_aload_n hx hb dX9_count_72 rfl (lv_at hl 0 rfl) ?_
        refine va_get (ci := 9) (v := .ref (y 2)) (C := RX9) (T := TX9) (N := 15) hx hb hg inX9 hown hK hP 0 rfl rfl 2 (by decide) (hg _ q_2_38) (fun _ h9 => h9) rfl dX9_count_73 ?_
        refine va_get (ci := 1) (v := .int py2_3) (C := RX1) (T := TX1) (N := 18) hx hb hg inX1 hown hK hP 1 rfl rfl 3 (by decide) (hg _ q_1_47) (fun _ h9 => h9) rfl dX9_count_76 ?_
        exact fiI hx hb hr hlk hK hP hD hS dX9_count_79 (Nat.le_of_ble_eq_true rfl) (Nat.le_of_ble_eq_true rfl) (⟨(hR.symm.trans hT0), rfl⟩)
      · replace hR := te hR c_3
        by_cases c_4 : a1 = 3
        · refine lv_tableIn (off := 79) (tgt := 80) hx hb dX9_count_1 (by rw [c_4]; decide) (by rw [c_4]; decide) (by rw [c_4]; rfl) (by decide) ?_
          replace hR := ti hR c_4
          refine lv_aload_n hx hb dX9_count_80 rfl (lv_at hl 0 rfl) ?_
          refine va_get (ci := 9) (v := .int py0_13) (C := RX9) (T := TX9) (N := 15) hx hb hg inX9 hown hK hP 0 rfl rfl 13 (by decide) (hg _ q_2_49) (fun _ h9 => h9) rfl dX9_count_81 ?_
          exact fiI hx hb hr hlk hK hP hD hS dX9_count_84 (Nat.le_of_ble_eq_true rfl) (Nat.le_of_ble_eq_true rfl) (⟨(hR.symm.trans hT0), rfl⟩)
        · replace hR := te hR c_4
          by_cases c_5 : a1 = 4
          · refine lv_tableIn (off := 84) (tgt := 85) hx hb dX9_count_1 (by rw [c_5]; decide) (by rw [c_5]; decide) (by rw [c_5]; rfl) (by decide) ?_
            replace hR := ti hR c_5
            refine lv_aload_n hx hb dX9_count_85 rfl (lv_at hl 0 rfl) ?_
            refine va_get (ci := 9) (v := .int py0_12) (C := RX9) (T := TX9) (N := 15) hx hb hg inX9 hown hK hP 0 rfl rfl 12 (by decide) (hg _ q_2_48) (fun _ h9 => h9) rfl dX9_count_86 ?_
            refine jnI (wr := [(y 0, .inr (9, o9_rirrrrrrrrvviii (y 1) py0_1 (y 2) (y 10) (y 19) (y 25) (y 26) (y 30) (y 31) (y 32) o10 o11 py0_12 py0_13 py0_14)), (y 2, .inr (1, o1_iiiiiirrrrrrriiiii py2_0 py2_1 py2_2 py2_3 py2_4 py2_5 (y 3) (y 4) (y 5) (y 6) (y 7) (y 8) (y 9) py2_13 py2_14 py2_15 py2_16 py2_17)), (y 26, .inr (5, o5_rrri (y 27) (y 28) (y 29) py26_3))]) (rnS (rest := []) ⟨hx, hb, hml, hown, hg⟩ (k_X9_stacksTogether_0 l V py0_12 bpy0_12) mt_X9_stacksTogether q_3_239 ⟨Nat.le_of_ble_eq_true rfl, Nat.le_of_ble_eq_true rfl⟩ hK hP hD hS hA hE [] rfl rfl rfl hl.1 rfl (Nat.le_of_ble_eq_true rfl) dX9_count_89 ⟨Nat.le_of_ble_eq_true rfl, Nat.le_of_ble_eq_true rfl⟩) hP hD hS hA [] [0, 1, 2] rfl rfl rfl (by decide) (fun r_6 w H locs hw hP hD hS => ?_)
            obtain ⟨er_6, et_7, rfl⟩ := hw
            replace hR := tb hR et_7
            have hP : va_P V.1 vwCl [(y 0, .inr (9, o9_rirrrrrrrrvviii (y 1) py0_1 (y 2) (y 10) (y 19) (y 25) (y 26) (y 30) (y 31) (y 32) o10 o11 py0_12 py0_13 py0_14)), (y 2, .inr (1, o1_iiiiiirrrrrrriiiii py2_0 py2_1 py2_2 py2_3 py2_4 py2_5 (y 3) (y 4) (y 5) (y 6) (y 7) (y 8) (y 9) py2_13 py2_14 py2_15 py2_16 py2_17)), (y 26, .inr (5, o5_rrri (y 27) (y 28) (y 29) py26_3))] H := hP
            have hD := cpD hP hD
            exact fiI hx hb hr hlk hK hP hD hS dX9_count_92 (Nat.le_of_ble_eq_true rfl) (Nat.le_of_ble_eq_true rfl) (⟨(hR.symm.trans hT0), rfl⟩)
          · replace hR := te hR c_5
            by_cases c_9 : a1 = 5
            · refine lv_tableIn (off := 92) (tgt := 93) hx hb dX9_count_1 (by rw [c_9]; decide) (by rw [c_9]; decide) (by rw [c_9]; rfl) (by decide) ?_
              replace hR := ti hR c_9
              refine lv_aload_n hx hb dX9_count_93 rfl (lv_at hl 0 rfl) ?_
              refine va_get (ci := 9) (v := .int py0_12) (C := RX9) (T := TX9) (N := 15) hx hb hg inX9 hown hK hP 0 rfl rfl 12 (by decide) (hg _ q_2_48) (fun _ h9 => h9) rfl dX9_count_94 ?_
              refine jnI (wr := [(y 0, .inr (9, o9_rirrrrrrrrvviii (y 1) py0_1 (y 2) (y 10) (y 19) (y 25) (y 26) (y 30) (y 31) (y 32) o10 o11 py0_12 py0_13 py0_14)), (y 2, .inr (1, o1_iiiiiirrrrrrriiiii py2_0 py2_1 py2_2 py2_3 py2_4 py2_5 (y 3) (y 4) (y 5) (y 6) (y 7) (y 8) (y 9) py2_13 py2_14 py2_15 py2_16 py2_17)), (y 26, .inr (5, o5_rrri (y 27) (y 28) (y 29) py26_3))]) (rnS (rest := []) ⟨hx, hb, hml, hown, hg⟩ (k_X9_tookBits_0 l V py0_12 bpy0_12) mt_X9_tookBits q_3_201 ⟨Nat.le_of_ble_eq_true rfl, Nat.le_of_ble_eq_true rfl⟩ hK hP hD hS hA hE [] rfl rfl rfl hl.1 rfl (Nat.le_of_ble_eq_true rfl) dX9_count_97 ⟨Nat.le_of_ble_eq_true rfl, Nat.le_of_ble_eq_true rfl⟩) hP hD hS hA [] [0, 1, 2] rfl rfl rfl (by decide) (fun r_10 w H locs hw hP hD hS => ?_)
              obtain ⟨er_10, et_11, rfl⟩ := hw
              replace hR := tb hR et_11
              have hP : va_P V.1 vwCl [(y 0, .inr (9, o9_rirrrrrrrrvviii (y 1) py0_1 (y 2) (y 10) (y 19) (y 25) (y 26) (y 30) (y 31) (y 32) o10 o11 py0_12 py0_13 py0_14)), (y 2, .inr (1, o1_iiiiiirrrrrrriiiii py2_0 py2_1 py2_2 py2_3 py2_4 py2_5 (y 3) (y 4) (y 5) (y 6) (y 7) (y 8) (y 9) py2_13 py2_14 py2_15 py2_16 py2_17)), (y 26, .inr (5, o5_rrri (y 27) (y 28) (y 29) py26_3))] H := hP
              have hD := cpD hP hD
              exact fiI hx hb hr hlk hK hP hD hS dX9_count_100 (Nat.le_of_ble_eq_true rfl) (Nat.le_of_ble_eq_true rfl) (⟨(hR.symm.trans hT0), rfl⟩)
            · replace hR := te hR c_9
              by_cases c_13 : a1 = 6
              · refine lv_tableIn (off := 100) (tgt := 101) hx hb dX9_count_1 (by rw [c_13]; decide) (by rw [c_13]; decide) (by rw [c_13]; rfl) (by decide) ?_
                replace hR := ti hR c_13
                refine lv_aload_n hx hb dX9_count_101 rfl (lv_at hl 0 rfl) ?_
                refine va_get (ci := 9) (v := .int py0_14) (C := RX9) (T := TX9) (N := 15) hx hb hg inX9 hown hK hP 0 rfl rfl 14 (by decide) (hg _ q_2_50) (fun _ h9 => h9) rfl dX9_count_102 ?_
                exact fiI hx hb hr hlk hK hP hD hS dX9_count_105 (Nat.le_of_ble_eq_true rfl) (Nat.le_of_ble_eq_true rfl) (⟨(hR.symm.trans hT0), rfl⟩)
              · replace hR := te hR c_13
                by_cases c_14 : a1 = 7
                · refine lv_tableIn (off := 105) (tgt := 106) hx hb dX9_count_1 (by rw [c_14]; decide) (by rw [c_14]; decide) (by rw [c_14]; rfl) (by decide) ?_
                  replace hR := ti hR c_14
                  refine lv_aload_n hx hb dX9_count_106 rfl (lv_at hl 0 rfl) ?_
                  refine va_get (ci := 9) (v := .ref (y 26)) (C := RX9) (T := TX9) (N := 15) hx hb hg inX9 hown hK hP 0 rfl rfl 6 (by decide) (hg _ q_2_42) (fun _ h9 => h9) rfl dX9_count_107 ?_
                  refine va_get (ci := 5) (v := .int py26_3) (C := RX5) (T := TX5) (N := 4) hx hb hg inX5 hown hK hP 2 rfl rfl 3 (by decide) (hg _ q_1_218) (fun _ h9 => h9) rfl dX9_count_110 ?_
                  exact fiI hx hb hr hlk hK hP hD hS dX9_count_113 (Nat.le_of_ble_eq_true rfl) (Nat.le_of_ble_eq_true rfl) (⟨(hR.symm.trans hT0), rfl⟩)
                · replace hR := te hR c_14
                  by_cases c_15 : a1 = 8
                  · refine lv_tableIn (off := 113) (tgt := 114) hx hb dX9_count_1 (by rw [c_15]; decide) (by rw [c_15]; decide) (by rw [c_15]; rfl) (by decide) ?_
                    replace hR := ti hR c_15
                    refine lv_aload_n hx hb dX9_count_114 rfl (lv_at hl 0 rfl) ?_
                    refine va_get (ci := 9) (v := .int py0_1) (C := RX9) (T := TX9) (N := 15) hx hb hg inX9 hown hK hP 0 rfl rfl 1 (by decide) (hg _ q_2_37) (fun _ h9 => h9) rfl dX9_count_115 ?_
                    exact fiI hx hb hr hlk hK hP hD hS dX9_count_118 (Nat.le_of_ble_eq_true rfl) (Nat.le_of_ble_eq_true rfl) (⟨(hR.symm.trans hT0), rfl⟩)
                  · replace hR := te hR c_15
                    by_cases c_16 : a1 = 9
                    · refine lv_tableIn (off := 118) (tgt := 119) hx hb dX9_count_1 (by rw [c_16]; decide) (by rw [c_16]; decide) (by rw [c_16]; rfl) (by decide) ?_
                      replace hR := ti hR c_16
                      refine lv_aload_n hx hb dX9_count_119 rfl (lv_at hl 0 rfl) ?_
                      refine va_get (ci := 9) (v := .ref (y 2)) (C := RX9) (T := TX9) (N := 15) hx hb hg inX9 hown hK hP 0 rfl rfl 2 (by decide) (hg _ q_2_38) (fun _ h9 => h9) rfl dX9_count_120 ?_
                      refine va_get (ci := 1) (v := .int py2_0) (C := RX1) (T := TX1) (N := 18) hx hb hg inX1 hown hK hP 1 rfl rfl 0 (by decide) (hg _ q_1_37) (fun _ h9 => h9) rfl dX9_count_123 ?_
                      exact fiI hx hb hr hlk hK hP hD hS dX9_count_126 (Nat.le_of_ble_eq_true rfl) (Nat.le_of_ble_eq_true rfl) (⟨(hR.symm.trans hT0), rfl⟩)
                    · replace hR := te hR c_16
                      refine lv_tableOut (tgt := 127) hx hb dX9_count_1 ((Int.lt_or_le a1.toInt 0).elim Or.inl (fun c_17 => Or.inr (by simp only [tI_eq, (by decide : (0 : Int32).toInt = 0), (by decide : (1 : Int32).toInt = 1), (by decide : (2 : Int32).toInt = 2), (by decide : (3 : Int32).toInt = 3), (by decide : (4 : Int32).toInt = 4), (by decide : (5 : Int32).toInt = 5), (by decide : (6 : Int32).toInt = 6), (by decide : (7 : Int32).toInt = 7), (by decide : (8 : Int32).toInt = 8), (by decide : (9 : Int32).toInt = 9)] at c_1 c_2 c_3 c_4 c_5 c_9 c_13 c_14 c_15 c_16; omega))) (by decide) ?_
                      refine lv_iconst (v := (-1)) hx hb dX9_count_127 (by decide) ?_
                      exact fiI hx hb hr hlk hK hP hD hS dX9_count_128 (Nat.le_of_ble_eq_true rfl) (Nat.le_of_ble_eq_true rfl) (⟨(hR.symm.trans hT0), rfl⟩)
theorem dX4_joined_0 : decode cX4_joined 0 = .ok (.iload_n 0, 1) := by decide +kernel
theorem dX4_joined_1 : decode cX4_joined 1 = .ok (.tableswitch 123 1006 1012 #[43, 51, 59, 67, 83, 99, 115], 43) := by decide +kernel
theorem dX4_joined_44 : decode cX4_joined 44 = .ok (.lload_n 1, 1) := by decide +kernel
theorem dX4_joined_45 : decode cX4_joined 45 = .ok (.lload_n 3, 1) := by decide +kernel
theorem dX4_joined_46 : decode cX4_joined 46 = .ok (.ladd, 1) := by decide +kernel
theorem dX4_joined_47 : decode cX4_joined 47 = .ok (.lstore 5, 2) := by decide +kernel
theorem dX4_joined_49 : decode cX4_joined 49 = .ok (.goto 80, 3) := by decide +kernel
theorem dX4_joined_129 : decode cX4_joined 129 = .ok (.lload 5, 2) := by decide +kernel
theorem q_3_165 : Cond.constantLong "BeaconDelay$Laws" 87 (1000000 : Int64) ∈ gw := gw_3 (i := 165) (by decide +kernel) rfl
theorem dX4_joined_131 : decode cX4_joined 131 = .ok (.ldc2_w 87, 3) := by decide +kernel
theorem dX4_joined_134 : decode cX4_joined 134 = .ok (.lcmp, 1) := by decide +kernel
theorem dX4_joined_135 : decode cX4_joined 135 = .ok (.ifCond .le 9, 3) := by decide +kernel
theorem dX4_joined_144 : decode cX4_joined 144 = .ok (.lload 5, 2) := by decide +kernel
theorem q_3_166 : Cond.constantLong "BeaconDelay$Laws" 89 (-1000000 : Int64) ∈ gw := gw_3 (i := 166) (by decide +kernel) rfl
theorem dX4_joined_146 : decode cX4_joined 146 = .ok (.ldc2_w 89, 3) := by decide +kernel
theorem dX4_joined_149 : decode cX4_joined 149 = .ok (.lcmp, 1) := by decide +kernel
theorem dX4_joined_150 : decode cX4_joined 150 = .ok (.ifCond .ge 9, 3) := by decide +kernel
theorem dX4_joined_159 : decode cX4_joined 159 = .ok (.lload 5, 2) := by decide +kernel
theorem dX4_joined_161 : decode cX4_joined 161 = .ok (.l2i, 1) := by decide +kernel
theorem dX4_joined_162 : decode cX4_joined 162 = .ok (.ireturn, 1) := by decide +kernel
theorem dX4_joined_153 : decode cX4_joined 153 = .ok (.ldc2_w 89, 3) := by decide +kernel
theorem dX4_joined_156 : decode cX4_joined 156 = .ok (.goto 5, 3) := by decide +kernel
theorem dX4_joined_138 : decode cX4_joined 138 = .ok (.ldc2_w 87, 3) := by decide +kernel
theorem dX4_joined_141 : decode cX4_joined 141 = .ok (.goto 20, 3) := by decide +kernel
theorem dX4_joined_52 : decode cX4_joined 52 = .ok (.lload_n 1, 1) := by decide +kernel
theorem dX4_joined_53 : decode cX4_joined 53 = .ok (.lload_n 3, 1) := by decide +kernel
theorem dX4_joined_54 : decode cX4_joined 54 = .ok (.lsub, 1) := by decide +kernel
theorem dX4_joined_55 : decode cX4_joined 55 = .ok (.lstore 5, 2) := by decide +kernel
theorem dX4_joined_57 : decode cX4_joined 57 = .ok (.goto 72, 3) := by decide +kernel
theorem dX4_joined_60 : decode cX4_joined 60 = .ok (.lload_n 1, 1) := by decide +kernel
theorem dX4_joined_61 : decode cX4_joined 61 = .ok (.lload_n 3, 1) := by decide +kernel
theorem dX4_joined_62 : decode cX4_joined 62 = .ok (.lmul, 1) := by decide +kernel
theorem dX4_joined_63 : decode cX4_joined 63 = .ok (.lstore 5, 2) := by decide +kernel
theorem dX4_joined_65 : decode cX4_joined 65 = .ok (.goto 64, 3) := by decide +kernel
theorem dX4_joined_68 : decode cX4_joined 68 = .ok (.lload_n 1, 1) := by decide +kernel
theorem dX4_joined_69 : decode cX4_joined 69 = .ok (.lload_n 3, 1) := by decide +kernel
theorem dX4_joined_70 : decode cX4_joined 70 = .ok (.lcmp, 1) := by decide +kernel
theorem dX4_joined_71 : decode cX4_joined 71 = .ok (.ifCond .ne 7, 3) := by decide +kernel
theorem dX4_joined_78 : decode cX4_joined 78 = .ok (.lconst 0, 1) := by decide +kernel
theorem dX4_joined_79 : decode cX4_joined 79 = .ok (.lstore 5, 2) := by decide +kernel
theorem dX4_joined_81 : decode cX4_joined 81 = .ok (.goto 48, 3) := by decide +kernel
theorem dX4_joined_74 : decode cX4_joined 74 = .ok (.lconst 1, 1) := by decide +kernel
theorem dX4_joined_75 : decode cX4_joined 75 = .ok (.goto 4, 3) := by decide +kernel
theorem dX4_joined_84 : decode cX4_joined 84 = .ok (.lload_n 1, 1) := by decide +kernel
theorem dX4_joined_85 : decode cX4_joined 85 = .ok (.lload_n 3, 1) := by decide +kernel
theorem dX4_joined_86 : decode cX4_joined 86 = .ok (.lcmp, 1) := by decide +kernel
theorem dX4_joined_87 : decode cX4_joined 87 = .ok (.ifCond .ge 7, 3) := by decide +kernel
theorem dX4_joined_94 : decode cX4_joined 94 = .ok (.lconst 0, 1) := by decide +kernel
theorem dX4_joined_95 : decode cX4_joined 95 = .ok (.lstore 5, 2) := by decide +kernel
theorem dX4_joined_97 : decode cX4_joined 97 = .ok (.goto 32, 3) := by decide +kernel
theorem dX4_joined_90 : decode cX4_joined 90 = .ok (.lconst 1, 1) := by decide +kernel
theorem dX4_joined_91 : decode cX4_joined 91 = .ok (.goto 4, 3) := by decide +kernel
theorem dX4_joined_100 : decode cX4_joined 100 = .ok (.lload_n 1, 1) := by decide +kernel
theorem dX4_joined_101 : decode cX4_joined 101 = .ok (.lload_n 3, 1) := by decide +kernel
theorem dX4_joined_102 : decode cX4_joined 102 = .ok (.lcmp, 1) := by decide +kernel
theorem dX4_joined_103 : decode cX4_joined 103 = .ok (.ifCond .le 7, 3) := by decide +kernel
theorem dX4_joined_110 : decode cX4_joined 110 = .ok (.lconst 0, 1) := by decide +kernel
theorem dX4_joined_111 : decode cX4_joined 111 = .ok (.lstore 5, 2) := by decide +kernel
theorem dX4_joined_113 : decode cX4_joined 113 = .ok (.goto 16, 3) := by decide +kernel
theorem dX4_joined_106 : decode cX4_joined 106 = .ok (.lconst 1, 1) := by decide +kernel
theorem dX4_joined_107 : decode cX4_joined 107 = .ok (.goto 4, 3) := by decide +kernel
theorem dX4_joined_116 : decode cX4_joined 116 = .ok (.lload_n 1, 1) := by decide +kernel
theorem dX4_joined_117 : decode cX4_joined 117 = .ok (.lload_n 3, 1) := by decide +kernel
theorem dX4_joined_118 : decode cX4_joined 118 = .ok (.land, 1) := by decide +kernel
theorem dX4_joined_119 : decode cX4_joined 119 = .ok (.lstore 5, 2) := by decide +kernel
theorem dX4_joined_121 : decode cX4_joined 121 = .ok (.goto 8, 3) := by decide +kernel
theorem dX4_joined_124 : decode cX4_joined 124 = .ok (.lload_n 1, 1) := by decide +kernel
theorem dX4_joined_125 : decode cX4_joined 125 = .ok (.lload_n 3, 1) := by decide +kernel
theorem dX4_joined_126 : decode cX4_joined 126 = .ok (.lor, 1) := by decide +kernel
theorem dX4_joined_127 : decode cX4_joined 127 = .ok (.lstore 5, 2) := by decide +kernel
set_option maxHeartbeats 4000000 in
set_option maxRecDepth 100000 in
theorem k_X4_joined_0 (l : Launch) (V : GV) (a0 : Int32) (k1 : Int64) (k2 : Int64) : Ct l V yX4_joined (.code yX4_joined cX4_joined 7 (some .int)) 1 [.int a0, .long k1, .long k2] [] 0 0 (QI V (fun (r : Int32) (w : va_W) => r = jnF a0 k1 k2 ∧ w = [])) := by
  refine Ct.of (by decide) (Nat.le_of_ble_eq_true rfl) (fun p e s m below meth c A ls hx hb hr hml hown hlk hnm hg hP hK hD hE hA hS hl => ?_)
  have hl : lv_has ls 7 [(0, .int a0), (1, .long k1), (3, .long k2)] := hl
  refine lv_iload_n hx hb dX4_joined_0 rfl (lv_at hl 0 rfl) ?_
  by_cases c_1 : a0 = 1006
  · refine lv_tableIn (off := 43) (tgt := 44) hx hb dX4_joined_1 (by rw [c_1]; decide) (by rw [c_1]; decide) (by rw [c_1]; rfl) (by decide) ?_
    refine lv_lload_n hx hb dX4_joined_44 rfl (lv_at hl 1 rfl) ?_
    refine lv_lload_n hx hb dX4_joined_45 rfl (lv_at hl 2 rfl) ?_
    refine lv_ladd hx hb dX4_joined_46 ?_
    refine lv_topl (fun j_2 ej_2 => ?_)
    refine lv_lstore (lv' := [(5, .long j_2), (0, .int a0), (1, .long k1), (3, .long k2)]) hx hb dX4_joined_47 hl (by decide) rfl (fun ls hl => ?_)
    refine lv_goto (tgt := 129) hx hb dX4_joined_49 (by decide) ?_
    refine lv_lload hx hb dX4_joined_129 (lv_at hl 0 rfl) ?_
    refine lv_ldc2 (v := 1000000) hx hb hown (hg _ q_3_165) dX4_joined_131 ?_
    refine W.lcmp hx hb dX4_joined_134 ?_
    refine lv_if_le (tgt := 144) hx hb dX4_joined_135 (by decide) (fun c_3 => ?_) (fun c_3 => ?_)
    · replace c_3 : j_2 ≤ (1000000 : Int64) := (lg_cmp_le _ _).mp c_3
      have b_4 : ivL (-9223372036854775808) 1000000 j_2 := ivL_e1 c_3 (ivL_top j_2) (ivL_c (1000000 : Int64) (a := 1000000) (b := 1000000) (by decide)) (by decide)
      refine lv_lload hx hb dX4_joined_144 (lv_at hl 0 rfl) ?_
      refine lv_ldc2 (v := (-1000000)) hx hb hown (hg _ q_3_166) dX4_joined_146 ?_
      refine W.lcmp hx hb dX4_joined_149 ?_
      refine lv_if_ge (tgt := 159) hx hb dX4_joined_150 (by decide) (fun c_5 => ?_) (fun c_5 => ?_)
      · replace c_5 : ((-1000000) : Int64) ≤ j_2 := (lg_cmp_ge _ _).mp c_5
        have b_6 : ivL (-1000000) 1000000 j_2 := ivL_e2 c_5 (ivL_c ((-1000000) : Int64) (a := (-1000000)) (b := (-1000000)) (by decide)) b_4 (by decide)
        refine lv_lload hx hb dX4_joined_159 (lv_at hl 0 rfl) ?_
        refine lv_l2i hx hb dX4_joined_161 rfl ?_
        refine lv_topi (fun x_7 ex_7 => ?_)
        exact fiI hx hb hr hlk hK hP hD hS dX4_joined_162 (Nat.le_of_ble_eq_true rfl) (Nat.le_of_ble_eq_true rfl) (⟨(jn_of (jc_c c_1 (jc_6 ej_2)) (cl_3 (Int64.not_lt.mpr c_3) (Int64.not_lt.mpr c_5) ex_7)), rfl⟩)
      · replace c_5 : ¬ ((-1000000) : Int64) ≤ j_2 := fun z => c_5 ((lg_cmp_ge _ _).mpr z)
        have b_8 : ivL (-9223372036854775808) (-1000001) j_2 := ivL_l1 (Int64.not_le.mp c_5) b_4 (ivL_c ((-1000000) : Int64) (a := (-1000000)) (b := (-1000000)) (by decide)) (by decide)
        refine lv_ldc2 (v := (-1000000)) hx hb hown (hg _ q_3_166) dX4_joined_153 ?_
        refine lv_goto (tgt := 161) hx hb dX4_joined_156 (by decide) ?_
        refine lv_l2i (v := (-1000000)) hx hb dX4_joined_161 (by decide +kernel) ?_
        exact fiI hx hb hr hlk hK hP hD hS dX4_joined_162 (Nat.le_of_ble_eq_true rfl) (Nat.le_of_ble_eq_true rfl) (⟨(jn_of (jc_c c_1 (jc_6 ej_2)) (cl_2 (Int64.not_lt.mpr c_3) (Int64.not_le.mp c_5))), rfl⟩)
    · replace c_3 : ¬ j_2 ≤ (1000000 : Int64) := fun z => c_3 ((lg_cmp_le _ _).mpr z)
      have b_9 : ivL 1000001 9223372036854775807 j_2 := ivL_l2 (Int64.not_le.mp c_3) (ivL_c (1000000 : Int64) (a := 1000000) (b := 1000000) (by decide)) (ivL_top j_2) (by decide)
      refine lv_ldc2 (v := 1000000) hx hb hown (hg _ q_3_165) dX4_joined_138 ?_
      refine lv_goto (tgt := 161) hx hb dX4_joined_141 (by decide) ?_
      refine lv_l2i (v := 1000000) hx hb dX4_joined_161 (by decide +kernel) ?_
      exact fiI hx hb hr hlk hK hP hD hS dX4_joined_162 (Nat.le_of_ble_eq_true rfl) (Nat.le_of_ble_eq_true rfl) (⟨(jn_of (jc_c c_1 (jc_6 ej_2)) (cl_1 (Int64.not_le.mp c_3))), rfl⟩)
  · by_cases c_10 : a0 = 1007
    · refine lv_tableIn (off := 51) (tgt := 52) hx hb dX4_joined_1 (by rw [c_10]; decide) (by rw [c_10]; decide) (by rw [c_10]; rfl) (by decide) ?_
      refine lv_lload_n hx hb dX4_joined_52 rfl (lv_at hl 1 rfl) ?_
      refine lv_lload_n hx hb dX4_joined_53 rfl (lv_at hl 2 rfl) ?_
      refine lv_lsub hx hb dX4_joined_54 ?_
      refine lv_topl (fun j_11 ej_11 => ?_)
      refine lv_lstore (lv' := [(5, .long j_11), (0, .int a0), (1, .long k1), (3, .long k2)]) hx hb dX4_joined_55 hl (by decide) rfl (fun ls hl => ?_)
      refine lv_goto (tgt := 129) hx hb dX4_joined_57 (by decide) ?_
      refine lv_lload hx hb dX4_joined_129 (lv_at hl 0 rfl) ?_
      refine lv_ldc2 (v := 1000000) hx hb hown (hg _ q_3_165) dX4_joined_131 ?_
      refine W.lcmp hx hb dX4_joined_134 ?_
      refine lv_if_le (tgt := 144) hx hb dX4_joined_135 (by decide) (fun c_12 => ?_) (fun c_12 => ?_)
      · replace c_12 : j_11 ≤ (1000000 : Int64) := (lg_cmp_le _ _).mp c_12
        have b_13 : ivL (-9223372036854775808) 1000000 j_11 := ivL_e1 c_12 (ivL_top j_11) (ivL_c (1000000 : Int64) (a := 1000000) (b := 1000000) (by decide)) (by decide)
        refine lv_lload hx hb dX4_joined_144 (lv_at hl 0 rfl) ?_
        refine lv_ldc2 (v := (-1000000)) hx hb hown (hg _ q_3_166) dX4_joined_146 ?_
        refine W.lcmp hx hb dX4_joined_149 ?_
        refine lv_if_ge (tgt := 159) hx hb dX4_joined_150 (by decide) (fun c_14 => ?_) (fun c_14 => ?_)
        · replace c_14 : ((-1000000) : Int64) ≤ j_11 := (lg_cmp_ge _ _).mp c_14
          have b_15 : ivL (-1000000) 1000000 j_11 := ivL_e2 c_14 (ivL_c ((-1000000) : Int64) (a := (-1000000)) (b := (-1000000)) (by decide)) b_13 (by decide)
          refine lv_lload hx hb dX4_joined_159 (lv_at hl 0 rfl) ?_
          refine lv_l2i hx hb dX4_joined_161 rfl ?_
          refine lv_topi (fun x_16 ex_16 => ?_)
          exact fiI hx hb hr hlk hK hP hD hS dX4_joined_162 (Nat.le_of_ble_eq_true rfl) (Nat.le_of_ble_eq_true rfl) (⟨(jn_of (jc_c c_10 (jc_7 ej_11)) (cl_3 (Int64.not_lt.mpr c_12) (Int64.not_lt.mpr c_14) ex_16)), rfl⟩)
        · replace c_14 : ¬ ((-1000000) : Int64) ≤ j_11 := fun z => c_14 ((lg_cmp_ge _ _).mpr z)
          have b_17 : ivL (-9223372036854775808) (-1000001) j_11 := ivL_l1 (Int64.not_le.mp c_14) b_13 (ivL_c ((-1000000) : Int64) (a := (-1000000)) (b := (-1000000)) (by decide)) (by decide)
          refine lv_ldc2 (v := (-1000000)) hx hb hown (hg _ q_3_166) dX4_joined_153 ?_
          refine lv_goto (tgt := 161) hx hb dX4_joined_156 (by decide) ?_
          refine lv_l2i (v := (-1000000)) hx hb dX4_joined_161 (by decide +kernel) ?_
          exact fiI hx hb hr hlk hK hP hD hS dX4_joined_162 (Nat.le_of_ble_eq_true rfl) (Nat.le_of_ble_eq_true rfl) (⟨(jn_of (jc_c c_10 (jc_7 ej_11)) (cl_2 (Int64.not_lt.mpr c_12) (Int64.not_le.mp c_14))), rfl⟩)
      · replace c_12 : ¬ j_11 ≤ (1000000 : Int64) := fun z => c_12 ((lg_cmp_le _ _).mpr z)
        have b_18 : ivL 1000001 9223372036854775807 j_11 := ivL_l2 (Int64.not_le.mp c_12) (ivL_c (1000000 : Int64) (a := 1000000) (b := 1000000) (by decide)) (ivL_top j_11) (by decide)
        refine lv_ldc2 (v := 1000000) hx hb hown (hg _ q_3_165) dX4_joined_138 ?_
        refine lv_goto (tgt := 161) hx hb dX4_joined_141 (by decide) ?_
        refine lv_l2i (v := 1000000) hx hb dX4_joined_161 (by decide +kernel) ?_
        exact fiI hx hb hr hlk hK hP hD hS dX4_joined_162 (Nat.le_of_ble_eq_true rfl) (Nat.le_of_ble_eq_true rfl) (⟨(jn_of (jc_c c_10 (jc_7 ej_11)) (cl_1 (Int64.not_le.mp c_12))), rfl⟩)
    · by_cases c_19 : a0 = 1008
      · refine lv_tableIn (off := 59) (tgt := 60) hx hb dX4_joined_1 (by rw [c_19]; decide) (by rw [c_19]; decide) (by rw [c_19]; rfl) (by decide) ?_
        refine lv_lload_n hx hb dX4_joined_60 rfl (lv_at hl 1 rfl) ?_
        refine lv_lload_n hx hb dX4_joined_61 rfl (lv_at hl 2 rfl) ?_
        refine lv_lmul hx hb dX4_joined_62 ?_
        refine lv_topl (fun j_20 ej_20 => ?_)
        refine lv_lstore (lv' := [(5, .long j_20), (0, .int a0), (1, .long k1), (3, .long k2)]) hx hb dX4_joined_63 hl (by decide) rfl (fun ls hl => ?_)
        refine lv_goto (tgt := 129) hx hb dX4_joined_65 (by decide) ?_
        refine lv_lload hx hb dX4_joined_129 (lv_at hl 0 rfl) ?_
        refine lv_ldc2 (v := 1000000) hx hb hown (hg _ q_3_165) dX4_joined_131 ?_
        refine W.lcmp hx hb dX4_joined_134 ?_
        refine lv_if_le (tgt := 144) hx hb dX4_joined_135 (by decide) (fun c_21 => ?_) (fun c_21 => ?_)
        · replace c_21 : j_20 ≤ (1000000 : Int64) := (lg_cmp_le _ _).mp c_21
          have b_22 : ivL (-9223372036854775808) 1000000 j_20 := ivL_e1 c_21 (ivL_top j_20) (ivL_c (1000000 : Int64) (a := 1000000) (b := 1000000) (by decide)) (by decide)
          refine lv_lload hx hb dX4_joined_144 (lv_at hl 0 rfl) ?_
          refine lv_ldc2 (v := (-1000000)) hx hb hown (hg _ q_3_166) dX4_joined_146 ?_
          refine W.lcmp hx hb dX4_joined_149 ?_
          refine lv_if_ge (tgt := 159) hx hb dX4_joined_150 (by decide) (fun c_23 => ?_) (fun c_23 => ?_)
          · replace c_23 : ((-1000000) : Int64) ≤ j_20 := (lg_cmp_ge _ _).mp c_23
            have b_24 : ivL (-1000000) 1000000 j_20 := ivL_e2 c_23 (ivL_c ((-1000000) : Int64) (a := (-1000000)) (b := (-1000000)) (by decide)) b_22 (by decide)
            refine lv_lload hx hb dX4_joined_159 (lv_at hl 0 rfl) ?_
            refine lv_l2i hx hb dX4_joined_161 rfl ?_
            refine lv_topi (fun x_25 ex_25 => ?_)
            exact fiI hx hb hr hlk hK hP hD hS dX4_joined_162 (Nat.le_of_ble_eq_true rfl) (Nat.le_of_ble_eq_true rfl) (⟨(jn_of (jc_c c_19 (jc_8 ej_20)) (cl_3 (Int64.not_lt.mpr c_21) (Int64.not_lt.mpr c_23) ex_25)), rfl⟩)
          · replace c_23 : ¬ ((-1000000) : Int64) ≤ j_20 := fun z => c_23 ((lg_cmp_ge _ _).mpr z)
            have b_26 : ivL (-9223372036854775808) (-1000001) j_20 := ivL_l1 (Int64.not_le.mp c_23) b_22 (ivL_c ((-1000000) : Int64) (a := (-1000000)) (b := (-1000000)) (by decide)) (by decide)
            refine lv_ldc2 (v := (-1000000)) hx hb hown (hg _ q_3_166) dX4_joined_153 ?_
            refine lv_goto (tgt := 161) hx hb dX4_joined_156 (by decide) ?_
            refine lv_l2i (v := (-1000000)) hx hb dX4_joined_161 (by decide +kernel) ?_
            exact fiI hx hb hr hlk hK hP hD hS dX4_joined_162 (Nat.le_of_ble_eq_true rfl) (Nat.le_of_ble_eq_true rfl) (⟨(jn_of (jc_c c_19 (jc_8 ej_20)) (cl_2 (Int64.not_lt.mpr c_21) (Int64.not_le.mp c_23))), rfl⟩)
        · replace c_21 : ¬ j_20 ≤ (1000000 : Int64) := fun z => c_21 ((lg_cmp_le _ _).mpr z)
          have b_27 : ivL 1000001 9223372036854775807 j_20 := ivL_l2 (Int64.not_le.mp c_21) (ivL_c (1000000 : Int64) (a := 1000000) (b := 1000000) (by decide)) (ivL_top j_20) (by decide)
          refine lv_ldc2 (v := 1000000) hx hb hown (hg _ q_3_165) dX4_joined_138 ?_
          refine lv_goto (tgt := 161) hx hb dX4_joined_141 (by decide) ?_
          refine lv_l2i (v := 1000000) hx hb dX4_joined_161 (by decide +kernel) ?_
          exact fiI hx hb hr hlk hK hP hD hS dX4_joined_162 (Nat.le_of_ble_eq_true rfl) (Nat.le_of_ble_eq_true rfl) (⟨(jn_of (jc_c c_19 (jc_8 ej_20)) (cl_1 (Int64.not_le.mp c_21))), rfl⟩)
      · by_cases c_28 : a0 = 1009
        · refine lv_tableIn (off := 67) (tgt := 68) hx hb dX4_joined_1 (by rw [c_28]; decide) (by rw [c_28]; decide) (by rw [c_28]; rfl) (by decide) ?_
          refine lv_lload_n hx hb dX4_joined_68 rfl (lv_at hl 1 rfl) ?_
          refine lv_lload_n hx hb dX4_joined_69 rfl (lv_at hl 2 rfl) ?_
          refine W.lcmp hx hb dX4_joined_70 ?_
          refine lv_if_ne (tgt := 78) hx hb dX4_joined_71 (by decide) (fun c_29 => ?_) (fun c_29 => ?_)
          · replace c_29 : ¬ k1 = k2 := fun z => c_29 ((lg_cmp_eq _ _).mpr z)
            refine lv_lconst (v := 0) hx hb dX4_joined_78 (by decide) ?_
            refine lv_lstore (lv' := [(5, .long 0), (0, .int a0), (1, .long k1), (3, .long k2)]) hx hb dX4_joined_79 hl (by decide) rfl (fun ls hl => ?_)
            refine lv_goto (tgt := 129) hx hb dX4_joined_81 (by decide) ?_
            refine lv_lload hx hb dX4_joined_129 (lv_at hl 0 rfl) ?_
            refine lv_ldc2 (v := 1000000) hx hb hown (hg _ q_3_165) dX4_joined_131 ?_
            refine W.lcmp hx hb dX4_joined_134 ?_
            refine lv_if_le (tgt := 144) hx hb dX4_joined_135 (by decide) (fun _ => ?_) (fun c_31 => absurd (fun z => c_31 ((lg_cmp_le _ _).mpr z)) (by decide))
            refine lv_lload hx hb dX4_joined_144 (lv_at hl 0 rfl) ?_
            refine lv_ldc2 (v := (-1000000)) hx hb hown (hg _ q_3_166) dX4_joined_146 ?_
            refine W.lcmp hx hb dX4_joined_149 ?_
            refine lv_if_ge (tgt := 159) hx hb dX4_joined_150 (by decide) (fun _ => ?_) (fun c_33 => absurd (fun z => c_33 ((lg_cmp_ge _ _).mpr z)) (by decide))
            refine lv_lload hx hb dX4_joined_159 (lv_at hl 0 rfl) ?_
            refine lv_l2i (v := 0) hx hb dX4_joined_161 (by decide +kernel) ?_
            exact fiI hx hb hr hlk hK hP hD hS dX4_joined_162 (Nat.le_of_ble_eq_true rfl) (Nat.le_of_ble_eq_true rfl) (⟨(jn_of (jc_c c_28 (jc_9 (if_neg c_29).symm)) (show (0 : Int32) = clL 0 by decide)), rfl⟩)
          · replace c_29 : k1 = k2 := (lg_cmp_eq _ _).mp c_29
            refine lv_lconst (v := 1) hx hb dX4_joined_74 (by decide) ?_
            refine lv_goto (tgt := 79) hx hb dX4_joined_75 (by decide) ?_
            refine lv_lstore (lv' := [(5, .long 1), (0, .int a0), (1, .long k1), (3, .long k2)]) hx hb dX4_joined_79 hl (by decide) rfl (fun ls hl => ?_)
            refine lv_goto (tgt := 129) hx hb dX4_joined_81 (by decide) ?_
            refine lv_lload hx hb dX4_joined_129 (lv_at hl 0 rfl) ?_
            refine lv_ldc2 (v := 1000000) hx hb hown (hg _ q_3_165) dX4_joined_131 ?_
            refine W.lcmp hx hb dX4_joined_134 ?_
            refine lv_if_le (tgt := 144) hx hb dX4_joined_135 (by decide) (fun _ => ?_) (fun c_35 => absurd (fun z => c_35 ((lg_cmp_le _ _).mpr z)) (by decide))
            refine lv_lload hx hb dX4_joined_144 (lv_at hl 0 rfl) ?_
            refine lv_ldc2 (v := (-1000000)) hx hb hown (hg _ q_3_166) dX4_joined_146 ?_
            refine W.lcmp hx hb dX4_joined_149 ?_
            refine lv_if_ge (tgt := 159) hx hb dX4_joined_150 (by decide) (fun _ => ?_) (fun c_37 => absurd (fun z => c_37 ((lg_cmp_ge _ _).mpr z)) (by decide))
            refine lv_lload hx hb dX4_joined_159 (lv_at hl 0 rfl) ?_
            refine lv_l2i (v := 1) hx hb dX4_joined_161 (by decide +kernel) ?_
            exact fiI hx hb hr hlk hK hP hD hS dX4_joined_162 (Nat.le_of_ble_eq_true rfl) (Nat.le_of_ble_eq_true rfl) (⟨(jn_of (jc_c c_28 (jc_9 (if_pos c_29).symm)) (show (1 : Int32) = clL 1 by decide)), rfl⟩)
        · by_cases c_38 : a0 = 1010
          · refine lv_tableIn (off := 83) (tgt := 84) hx hb dX4_joined_1 (by rw [c_38]; decide) (by rw [c_38]; decide) (by rw [c_38]; rfl) (by decide) ?_
            refine lv_lload_n hx hb dX4_joined_84 rfl (lv_at hl 1 rfl) ?_
            refine lv_lload_n hx hb dX4_joined_85 rfl (lv_at hl 2 rfl) ?_
            refine W.lcmp hx hb dX4_joined_86 ?_
            refine lv_if_ge (tgt := 94) hx hb dX4_joined_87 (by decide) (fun c_39 => ?_) (fun c_39 => ?_)
            · replace c_39 : k2 ≤ k1 := (lg_cmp_ge _ _).mp c_39
              refine lv_lconst (v := 0) hx hb dX4_joined_94 (by decide) ?_
              refine lv_lstore (lv' := [(5, .long 0), (0, .int a0), (1, .long k1), (3, .long k2)]) hx hb dX4_joined_95 hl (by decide) rfl (fun ls hl => ?_)
              refine lv_goto (tgt := 129) hx hb dX4_joined_97 (by decide) ?_
              refine lv_lload hx hb dX4_joined_129 (lv_at hl 0 rfl) ?_
              refine lv_ldc2 (v := 1000000) hx hb hown (hg _ q_3_165) dX4_joined_131 ?_
              refine W.lcmp hx hb dX4_joined_134 ?_
              refine lv_if_le (tgt := 144) hx hb dX4_joined_135 (by decide) (fun _ => ?_) (fun c_41 => absurd (fun z => c_41 ((lg_cmp_le _ _).mpr z)) (by decide))
              refine lv_lload hx hb dX4_joined_144 (lv_at hl 0 rfl) ?_
              refine lv_ldc2 (v := (-1000000)) hx hb hown (hg _ q_3_166) dX4_joined_146 ?_
              refine W.lcmp hx hb dX4_joined_149 ?_
              refine lv_if_ge (tgt := 159) hx hb dX4_joined_150 (by decide) (fun _ => ?_) (fun c_43 => absurd (fun z => c_43 ((lg_cmp_ge _ _).mpr z)) (by decide))
              refine lv_lload hx hb dX4_joined_159 (lv_at hl 0 rfl) ?_
              refine lv_l2i (v := 0) hx hb dX4_joined_161 (by decide +kernel) ?_
              exact fiI hx hb hr hlk hK hP hD hS dX4_joined_162 (Nat.le_of_ble_eq_true rfl) (Nat.le_of_ble_eq_true rfl) (⟨(jn_of (jc_c c_38 (jc_10 (if_neg (Int64.not_lt.mpr c_39)).symm)) (show (0 : Int32) = clL 0 by decide)), rfl⟩)
            · replace c_39 : ¬ k2 ≤ k1 := fun z => c_39 ((lg_cmp_ge _ _).mpr z)
              have b_44 : ivL (-9223372036854775808) 9223372036854775806 k1 := ivL_l1 (Int64.not_le.mp c_39) (ivL_top k1) (ivL_top k2) (by decide)
              have b_45 : ivL (-9223372036854775807) 9223372036854775807 k2 := ivL_l2 (Int64.not_le.mp c_39) (ivL_top k1) (ivL_top k2) (by decide)
              refine lv_lconst (v := 1) hx hb dX4_joined_90 (by decide) ?_
              refine lv_goto (tgt := 95) hx hb dX4_joined_91 (by decide) ?_
              refine lv_lstore (lv' := [(5, .long 1), (0, .int a0), (1, .long k1), (3, .long k2)]) hx hb dX4_joined_95 hl (by decide) rfl (fun ls hl => ?_)
              refine lv_goto (tgt := 129) hx hb dX4_joined_97 (by decide) ?_
              refine lv_lload hx hb dX4_joined_129 (lv_at hl 0 rfl) ?_
              refine lv_ldc2 (v := 1000000) hx hb hown (hg _ q_3_165) dX4_joined_131 ?_
              refine W.lcmp hx hb dX4_joined_134 ?_
              refine lv_if_le (tgt := 144) hx hb dX4_joined_135 (by decide) (fun _ => ?_) (fun c_47 => absurd (fun z => c_47 ((lg_cmp_le _ _).mpr z)) (by decide))
              refine lv_lload hx hb dX4_joined_144 (lv_at hl 0 rfl) ?_
              refine lv_ldc2 (v := (-1000000)) hx hb hown (hg _ q_3_166) dX4_joined_146 ?_
              refine W.lcmp hx hb dX4_joined_149 ?_
              refine lv_if_ge (tgt := 159) hx hb dX4_joined_150 (by decide) (fun _ => ?_) (fun c_49 => absurd (fun z => c_49 ((lg_cmp_ge _ _).mpr z)) (by decide))
              refine lv_lload hx hb dX4_joined_159 (lv_at hl 0 rfl) ?_
              refine lv_l2i (v := 1) hx hb dX4_joined_161 (by decide +kernel) ?_
              exact fiI hx hb hr hlk hK hP hD hS dX4_joined_162 (Nat.le_of_ble_eq_true rfl) (Nat.le_of_ble_eq_true rfl) (⟨(jn_of (jc_c c_38 (jc_10 (if_pos (Int64.not_le.mp c_39)).symm)) (show (1 : Int32) = clL 1 by decide)), rfl⟩)
          · by_cases c_50 : a0 = 1011
            · refine lv_tableIn (off := 99) (tgt := 100) hx hb dX4_joined_1 (by rw [c_50]; decide) (by rw [c_50]; decide) (by rw [c_50]; rfl) (by decide) ?_
              refine lv_lload_n hx hb dX4_joined_100 rfl (lv_at hl 1 rfl) ?_
              refine lv_lload_n hx hb dX4_joined_101 rfl (lv_at hl 2 rfl) ?_
              refine W.lcmp hx hb dX4_joined_102 ?_
              refine lv_if_le (tgt := 110) hx hb dX4_joined_103 (by decide) (fun c_51 => ?_) (fun c_51 => ?_)
              · replace c_51 : k1 ≤ k2 := (lg_cmp_le _ _).mp c_51
                refine lv_lconst (v := 0) hx hb dX4_joined_110 (by decide) ?_
                refine lv_lstore (lv' := [(5, .long 0), (0, .int a0), (1, .long k1), (3, .long k2)]) hx hb dX4_joined_111 hl (by decide) rfl (fun ls hl => ?_)
                refine lv_goto (tgt := 129) hx hb dX4_joined_113 (by decide) ?_
                refine lv_lload hx hb dX4_joined_129 (lv_at hl 0 rfl) ?_
                refine lv_ldc2 (v := 1000000) hx hb hown (hg _ q_3_165) dX4_joined_131 ?_
                refine W.lcmp hx hb dX4_joined_134 ?_
                refine lv_if_le (tgt := 144) hx hb dX4_joined_135 (by decide) (fun _ => ?_) (fun c_53 => absurd (fun z => c_53 ((lg_cmp_le _ _).mpr z)) (by decide))
                refine lv_lload hx hb dX4_joined_144 (lv_at hl 0 rfl) ?_
                refine lv_ldc2 (v := (-1000000)) hx hb hown (hg _ q_3_166) dX4_joined_146 ?_
                refine W.lcmp hx hb dX4_joined_149 ?_
                refine lv_if_ge (tgt := 159) hx hb dX4_joined_150 (by decide) (fun _ => ?_) (fun c_55 => absurd (fun z => c_55 ((lg_cmp_ge _ _).mpr z)) (by decide))
                refine lv_lload hx hb dX4_joined_159 (lv_at hl 0 rfl) ?_
                refine lv_l2i (v := 0) hx hb dX4_joined_161 (by decide +kernel) ?_
                exact fiI hx hb hr hlk hK hP hD hS dX4_joined_162 (Nat.le_of_ble_eq_true rfl) (Nat.le_of_ble_eq_true rfl) (⟨(jn_of (jc_c c_50 (jc_11 (if_neg (Int64.not_lt.mpr c_51)).symm)) (show (0 : Int32) = clL 0 by decide)), rfl⟩)
              · replace c_51 : ¬ k1 ≤ k2 := fun z => c_51 ((lg_cmp_le _ _).mpr z)
                have b_56 : ivL (-9223372036854775808) 9223372036854775806 k2 := ivL_l1 (Int64.not_le.mp c_51) (ivL_top k2) (ivL_top k1) (by decide)
                have b_57 : ivL (-9223372036854775807) 9223372036854775807 k1 := ivL_l2 (Int64.not_le.mp c_51) (ivL_top k2) (ivL_top k1) (by decide)
                refine lv_lconst (v := 1) hx hb dX4_joined_106 (by decide) ?_
                refine lv_goto (tgt := 111) hx hb dX4_joined_107 (by decide) ?_
                refine lv_lstore (lv' := [(5, .long 1), (0, .int a0), (1, .long k1), (3, .long k2)]) hx hb dX4_joined_111 hl (by decide) rfl (fun ls hl => ?_)
                refine lv_goto (tgt := 129) hx hb dX4_joined_113 (by decide) ?_
                refine lv_lload hx hb dX4_joined_129 (lv_at hl 0 rfl) ?_
                refine lv_ldc2 (v := 1000000) hx hb hown (hg _ q_3_165) dX4_joined_131 ?_
                refine W.lcmp hx hb dX4_joined_134 ?_
                refine lv_if_le (tgt := 144) hx hb dX4_joined_135 (by decide) (fun _ => ?_) (fun c_59 => absurd (fun z => c_59 ((lg_cmp_le _ _).mpr z)) (by decide))
                refine lv_lload hx hb dX4_joined_144 (lv_at hl 0 rfl) ?_
                refine lv_ldc2 (v := (-1000000)) hx hb hown (hg _ q_3_166) dX4_joined_146 ?_
                refine W.lcmp hx hb dX4_joined_149 ?_
                refine lv_if_ge (tgt := 159) hx hb dX4_joined_150 (by decide) (fun _ => ?_) (fun c_61 => absurd (fun z => c_61 ((lg_cmp_ge _ _).mpr z)) (by decide))
                refine lv_lload hx hb dX4_joined_159 (lv_at hl 0 rfl) ?_
                refine lv_l2i (v := 1) hx hb dX4_joined_161 (by decide +kernel) ?_
                exact fiI hx hb hr hlk hK hP hD hS dX4_joined_162 (Nat.le_of_ble_eq_true rfl) (Nat.le_of_ble_eq_true rfl) (⟨(jn_of (jc_c c_50 (jc_11 (if_pos (Int64.not_le.mp c_51)).symm)) (show (1 : Int32) = clL 1 by decide)), rfl⟩)
            · by_cases c_62 : a0 = 1012
              · refine lv_tableIn (off := 115) (tgt := 116) hx hb dX4_joined_1 (by rw [c_62]; decide) (by rw [c_62]; decide) (by rw [c_62]; rfl) (by decide) ?_
                refine lv_lload_n hx hb dX4_joined_116 rfl (lv_at hl 1 rfl) ?_
                refine lv_lload_n hx hb dX4_joined_117 rfl (lv_at hl 2 rfl) ?_
                refine lv_land hx hb dX4_joined_118 ?_
                refine lv_topl (fun j_63 ej_63 => ?_)
                refine lv_lstore (lv' := [(5, .long j_63), (0, .int a0), (1, .long k1), (3, .long k2)]) hx hb dX4_joined_119 hl (by decide) rfl (fun ls hl => ?_)
                refine lv_goto (tgt := 129) hx hb dX4_joined_121 (by decide) ?_
                refine lv_lload hx hb dX4_joined_129 (lv_at hl 0 rfl) ?_
                refine lv_ldc2 (v := 1000000) hx hb hown (hg _ q_3_165) dX4_joined_131 ?_
                refine W.lcmp hx hb dX4_joined_134 ?_
                refine lv_if_le (tgt := 144) hx hb dX4_joined_135 (by decide) (fun c_64 => ?_) (fun c_64 => ?_)
                · replace c_64 : j_63 ≤ (1000000 : Int64) := (lg_cmp_le _ _).mp c_64
                  have b_65 : ivL (-9223372036854775808) 1000000 j_63 := ivL_e1 c_64 (ivL_top j_63) (ivL_c (1000000 : Int64) (a := 1000000) (b := 1000000) (by decide)) (by decide)
                  refine lv_lload hx hb dX4_joined_144 (lv_at hl 0 rfl) ?_
                  refine lv_ldc2 (v := (-1000000)) hx hb hown (hg _ q_3_166) dX4_joined_146 ?_
                  refine W.lcmp hx hb dX4_joined_149 ?_
                  refine lv_if_ge (tgt := 159) hx hb dX4_joined_150 (by decide) (fun c_66 => ?_) (fun c_66 => ?_)
                  · replace c_66 : ((-1000000) : Int64) ≤ j_63 := (lg_cmp_ge _ _).mp c_66
                    have b_67 : ivL (-1000000) 1000000 j_63 := ivL_e2 c_66 (ivL_c ((-1000000) : Int64) (a := (-1000000)) (b := (-1000000)) (by decide)) b_65 (by decide)
                    refine lv_lload hx hb dX4_joined_159 (lv_at hl 0 rfl) ?_
                    refine lv_l2i hx hb dX4_joined_161 rfl ?_
                    refine lv_topi (fun x_68 ex_68 => ?_)
                    exact fiI hx hb hr hlk hK hP hD hS dX4_joined_162 (Nat.le_of_ble_eq_true rfl) (Nat.le_of_ble_eq_true rfl) (⟨(jn_of (jc_c c_62 (jc_12 ej_63)) (cl_3 (Int64.not_lt.mpr c_64) (Int64.not_lt.mpr c_66) ex_68)), rfl⟩)
                  · replace c_66 : ¬ ((-1000000) : Int64) ≤ j_63 := fun z => c_66 ((lg_cmp_ge _ _).mpr z)
                    have b_69 : ivL (-9223372036854775808) (-1000001) j_63 := ivL_l1 (Int64.not_le.mp c_66) b_65 (ivL_c ((-1000000) : Int64) (a := (-1000000)) (b := (-1000000)) (by decide)) (by decide)
                    refine lv_ldc2 (v := (-1000000)) hx hb hown (hg _ q_3_166) dX4_joined_153 ?_
                    refine lv_goto (tgt := 161) hx hb dX4_joined_156 (by decide) ?_
                    refine lv_l2i (v := (-1000000)) hx hb dX4_joined_161 (by decide +kernel) ?_
                    exact fiI hx hb hr hlk hK hP hD hS dX4_joined_162 (Nat.le_of_ble_eq_true rfl) (Nat.le_of_ble_eq_true rfl) (⟨(jn_of (jc_c c_62 (jc_12 ej_63)) (cl_2 (Int64.not_lt.mpr c_64) (Int64.not_le.mp c_66))), rfl⟩)
                · replace c_64 : ¬ j_63 ≤ (1000000 : Int64) := fun z => c_64 ((lg_cmp_le _ _).mpr z)
                  have b_70 : ivL 1000001 9223372036854775807 j_63 := ivL_l2 (Int64.not_le.mp c_64) (ivL_c (1000000 : Int64) (a := 1000000) (b := 1000000) (by decide)) (ivL_top j_63) (by decide)
                  refine lv_ldc2 (v := 1000000) hx hb hown (hg _ q_3_165) dX4_joined_138 ?_
                  refine lv_goto (tgt := 161) hx hb dX4_joined_141 (by decide) ?_
                  refine lv_l2i (v := 1000000) hx hb dX4_joined_161 (by decide +kernel) ?_
                  exact fiI hx hb hr hlk hK hP hD hS dX4_joined_162 (Nat.le_of_ble_eq_true rfl) (Nat.le_of_ble_eq_true rfl) (⟨(jn_of (jc_c c_62 (jc_12 ej_63)) (cl_1 (Int64.not_le.mp c_64))), rfl⟩)
              · refine lv_tableOut (tgt := 124) hx hb dX4_joined_1 ((Int.lt_or_le a0.toInt 1006).elim Or.inl (fun c_71 => Or.inr (by simp only [tI_eq, (by decide : (1006 : Int32).toInt = 1006), (by decide : (1007 : Int32).toInt = 1007), (by decide : (1008 : Int32).toInt = 1008), (by decide : (1009 : Int32).toInt = 1009), (by decide : (1010 : Int32).toInt = 1010), (by decide : (1011 : Int32).toInt = 1011), (by decide : (1012 : Int32).toInt = 1012)] at c_1 c_10 c_19 c_28 c_38 c_50 c_62; omega))) (by decide) ?_
                refine lv_lload_n hx hb dX4_joined_124 rfl (lv_at hl 1 rfl) ?_
                refine lv_lload_n hx hb dX4_joined_125 rfl (lv_at hl 2 rfl) ?_
                refine lv_lor hx hb dX4_joined_126 ?_
                refine lv_topl (fun j_72 ej_72 => ?_)
                refine lv_lstore (lv' := [(5, .long j_72), (0, .int a0), (1, .long k1), (3, .long k2)]) hx hb dX4_joined_127 hl (by decide) rfl (fun ls hl => ?_)
                refine lv_lload hx hb dX4_joined_129 (lv_at hl 0 rfl) ?_
                refine lv_ldc2 (v := 1000000) hx hb hown (hg _ q_3_165) dX4_joined_131 ?_
                refine W.lcmp hx hb dX4_joined_134 ?_
                refine lv_if_le (tgt := 144) hx hb dX4_joined_135 (by decide) (fun c_73 => ?_) (fun c_73 => ?_)
                · replace c_73 : j_72 ≤ (1000000 : Int64) := (lg_cmp_le _ _).mp c_73
                  have b_74 : ivL (-9223372036854775808) 1000000 j_72 := ivL_e1 c_73 (ivL_top j_72) (ivL_c (1000000 : Int64) (a := 1000000) (b := 1000000) (by decide)) (by decide)
                  refine lv_lload hx hb dX4_joined_144 (lv_at hl 0 rfl) ?_
                  refine lv_ldc2 (v := (-1000000)) hx hb hown (hg _ q_3_166) dX4_joined_146 ?_
                  refine W.lcmp hx hb dX4_joined_149 ?_
                  refine lv_if_ge (tgt := 159) hx hb dX4_joined_150 (by decide) (fun c_75 => ?_) (fun c_75 => ?_)
                  · replace c_75 : ((-1000000) : Int64) ≤ j_72 := (lg_cmp_ge _ _).mp c_75
                    have b_76 : ivL (-1000000) 1000000 j_72 := ivL_e2 c_75 (ivL_c ((-1000000) : Int64) (a := (-1000000)) (b := (-1000000)) (by decide)) b_74 (by decide)
                    refine lv_lload hx hb dX4_joined_159 (lv_at hl 0 rfl) ?_
                    refine lv_l2i hx hb dX4_joined_161 rfl ?_
                    refine lv_topi (fun x_77 ex_77 => ?_)
                    exact fiI hx hb hr hlk hK hP hD hS dX4_joined_162 (Nat.le_of_ble_eq_true rfl) (Nat.le_of_ble_eq_true rfl) (⟨(jn_of (jc_13 c_1 c_10 c_19 c_28 c_38 c_50 c_62 ej_72) (cl_3 (Int64.not_lt.mpr c_73) (Int64.not_lt.mpr c_75) ex_77)), rfl⟩)
                  · replace c_75 : ¬ ((-1000000) : Int64) ≤ j_72 := fun z => c_75 ((lg_cmp_ge _ _).mpr z)
                    have b_78 : ivL (-9223372036854775808) (-1000001) j_72 := ivL_l1 (Int64.not_le.mp c_75) b_74 (ivL_c ((-1000000) : Int64) (a := (-1000000)) (b := (-1000000)) (by decide)) (by decide)
                    refine lv_ldc2 (v := (-1000000)) hx hb hown (hg _ q_3_166) dX4_joined_153 ?_
                    refine lv_goto (tgt := 161) hx hb dX4_joined_156 (by decide) ?_
                    refine lv_l2i (v := (-1000000)) hx hb dX4_joined_161 (by decide +kernel) ?_
                    exact fiI hx hb hr hlk hK hP hD hS dX4_joined_162 (Nat.le_of_ble_eq_true rfl) (Nat.le_of_ble_eq_true rfl) (⟨(jn_of (jc_13 c_1 c_10 c_19 c_28 c_38 c_50 c_62 ej_72) (cl_2 (Int64.not_lt.mpr c_73) (Int64.not_le.mp c_75))), rfl⟩)
                · replace c_73 : ¬ j_72 ≤ (1000000 : Int64) := fun z => c_73 ((lg_cmp_le _ _).mpr z)
                  have b_79 : ivL 1000001 9223372036854775807 j_72 := ivL_l2 (Int64.not_le.mp c_73) (ivL_c (1000000 : Int64) (a := 1000000) (b := 1000000) (by decide)) (ivL_top j_72) (by decide)
                  refine lv_ldc2 (v := 1000000) hx hb hown (hg _ q_3_165) dX4_joined_138 ?_
                  refine lv_goto (tgt := 161) hx hb dX4_joined_141 (by decide) ?_
                  refine lv_l2i (v := 1000000) hx hb dX4_joined_161 (by decide +kernel) ?_
                  exact fiI hx hb hr hlk hK hP hD hS dX4_joined_162 (Nat.le_of_ble_eq_true rfl) (Nat.le_of_ble_eq_true rfl) (⟨(jn_of (jc_13 c_1 c_10 c_19 c_28 c_38 c_50 c_62 ej_72) (cl_1 (Int64.not_le.mp c_73))), rfl⟩)
def o4_rrrrrr (x0 : Nat) (x1 : Nat) (x2 : Nat) (x3 : Nat) (x4 : Nat) (x5 : Nat) : List Value := [.ref x0, .ref x1, .ref x2, .ref x3, .ref x4, .ref x5]
theorem dX4_workOut_0 : decode cX4_workOut 0 = .ok (.iconst 0, 1) := by decide +kernel
theorem dX4_workOut_1 : decode cX4_workOut 1 = .ok (.istore_n 3, 1) := by decide +kernel
theorem dX4_workOut_2 : decode cX4_workOut 2 = .ok (.iload_n 1, 1) := by decide +kernel
theorem dX4_workOut_3 : decode cX4_workOut 3 = .ok (.istore 4, 2) := by decide +kernel
theorem dX4_workOut_5 : decode cX4_workOut 5 = .ok (.iload 4, 2) := by decide +kernel
theorem dX4_workOut_7 : decode cX4_workOut 7 = .ok (.iload_n 2, 1) := by decide +kernel
theorem dX4_workOut_8 : decode cX4_workOut 8 = .ok (.if_icmp .ge 199, 3) := by decide +kernel
theorem dX4_workOut_207 : decode cX4_workOut 207 = .ok (.aload_n 0, 1) := by decide +kernel
theorem q_1_174 : Cond.fieldLink "BeaconDelay$Laws" 18 "BeaconDelay$Laws" "waiting" "[I" ∈ gw := gw_1 (i := 174) (by decide +kernel) rfl
theorem dX4_workOut_208 : decode cX4_workOut 208 = .ok (.getfield 18, 3) := by decide +kernel
theorem dX4_workOut_211 : decode cX4_workOut 211 = .ok (.iconst 0, 1) := by decide +kernel
theorem dX4_workOut_212 : decode cX4_workOut 212 = .ok (.iaload, 1) := by decide +kernel
theorem dX4_workOut_213 : decode cX4_workOut 213 = .ok (.ireturn, 1) := by decide +kernel
theorem dX4_workOut_11 : decode cX4_workOut 11 = .ok (.aload_n 0, 1) := by decide +kernel
theorem q_1_171 : Cond.fieldLink "BeaconDelay$Laws" 27 "BeaconDelay$Laws" "coast" "LBeaconDelay$Coast;" ∈ gw := gw_1 (i := 171) (by decide +kernel) rfl
theorem dX4_workOut_12 : decode cX4_workOut 12 = .ok (.getfield 27, 3) := by decide +kernel
theorem q_1_71 : Cond.fieldLink "BeaconDelay$Laws" 80 "BeaconDelay$Coast" "steps" "[I" ∈ gw := gw_1 (i := 71) (by decide +kernel) rfl
theorem dX4_workOut_15 : decode cX4_workOut 15 = .ok (.getfield 80, 3) := by decide +kernel
theorem dX4_workOut_18 : decode cX4_workOut 18 = .ok (.iload 4, 2) := by decide +kernel
theorem dX4_workOut_20 : decode cX4_workOut 20 = .ok (.iaload, 1) := by decide +kernel
theorem dX4_workOut_21 : decode cX4_workOut 21 = .ok (.istore 5, 2) := by decide +kernel
theorem dX4_workOut_23 : decode cX4_workOut 23 = .ok (.iload 5, 2) := by decide +kernel
theorem dX4_workOut_25 : decode cX4_workOut 25 = .ok (.sipush 1006, 3) := by decide +kernel
theorem dX4_workOut_28 : decode cX4_workOut 28 = .ok (.if_icmp .ge 47, 3) := by decide +kernel
theorem dX4_workOut_75 : decode cX4_workOut 75 = .ok (.iload 5, 2) := by decide +kernel
theorem dX4_workOut_77 : decode cX4_workOut 77 = .ok (.sipush 1014, 3) := by decide +kernel
theorem dX4_workOut_80 : decode cX4_workOut 80 = .ok (.if_icmp .ne 29, 3) := by decide +kernel
theorem dX4_workOut_109 : decode cX4_workOut 109 = .ok (.iload 5, 2) := by decide +kernel
theorem dX4_workOut_111 : decode cX4_workOut 111 = .ok (.sipush 1015, 3) := by decide +kernel
theorem dX4_workOut_114 : decode cX4_workOut 114 = .ok (.if_icmp .ne 50, 3) := by decide +kernel
theorem dX4_workOut_164 : decode cX4_workOut 164 = .ok (.iload_n 3, 1) := by decide +kernel
theorem dX4_workOut_165 : decode cX4_workOut 165 = .ok (.iconst 2, 1) := by decide +kernel
theorem dX4_workOut_166 : decode cX4_workOut 166 = .ok (.if_icmp .lt 35, 3) := by decide +kernel
theorem dX4_workOut_201 : decode cX4_workOut 201 = .ok (.iinc 4 1, 3) := by decide +kernel
theorem dX4_workOut_204 : decode cX4_workOut 204 = .ok (.goto (-199), 3) := by decide +kernel
theorem dX4_workOut_169 : decode cX4_workOut 169 = .ok (.iinc 3 (-1), 3) := by decide +kernel
theorem dX4_workOut_172 : decode cX4_workOut 172 = .ok (.aload_n 0, 1) := by decide +kernel
theorem dX4_workOut_173 : decode cX4_workOut 173 = .ok (.getfield 18, 3) := by decide +kernel
theorem dX4_workOut_176 : decode cX4_workOut 176 = .ok (.iload_n 3, 1) := by decide +kernel
theorem dX4_workOut_177 : decode cX4_workOut 177 = .ok (.iconst 1, 1) := by decide +kernel
theorem dX4_workOut_178 : decode cX4_workOut 178 = .ok (.isub, 1) := by decide +kernel
theorem dX4_workOut_179 : decode cX4_workOut 179 = .ok (.iload 5, 2) := by decide +kernel
theorem dX4_workOut_181 : decode cX4_workOut 181 = .ok (.aload_n 0, 1) := by decide +kernel
theorem dX4_workOut_182 : decode cX4_workOut 182 = .ok (.getfield 18, 3) := by decide +kernel
theorem dX4_workOut_185 : decode cX4_workOut 185 = .ok (.iload_n 3, 1) := by decide +kernel
theorem dX4_workOut_186 : decode cX4_workOut 186 = .ok (.iconst 1, 1) := by decide +kernel
theorem dX4_workOut_187 : decode cX4_workOut 187 = .ok (.isub, 1) := by decide +kernel
theorem dX4_workOut_188 : decode cX4_workOut 188 = .ok (.iaload, 1) := by decide +kernel
theorem dX4_workOut_189 : decode cX4_workOut 189 = .ok (.i2l, 1) := by decide +kernel
theorem dX4_workOut_190 : decode cX4_workOut 190 = .ok (.aload_n 0, 1) := by decide +kernel
theorem dX4_workOut_191 : decode cX4_workOut 191 = .ok (.getfield 18, 3) := by decide +kernel
theorem dX4_workOut_194 : decode cX4_workOut 194 = .ok (.iload_n 3, 1) := by decide +kernel
theorem dX4_workOut_195 : decode cX4_workOut 195 = .ok (.iaload, 1) := by decide +kernel
theorem dX4_workOut_196 : decode cX4_workOut 196 = .ok (.i2l, 1) := by decide +kernel
theorem q_3_164 : Cond.code yX4_joined prog_6_method_7_code 7 (some FieldType.int) ∈ gw := gw_3 (i := 164) (rfl) rfl
theorem q_1_4 : Cond.initialized "BeaconDelay$Laws" ∈ gw := gw_1 (i := 4) (by decide +kernel) rfl
theorem q_3_163 : Cond.static yX4_joined ∈ gw := gw_3 (i := 163) (by decide +kernel) rfl
theorem mt_X4_joined : MtS yX4_joined cX4_joined 7 (some .int) 3 := ⟨⟨q_3_164, q_1_4, by decide +kernel, by decide +kernel, by decide +kernel⟩, q_3_163⟩
theorem q_3_162 : Cond.methodLink "BeaconDelay$Laws" 83 yX4_joined ∈ gw := gw_3 (i := 162) (by decide +kernel) rfl
theorem dX4_workOut_197 : decode cX4_workOut 197 = .ok (.invokestatic 83, 3) := by decide +kernel
theorem dX4_workOut_200 : decode cX4_workOut 200 = .ok (.iastore, 1) := by decide +kernel
theorem dX4_workOut_117 : decode cX4_workOut 117 = .ok (.iload_n 3, 1) := by decide +kernel
theorem dX4_workOut_118 : decode cX4_workOut 118 = .ok (.iconst 3, 1) := by decide +kernel
theorem dX4_workOut_119 : decode cX4_workOut 119 = .ok (.if_icmp .lt 45, 3) := by decide +kernel
theorem dX4_workOut_122 : decode cX4_workOut 122 = .ok (.iinc 3 (-2), 3) := by decide +kernel
theorem dX4_workOut_125 : decode cX4_workOut 125 = .ok (.aload_n 0, 1) := by decide +kernel
theorem dX4_workOut_126 : decode cX4_workOut 126 = .ok (.getfield 18, 3) := by decide +kernel
theorem dX4_workOut_129 : decode cX4_workOut 129 = .ok (.iload_n 3, 1) := by decide +kernel
theorem dX4_workOut_130 : decode cX4_workOut 130 = .ok (.iconst 1, 1) := by decide +kernel
theorem dX4_workOut_131 : decode cX4_workOut 131 = .ok (.isub, 1) := by decide +kernel
theorem dX4_workOut_132 : decode cX4_workOut 132 = .ok (.aload_n 0, 1) := by decide +kernel
theorem dX4_workOut_133 : decode cX4_workOut 133 = .ok (.getfield 18, 3) := by decide +kernel
theorem dX4_workOut_136 : decode cX4_workOut 136 = .ok (.iload_n 3, 1) := by decide +kernel
theorem dX4_workOut_137 : decode cX4_workOut 137 = .ok (.iconst 1, 1) := by decide +kernel
theorem dX4_workOut_138 : decode cX4_workOut 138 = .ok (.isub, 1) := by decide +kernel
theorem dX4_workOut_139 : decode cX4_workOut 139 = .ok (.iaload, 1) := by decide +kernel
theorem dX4_workOut_140 : decode cX4_workOut 140 = .ok (.ifCond .eq 12, 3) := by decide +kernel
theorem dX4_workOut_152 : decode cX4_workOut 152 = .ok (.aload_n 0, 1) := by decide +kernel
theorem dX4_workOut_153 : decode cX4_workOut 153 = .ok (.getfield 18, 3) := by decide +kernel
theorem dX4_workOut_156 : decode cX4_workOut 156 = .ok (.iload_n 3, 1) := by decide +kernel
theorem dX4_workOut_157 : decode cX4_workOut 157 = .ok (.iconst 1, 1) := by decide +kernel
theorem dX4_workOut_158 : decode cX4_workOut 158 = .ok (.iadd, 1) := by decide +kernel
theorem dX4_workOut_159 : decode cX4_workOut 159 = .ok (.iaload, 1) := by decide +kernel
theorem dX4_workOut_160 : decode cX4_workOut 160 = .ok (.iastore, 1) := by decide +kernel
theorem dX4_workOut_161 : decode cX4_workOut 161 = .ok (.goto 40, 3) := by decide +kernel
theorem dX4_workOut_143 : decode cX4_workOut 143 = .ok (.aload_n 0, 1) := by decide +kernel
theorem dX4_workOut_144 : decode cX4_workOut 144 = .ok (.getfield 18, 3) := by decide +kernel
theorem dX4_workOut_147 : decode cX4_workOut 147 = .ok (.iload_n 3, 1) := by decide +kernel
theorem dX4_workOut_148 : decode cX4_workOut 148 = .ok (.iaload, 1) := by decide +kernel
theorem dX4_workOut_149 : decode cX4_workOut 149 = .ok (.goto 11, 3) := by decide +kernel
theorem dX4_workOut_83 : decode cX4_workOut 83 = .ok (.iload_n 3, 1) := by decide +kernel
theorem dX4_workOut_84 : decode cX4_workOut 84 = .ok (.iconst 1, 1) := by decide +kernel
theorem dX4_workOut_85 : decode cX4_workOut 85 = .ok (.if_icmp .lt 24, 3) := by decide +kernel
theorem dX4_workOut_88 : decode cX4_workOut 88 = .ok (.aload_n 0, 1) := by decide +kernel
theorem dX4_workOut_89 : decode cX4_workOut 89 = .ok (.getfield 18, 3) := by decide +kernel
theorem dX4_workOut_92 : decode cX4_workOut 92 = .ok (.iload_n 3, 1) := by decide +kernel
theorem dX4_workOut_93 : decode cX4_workOut 93 = .ok (.iconst 1, 1) := by decide +kernel
theorem dX4_workOut_94 : decode cX4_workOut 94 = .ok (.isub, 1) := by decide +kernel
theorem dX4_workOut_95 : decode cX4_workOut 95 = .ok (.iconst 1, 1) := by decide +kernel
theorem dX4_workOut_96 : decode cX4_workOut 96 = .ok (.aload_n 0, 1) := by decide +kernel
theorem dX4_workOut_97 : decode cX4_workOut 97 = .ok (.getfield 18, 3) := by decide +kernel
theorem dX4_workOut_100 : decode cX4_workOut 100 = .ok (.iload_n 3, 1) := by decide +kernel
theorem dX4_workOut_101 : decode cX4_workOut 101 = .ok (.iconst 1, 1) := by decide +kernel
theorem dX4_workOut_102 : decode cX4_workOut 102 = .ok (.isub, 1) := by decide +kernel
theorem dX4_workOut_103 : decode cX4_workOut 103 = .ok (.iaload, 1) := by decide +kernel
theorem dX4_workOut_104 : decode cX4_workOut 104 = .ok (.isub, 1) := by decide +kernel
theorem dX4_workOut_105 : decode cX4_workOut 105 = .ok (.iastore, 1) := by decide +kernel
theorem dX4_workOut_106 : decode cX4_workOut 106 = .ok (.goto 95, 3) := by decide +kernel
theorem dX4_workOut_31 : decode cX4_workOut 31 = .ok (.iload_n 3, 1) := by decide +kernel
theorem dX4_workOut_32 : decode cX4_workOut 32 = .ok (.bipush 64, 2) := by decide +kernel
theorem dX4_workOut_34 : decode cX4_workOut 34 = .ok (.if_icmp .lt 5, 3) := by decide +kernel
theorem dX4_workOut_39 : decode cX4_workOut 39 = .ok (.aload_n 0, 1) := by decide +kernel
theorem dX4_workOut_40 : decode cX4_workOut 40 = .ok (.getfield 18, 3) := by decide +kernel
theorem dX4_workOut_43 : decode cX4_workOut 43 = .ok (.iload_n 3, 1) := by decide +kernel
theorem dX4_workOut_44 : decode cX4_workOut 44 = .ok (.iload 5, 2) := by decide +kernel
theorem dX4_workOut_46 : decode cX4_workOut 46 = .ok (.sipush 1000, 3) := by decide +kernel
theorem dX4_workOut_49 : decode cX4_workOut 49 = .ok (.if_icmp .ge 8, 3) := by decide +kernel
theorem dX4_workOut_57 : decode cX4_workOut 57 = .ok (.aload_n 0, 1) := by decide +kernel
theorem q_1_173 : Cond.fieldLink "BeaconDelay$Laws" 15 "BeaconDelay$Laws" "named" "[I" ∈ gw := gw_1 (i := 173) (by decide +kernel) rfl
theorem dX4_workOut_58 : decode cX4_workOut 58 = .ok (.getfield 15, 3) := by decide +kernel
theorem dX4_workOut_61 : decode cX4_workOut 61 = .ok (.iload 5, 2) := by decide +kernel
theorem dX4_workOut_63 : decode cX4_workOut 63 = .ok (.sipush 1000, 3) := by decide +kernel
theorem dX4_workOut_66 : decode cX4_workOut 66 = .ok (.isub, 1) := by decide +kernel
theorem dX4_workOut_67 : decode cX4_workOut 67 = .ok (.iaload, 1) := by decide +kernel
theorem dX4_workOut_68 : decode cX4_workOut 68 = .ok (.iastore, 1) := by decide +kernel
theorem dX4_workOut_69 : decode cX4_workOut 69 = .ok (.iinc 3 1, 3) := by decide +kernel
theorem dX4_workOut_72 : decode cX4_workOut 72 = .ok (.goto 129, 3) := by decide +kernel
theorem dX4_workOut_52 : decode cX4_workOut 52 = .ok (.iload 5, 2) := by decide +kernel
theorem dX4_workOut_54 : decode cX4_workOut 54 = .ok (.goto 14, 3) := by decide +kernel
theorem dX4_workOut_37 : decode cX4_workOut 37 = .ok (.iconst 0, 1) := by decide +kernel
theorem dX4_workOut_38 : decode cX4_workOut 38 = .ok (.ireturn, 1) := by decide +kernel
set_option maxHeartbeats 4000000 in
set_option maxRecDepth 100000 in
theorem k_X4_workOut_0 (l : Launch) (V : GV) (y : Nat → Nat) (a1 : Int32) (a2 : Int32) (fy9 : Nat → Int32) (fy21 : Nat → Int32) (fy22 : Nat → Int32) (py2_0 : Int32) (py2_1 : Int32) (py2_2 : Int32) (py2_3 : Int32) (py2_4 : Int32) (py2_5 : Int32) (py2_13 : Int32) (py2_14 : Int32) (py2_15 : Int32) (py2_16 : Int32) (py2_17 : Int32) (ba1 : iv 0 900 a1) (ba2 : iv 0 900 a2) (bpy2_1 : iv 0 4 py2_1) (bpy2_2 : iv 0 4 py2_2) (bpy2_3 : iv 0 8 py2_3) (bpy2_4 : iv 0 9999 py2_4) (bpy2_5 : iv 0 9 py2_5) (bpy2_13 : iv 0 900 py2_13) (bpy2_14 : iv 0 900 py2_14) (bpy2_15 : iv 0 900 py2_15) (bpy2_16 : iv 0 900 py2_16) (bpy2_17 : iv 0 900 py2_17) : Ct l V yX4_workOut (.code yX4_workOut cX4_workOut 6 (some .int)) 2 [.ref (y 19), .int a1, .int a2] [(y 9, aI V 900 fy9), (y 19, .inr (4, o4_rrrrrr (y 2) (y 20) (y 21) (y 22) (y 23) (y 24))), (y 21, aI V 6 fy21), (y 22, aI V 64 fy22), (y 2, .inr (1, o1_iiiiiirrrrrrriiiii py2_0 py2_1 py2_2 py2_3 py2_4 py2_5 (y 3) (y 4) (y 5) (y 6) (y 7) (y 8) (y 9) py2_13 py2_14 py2_15 py2_16 py2_17))] 0 0 (QI V (fun (r : Int32) (w : va_W) => ∃ (g0 : Nat → Int32), r = wkV fy21 fy9 a1 a2 fy22 ∧ w = [(y 9, aI V 900 fy9), (y 19, .inr (4, o4_rrrrrr (y 2) (y 20) (y 21) (y 22) (y 23) (y 24))), (y 21, aI V 6 fy21), (y 22, aI V 64 g0), (y 2, .inr (1, o1_iiiiiirrrrrrriiiii py2_0 py2_1 py2_2 py2_3 py2_4 py2_5 (y 3) (y 4) (y 5) (y 6) (y 7) (y 8) (y 9) py2_13 py2_14 py2_15 py2_16 py2_17))])) := by
  refine Ct.of (by decide) (Nat.le_of_ble_eq_true rfl) (fun p e s m below meth c A ls hx hb hr hml hown hlk hnm hg hP hK hD hE hA hS hl => ?_)
  have hl : lv_has ls 6 [(0, .ref (y 19)), (1, .int a1), (2, .int a2)] := hl
  refine lv_iconst (v := 0) hx hb dX4_workOut_0 (by decide) ?_
  refine lv_istore_n (lv' := [(3, .int 0), (0, .ref (y 19)), (1, .int a1), (2, .int a2)]) hx hb dX4_workOut_1 rfl hl (by decide) rfl (fun ls hl => ?_)
  refine lv_iload_n hx hb dX4_workOut_2 rfl (lv_at hl 2 rfl) ?_
  refine lv_istore (lv' := [(4, .int a1), (3, .int 0), (0, .ref (y 19)), (1, .int a1), (2, .int a2)]) hx hb dX4_workOut_3 hl (by decide) rfl (fun ls hl => ?_)
  refine loopF (X := fun (n_4 : Nat) (H : Heap) (locs : List Loc) (ls : Array Slot) => ∃ (u_1 : Int32) (u_2 : Int32) (f_3 : Nat → Int32), (iv 0 900 u_1) ∧ (iv 0 64 u_2) ∧ (cmR fy21 fy9 (a1 : Int32).toNatClampNeg fy22 ((u_1 : Int32).toInt - (a1 : Int32).toInt).toNat = some (f_3, u_2)) ∧ ((a1 : Int32).toInt ≤ (u_1 : Int32).toInt) ∧ ((u_1 : Int32).toInt ≤ (a2 : Int32).toInt ∨ u_1 = a1) ∧ n_4 = (2147483647 - (u_1 : Int32).toInt).toNat ∧ va_P V.1 vwCl [(y 9, aI V 900 fy9), (y 19, .inr (4, o4_rrrrrr (y 2) (y 20) (y 21) (y 22) (y 23) (y 24))), (y 21, aI V 6 fy21), (y 22, aI V 64 f_3), (y 2, .inr (1, o1_iiiiiirrrrrrriiiii py2_0 py2_1 py2_2 py2_3 py2_4 py2_5 (y 3) (y 4) (y 5) (y 6) (y 7) (y 8) (y 9) py2_13 py2_14 py2_15 py2_16 py2_17))] H ∧ va_D A [(y 9, aI V 900 fy9), (y 19, .inr (4, o4_rrrrrr (y 2) (y 20) (y 21) (y 22) (y 23) (y 24))), (y 21, aI V 6 fy21), (y 22, aI V 64 f_3), (y 2, .inr (1, o1_iiiiiirrrrrrriiiii py2_0 py2_1 py2_2 py2_3 py2_4 py2_5 (y 3) (y 4) (y 5) (y 6) (y 7) (y 8) (y 9) py2_13 py2_14 py2_15 py2_16 py2_17))] ∧ va_S A s.heap H locs ∧ lv_has ls 6 [(4, .int u_1), (3, .int u_2), (0, .ref (y 19)), (1, .int a1), (2, .int a2)]) (g := fun ls => F0 m 5 ls []) (fun n_4 H locs ls hX ihn_4 => ?_) _ ⟨a1, 0, fy22, ba1, (iv_c (0 : Int32) (by decide)), cm_0, (Int.le_refl _), (Or.inr rfl), rfl, hP, hD, hS, lv_sub hl [0, 1, 2, 3, 4] rfl⟩
  obtain ⟨u_1, u_2, f_3, bu_1, bu_2, inn_4_0, inn_4_1, inn_4_2, en_4, hP, hD, hS, hl⟩ := hX
  refine lv_iload hx hb dX4_workOut_5 (lv_at hl 0 rfl) ?_
  refine lv_iload_n hx hb dX4_workOut_7 rfl (lv_at hl 4 rfl) ?_
  refine lv_icmp_ge (tgt := 207) hx hb dX4_workOut_8 (by decide) (fun c_5 => ?_) (fun c_5 => ?_)
  · refine lv_aload_n hx hb dX4_workOut_207 rfl (lv_at hl 2 rfl) ?_
    refine va_get (ci := 4) (v := .ref (y 22)) (C := RX4) (T := TX4) (N := 6) hx hb hg inX4 hown hK hP 1 rfl rfl 3 (by decide) (hg _ q_1_174) (fun _ h9 => h9) rfl dX4_workOut_208 ?_
    refine lv_iconst (v := 0) hx hb dX4_workOut_211 (by decide) ?_
    refine va_iald hx hb hK hP 3 0 rfl rfl (vin (by decide +kernel)) dX4_workOut_212 ?_
    refine lv_topi (fun x_6 ex_6 => ?_)
    exact fiI hx hb hr hlk hK hP hD hS dX4_workOut_213 (Nat.le_of_ble_eq_true rfl) (Nat.le_of_ble_eq_true rfl) (⟨f_3, (wk_e inn_4_0 inn_4_1 inn_4_2 (by have z_0 := Int32.le_iff_toInt_le.mp c_5; omega) ex_6), rfl⟩)
  · have b_7 : iv 0 899 u_1 := iv_l1 (Int32.not_le.mp c_5) bu_1 ba2 (by decide)
    have b_8 : iv 1 900 a2 := iv_l2 (Int32.not_le.mp c_5) bu_1 ba2 (by decide)
    refine lv_aload_n hx hb dX4_workOut_11 rfl (lv_at hl 2 rfl) ?_
    refine va_get (ci := 4) (v := .ref (y 2)) (C := RX4) (T := TX4) (N := 6) hx hb hg inX4 hown hK hP 1 rfl rfl 0 (by decide) (hg _ q_1_171) (fun _ h9 => h9) rfl dX4_workOut_12 ?_
    refine va_get (ci := 1) (v := .ref (y 9)) (C := RX1) (T := TX1) (N := 18) hx hb hg inX1 hown hK hP 4 rfl rfl 12 (by decide) (hg _ q_1_71) (fun _ h9 => h9) rfl dX4_workOut_15 ?_
    refine lv_iload hx hb dX4_workOut_18 (lv_at hl 0 rfl) ?_
    refine va_iald hx hb hK hP 0 0 rfl rfl (iv_in b_7 (by decide)) dX4_workOut_20 ?_
    refine lv_topi (fun x_9 ex_9 => ?_)
    refine lv_istore (lv' := [(5, .int x_9), (4, .int u_1), (3, .int u_2), (0, .ref (y 19)), (1, .int a1), (2, .int a2)]) hx hb dX4_workOut_21 hl (by decide) rfl (fun ls hl => ?_)
    refine lv_iload hx hb dX4_workOut_23 (lv_at hl 0 rfl) ?_
    refine lv_sipush (v := 1006) hx hb dX4_workOut_25 (by decide) ?_
    refine lv_icmp_ge (tgt := 75) hx hb dX4_workOut_28 (by decide) (fun c_10 => ?_) (fun c_10 => ?_)
    · have b_11 : iv 1006 2147483647 x_9 := iv_e2 c_10 (iv_c (1006 : Int32) (a := 1006) (b := 1006) (by decide)) (iv_top x_9) (by decide)
      refine lv_iload hx hb dX4_workOut_75 (lv_at hl 0 rfl) ?_
      refine lv_sipush (v := 1014) hx hb dX4_workOut_77 (by decide) ?_
      refine lv_icmp_ne (tgt := 109) hx hb dX4_workOut_80 (by decide) (fun c_12 => ?_) (fun c_12 => ?_)
      · refine lv_iload hx hb dX4_workOut_109 (lv_at hl 0 rfl) ?_
        refine lv_sipush (v := 1015) hx hb dX4_workOut_111 (by decide) ?_
        refine lv_icmp_ne (tgt := 164) hx hb dX4_workOut_114 (by decide) (fun c_13 => ?_) (fun c_13 => ?_)
        · refine lv_iload_n hx hb dX4_workOut_164 rfl (lv_at hl 2 rfl) ?_
          refine lv_iconst (v := 2) hx hb dX4_workOut_165 (by decide) ?_
          refine lv_icmp_lt (tgt := 201) hx hb dX4_workOut_166 (by decide) (fun c_14 => ?_) (fun c_14 => ?_)
          · have b_15 : iv 0 1 u_2 := iv_l1 c_14 bu_2 (iv_c (2 : Int32) (a := 2) (b := 2) (by decide)) (by decide)
            obtain ⟨x_16, ex_16⟩ : ∃ z9 : Int32, z9 = u_1 + 1 := ⟨_, rfl⟩
            have bx_16 : iv 1 900 x_16 := by rw [ex_16]; exact iv_add b_7 (iv_c (1 : Int32) (a := 1) (b := 1) (by decide)) (by decide)
            refine lv_iinc (v := x_16) (lv' := [(4, .int x_16), (5, .int x_9), (3, .int u_2), (0, .ref (y 19)), (1, .int a1), (2, .int a2)]) hx hb dX4_workOut_201 hl (k := 1) rfl (by rw [ex_16]; rfl) (by decide) rfl (fun ls hl => ?_)
            refine lv_goto (tgt := 5) hx hb dX4_workOut_204 (by decide) ?_
            exact ihn_4 _ _ _ _ (by rw [en_4, ex_16]; exact mu_up b_7 (by decide)) ⟨x_16, u_2, f_3, (iv_w bx_16 (by decide)), (iv_w b_15 (by decide)), (cm_s inn_4_0 ba1.1 inn_4_1 b_7 (by decide) ex_16 ex_9 (cs_id (by have z_0 := Int32.lt_iff_toInt_lt.mp (Int32.not_le.mp c_5); have z_1 := Int32.le_iff_toInt_le.mp c_10; have z_2 : ¬ ((x_9 : Int32).toInt = (1014 : Int32).toInt) := fun q9 => c_12 (Int32.toInt_inj.mp q9); have z_3 : ¬ ((x_9 : Int32).toInt = (1015 : Int32).toInt) := fun q9 => c_13 (Int32.toInt_inj.mp q9); have z_4 := Int32.lt_iff_toInt_lt.mp c_14; have k_2 : (2 : Int32).toInt = 2 := (by decide); have k_1006 : (1006 : Int32).toInt = 1006 := (by decide); have k_1014 : (1014 : Int32).toInt = 1014 := (by decide); have k_1015 : (1015 : Int32).toInt = 1015 := (by decide); have w_0 := b_11; unfold iv at w_0; have w_1 := b_15; unfold iv at w_1; omega) (by have z_0 := Int32.lt_iff_toInt_lt.mp (Int32.not_le.mp c_5); have z_1 := Int32.le_iff_toInt_le.mp c_10; have z_2 : ¬ ((x_9 : Int32).toInt = (1014 : Int32).toInt) := fun q9 => c_12 (Int32.toInt_inj.mp q9); have z_3 : ¬ ((x_9 : Int32).toInt = (1015 : Int32).toInt) := fun q9 => c_13 (Int32.toInt_inj.mp q9); have z_4 := Int32.lt_iff_toInt_lt.mp c_14; have k_2 : (2 : Int32).toInt = 2 := (by decide); have k_1006 : (1006 : Int32).toInt = 1006 := (by decide); have k_1014 : (1014 : Int32).toInt = 1014 := (by decide); have k_1015 : (1015 : Int32).toInt = 1015 := (by decide); have w_0 := b_11; unfold iv at w_0; have w_1 := b_15; unfold iv at w_1; omega) (by have z_0 := Int32.lt_iff_toInt_lt.mp (Int32.not_le.mp c_5); have z_1 := Int32.le_iff_toInt_le.mp c_10; have z_2 : ¬ ((x_9 : Int32).toInt = (1014 : Int32).toInt) := fun q9 => c_12 (Int32.toInt_inj.mp q9); have z_3 : ¬ ((x_9 : Int32).toInt = (1015 : Int32).toInt) := fun q9 => c_13 (Int32.toInt_inj.mp q9); have z_4 := Int32.lt_iff_toInt_lt.mp c_14; have k_2 : (2 : Int32).toInt = 2 := (by decide); have k_1006 : (1006 : Int32).toInt = 1006 := (by decide); have k_1014 : (1014 : Int32).toInt = 1014 := (by decide); have k_1015 : (1015 : Int32).toInt = 1015 := (by decide); have w_0 := b_11; unfold iv at w_0; have w_1 := b_15; unfold iv at w_1; omega) (by have z_0 := Int32.lt_iff_toInt_lt.mp (Int32.not_le.mp c_5); have z_1 := Int32.le_iff_toInt_le.mp c_10; have z_2 : ¬ ((x_9 : Int32).toInt = (1014 : Int32).toInt) := fun q9 => c_12 (Int32.toInt_inj.mp q9); have z_3 : ¬ ((x_9 : Int32).toInt = (1015 : Int32).toInt) := fun q9 => c_13 (Int32.toInt_inj.mp q9); have z_4 := Int32.lt_iff_toInt_lt.mp c_14; have k_2 : (2 : Int32).toInt = 2 := (by decide); have k_1006 : (1006 : Int32).toInt = 1006 := (by decide); have k_1014 : (1014 : Int32).toInt = 1014 := (by decide); have k_1015 : (1015 : Int32).toInt = 1015 := (by decide); have w_0 := b_11; unfold iv at w_0; have w_1 := b_15; unfold iv at w_1; omega))), (by have q9 := inc_toInt ex_16 b_7 (by decide); have q8 := inn_4_1; omega), (Or.inl (by have q9 := inc_toInt ex_16 b_7 (by decide); have z_0 := Int32.lt_iff_toInt_lt.mp (Int32.not_le.mp c_5); have z_1 := Int32.le_iff_toInt_le.mp c_10; have z_2 : ¬ ((x_9 : Int32).toInt = (1014 : Int32).toInt) := fun q9 => c_12 (Int32.toInt_inj.mp q9); have z_3 : ¬ ((x_9 : Int32).toInt = (1015 : Int32).toInt) := fun q9 => c_13 (Int32.toInt_inj.mp q9); have z_4 := Int32.lt_iff_toInt_lt.mp c_14; have k_2 : (2 : Int32).toInt = 2 := (by decide); have k_1006 : (1006 : Int32).toInt = 1006 := (by decide); have k_1014 : (1014 : Int32).toInt = 1014 := (by decide); have k_1015 : (1015 : Int32).toInt = 1015 := (by decide); omega)), rfl, hP, hD, hS, lv_sub hl [0, 2, 3, 4, 5] rfl⟩
          · have b_17 : iv 2 64 u_2 := iv_e2 (Int32.not_lt.mp c_14) (iv_c (2 : Int32) (a := 2) (b := 2) (by decide)) bu_2 (by decide)
            obtain ⟨x_18, ex_18⟩ : ∃ z9 : Int32, z9 = u_2 + (-1) := ⟨_, rfl⟩
            have bx_18 : iv 1 63 x_18 := by rw [ex_18]; exact iv_add b_17 (iv_c ((-1) : Int32) (a := (-1)) (b := (-1)) (by decide)) (by decide)
            refine lv_iinc (v := x_18) (lv' := [(3, .int x_18), (5, .int x_9), (4, .int u_1), (0, .ref (y 19)), (1, .int a1), (2, .int a2)]) hx hb dX4_workOut_169 hl (k := 2) rfl (by rw [ex_18]; rfl) (by decide) rfl (fun ls hl => ?_)
            refine lv_aload_n hx hb dX4_workOut_172 rfl (lv_at hl 3 rfl) ?_
            refine va_get (ci := 4) (v := .ref (y 22)) (C := RX4) (T := TX4) (N := 6) hx hb hg inX4 hown hK hP 1 rfl rfl 3 (by decide) (hg _ q_1_174) (fun _ h9 => h9) rfl dX4_workOut_173 ?_
            refine lv_iload_n hx hb dX4_workOut_176 rfl (lv_at hl 0 rfl) ?_
            refine lv_iconst (v := 1) hx hb dX4_workOut_177 (by decide) ?_
            refine lv_isub hx hb dX4_workOut_178 ?_
            refine lv_topi (fun x_19 ex_19 => ?_)
            have bx_19 : iv 0 62 x_19 := by rw [ex_19]; exact iv_sub bx_18 (iv_c (1 : Int32) (a := 1) (b := 1) (by decide)) (by decide)
            refine lv_iload hx hb dX4_workOut_179 (lv_at hl 1 rfl) ?_
            refine lv_aload_n hx hb dX4_workOut_181 rfl (lv_at hl 3 rfl) ?_
            refine va_get (ci := 4) (v := .ref (y 22)) (C := RX4) (T := TX4) (N := 6) hx hb hg inX4 hown hK hP 1 rfl rfl 3 (by decide) (hg _ q_1_174) (fun _ h9 => h9) rfl dX4_workOut_182 ?_
            refine lv_iload_n hx hb dX4_workOut_185 rfl (lv_at hl 0 rfl) ?_
            refine lv_iconst (v := 1) hx hb dX4_workOut_186 (by decide) ?_
            refine lv_isub hx hb dX4_workOut_187 ?_
            refine tpi (y := x_19) ex_19.symm ?_
            refine va_iald hx hb hK hP 3 0 rfl rfl (iv_in bx_19 (by decide)) dX4_workOut_188 ?_
            refine lv_topi (fun x_20 ex_20 => ?_)
            refine lv_i2l hx hb dX4_workOut_189 rfl ?_
            refine lv_topl (fun j_21 ej_21 => ?_)
            refine lv_aload_n hx hb dX4_workOut_190 rfl (lv_at hl 3 rfl) ?_
            refine va_get (ci := 4) (v := .ref (y 22)) (C := RX4) (T := TX4) (N := 6) hx hb hg inX4 hown hK hP 1 rfl rfl 3 (by decide) (hg _ q_1_174) (fun _ h9 => h9) rfl dX4_workOut_191 ?_
            refine lv_iload_n hx hb dX4_workOut_194 rfl (lv_at hl 0 rfl) ?_
            refine va_iald hx hb hK hP 3 0 rfl rfl (iv_in bx_18 (by decide)) dX4_workOut_195 ?_
            refine lv_topi (fun x_22 ex_22 => ?_)
            refine lv_i2l hx hb dX4_workOut_196 rfl ?_
            refine lv_topl (fun j_23 ej_23 => ?_)
            refine jnI (wr := [(y 9, aI V 900 fy9), (y 19, .inr (4, o4_rrrrrr (y 2) (y 20) (y 21) (y 22) (y 23) (y 24))), (y 21, aI V 6 fy21), (y 22, aI V 64 f_3), (y 2, .inr (1, o1_iiiiiirrrrrrriiiii py2_0 py2_1 py2_2 py2_3 py2_4 py2_5 (y 3) (y 4) (y 5) (y 6) (y 7) (y 8) (y 9) py2_13 py2_14 py2_15 py2_16 py2_17))]) (rnS (rest := [.int x_19, .ref (y 22)]) ⟨hx, hb, hml, hown, hg⟩ (k_X4_joined_0 l V x_9 j_21 j_23) mt_X4_joined q_3_162 ⟨Nat.le_of_ble_eq_true rfl, Nat.le_of_ble_eq_true rfl⟩ hK hP hD hS hA hE [] rfl rfl rfl hl.1 rfl (Nat.le_of_ble_eq_true rfl) dX4_workOut_197 ⟨Nat.le_of_ble_eq_true rfl, Nat.le_of_ble_eq_true rfl⟩) hP hD hS hA [] [0, 1, 2, 3, 4] rfl rfl rfl (by decide) (fun r_24 w H locs hw hP hD hS => ?_)
            obtain ⟨er_24, rfl⟩ := hw
            have hP : va_P V.1 vwCl [(y 9, aI V 900 fy9), (y 19, .inr (4, o4_rrrrrr (y 2) (y 20) (y 21) (y 22) (y 23) (y 24))), (y 21, aI V 6 fy21), (y 22, aI V 64 f_3), (y 2, .inr (1, o1_iiiiiirrrrrrriiiii py2_0 py2_1 py2_2 py2_3 py2_4 py2_5 (y 3) (y 4) (y 5) (y 6) (y 7) (y 8) (y 9) py2_13 py2_14 py2_15 py2_16 py2_17))] H := hP
            have hD := cpD hP hD
            refine va_iast hx hb hK hP hD hS 3 0 rfl rfl (iv_in bx_19 (by decide)) dX4_workOut_200 (fun H locs hP hD hS => ?_)
            obtain ⟨f_25, ef_25, hP, hD⟩ : ∃ f_25 : Nat → Int32, f_25 = (upd f_3 (x_19 : Int32).toNatClampNeg r_24) ∧ va_P V.1 vwCl [(y 9, aI V 900 fy9), (y 19, .inr (4, o4_rrrrrr (y 2) (y 20) (y 21) (y 22) (y 23) (y 24))), (y 21, aI V 6 fy21), (y 22, aI V 64 f_25), (y 2, .inr (1, o1_iiiiiirrrrrrriiiii py2_0 py2_1 py2_2 py2_3 py2_4 py2_5 (y 3) (y 4) (y 5) (y 6) (y 7) (y 8) (y 9) py2_13 py2_14 py2_15 py2_16 py2_17))] H ∧ va_D A [(y 9, aI V 900 fy9), (y 19, .inr (4, o4_rrrrrr (y 2) (y 20) (y 21) (y 22) (y 23) (y 24))), (y 21, aI V 6 fy21), (y 22, aI V 64 f_25), (y 2, .inr (1, o1_iiiiiirrrrrrriiiii py2_0 py2_1 py2_2 py2_3 py2_4 py2_5 (y 3) (y 4) (y 5) (y 6) (y 7) (y 8) (y 9) py2_13 py2_14 py2_15 py2_16 py2_17))] := ⟨_, rfl, hP, hD⟩
            obtain ⟨x_26, ex_26⟩ : ∃ z9 : Int32, z9 = u_1 + 1 := ⟨_, rfl⟩
            have bx_26 : iv 1 900 x_26 := by rw [ex_26]; exact iv_add b_7 (iv_c (1 : Int32) (a := 1) (b := 1) (by decide)) (by decide)
            refine lv_iinc (v := x_26) (lv' := [(4, .int x_26), (3, .int x_18), (5, .int x_9), (0, .ref (y 19)), (1, .int a1), (2, .int a2)]) hx hb dX4_workOut_201 hl (k := 2) rfl (by rw [ex_26]; rfl) (by decide) rfl (fun ls hl => ?_)
            refine lv_goto (tgt := 5) hx hb dX4_workOut_204 (by decide) ?_
            exact ihn_4 _ _ _ _ (by rw [en_4, ex_26]; exact mu_up b_7 (by decide)) ⟨x_26, x_18, f_25, (iv_w bx_26 (by decide)), (iv_w bx_18 (by decide)), (cm_s inn_4_0 ba1.1 inn_4_1 b_7 (by decide) ex_26 ex_9 (cs_two (by have z_0 := Int32.lt_iff_toInt_lt.mp (Int32.not_le.mp c_5); have z_1 := Int32.le_iff_toInt_le.mp c_10; have z_2 : ¬ ((x_9 : Int32).toInt = (1014 : Int32).toInt) := fun q9 => c_12 (Int32.toInt_inj.mp q9); have z_3 : ¬ ((x_9 : Int32).toInt = (1015 : Int32).toInt) := fun q9 => c_13 (Int32.toInt_inj.mp q9); have z_4 := Int32.le_iff_toInt_le.mp (Int32.not_lt.mp c_14); have k_2 : (2 : Int32).toInt = 2 := (by decide); have k_1006 : (1006 : Int32).toInt = 1006 := (by decide); have k_1014 : (1014 : Int32).toInt = 1014 := (by decide); have k_1015 : (1015 : Int32).toInt = 1015 := (by decide); omega) (by have z_0 := Int32.lt_iff_toInt_lt.mp (Int32.not_le.mp c_5); have z_1 := Int32.le_iff_toInt_le.mp c_10; have z_2 : ¬ ((x_9 : Int32).toInt = (1014 : Int32).toInt) := fun q9 => c_12 (Int32.toInt_inj.mp q9); have z_3 : ¬ ((x_9 : Int32).toInt = (1015 : Int32).toInt) := fun q9 => c_13 (Int32.toInt_inj.mp q9); have z_4 := Int32.le_iff_toInt_le.mp (Int32.not_lt.mp c_14); have k_2 : (2 : Int32).toInt = 2 := (by decide); have k_1006 : (1006 : Int32).toInt = 1006 := (by decide); have k_1014 : (1014 : Int32).toInt = 1014 := (by decide); have k_1015 : (1015 : Int32).toInt = 1015 := (by decide); have w_0 := b_17; unfold iv at w_0; have w_1 := b_11; unfold iv at w_1; omega) (by have z_0 := Int32.lt_iff_toInt_lt.mp (Int32.not_le.mp c_5); have z_1 := Int32.le_iff_toInt_le.mp c_10; have z_2 : ¬ ((x_9 : Int32).toInt = (1014 : Int32).toInt) := fun q9 => c_12 (Int32.toInt_inj.mp q9); have z_3 : ¬ ((x_9 : Int32).toInt = (1015 : Int32).toInt) := fun q9 => c_13 (Int32.toInt_inj.mp q9); have z_4 := Int32.le_iff_toInt_le.mp (Int32.not_lt.mp c_14); have k_2 : (2 : Int32).toInt = 2 := (by decide); have k_1006 : (1006 : Int32).toInt = 1006 := (by decide); have k_1014 : (1014 : Int32).toInt = 1014 := (by decide); have k_1015 : (1015 : Int32).toInt = 1015 := (by decide); have w_0 := b_17; unfold iv at w_0; have w_1 := b_11; unfold iv at w_1; omega) (by have z_0 := Int32.lt_iff_toInt_lt.mp (Int32.not_le.mp c_5); have z_1 := Int32.le_iff_toInt_le.mp c_10; have z_2 : ¬ ((x_9 : Int32).toInt = (1014 : Int32).toInt) := fun q9 => c_12 (Int32.toInt_inj.mp q9); have z_3 : ¬ ((x_9 : Int32).toInt = (1015 : Int32).toInt) := fun q9 => c_13 (Int32.toInt_inj.mp q9); have z_4 := Int32.le_iff_toInt_le.mp (Int32.not_lt.mp c_14); have k_2 : (2 : Int32).toInt = 2 := (by decide); have k_1006 : (1006 : Int32).toInt = 1006 := (by decide); have k_1014 : (1014 : Int32).toInt = 1014 := (by decide); have k_1015 : (1015 : Int32).toInt = 1015 := (by decide); have w_0 := b_17; unfold iv at w_0; omega) ex_18 ex_19 ex_20 ex_22 ej_21 ej_23 er_24 ef_25)), (by have q9 := inc_toInt ex_26 b_7 (by decide); have q8 := inn_4_1; omega), (Or.inl (by have q9 := inc_toInt ex_26 b_7 (by decide); have z_0 := Int32.lt_iff_toInt_lt.mp (Int32.not_le.mp c_5); have z_1 := Int32.le_iff_toInt_le.mp c_10; have z_2 : ¬ ((x_9 : Int32).toInt = (1014 : Int32).toInt) := fun q9 => c_12 (Int32.toInt_inj.mp q9); have z_3 : ¬ ((x_9 : Int32).toInt = (1015 : Int32).toInt) := fun q9 => c_13 (Int32.toInt_inj.mp q9); have z_4 := Int32.le_iff_toInt_le.mp (Int32.not_lt.mp c_14); have k_2 : (2 : Int32).toInt = 2 := (by decide); have k_1006 : (1006 : Int32).toInt = 1006 := (by decide); have k_1014 : (1014 : Int32).toInt = 1014 := (by decide); have k_1015 : (1015 : Int32).toInt = 1015 := (by decide); omega)), rfl, hP, hD, hS, lv_sub hl [0, 1, 3, 4, 5] rfl⟩
        · have b_27 : iv 1015 1015 x_9 := iv_q c_13 (iv_c (1015 : Int32) (a := 1015) (b := 1015) (by decide))
          refine lv_iload_n hx hb dX4_workOut_117 rfl (lv_at hl 2 rfl) ?_
          refine lv_iconst (v := 3) hx hb dX4_workOut_118 (by decide) ?_
          refine lv_icmp_lt (tgt := 164) hx hb dX4_workOut_119 (by decide) (fun c_28 => ?_) (fun c_28 => ?_)
          · have b_29 : iv 0 2 u_2 := iv_l1 c_28 bu_2 (iv_c (3 : Int32) (a := 3) (b := 3) (by decide)) (by decide)
            refine lv_iload_n hx hb dX4_workOut_164 rfl (lv_at hl 2 rfl) ?_
            refine lv_iconst (v := 2) hx hb dX4_workOut_165 (by decide) ?_
            refine lv_icmp_lt (tgt := 201) hx hb dX4_workOut_166 (by decide) (fun c_30 => ?_) (fun c_30 => ?_)
            · have b_31 : iv 0 1 u_2 := iv_l1 c_30 b_29 (iv_c (2 : Int32) (a := 2) (b := 2) (by decide)) (by decide)
              obtain ⟨x_32, ex_32⟩ : ∃ z9 : Int32, z9 = u_1 + 1 := ⟨_, rfl⟩
              have bx_32 : iv 1 900 x_32 := by rw [ex_32]; exact iv_add b_7 (iv_c (1 : Int32) (a := 1) (b := 1) (by decide)) (by decide)
              refine lv_iinc (v := x_32) (lv' := [(4, .int x_32), (5, .int x_9), (3, .int u_2), (0, .ref (y 19)), (1, .int a1), (2, .int a2)]) hx hb dX4_workOut_201 hl (k := 1) rfl (by rw [ex_32]; rfl) (by decide) rfl (fun ls hl => ?_)
              refine lv_goto (tgt := 5) hx hb dX4_workOut_204 (by decide) ?_
              exact ihn_4 _ _ _ _ (by rw [en_4, ex_32]; exact mu_up b_7 (by decide)) ⟨x_32, u_2, f_3, (iv_w bx_32 (by decide)), (iv_w b_31 (by decide)), (cm_s inn_4_0 ba1.1 inn_4_1 b_7 (by decide) ex_32 ex_9 (cs_id (by have z_0 := Int32.lt_iff_toInt_lt.mp (Int32.not_le.mp c_5); have z_1 := Int32.le_iff_toInt_le.mp c_10; have z_2 : ¬ ((x_9 : Int32).toInt = (1014 : Int32).toInt) := fun q9 => c_12 (Int32.toInt_inj.mp q9); have z_3 := congrArg Int32.toInt c_13; have z_4 := Int32.lt_iff_toInt_lt.mp c_28; have z_5 := Int32.lt_iff_toInt_lt.mp c_30; have k_2 : (2 : Int32).toInt = 2 := (by decide); have k_3 : (3 : Int32).toInt = 3 := (by decide); have k_1006 : (1006 : Int32).toInt = 1006 := (by decide); have k_1014 : (1014 : Int32).toInt = 1014 := (by decide); have k_1015 : (1015 : Int32).toInt = 1015 := (by decide); have w_0 := b_27; unfold iv at w_0; have w_1 := b_31; unfold iv at w_1; omega) (by have z_0 := Int32.lt_iff_toInt_lt.mp (Int32.not_le.mp c_5); have z_1 := Int32.le_iff_toInt_le.mp c_10; have z_2 : ¬ ((x_9 : Int32).toInt = (1014 : Int32).toInt) := fun q9 => c_12 (Int32.toInt_inj.mp q9); have z_3 := congrArg Int32.toInt c_13; have z_4 := Int32.lt_iff_toInt_lt.mp c_28; have z_5 := Int32.lt_iff_toInt_lt.mp c_30; have k_2 : (2 : Int32).toInt = 2 := (by decide); have k_3 : (3 : Int32).toInt = 3 := (by decide); have k_1006 : (1006 : Int32).toInt = 1006 := (by decide); have k_1014 : (1014 : Int32).toInt = 1014 := (by decide); have k_1015 : (1015 : Int32).toInt = 1015 := (by decide); have w_0 := b_27; unfold iv at w_0; have w_1 := b_31; unfold iv at w_1; omega) (by have z_0 := Int32.lt_iff_toInt_lt.mp (Int32.not_le.mp c_5); have z_1 := Int32.le_iff_toInt_le.mp c_10; have z_2 : ¬ ((x_9 : Int32).toInt = (1014 : Int32).toInt) := fun q9 => c_12 (Int32.toInt_inj.mp q9); have z_3 := congrArg Int32.toInt c_13; have z_4 := Int32.lt_iff_toInt_lt.mp c_28; have z_5 := Int32.lt_iff_toInt_lt.mp c_30; have k_2 : (2 : Int32).toInt = 2 := (by decide); have k_3 : (3 : Int32).toInt = 3 := (by decide); have k_1006 : (1006 : Int32).toInt = 1006 := (by decide); have k_1014 : (1014 : Int32).toInt = 1014 := (by decide); have k_1015 : (1015 : Int32).toInt = 1015 := (by decide); have w_0 := b_27; unfold iv at w_0; have w_1 := b_31; unfold iv at w_1; omega) (by have z_0 := Int32.lt_iff_toInt_lt.mp (Int32.not_le.mp c_5); have z_1 := Int32.le_iff_toInt_le.mp c_10; have z_2 : ¬ ((x_9 : Int32).toInt = (1014 : Int32).toInt) := fun q9 => c_12 (Int32.toInt_inj.mp q9); have z_3 := congrArg Int32.toInt c_13; have z_4 := Int32.lt_iff_toInt_lt.mp c_28; have z_5 := Int32.lt_iff_toInt_lt.mp c_30; have k_2 : (2 : Int32).toInt = 2 := (by decide); have k_3 : (3 : Int32).toInt = 3 := (by decide); have k_1006 : (1006 : Int32).toInt = 1006 := (by decide); have k_1014 : (1014 : Int32).toInt = 1014 := (by decide); have k_1015 : (1015 : Int32).toInt = 1015 := (by decide); have w_0 := b_27; unfold iv at w_0; have w_1 := b_31; unfold iv at w_1; omega))), (by have q9 := inc_toInt ex_32 b_7 (by decide); have q8 := inn_4_1; omega), (Or.inl (by have q9 := inc_toInt ex_32 b_7 (by decide); have z_0 := Int32.lt_iff_toInt_lt.mp (Int32.not_le.mp c_5); have z_1 := Int32.le_iff_toInt_le.mp c_10; have z_2 : ¬ ((x_9 : Int32).toInt = (1014 : Int32).toInt) := fun q9 => c_12 (Int32.toInt_inj.mp q9); have z_3 := congrArg Int32.toInt c_13; have z_4 := Int32.lt_iff_toInt_lt.mp c_28; have z_5 := Int32.lt_iff_toInt_lt.mp c_30; have k_2 : (2 : Int32).toInt = 2 := (by decide); have k_3 : (3 : Int32).toInt = 3 := (by decide); have k_1006 : (1006 : Int32).toInt = 1006 := (by decide); have k_1014 : (1014 : Int32).toInt = 1014 := (by decide); have k_1015 : (1015 : Int32).toInt = 1015 := (by decide); omega)), rfl, hP, hD, hS, lv_sub hl [0, 2, 3, 4, 5] rfl⟩
            · have b_33 : iv 2 2 u_2 := iv_e2 (Int32.not_lt.mp c_30) (iv_c (2 : Int32) (a := 2) (b := 2) (by decide)) b_29 (by decide)
              obtain ⟨x_34, ex_34⟩ : ∃ z9 : Int32, z9 = u_2 + (-1) := ⟨_, rfl⟩
              have bx_34 : iv 1 1 x_34 := by rw [ex_34]; exact iv_add b_33 (iv_c ((-1) : Int32) (a := (-1)) (b := (-1)) (by decide)) (by decide)
              refine lv_iinc (v := x_34) (lv' := [(3, .int x_34), (5, .int x_9), (4, .int u_1), (0, .ref (y 19)), (1, .int a1), (2, .int a2)]) hx hb dX4_workOut_169 hl (k := 2) rfl (by rw [ex_34]; rfl) (by decide) rfl (fun ls hl => ?_)
              refine lv_aload_n hx hb dX4_workOut_172 rfl (lv_at hl 3 rfl) ?_
              refine va_get (ci := 4) (v := .ref (y 22)) (C := RX4) (T := TX4) (N := 6) hx hb hg inX4 hown hK hP 1 rfl rfl 3 (by decide) (hg _ q_1_174) (fun _ h9 => h9) rfl dX4_workOut_173 ?_
              refine lv_iload_n hx hb dX4_workOut_176 rfl (lv_at hl 0 rfl) ?_
              refine lv_iconst (v := 1) hx hb dX4_workOut_177 (by decide) ?_
              refine lv_isub hx hb dX4_workOut_178 ?_
              refine lv_topi (fun x_35 ex_35 => ?_)
              have bx_35 : iv 0 0 x_35 := by rw [ex_35]; exact iv_sub bx_34 (iv_c (1 : Int32) (a := 1) (b := 1) (by decide)) (by decide)
              refine lv_iload hx hb dX4_workOut_179 (lv_at hl 1 rfl) ?_
              refine lv_aload_n hx hb dX4_workOut_181 rfl (lv_at hl 3 rfl) ?_
              refine va_get (ci := 4) (v := .ref (y 22)) (C := RX4) (T := TX4) (N := 6) hx hb hg inX4 hown hK hP 1 rfl rfl 3 (by decide) (hg _ q_1_174) (fun _ h9 => h9) rfl dX4_workOut_182 ?_
              refine lv_iload_n hx hb dX4_workOut_185 rfl (lv_at hl 0 rfl) ?_
              refine lv_iconst (v := 1) hx hb dX4_workOut_186 (by decide) ?_
              refine lv_isub hx hb dX4_workOut_187 ?_
              refine tpi (y := x_35) ex_35.symm ?_
              refine va_iald hx hb hK hP 3 0 rfl rfl (iv_in bx_35 (by decide)) dX4_workOut_188 ?_
              refine lv_topi (fun x_36 ex_36 => ?_)
              refine lv_i2l hx hb dX4_workOut_189 rfl ?_
              refine lv_topl (fun j_37 ej_37 => ?_)
              refine lv_aload_n hx hb dX4_workOut_190 rfl (lv_at hl 3 rfl) ?_
              refine va_get (ci := 4) (v := .ref (y 22)) (C := RX4) (T := TX4) (N := 6) hx hb hg inX4 hown hK hP 1 rfl rfl 3 (by decide) (hg _ q_1_174) (fun _ h9 => h9) rfl dX4_workOut_191 ?_
              refine lv_iload_n hx hb dX4_workOut_194 rfl (lv_at hl 0 rfl) ?_
              refine va_iald hx hb hK hP 3 0 rfl rfl (iv_in bx_34 (by decide)) dX4_workOut_195 ?_
              refine lv_topi (fun x_38 ex_38 => ?_)
              refine lv_i2l hx hb dX4_workOut_196 rfl ?_
              refine lv_topl (fun j_39 ej_39 => ?_)
              refine jnI (wr := [(y 9, aI V 900 fy9), (y 19, .inr (4, o4_rrrrrr (y 2) (y 20) (y 21) (y 22) (y 23) (y 24))), (y 21, aI V 6 fy21), (y 22, aI V 64 f_3), (y 2, .inr (1, o1_iiiiiirrrrrrriiiii py2_0 py2_1 py2_2 py2_3 py2_4 py2_5 (y 3) (y 4) (y 5) (y 6) (y 7) (y 8) (y 9) py2_13 py2_14 py2_15 py2_16 py2_17))]) (rnS (rest := [.int x_35, .ref (y 22)]) ⟨hx, hb, hml, hown, hg⟩ (k_X4_joined_0 l V x_9 j_37 j_39) mt_X4_joined q_3_162 ⟨Nat.le_of_ble_eq_true rfl, Nat.le_of_ble_eq_true rfl⟩ hK hP hD hS hA hE [] rfl rfl rfl hl.1 rfl (Nat.le_of_ble_eq_true rfl) dX4_workOut_197 ⟨Nat.le_of_ble_eq_true rfl, Nat.le_of_ble_eq_true rfl⟩) hP hD hS hA [] [0, 1, 2, 3, 4] rfl rfl rfl (by decide) (fun r_40 w H locs hw hP hD hS => ?_)
              obtain ⟨er_40, rfl⟩ := hw
              have hP : va_P V.1 vwCl [(y 9, aI V 900 fy9), (y 19, .inr (4, o4_rrrrrr (y 2) (y 20) (y 21) (y 22) (y 23) (y 24))), (y 21, aI V 6 fy21), (y 22, aI V 64 f_3), (y 2, .inr (1, o1_iiiiiirrrrrrriiiii py2_0 py2_1 py2_2 py2_3 py2_4 py2_5 (y 3) (y 4) (y 5) (y 6) (y 7) (y 8) (y 9) py2_13 py2_14 py2_15 py2_16 py2_17))] H := hP
              have hD := cpD hP hD
              refine va_iast hx hb hK hP hD hS 3 0 rfl rfl (iv_in bx_35 (by decide)) dX4_workOut_200 (fun H locs hP hD hS => ?_)
              obtain ⟨f_41, ef_41, hP, hD⟩ : ∃ f_41 : Nat → Int32, f_41 = (upd f_3 (x_35 : Int32).toNatClampNeg r_40) ∧ va_P V.1 vwCl [(y 9, aI V 900 fy9), (y 19, .inr (4, o4_rrrrrr (y 2) (y 20) (y 21) (y 22) (y 23) (y 24))), (y 21, aI V 6 fy21), (y 22, aI V 64 f_41), (y 2, .inr (1, o1_iiiiiirrrrrrriiiii py2_0 py2_1 py2_2 py2_3 py2_4 py2_5 (y 3) (y 4) (y 5) (y 6) (y 7) (y 8) (y 9) py2_13 py2_14 py2_15 py2_16 py2_17))] H ∧ va_D A [(y 9, aI V 900 fy9), (y 19, .inr (4, o4_rrrrrr (y 2) (y 20) (y 21) (y 22) (y 23) (y 24))), (y 21, aI V 6 fy21), (y 22, aI V 64 f_41), (y 2, .inr (1, o1_iiiiiirrrrrrriiiii py2_0 py2_1 py2_2 py2_3 py2_4 py2_5 (y 3) (y 4) (y 5) (y 6) (y 7) (y 8) (y 9) py2_13 py2_14 py2_15 py2_16 py2_17))] := ⟨_, rfl, hP, hD⟩
              obtain ⟨x_42, ex_42⟩ : ∃ z9 : Int32, z9 = u_1 + 1 := ⟨_, rfl⟩
              have bx_42 : iv 1 900 x_42 := by rw [ex_42]; exact iv_add b_7 (iv_c (1 : Int32) (a := 1) (b := 1) (by decide)) (by decide)
              refine lv_iinc (v := x_42) (lv' := [(4, .int x_42), (3, .int x_34), (5, .int x_9), (0, .ref (y 19)), (1, .int a1), (2, .int a2)]) hx hb dX4_workOut_201 hl (k := 2) rfl (by rw [ex_42]; rfl) (by decide) rfl (fun ls hl => ?_)
              refine lv_goto (tgt := 5) hx hb dX4_workOut_204 (by decide) ?_
              exact ihn_4 _ _ _ _ (by rw [en_4, ex_42]; exact mu_up b_7 (by decide)) ⟨x_42, x_34, f_41, (iv_w bx_42 (by decide)), (iv_w bx_34 (by decide)), (cm_s inn_4_0 ba1.1 inn_4_1 b_7 (by decide) ex_42 ex_9 (cs_two (by have z_0 := Int32.lt_iff_toInt_lt.mp (Int32.not_le.mp c_5); have z_1 := Int32.le_iff_toInt_le.mp c_10; have z_2 : ¬ ((x_9 : Int32).toInt = (1014 : Int32).toInt) := fun q9 => c_12 (Int32.toInt_inj.mp q9); have z_3 := congrArg Int32.toInt c_13; have z_4 := Int32.lt_iff_toInt_lt.mp c_28; have z_5 := Int32.le_iff_toInt_le.mp (Int32.not_lt.mp c_30); have k_2 : (2 : Int32).toInt = 2 := (by decide); have k_3 : (3 : Int32).toInt = 3 := (by decide); have k_1006 : (1006 : Int32).toInt = 1006 := (by decide); have k_1014 : (1014 : Int32).toInt = 1014 := (by decide); have k_1015 : (1015 : Int32).toInt = 1015 := (by decide); omega) (by have z_0 := Int32.lt_iff_toInt_lt.mp (Int32.not_le.mp c_5); have z_1 := Int32.le_iff_toInt_le.mp c_10; have z_2 : ¬ ((x_9 : Int32).toInt = (1014 : Int32).toInt) := fun q9 => c_12 (Int32.toInt_inj.mp q9); have z_3 := congrArg Int32.toInt c_13; have z_4 := Int32.lt_iff_toInt_lt.mp c_28; have z_5 := Int32.le_iff_toInt_le.mp (Int32.not_lt.mp c_30); have k_2 : (2 : Int32).toInt = 2 := (by decide); have k_3 : (3 : Int32).toInt = 3 := (by decide); have k_1006 : (1006 : Int32).toInt = 1006 := (by decide); have k_1014 : (1014 : Int32).toInt = 1014 := (by decide); have k_1015 : (1015 : Int32).toInt = 1015 := (by decide); have w_0 := b_33; unfold iv at w_0; have w_1 := b_27; unfold iv at w_1; omega) (by have z_0 := Int32.lt_iff_toInt_lt.mp (Int32.not_le.mp c_5); have z_1 := Int32.le_iff_toInt_le.mp c_10; have z_2 : ¬ ((x_9 : Int32).toInt = (1014 : Int32).toInt) := fun q9 => c_12 (Int32.toInt_inj.mp q9); have z_3 := congrArg Int32.toInt c_13; have z_4 := Int32.lt_iff_toInt_lt.mp c_28; have z_5 := Int32.le_iff_toInt_le.mp (Int32.not_lt.mp c_30); have k_2 : (2 : Int32).toInt = 2 := (by decide); have k_3 : (3 : Int32).toInt = 3 := (by decide); have k_1006 : (1006 : Int32).toInt = 1006 := (by decide); have k_1014 : (1014 : Int32).toInt = 1014 := (by decide); have k_1015 : (1015 : Int32).toInt = 1015 := (by decide); have w_0 := b_33; unfold iv at w_0; have w_1 := b_27; unfold iv at w_1; omega) (by have z_0 := Int32.lt_iff_toInt_lt.mp (Int32.not_le.mp c_5); have z_1 := Int32.le_iff_toInt_le.mp c_10; have z_2 : ¬ ((x_9 : Int32).toInt = (1014 : Int32).toInt) := fun q9 => c_12 (Int32.toInt_inj.mp q9); have z_3 := congrArg Int32.toInt c_13; have z_4 := Int32.lt_iff_toInt_lt.mp c_28; have z_5 := Int32.le_iff_toInt_le.mp (Int32.not_lt.mp c_30); have k_2 : (2 : Int32).toInt = 2 := (by decide); have k_3 : (3 : Int32).toInt = 3 := (by decide); have k_1006 : (1006 : Int32).toInt = 1006 := (by decide); have k_1014 : (1014 : Int32).toInt = 1014 := (by decide); have k_1015 : (1015 : Int32).toInt = 1015 := (by decide); have w_0 := b_33; unfold iv at w_0; omega) ex_34 ex_35 ex_36 ex_38 ej_37 ej_39 er_40 ef_41)), (by have q9 := inc_toInt ex_42 b_7 (by decide); have q8 := inn_4_1; omega), (Or.inl (by have q9 := inc_toInt ex_42 b_7 (by decide); have z_0 := Int32.lt_iff_toInt_lt.mp (Int32.not_le.mp c_5); have z_1 := Int32.le_iff_toInt_le.mp c_10; have z_2 : ¬ ((x_9 : Int32).toInt = (1014 : Int32).toInt) := fun q9 => c_12 (Int32.toInt_inj.mp q9); have z_3 := congrArg Int32.toInt c_13; have z_4 := Int32.lt_iff_toInt_lt.mp c_28; have z_5 := Int32.le_iff_toInt_le.mp (Int32.not_lt.mp c_30); have k_2 : (2 : Int32).toInt = 2 := (by decide); have k_3 : (3 : Int32).toInt = 3 := (by decide); have k_1006 : (1006 : Int32).toInt = 1006 := (by decide); have k_1014 : (1014 : Int32).toInt = 1014 := (by decide); have k_1015 : (1015 : Int32).toInt = 1015 := (by decide); omega)), rfl, hP, hD, hS, lv_sub hl [0, 1, 3, 4, 5] rfl⟩
          · have b_43 : iv 3 64 u_2 := iv_e2 (Int32.not_lt.mp c_28) (iv_c (3 : Int32) (a := 3) (b := 3) (by decide)) bu_2 (by decide)
            obtain ⟨x_44, ex_44⟩ : ∃ z9 : Int32, z9 = u_2 + (-2) := ⟨_, rfl⟩
            have bx_44 : iv 1 62 x_44 := by rw [ex_44]; exact iv_add b_43 (iv_c ((-2) : Int32) (a := (-2)) (b := (-2)) (by decide)) (by decide)
            refine lv_iinc (v := x_44) (lv' := [(3, .int x_44), (5, .int x_9), (4, .int u_1), (0, .ref (y 19)), (1, .int a1), (2, .int a2)]) hx hb dX4_workOut_122 hl (k := 2) rfl (by rw [ex_44]; rfl) (by decide) rfl (fun ls hl => ?_)
            refine lv_aload_n hx hb dX4_workOut_125 rfl (lv_at hl 3 rfl) ?_
            refine va_get (ci := 4) (v := .ref (y 22)) (C := RX4) (T := TX4) (N := 6) hx hb hg inX4 hown hK hP 1 rfl rfl 3 (by decide) (hg _ q_1_174) (fun _ h9 => h9) rfl dX4_workOut_126 ?_
            refine lv_iload_n hx hb dX4_workOut_129 rfl (lv_at hl 0 rfl) ?_
            refine lv_iconst (v := 1) hx hb dX4_workOut_130 (by decide) ?_
            refine lv_isub hx hb dX4_workOut_131 ?_
            refine lv_topi (fun x_45 ex_45 => ?_)
            have bx_45 : iv 0 61 x_45 := by rw [ex_45]; exact iv_sub bx_44 (iv_c (1 : Int32) (a := 1) (b := 1) (by decide)) (by decide)
            refine lv_aload_n hx hb dX4_workOut_132 rfl (lv_at hl 3 rfl) ?_
            refine va_get (ci := 4) (v := .ref (y 22)) (C := RX4) (T := TX4) (N := 6) hx hb hg inX4 hown hK hP 1 rfl rfl 3 (by decide) (hg _ q_1_174) (fun _ h9 => h9) rfl dX4_workOut_133 ?_
            refine lv_iload_n hx hb dX4_workOut_136 rfl (lv_at hl 0 rfl) ?_
            refine lv_iconst (v := 1) hx hb dX4_workOut_137 (by decide) ?_
            refine lv_isub hx hb dX4_workOut_138 ?_
            refine tpi (y := x_45) ex_45.symm ?_
            refine va_iald hx hb hK hP 3 0 rfl rfl (iv_in bx_45 (by decide)) dX4_workOut_139 ?_
            refine lv_topi (fun x_46 ex_46 => ?_)
            refine lv_if_eq (tgt := 152) hx hb dX4_workOut_140 (by decide) (fun c_47 => ?_) (fun c_47 => ?_)
            · have b_48 : iv 0 0 x_46 := iv_q c_47 (iv_c (0 : Int32) (a := 0) (b := 0) (by decide))
              refine lv_aload_n hx hb dX4_workOut_152 rfl (lv_at hl 3 rfl) ?_
              refine va_get (ci := 4) (v := .ref (y 22)) (C := RX4) (T := TX4) (N := 6) hx hb hg inX4 hown hK hP 1 rfl rfl 3 (by decide) (hg _ q_1_174) (fun _ h9 => h9) rfl dX4_workOut_153 ?_
              refine lv_iload_n hx hb dX4_workOut_156 rfl (lv_at hl 0 rfl) ?_
              refine lv_iconst (v := 1) hx hb dX4_workOut_157 (by decide) ?_
              refine lv_iadd hx hb dX4_workOut_158 ?_
              refine lv_topi (fun x_49 ex_49 => ?_)
              have bx_49 : iv 2 63 x_49 := by rw [ex_49]; exact iv_add bx_44 (iv_c (1 : Int32) (a := 1) (b := 1) (by decide)) (by decide)
              refine va_iald hx hb hK hP 3 0 rfl rfl (iv_in bx_49 (by decide)) dX4_workOut_159 ?_
              refine lv_topi (fun x_50 ex_50 => ?_)
              refine va_iast hx hb hK hP hD hS 3 0 rfl rfl (iv_in bx_45 (by decide)) dX4_workOut_160 (fun H locs hP hD hS => ?_)
              obtain ⟨f_51, ef_51, hP, hD⟩ : ∃ f_51 : Nat → Int32, f_51 = (upd f_3 (x_45 : Int32).toNatClampNeg x_50) ∧ va_P V.1 vwCl [(y 9, aI V 900 fy9), (y 19, .inr (4, o4_rrrrrr (y 2) (y 20) (y 21) (y 22) (y 23) (y 24))), (y 21, aI V 6 fy21), (y 22, aI V 64 f_51), (y 2, .inr (1, o1_iiiiiirrrrrrriiiii py2_0 py2_1 py2_2 py2_3 py2_4 py2_5 (y 3) (y 4) (y 5) (y 6) (y 7) (y 8) (y 9) py2_13 py2_14 py2_15 py2_16 py2_17))] H ∧ va_D A [(y 9, aI V 900 fy9), (y 19, .inr (4, o4_rrrrrr (y 2) (y 20) (y 21) (y 22) (y 23) (y 24))), (y 21, aI V 6 fy21), (y 22, aI V 64 f_51), (y 2, .inr (1, o1_iiiiiirrrrrrriiiii py2_0 py2_1 py2_2 py2_3 py2_4 py2_5 (y 3) (y 4) (y 5) (y 6) (y 7) (y 8) (y 9) py2_13 py2_14 py2_15 py2_16 py2_17))] := ⟨_, rfl, hP, hD⟩
              refine lv_goto (tgt := 201) hx hb dX4_workOut_161 (by decide) ?_
              obtain ⟨x_52, ex_52⟩ : ∃ z9 : Int32, z9 = u_1 + 1 := ⟨_, rfl⟩
              have bx_52 : iv 1 900 x_52 := by rw [ex_52]; exact iv_add b_7 (iv_c (1 : Int32) (a := 1) (b := 1) (by decide)) (by decide)
              refine lv_iinc (v := x_52) (lv' := [(4, .int x_52), (3, .int x_44), (5, .int x_9), (0, .ref (y 19)), (1, .int a1), (2, .int a2)]) hx hb dX4_workOut_201 hl (k := 2) rfl (by rw [ex_52]; rfl) (by decide) rfl (fun ls hl => ?_)
              refine lv_goto (tgt := 5) hx hb dX4_workOut_204 (by decide) ?_
              exact ihn_4 _ _ _ _ (by rw [en_4, ex_52]; exact mu_up b_7 (by decide)) ⟨x_52, x_44, f_51, (iv_w bx_52 (by decide)), (iv_w bx_44 (by decide)), (cm_s inn_4_0 ba1.1 inn_4_1 b_7 (by decide) ex_52 ex_9 (cs_if (by have z_0 := Int32.lt_iff_toInt_lt.mp (Int32.not_le.mp c_5); have z_1 := Int32.le_iff_toInt_le.mp c_10; have z_2 : ¬ ((x_9 : Int32).toInt = (1014 : Int32).toInt) := fun q9 => c_12 (Int32.toInt_inj.mp q9); have z_3 := congrArg Int32.toInt c_13; have z_4 := Int32.le_iff_toInt_le.mp (Int32.not_lt.mp c_28); have z_5 := congrArg Int32.toInt c_47; have k_0 : (0 : Int32).toInt = 0 := (by decide); have k_3 : (3 : Int32).toInt = 3 := (by decide); have k_1006 : (1006 : Int32).toInt = 1006 := (by decide); have k_1014 : (1014 : Int32).toInt = 1014 := (by decide); have k_1015 : (1015 : Int32).toInt = 1015 := (by decide); omega) (by have z_0 := Int32.lt_iff_toInt_lt.mp (Int32.not_le.mp c_5); have z_1 := Int32.le_iff_toInt_le.mp c_10; have z_2 : ¬ ((x_9 : Int32).toInt = (1014 : Int32).toInt) := fun q9 => c_12 (Int32.toInt_inj.mp q9); have z_3 := congrArg Int32.toInt c_13; have z_4 := Int32.le_iff_toInt_le.mp (Int32.not_lt.mp c_28); have z_5 := congrArg Int32.toInt c_47; have k_0 : (0 : Int32).toInt = 0 := (by decide); have k_3 : (3 : Int32).toInt = 3 := (by decide); have k_1006 : (1006 : Int32).toInt = 1006 := (by decide); have k_1014 : (1014 : Int32).toInt = 1014 := (by decide); have k_1015 : (1015 : Int32).toInt = 1015 := (by decide); omega) (by have z_0 := Int32.lt_iff_toInt_lt.mp (Int32.not_le.mp c_5); have z_1 := Int32.le_iff_toInt_le.mp c_10; have z_2 : ¬ ((x_9 : Int32).toInt = (1014 : Int32).toInt) := fun q9 => c_12 (Int32.toInt_inj.mp q9); have z_3 := congrArg Int32.toInt c_13; have z_4 := Int32.le_iff_toInt_le.mp (Int32.not_lt.mp c_28); have z_5 := congrArg Int32.toInt c_47; have k_0 : (0 : Int32).toInt = 0 := (by decide); have k_3 : (3 : Int32).toInt = 3 := (by decide); have k_1006 : (1006 : Int32).toInt = 1006 := (by decide); have k_1014 : (1014 : Int32).toInt = 1014 := (by decide); have k_1015 : (1015 : Int32).toInt = 1015 := (by decide); omega) (by have z_0 := Int32.lt_iff_toInt_lt.mp (Int32.not_le.mp c_5); have z_1 := Int32.le_iff_toInt_le.mp c_10; have z_2 : ¬ ((x_9 : Int32).toInt = (1014 : Int32).toInt) := fun q9 => c_12 (Int32.toInt_inj.mp q9); have z_3 := congrArg Int32.toInt c_13; have z_4 := Int32.le_iff_toInt_le.mp (Int32.not_lt.mp c_28); have z_5 := congrArg Int32.toInt c_47; have k_0 : (0 : Int32).toInt = 0 := (by decide); have k_3 : (3 : Int32).toInt = 3 := (by decide); have k_1006 : (1006 : Int32).toInt = 1006 := (by decide); have k_1014 : (1014 : Int32).toInt = 1014 := (by decide); have k_1015 : (1015 : Int32).toInt = 1015 := (by decide); have w_0 := b_43; unfold iv at w_0; omega) ex_44 ex_45 ex_46 (Or.inr ⟨c_47, x_49, ex_49, ex_50⟩) ef_51)), (by have q9 := inc_toInt ex_52 b_7 (by decide); have q8 := inn_4_1; omega), (Or.inl (by have q9 := inc_toInt ex_52 b_7 (by decide); have z_0 := Int32.lt_iff_toInt_lt.mp (Int32.not_le.mp c_5); have z_1 := Int32.le_iff_toInt_le.mp c_10; have z_2 : ¬ ((x_9 : Int32).toInt = (1014 : Int32).toInt) := fun q9 => c_12 (Int32.toInt_inj.mp q9); have z_3 := congrArg Int32.toInt c_13; have z_4 := Int32.le_iff_toInt_le.mp (Int32.not_lt.mp c_28); have z_5 := congrArg Int32.toInt c_47; have k_0 : (0 : Int32).toInt = 0 := (by decide); have k_3 : (3 : Int32).toInt = 3 := (by decide); have k_1006 : (1006 : Int32).toInt = 1006 := (by decide); have k_1014 : (1014 : Int32).toInt = 1014 := (by decide); have k_1015 : (1015 : Int32).toInt = 1015 := (by decide); omega)), rfl, hP, hD, hS, lv_sub hl [0, 1, 3, 4, 5] rfl⟩
            · refine lv_aload_n hx hb dX4_workOut_143 rfl (lv_at hl 3 rfl) ?_
              refine va_get (ci := 4) (v := .ref (y 22)) (C := RX4) (T := TX4) (N := 6) hx hb hg inX4 hown hK hP 1 rfl rfl 3 (by decide) (hg _ q_1_174) (fun _ h9 => h9) rfl dX4_workOut_144 ?_
              refine lv_iload_n hx hb dX4_workOut_147 rfl (lv_at hl 0 rfl) ?_
              refine va_iald hx hb hK hP 3 0 rfl rfl (iv_in bx_44 (by decide)) dX4_workOut_148 ?_
              refine lv_topi (fun x_53 ex_53 => ?_)
              refine lv_goto (tgt := 160) hx hb dX4_workOut_149 (by decide) ?_
              refine va_iast hx hb hK hP hD hS 3 0 rfl rfl (iv_in bx_45 (by decide)) dX4_workOut_160 (fun H locs hP hD hS => ?_)
              obtain ⟨f_54, ef_54, hP, hD⟩ : ∃ f_54 : Nat → Int32, f_54 = (upd f_3 (x_45 : Int32).toNatClampNeg x_53) ∧ va_P V.1 vwCl [(y 9, aI V 900 fy9), (y 19, .inr (4, o4_rrrrrr (y 2) (y 20) (y 21) (y 22) (y 23) (y 24))), (y 21, aI V 6 fy21), (y 22, aI V 64 f_54), (y 2, .inr (1, o1_iiiiiirrrrrrriiiii py2_0 py2_1 py2_2 py2_3 py2_4 py2_5 (y 3) (y 4) (y 5) (y 6) (y 7) (y 8) (y 9) py2_13 py2_14 py2_15 py2_16 py2_17))] H ∧ va_D A [(y 9, aI V 900 fy9), (y 19, .inr (4, o4_rrrrrr (y 2) (y 20) (y 21) (y 22) (y 23) (y 24))), (y 21, aI V 6 fy21), (y 22, aI V 64 f_54), (y 2, .inr (1, o1_iiiiiirrrrrrriiiii py2_0 py2_1 py2_2 py2_3 py2_4 py2_5 (y 3) (y 4) (y 5) (y 6) (y 7) (y 8) (y 9) py2_13 py2_14 py2_15 py2_16 py2_17))] := ⟨_, rfl, hP, hD⟩
              refine lv_goto (tgt := 201) hx hb dX4_workOut_161 (by decide) ?_
              obtain ⟨x_55, ex_55⟩ : ∃ z9 : Int32, z9 = u_1 + 1 := ⟨_, rfl⟩
              have bx_55 : iv 1 900 x_55 := by rw [ex_55]; exact iv_add b_7 (iv_c (1 : Int32) (a := 1) (b := 1) (by decide)) (by decide)
              refine lv_iinc (v := x_55) (lv' := [(4, .int x_55), (3, .int x_44), (5, .int x_9), (0, .ref (y 19)), (1, .int a1), (2, .int a2)]) hx hb dX4_workOut_201 hl (k := 2) rfl (by rw [ex_55]; rfl) (by decide) rfl (fun ls hl => ?_)
              refine lv_goto (tgt := 5) hx hb dX4_workOut_204 (by decide) ?_
              exact ihn_4 _ _ _ _ (by rw [en_4, ex_55]; exact mu_up b_7 (by decide)) ⟨x_55, x_44, f_54, (iv_w bx_55 (by decide)), (iv_w bx_44 (by decide)), (cm_s inn_4_0 ba1.1 inn_4_1 b_7 (by decide) ex_55 ex_9 (cs_if (by have z_0 := Int32.lt_iff_toInt_lt.mp (Int32.not_le.mp c_5); have z_1 := Int32.le_iff_toInt_le.mp c_10; have z_2 : ¬ ((x_9 : Int32).toInt = (1014 : Int32).toInt) := fun q9 => c_12 (Int32.toInt_inj.mp q9); have z_3 := congrArg Int32.toInt c_13; have z_4 := Int32.le_iff_toInt_le.mp (Int32.not_lt.mp c_28); have z_5 : ¬ ((x_46 : Int32).toInt = (0 : Int32).toInt) := fun q9 => c_47 (Int32.toInt_inj.mp q9); have k_0 : (0 : Int32).toInt = 0 := (by decide); have k_3 : (3 : Int32).toInt = 3 := (by decide); have k_1006 : (1006 : Int32).toInt = 1006 := (by decide); have k_1014 : (1014 : Int32).toInt = 1014 := (by decide); have k_1015 : (1015 : Int32).toInt = 1015 := (by decide); omega) (by have z_0 := Int32.lt_iff_toInt_lt.mp (Int32.not_le.mp c_5); have z_1 := Int32.le_iff_toInt_le.mp c_10; have z_2 : ¬ ((x_9 : Int32).toInt = (1014 : Int32).toInt) := fun q9 => c_12 (Int32.toInt_inj.mp q9); have z_3 := congrArg Int32.toInt c_13; have z_4 := Int32.le_iff_toInt_le.mp (Int32.not_lt.mp c_28); have z_5 : ¬ ((x_46 : Int32).toInt = (0 : Int32).toInt) := fun q9 => c_47 (Int32.toInt_inj.mp q9); have k_0 : (0 : Int32).toInt = 0 := (by decide); have k_3 : (3 : Int32).toInt = 3 := (by decide); have k_1006 : (1006 : Int32).toInt = 1006 := (by decide); have k_1014 : (1014 : Int32).toInt = 1014 := (by decide); have k_1015 : (1015 : Int32).toInt = 1015 := (by decide); omega) (by have z_0 := Int32.lt_iff_toInt_lt.mp (Int32.not_le.mp c_5); have z_1 := Int32.le_iff_toInt_le.mp c_10; have z_2 : ¬ ((x_9 : Int32).toInt = (1014 : Int32).toInt) := fun q9 => c_12 (Int32.toInt_inj.mp q9); have z_3 := congrArg Int32.toInt c_13; have z_4 := Int32.le_iff_toInt_le.mp (Int32.not_lt.mp c_28); have z_5 : ¬ ((x_46 : Int32).toInt = (0 : Int32).toInt) := fun q9 => c_47 (Int32.toInt_inj.mp q9); have k_0 : (0 : Int32).toInt = 0 := (by decide); have k_3 : (3 : Int32).toInt = 3 := (by decide); have k_1006 : (1006 : Int32).toInt = 1006 := (by decide); have k_1014 : (1014 : Int32).toInt = 1014 := (by decide); have k_1015 : (1015 : Int32).toInt = 1015 := (by decide); omega) (by have z_0 := Int32.lt_iff_toInt_lt.mp (Int32.not_le.mp c_5); have z_1 := Int32.le_iff_toInt_le.mp c_10; have z_2 : ¬ ((x_9 : Int32).toInt = (1014 : Int32).toInt) := fun q9 => c_12 (Int32.toInt_inj.mp q9); have z_3 := congrArg Int32.toInt c_13; have z_4 := Int32.le_iff_toInt_le.mp (Int32.not_lt.mp c_28); have z_5 : ¬ ((x_46 : Int32).toInt = (0 : Int32).toInt) := fun q9 => c_47 (Int32.toInt_inj.mp q9); have k_0 : (0 : Int32).toInt = 0 := (by decide); have k_3 : (3 : Int32).toInt = 3 := (by decide); have k_1006 : (1006 : Int32).toInt = 1006 := (by decide); have k_1014 : (1014 : Int32).toInt = 1014 := (by decide); have k_1015 : (1015 : Int32).toInt = 1015 := (by decide); have w_0 := b_43; unfold iv at w_0; omega) ex_44 ex_45 ex_46 (Or.inl ⟨c_47, ex_53⟩) ef_54)), (by have q9 := inc_toInt ex_55 b_7 (by decide); have q8 := inn_4_1; omega), (Or.inl (by have q9 := inc_toInt ex_55 b_7 (by decide); have z_0 := Int32.lt_iff_toInt_lt.mp (Int32.not_le.mp c_5); have z_1 := Int32.le_iff_toInt_le.mp c_10; have z_2 : ¬ ((x_9 : Int32).toInt = (1014 : Int32).toInt) := fun q9 => c_12 (Int32.toInt_inj.mp q9); have z_3 := congrArg Int32.toInt c_13; have z_4 := Int32.le_iff_toInt_le.mp (Int32.not_lt.mp c_28); have z_5 : ¬ ((x_46 : Int32).toInt = (0 : Int32).toInt) := fun q9 => c_47 (Int32.toInt_inj.mp q9); have k_0 : (0 : Int32).toInt = 0 := (by decide); have k_3 : (3 : Int32).toInt = 3 := (by decide); have k_1006 : (1006 : Int32).toInt = 1006 := (by decide); have k_1014 : (1014 : Int32).toInt = 1014 := (by decide); have k_1015 : (1015 : Int32).toInt = 1015 := (by decide); omega)), rfl, hP, hD, hS, lv_sub hl [0, 1, 3, 4, 5] rfl⟩
      · have b_56 : iv 1014 1014 x_9 := iv_q c_12 (iv_c (1014 : Int32) (a := 1014) (b := 1014) (by decide))
        refine lv_iload_n hx hb dX4_workOut_83 rfl (lv_at hl 2 rfl) ?_
        refine lv_iconst (v := 1) hx hb dX4_workOut_84 (by decide) ?_
        refine lv_icmp_lt (tgt := 109) hx hb dX4_workOut_85 (by decide) (fun c_57 => ?_) (fun c_57 => ?_)
        · have b_58 : iv 0 0 u_2 := iv_l1 c_57 bu_2 (iv_c (1 : Int32) (a := 1) (b := 1) (by decide)) (by decide)
          refine lv_iload hx hb dX4_workOut_109 (lv_at hl 0 rfl) ?_
          refine lv_sipush (v := 1015) hx hb dX4_workOut_111 (by decide) ?_
          refine lv_icmp_ne (tgt := 164) hx hb dX4_workOut_114 (by decide) (fun _ => ?_) (fun c_59 => absurd c_59 (iv_ne b_56 (iv_c (1015 : Int32) (a := 1015) (b := 1015) (by decide)) (by decide)))
          refine lv_iload_n hx hb dX4_workOut_164 rfl (lv_at hl 2 rfl) ?_
          refine lv_iconst (v := 2) hx hb dX4_workOut_165 (by decide) ?_
          refine lv_icmp_lt (tgt := 201) hx hb dX4_workOut_166 (by decide) (fun _ => ?_) (fun c_60 => absurd (iv_lt b_58 (iv_c (2 : Int32) (a := 2) (b := 2) (by decide)) (by decide)) c_60)
          obtain ⟨x_61, ex_61⟩ : ∃ z9 : Int32, z9 = u_1 + 1 := ⟨_, rfl⟩
          have bx_61 : iv 1 900 x_61 := by rw [ex_61]; exact iv_add b_7 (iv_c (1 : Int32) (a := 1) (b := 1) (by decide)) (by decide)
          refine lv_iinc (v := x_61) (lv' := [(4, .int x_61), (5, .int x_9), (3, .int u_2), (0, .ref (y 19)), (1, .int a1), (2, .int a2)]) hx hb dX4_workOut_201 hl (k := 1) rfl (by rw [ex_61]; rfl) (by decide) rfl (fun ls hl => ?_)
          refine lv_goto (tgt := 5) hx hb dX4_workOut_204 (by decide) ?_
          exact ihn_4 _ _ _ _ (by rw [en_4, ex_61]; exact mu_up b_7 (by decide)) ⟨x_61, u_2, f_3, (iv_w bx_61 (by decide)), (iv_w b_58 (by decide)), (cm_s inn_4_0 ba1.1 inn_4_1 b_7 (by decide) ex_61 ex_9 (cs_id (by have z_0 := Int32.lt_iff_toInt_lt.mp (Int32.not_le.mp c_5); have z_1 := Int32.le_iff_toInt_le.mp c_10; have z_2 := congrArg Int32.toInt c_12; have z_3 := Int32.lt_iff_toInt_lt.mp c_57; have k_1 : (1 : Int32).toInt = 1 := (by decide); have k_1006 : (1006 : Int32).toInt = 1006 := (by decide); have k_1014 : (1014 : Int32).toInt = 1014 := (by decide); have w_0 := b_56; unfold iv at w_0; have w_1 := b_58; unfold iv at w_1; omega) (by have z_0 := Int32.lt_iff_toInt_lt.mp (Int32.not_le.mp c_5); have z_1 := Int32.le_iff_toInt_le.mp c_10; have z_2 := congrArg Int32.toInt c_12; have z_3 := Int32.lt_iff_toInt_lt.mp c_57; have k_1 : (1 : Int32).toInt = 1 := (by decide); have k_1006 : (1006 : Int32).toInt = 1006 := (by decide); have k_1014 : (1014 : Int32).toInt = 1014 := (by decide); have w_0 := b_56; unfold iv at w_0; have w_1 := b_58; unfold iv at w_1; omega) (by have z_0 := Int32.lt_iff_toInt_lt.mp (Int32.not_le.mp c_5); have z_1 := Int32.le_iff_toInt_le.mp c_10; have z_2 := congrArg Int32.toInt c_12; have z_3 := Int32.lt_iff_toInt_lt.mp c_57; have k_1 : (1 : Int32).toInt = 1 := (by decide); have k_1006 : (1006 : Int32).toInt = 1006 := (by decide); have k_1014 : (1014 : Int32).toInt = 1014 := (by decide); have w_0 := b_56; unfold iv at w_0; have w_1 := b_58; unfold iv at w_1; omega) (by have z_0 := Int32.lt_iff_toInt_lt.mp (Int32.not_le.mp c_5); have z_1 := Int32.le_iff_toInt_le.mp c_10; have z_2 := congrArg Int32.toInt c_12; have z_3 := Int32.lt_iff_toInt_lt.mp c_57; have k_1 : (1 : Int32).toInt = 1 := (by decide); have k_1006 : (1006 : Int32).toInt = 1006 := (by decide); have k_1014 : (1014 : Int32).toInt = 1014 := (by decide); have w_0 := b_56; unfold iv at w_0; have w_1 := b_58; unfold iv at w_1; omega))), (by have q9 := inc_toInt ex_61 b_7 (by decide); have q8 := inn_4_1; omega), (Or.inl (by have q9 := inc_toInt ex_61 b_7 (by decide); have z_0 := Int32.lt_iff_toInt_lt.mp (Int32.not_le.mp c_5); have z_1 := Int32.le_iff_toInt_le.mp c_10; have z_2 := congrArg Int32.toInt c_12; have z_3 := Int32.lt_iff_toInt_lt.mp c_57; have k_1 : (1 : Int32).toInt = 1 := (by decide); have k_1006 : (1006 : Int32).toInt = 1006 := (by decide); have k_1014 : (1014 : Int32).toInt = 1014 := (by decide); omega)), rfl, hP, hD, hS, lv_sub hl [0, 2, 3, 4, 5] rfl⟩
        · have b_62 : iv 1 64 u_2 := iv_e2 (Int32.not_lt.mp c_57) (iv_c (1 : Int32) (a := 1) (b := 1) (by decide)) bu_2 (by decide)
          refine lv_aload_n hx hb dX4_workOut_88 rfl (lv_at hl 3 rfl) ?_
          refine va_get (ci := 4) (v := .ref (y 22)) (C := RX4) (T := TX4) (N := 6) hx hb hg inX4 hown hK hP 1 rfl rfl 3 (by decide) (hg _ q_1_174) (fun _ h9 => h9) rfl dX4_workOut_89 ?_
          refine lv_iload_n hx hb dX4_workOut_92 rfl (lv_at hl 2 rfl) ?_
          refine lv_iconst (v := 1) hx hb dX4_workOut_93 (by decide) ?_
          refine lv_isub hx hb dX4_workOut_94 ?_
          refine lv_topi (fun x_63 ex_63 => ?_)
          have bx_63 : iv 0 63 x_63 := by rw [ex_63]; exact iv_subl (Int32.not_lt.mp c_57) b_62 (iv_c (1 : Int32) (a := 1) (b := 1) (by decide)) (by decide)
          refine lv_iconst (v := 1) hx hb dX4_workOut_95 (by decide) ?_
          refine lv_aload_n hx hb dX4_workOut_96 rfl (lv_at hl 3 rfl) ?_
          refine va_get (ci := 4) (v := .ref (y 22)) (C := RX4) (T := TX4) (N := 6) hx hb hg inX4 hown hK hP 1 rfl rfl 3 (by decide) (hg _ q_1_174) (fun _ h9 => h9) rfl dX4_workOut_97 ?_
          refine lv_iload_n hx hb dX4_workOut_100 rfl (lv_at hl 2 rfl) ?_
          refine lv_iconst (v := 1) hx hb dX4_workOut_101 (by decide) ?_
          refine lv_isub hx hb dX4_workOut_102 ?_
          refine tpi (y := x_63) ex_63.symm ?_
          refine va_iald hx hb hK hP 3 0 rfl rfl (iv_in bx_63 (by decide)) dX4_workOut_103 ?_
          refine lv_topi (fun x_64 ex_64 => ?_)
          refine lv_isub hx hb dX4_workOut_104 ?_
          refine lv_topi (fun x_65 ex_65 => ?_)
          refine va_iast hx hb hK hP hD hS 3 0 rfl rfl (iv_in bx_63 (by decide)) dX4_workOut_105 (fun H locs hP hD hS => ?_)
          obtain ⟨f_66, ef_66, hP, hD⟩ : ∃ f_66 : Nat → Int32, f_66 = (upd f_3 (x_63 : Int32).toNatClampNeg x_65) ∧ va_P V.1 vwCl [(y 9, aI V 900 fy9), (y 19, .inr (4, o4_rrrrrr (y 2) (y 20) (y 21) (y 22) (y 23) (y 24))), (y 21, aI V 6 fy21), (y 22, aI V 64 f_66), (y 2, .inr (1, o1_iiiiiirrrrrrriiiii py2_0 py2_1 py2_2 py2_3 py2_4 py2_5 (y 3) (y 4) (y 5) (y 6) (y 7) (y 8) (y 9) py2_13 py2_14 py2_15 py2_16 py2_17))] H ∧ va_D A [(y 9, aI V 900 fy9), (y 19, .inr (4, o4_rrrrrr (y 2) (y 20) (y 21) (y 22) (y 23) (y 24))), (y 21, aI V 6 fy21), (y 22, aI V 64 f_66), (y 2, .inr (1, o1_iiiiiirrrrrrriiiii py2_0 py2_1 py2_2 py2_3 py2_4 py2_5 (y 3) (y 4) (y 5) (y 6) (y 7) (y 8) (y 9) py2_13 py2_14 py2_15 py2_16 py2_17))] := ⟨_, rfl, hP, hD⟩
          refine lv_goto (tgt := 201) hx hb dX4_workOut_106 (by decide) ?_
          obtain ⟨x_67, ex_67⟩ : ∃ z9 : Int32, z9 = u_1 + 1 := ⟨_, rfl⟩
          have bx_67 : iv 1 900 x_67 := by rw [ex_67]; exact iv_add b_7 (iv_c (1 : Int32) (a := 1) (b := 1) (by decide)) (by decide)
          refine lv_iinc (v := x_67) (lv' := [(4, .int x_67), (5, .int x_9), (3, .int u_2), (0, .ref (y 19)), (1, .int a1), (2, .int a2)]) hx hb dX4_workOut_201 hl (k := 1) rfl (by rw [ex_67]; rfl) (by decide) rfl (fun ls hl => ?_)
          refine lv_goto (tgt := 5) hx hb dX4_workOut_204 (by decide) ?_
          exact ihn_4 _ _ _ _ (by rw [en_4, ex_67]; exact mu_up b_7 (by decide)) ⟨x_67, u_2, f_66, (iv_w bx_67 (by decide)), (iv_w b_62 (by decide)), (cm_s inn_4_0 ba1.1 inn_4_1 b_7 (by decide) ex_67 ex_9 (cs_no (by have z_0 := Int32.lt_iff_toInt_lt.mp (Int32.not_le.mp c_5); have z_1 := Int32.le_iff_toInt_le.mp c_10; have z_2 := congrArg Int32.toInt c_12; have z_3 := Int32.le_iff_toInt_le.mp (Int32.not_lt.mp c_57); have k_1 : (1 : Int32).toInt = 1 := (by decide); have k_1006 : (1006 : Int32).toInt = 1006 := (by decide); have k_1014 : (1014 : Int32).toInt = 1014 := (by decide); omega) (by have z_0 := Int32.lt_iff_toInt_lt.mp (Int32.not_le.mp c_5); have z_1 := Int32.le_iff_toInt_le.mp c_10; have z_2 := congrArg Int32.toInt c_12; have z_3 := Int32.le_iff_toInt_le.mp (Int32.not_lt.mp c_57); have k_1 : (1 : Int32).toInt = 1 := (by decide); have k_1006 : (1006 : Int32).toInt = 1006 := (by decide); have k_1014 : (1014 : Int32).toInt = 1014 := (by decide); omega) (by have z_0 := Int32.lt_iff_toInt_lt.mp (Int32.not_le.mp c_5); have z_1 := Int32.le_iff_toInt_le.mp c_10; have z_2 := congrArg Int32.toInt c_12; have z_3 := Int32.le_iff_toInt_le.mp (Int32.not_lt.mp c_57); have k_1 : (1 : Int32).toInt = 1 := (by decide); have k_1006 : (1006 : Int32).toInt = 1006 := (by decide); have k_1014 : (1014 : Int32).toInt = 1014 := (by decide); have w_0 := b_62; unfold iv at w_0; omega) ex_63 ex_64 ex_65 ef_66)), (by have q9 := inc_toInt ex_67 b_7 (by decide); have q8 := inn_4_1; omega), (Or.inl (by have q9 := inc_toInt ex_67 b_7 (by decide); have z_0 := Int32.lt_iff_toInt_lt.mp (Int32.not_le.mp c_5); have z_1 := Int32.le_iff_toInt_le.mp c_10; have z_2 := congrArg Int32.toInt c_12; have z_3 := Int32.le_iff_toInt_le.mp (Int32.not_lt.mp c_57); have k_1 : (1 : Int32).toInt = 1 := (by decide); have k_1006 : (1006 : Int32).toInt = 1006 := (by decide); have k_1014 : (1014 : Int32).toInt = 1014 := (by decide); omega)), rfl, hP, hD, hS, lv_sub hl [0, 2, 3, 4, 5] rfl⟩
    · have b_68 : iv (-2147483648) 1005 x_9 := iv_l1 (Int32.not_le.mp c_10) (iv_top x_9) (iv_c (1006 : Int32) (a := 1006) (b := 1006) (by decide)) (by decide)
      refine lv_iload_n hx hb dX4_workOut_31 rfl (lv_at hl 2 rfl) ?_
      refine lv_bipush (v := 64) hx hb dX4_workOut_32 (by decide) ?_
      refine lv_icmp_lt (tgt := 39) hx hb dX4_workOut_34 (by decide) (fun c_69 => ?_) (fun c_69 => ?_)
      · have b_70 : iv 0 63 u_2 := iv_l1 c_69 bu_2 (iv_c (64 : Int32) (a := 64) (b := 64) (by decide)) (by decide)
        refine lv_aload_n hx hb dX4_workOut_39 rfl (lv_at hl 3 rfl) ?_
        refine va_get (ci := 4) (v := .ref (y 22)) (C := RX4) (T := TX4) (N := 6) hx hb hg inX4 hown hK hP 1 rfl rfl 3 (by decide) (hg _ q_1_174) (fun _ h9 => h9) rfl dX4_workOut_40 ?_
        refine lv_iload_n hx hb dX4_workOut_43 rfl (lv_at hl 2 rfl) ?_
        refine lv_iload hx hb dX4_workOut_44 (lv_at hl 0 rfl) ?_
        refine lv_sipush (v := 1000) hx hb dX4_workOut_46 (by decide) ?_
        refine lv_icmp_ge (tgt := 57) hx hb dX4_workOut_49 (by decide) (fun c_71 => ?_) (fun c_71 => ?_)
        · have b_72 : iv 1000 1005 x_9 := iv_e2 c_71 (iv_c (1000 : Int32) (a := 1000) (b := 1000) (by decide)) b_68 (by decide)
          refine lv_aload_n hx hb dX4_workOut_57 rfl (lv_at hl 3 rfl) ?_
          refine va_get (ci := 4) (v := .ref (y 21)) (C := RX4) (T := TX4) (N := 6) hx hb hg inX4 hown hK hP 1 rfl rfl 2 (by decide) (hg _ q_1_173) (fun _ h9 => h9) rfl dX4_workOut_58 ?_
          refine lv_iload hx hb dX4_workOut_61 (lv_at hl 0 rfl) ?_
          refine lv_sipush (v := 1000) hx hb dX4_workOut_63 (by decide) ?_
          refine lv_isub hx hb dX4_workOut_66 ?_
          refine lv_topi (fun x_73 ex_73 => ?_)
          have bx_73 : iv 0 5 x_73 := by rw [ex_73]; exact iv_subl c_71 b_72 (iv_c (1000 : Int32) (a := 1000) (b := 1000) (by decide)) (by decide)
          refine va_iald hx hb hK hP 2 0 rfl rfl (iv_in bx_73 (by decide)) dX4_workOut_67 ?_
          refine lv_topi (fun x_74 ex_74 => ?_)
          refine va_iast hx hb hK hP hD hS 3 0 rfl rfl (iv_in b_70 (by decide)) dX4_workOut_68 (fun H locs hP hD hS => ?_)
          obtain ⟨f_75, ef_75, hP, hD⟩ : ∃ f_75 : Nat → Int32, f_75 = (upd f_3 (u_2 : Int32).toNatClampNeg x_74) ∧ va_P V.1 vwCl [(y 9, aI V 900 fy9), (y 19, .inr (4, o4_rrrrrr (y 2) (y 20) (y 21) (y 22) (y 23) (y 24))), (y 21, aI V 6 fy21), (y 22, aI V 64 f_75), (y 2, .inr (1, o1_iiiiiirrrrrrriiiii py2_0 py2_1 py2_2 py2_3 py2_4 py2_5 (y 3) (y 4) (y 5) (y 6) (y 7) (y 8) (y 9) py2_13 py2_14 py2_15 py2_16 py2_17))] H ∧ va_D A [(y 9, aI V 900 fy9), (y 19, .inr (4, o4_rrrrrr (y 2) (y 20) (y 21) (y 22) (y 23) (y 24))), (y 21, aI V 6 fy21), (y 22, aI V 64 f_75), (y 2, .inr (1, o1_iiiiiirrrrrrriiiii py2_0 py2_1 py2_2 py2_3 py2_4 py2_5 (y 3) (y 4) (y 5) (y 6) (y 7) (y 8) (y 9) py2_13 py2_14 py2_15 py2_16 py2_17))] := ⟨_, rfl, hP, hD⟩
          obtain ⟨x_76, ex_76⟩ : ∃ z9 : Int32, z9 = u_2 + 1 := ⟨_, rfl⟩
          have bx_76 : iv 1 64 x_76 := by rw [ex_76]; exact iv_add b_70 (iv_c (1 : Int32) (a := 1) (b := 1) (by decide)) (by decide)
          refine lv_iinc (v := x_76) (lv' := [(3, .int x_76), (5, .int x_9), (4, .int u_1), (0, .ref (y 19)), (1, .int a1), (2, .int a2)]) hx hb dX4_workOut_69 hl (k := 2) rfl (by rw [ex_76]; rfl) (by decide) rfl (fun ls hl => ?_)
          refine lv_goto (tgt := 201) hx hb dX4_workOut_72 (by decide) ?_
          obtain ⟨x_77, ex_77⟩ : ∃ z9 : Int32, z9 = u_1 + 1 := ⟨_, rfl⟩
          have bx_77 : iv 1 900 x_77 := by rw [ex_77]; exact iv_add b_7 (iv_c (1 : Int32) (a := 1) (b := 1) (by decide)) (by decide)
          refine lv_iinc (v := x_77) (lv' := [(4, .int x_77), (3, .int x_76), (5, .int x_9), (0, .ref (y 19)), (1, .int a1), (2, .int a2)]) hx hb dX4_workOut_201 hl (k := 2) rfl (by rw [ex_77]; rfl) (by decide) rfl (fun ls hl => ?_)
          refine lv_goto (tgt := 5) hx hb dX4_workOut_204 (by decide) ?_
          exact ihn_4 _ _ _ _ (by rw [en_4, ex_77]; exact mu_up b_7 (by decide)) ⟨x_77, x_76, f_75, (iv_w bx_77 (by decide)), (iv_w bx_76 (by decide)), (cm_s inn_4_0 ba1.1 inn_4_1 b_7 (by decide) ex_77 ex_9 (cs_push (by have z_0 := Int32.lt_iff_toInt_lt.mp (Int32.not_le.mp c_5); have z_1 := Int32.lt_iff_toInt_lt.mp (Int32.not_le.mp c_10); have z_2 := Int32.lt_iff_toInt_lt.mp c_69; have z_3 := Int32.le_iff_toInt_le.mp c_71; have k_64 : (64 : Int32).toInt = 64 := (by decide); have k_1000 : (1000 : Int32).toInt = 1000 := (by decide); have k_1006 : (1006 : Int32).toInt = 1006 := (by decide); omega) (by have z_0 := Int32.lt_iff_toInt_lt.mp (Int32.not_le.mp c_5); have z_1 := Int32.lt_iff_toInt_lt.mp (Int32.not_le.mp c_10); have z_2 := Int32.lt_iff_toInt_lt.mp c_69; have z_3 := Int32.le_iff_toInt_le.mp c_71; have k_64 : (64 : Int32).toInt = 64 := (by decide); have k_1000 : (1000 : Int32).toInt = 1000 := (by decide); have k_1006 : (1006 : Int32).toInt = 1006 := (by decide); have w_0 := b_70; unfold iv at w_0; omega) (cv_2 (by have z_0 := Int32.lt_iff_toInt_lt.mp (Int32.not_le.mp c_5); have z_1 := Int32.lt_iff_toInt_lt.mp (Int32.not_le.mp c_10); have z_2 := Int32.lt_iff_toInt_lt.mp c_69; have z_3 := Int32.le_iff_toInt_le.mp c_71; have k_64 : (64 : Int32).toInt = 64 := (by decide); have k_1000 : (1000 : Int32).toInt = 1000 := (by decide); have k_1006 : (1006 : Int32).toInt = 1006 := (by decide); omega) ex_73 ex_74) ef_75 ex_76)), (by have q9 := inc_toInt ex_77 b_7 (by decide); have q8 := inn_4_1; omega), (Or.inl (by have q9 := inc_toInt ex_77 b_7 (by decide); have z_0 := Int32.lt_iff_toInt_lt.mp (Int32.not_le.mp c_5); have z_1 := Int32.lt_iff_toInt_lt.mp (Int32.not_le.mp c_10); have z_2 := Int32.lt_iff_toInt_lt.mp c_69; have z_3 := Int32.le_iff_toInt_le.mp c_71; have k_64 : (64 : Int32).toInt = 64 := (by decide); have k_1000 : (1000 : Int32).toInt = 1000 := (by decide); have k_1006 : (1006 : Int32).toInt = 1006 := (by decide); omega)), rfl, hP, hD, hS, lv_sub hl [0, 1, 3, 4, 5] rfl⟩
        · have b_78 : iv (-2147483648) 999 x_9 := iv_l1 (Int32.not_le.mp c_71) b_68 (iv_c (1000 : Int32) (a := 1000) (b := 1000) (by decide)) (by decide)
          refine lv_iload hx hb dX4_workOut_52 (lv_at hl 0 rfl) ?_
          refine lv_goto (tgt := 68) hx hb dX4_workOut_54 (by decide) ?_
          refine va_iast hx hb hK hP hD hS 3 0 rfl rfl (iv_in b_70 (by decide)) dX4_workOut_68 (fun H locs hP hD hS => ?_)
          obtain ⟨f_79, ef_79, hP, hD⟩ : ∃ f_79 : Nat → Int32, f_79 = (upd f_3 (u_2 : Int32).toNatClampNeg x_9) ∧ va_P V.1 vwCl [(y 9, aI V 900 fy9), (y 19, .inr (4, o4_rrrrrr (y 2) (y 20) (y 21) (y 22) (y 23) (y 24))), (y 21, aI V 6 fy21), (y 22, aI V 64 f_79), (y 2, .inr (1, o1_iiiiiirrrrrrriiiii py2_0 py2_1 py2_2 py2_3 py2_4 py2_5 (y 3) (y 4) (y 5) (y 6) (y 7) (y 8) (y 9) py2_13 py2_14 py2_15 py2_16 py2_17))] H ∧ va_D A [(y 9, aI V 900 fy9), (y 19, .inr (4, o4_rrrrrr (y 2) (y 20) (y 21) (y 22) (y 23) (y 24))), (y 21, aI V 6 fy21), (y 22, aI V 64 f_79), (y 2, .inr (1, o1_iiiiiirrrrrrriiiii py2_0 py2_1 py2_2 py2_3 py2_4 py2_5 (y 3) (y 4) (y 5) (y 6) (y 7) (y 8) (y 9) py2_13 py2_14 py2_15 py2_16 py2_17))] := ⟨_, rfl, hP, hD⟩
          obtain ⟨x_80, ex_80⟩ : ∃ z9 : Int32, z9 = u_2 + 1 := ⟨_, rfl⟩
          have bx_80 : iv 1 64 x_80 := by rw [ex_80]; exact iv_add b_70 (iv_c (1 : Int32) (a := 1) (b := 1) (by decide)) (by decide)
          refine lv_iinc (v := x_80) (lv' := [(3, .int x_80), (5, .int x_9), (4, .int u_1), (0, .ref (y 19)), (1, .int a1), (2, .int a2)]) hx hb dX4_workOut_69 hl (k := 2) rfl (by rw [ex_80]; rfl) (by decide) rfl (fun ls hl => ?_)
          refine lv_goto (tgt := 201) hx hb dX4_workOut_72 (by decide) ?_
          obtain ⟨x_81, ex_81⟩ : ∃ z9 : Int32, z9 = u_1 + 1 := ⟨_, rfl⟩
          have bx_81 : iv 1 900 x_81 := by rw [ex_81]; exact iv_add b_7 (iv_c (1 : Int32) (a := 1) (b := 1) (by decide)) (by decide)
          refine lv_iinc (v := x_81) (lv' := [(4, .int x_81), (3, .int x_80), (5, .int x_9), (0, .ref (y 19)), (1, .int a1), (2, .int a2)]) hx hb dX4_workOut_201 hl (k := 2) rfl (by rw [ex_81]; rfl) (by decide) rfl (fun ls hl => ?_)
          refine lv_goto (tgt := 5) hx hb dX4_workOut_204 (by decide) ?_
          exact ihn_4 _ _ _ _ (by rw [en_4, ex_81]; exact mu_up b_7 (by decide)) ⟨x_81, x_80, f_79, (iv_w bx_81 (by decide)), (iv_w bx_80 (by decide)), (cm_s inn_4_0 ba1.1 inn_4_1 b_7 (by decide) ex_81 ex_9 (cs_push (by have z_0 := Int32.lt_iff_toInt_lt.mp (Int32.not_le.mp c_5); have z_1 := Int32.lt_iff_toInt_lt.mp (Int32.not_le.mp c_10); have z_2 := Int32.lt_iff_toInt_lt.mp c_69; have z_3 := Int32.lt_iff_toInt_lt.mp (Int32.not_le.mp c_71); have k_64 : (64 : Int32).toInt = 64 := (by decide); have k_1000 : (1000 : Int32).toInt = 1000 := (by decide); have k_1006 : (1006 : Int32).toInt = 1006 := (by decide); omega) (by have z_0 := Int32.lt_iff_toInt_lt.mp (Int32.not_le.mp c_5); have z_1 := Int32.lt_iff_toInt_lt.mp (Int32.not_le.mp c_10); have z_2 := Int32.lt_iff_toInt_lt.mp c_69; have z_3 := Int32.lt_iff_toInt_lt.mp (Int32.not_le.mp c_71); have k_64 : (64 : Int32).toInt = 64 := (by decide); have k_1000 : (1000 : Int32).toInt = 1000 := (by decide); have k_1006 : (1006 : Int32).toInt = 1006 := (by decide); have w_0 := b_70; unfold iv at w_0; omega) (cv_1 (by have z_0 := Int32.lt_iff_toInt_lt.mp (Int32.not_le.mp c_5); have z_1 := Int32.lt_iff_toInt_lt.mp (Int32.not_le.mp c_10); have z_2 := Int32.lt_iff_toInt_lt.mp c_69; have z_3 := Int32.lt_iff_toInt_lt.mp (Int32.not_le.mp c_71); have k_64 : (64 : Int32).toInt = 64 := (by decide); have k_1000 : (1000 : Int32).toInt = 1000 := (by decide); have k_1006 : (1006 : Int32).toInt = 1006 := (by decide); omega)) ef_79 ex_80)), (by have q9 := inc_toInt ex_81 b_7 (by decide); have q8 := inn_4_1; omega), (Or.inl (by have q9 := inc_toInt ex_81 b_7 (by decide); have z_0 := Int32.lt_iff_toInt_lt.mp (Int32.not_le.mp c_5); have z_1 := Int32.lt_iff_toInt_lt.mp (Int32.not_le.mp c_10); have z_2 := Int32.lt_iff_toInt_lt.mp c_69; have z_3 := Int32.lt_iff_toInt_lt.mp (Int32.not_le.mp c_71); have k_64 : (64 : Int32).toInt = 64 := (by decide); have k_1000 : (1000 : Int32).toInt = 1000 := (by decide); have k_1006 : (1006 : Int32).toInt = 1006 := (by decide); omega)), rfl, hP, hD, hS, lv_sub hl [0, 1, 3, 4, 5] rfl⟩
      · have b_82 : iv 64 64 u_2 := iv_e2 (Int32.not_lt.mp c_69) (iv_c (64 : Int32) (a := 64) (b := 64) (by decide)) bu_2 (by decide)
        refine lv_iconst (v := 0) hx hb dX4_workOut_37 (by decide) ?_
        exact fiI hx hb hr hlk hK hP hD hS dX4_workOut_38 (Nat.le_of_ble_eq_true rfl) (Nat.le_of_ble_eq_true rfl) (⟨f_3, (wk_64 (lo := 0) (hi := 0) inn_4_0 ba1.1 inn_4_1 (by have z_0 := Int32.lt_iff_toInt_lt.mp (Int32.not_le.mp c_5); have z_1 := Int32.lt_iff_toInt_lt.mp (Int32.not_le.mp c_10); have z_2 := Int32.le_iff_toInt_le.mp (Int32.not_lt.mp c_69); have k_64 : (64 : Int32).toInt = 64 := (by decide); have k_1006 : (1006 : Int32).toInt = 1006 := (by decide); omega) ex_9 (by have z_0 := Int32.lt_iff_toInt_lt.mp (Int32.not_le.mp c_5); have z_1 := Int32.lt_iff_toInt_lt.mp (Int32.not_le.mp c_10); have z_2 := Int32.le_iff_toInt_le.mp (Int32.not_lt.mp c_69); have k_64 : (64 : Int32).toInt = 64 := (by decide); have k_1006 : (1006 : Int32).toInt = 1006 := (by decide); omega) (by have z_0 := Int32.lt_iff_toInt_lt.mp (Int32.not_le.mp c_5); have z_1 := Int32.lt_iff_toInt_lt.mp (Int32.not_le.mp c_10); have z_2 := Int32.le_iff_toInt_le.mp (Int32.not_lt.mp c_69); have k_64 : (64 : Int32).toInt = 64 := (by decide); have k_1006 : (1006 : Int32).toInt = 1006 := (by decide); have w_0 := b_82; unfold iv at w_0; omega)), rfl⟩)
theorem dX4_workOutDigit_0 : decode cX4_workOutDigit 0 = .ok (.iload_n 2, 1) := by decide +kernel
theorem dX4_workOutDigit_1 : decode cX4_workOutDigit 1 = .ok (.istore_n 3, 1) := by decide +kernel
theorem dX4_workOutDigit_2 : decode cX4_workOutDigit 2 = .ok (.aload_n 0, 1) := by decide +kernel
theorem dX4_workOutDigit_3 : decode cX4_workOutDigit 3 = .ok (.getfield 27, 3) := by decide +kernel
theorem q_1_79 : Cond.fieldLink "BeaconDelay$Laws" 57 "BeaconDelay$Coast" "takesEnd" "I" ∈ gw := gw_1 (i := 79) (by decide +kernel) rfl
theorem dX4_workOutDigit_6 : decode cX4_workOutDigit 6 = .ok (.getfield 57, 3) := by decide +kernel
theorem dX4_workOutDigit_9 : decode cX4_workOutDigit 9 = .ok (.aload_n 0, 1) := by decide +kernel
theorem dX4_workOutDigit_10 : decode cX4_workOutDigit 10 = .ok (.getfield 27, 3) := by decide +kernel
theorem q_1_76 : Cond.fieldLink "BeaconDelay$Laws" 60 "BeaconDelay$Coast" "takesBegin" "I" ∈ gw := gw_1 (i := 76) (by decide +kernel) rfl
theorem dX4_workOutDigit_13 : decode cX4_workOutDigit 13 = .ok (.getfield 60, 3) := by decide +kernel
theorem dX4_workOutDigit_16 : decode cX4_workOutDigit 16 = .ok (.if_icmp .le 22, 3) := by decide +kernel
theorem dX4_workOutDigit_38 : decode cX4_workOutDigit 38 = .ok (.iload_n 3, 1) := by decide +kernel
theorem dX4_workOutDigit_39 : decode cX4_workOutDigit 39 = .ok (.ifCond .eq 15, 3) := by decide +kernel
theorem dX4_workOutDigit_54 : decode cX4_workOutDigit 54 = .ok (.iload_n 1, 1) := by decide +kernel
theorem dX4_workOutDigit_55 : decode cX4_workOutDigit 55 = .ok (.iconst 1, 1) := by decide +kernel
theorem dX4_workOutDigit_56 : decode cX4_workOutDigit 56 = .ok (.iadd, 1) := by decide +kernel
theorem dX4_workOutDigit_57 : decode cX4_workOutDigit 57 = .ok (.istore 4, 2) := by decide +kernel
theorem dX4_workOutDigit_59 : decode cX4_workOutDigit 59 = .ok (.aload_n 0, 1) := by decide +kernel
theorem dX4_workOutDigit_60 : decode cX4_workOutDigit 60 = .ok (.getfield 27, 3) := by decide +kernel
theorem q_1_85 : Cond.fieldLink "BeaconDelay$Laws" 71 "BeaconDelay$Coast" "addsEnd" "I" ∈ gw := gw_1 (i := 85) (by decide +kernel) rfl
theorem dX4_workOutDigit_63 : decode cX4_workOutDigit 63 = .ok (.getfield 71, 3) := by decide +kernel
theorem dX4_workOutDigit_66 : decode cX4_workOutDigit 66 = .ok (.aload_n 0, 1) := by decide +kernel
theorem dX4_workOutDigit_67 : decode cX4_workOutDigit 67 = .ok (.getfield 27, 3) := by decide +kernel
theorem q_1_82 : Cond.fieldLink "BeaconDelay$Laws" 74 "BeaconDelay$Coast" "addsBegin" "I" ∈ gw := gw_1 (i := 82) (by decide +kernel) rfl
theorem dX4_workOutDigit_70 : decode cX4_workOutDigit 70 = .ok (.getfield 74, 3) := by decide +kernel
theorem dX4_workOutDigit_73 : decode cX4_workOutDigit 73 = .ok (.if_icmp .le 23, 3) := by decide +kernel
theorem dX4_workOutDigit_96 : decode cX4_workOutDigit 96 = .ok (.iconst 0, 1) := by decide +kernel
theorem dX4_workOutDigit_97 : decode cX4_workOutDigit 97 = .ok (.iconst 4, 1) := by decide +kernel
theorem dX4_workOutDigit_98 : decode cX4_workOutDigit 98 = .ok (.iload 4, 2) := by decide +kernel
theorem q_3_168 : Cond.methodLink "BeaconDelay$Laws" 77 Lib.Math.min.name ∈ gw := gw_3 (i := 168) (by decide +kernel) rfl
theorem q_2_99 : Cond.static Lib.Math.min.name ∈ gw := gw_2 (i := 99) (by decide +kernel) rfl
theorem q_1_10 : Cond.initialized "java/lang/Math" ∈ gw := gw_1 (i := 10) (by decide +kernel) rfl
theorem q_2_100 : Cond.code Lib.Math.min.name prog_15_method_69_code 2 (some FieldType.int) ∈ gw := gw_2 (i := 100) (rfl) rfl
theorem dX4_workOutDigit_100 : decode cX4_workOutDigit 100 = .ok (.invokestatic 77, 3) := by decide +kernel
theorem q_3_167 : Cond.methodLink "BeaconDelay$Laws" 66 Lib.Math.max.name ∈ gw := gw_3 (i := 167) (by decide +kernel) rfl
theorem q_2_102 : Cond.static Lib.Math.max.name ∈ gw := gw_2 (i := 102) (by decide +kernel) rfl
theorem q_2_103 : Cond.code Lib.Math.max.name prog_15_method_65_code 2 (some FieldType.int) ∈ gw := gw_2 (i := 103) (rfl) rfl
theorem dX4_workOutDigit_103 : decode cX4_workOutDigit 103 = .ok (.invokestatic 66, 3) := by decide +kernel
theorem dX4_workOutDigit_106 : decode cX4_workOutDigit 106 = .ok (.iconst 2, 1) := by decide +kernel
theorem dX4_workOutDigit_107 : decode cX4_workOutDigit 107 = .ok (.imul, 1) := by decide +kernel
theorem dX4_workOutDigit_108 : decode cX4_workOutDigit 108 = .ok (.ireturn, 1) := by decide +kernel
theorem dX4_workOutDigit_76 : decode cX4_workOutDigit 76 = .ok (.aload_n 0, 1) := by decide +kernel
theorem dX4_workOutDigit_77 : decode cX4_workOutDigit 77 = .ok (.aload_n 0, 1) := by decide +kernel
theorem dX4_workOutDigit_78 : decode cX4_workOutDigit 78 = .ok (.getfield 27, 3) := by decide +kernel
theorem dX4_workOutDigit_81 : decode cX4_workOutDigit 81 = .ok (.getfield 74, 3) := by decide +kernel
theorem dX4_workOutDigit_84 : decode cX4_workOutDigit 84 = .ok (.aload_n 0, 1) := by decide +kernel
theorem dX4_workOutDigit_85 : decode cX4_workOutDigit 85 = .ok (.getfield 27, 3) := by decide +kernel
theorem dX4_workOutDigit_88 : decode cX4_workOutDigit 88 = .ok (.getfield 71, 3) := by decide +kernel
theorem q_3_161 : Cond.code yX4_workOut prog_6_method_6_code 6 (some FieldType.int) ∈ gw := gw_3 (i := 161) (rfl) rfl
theorem q_3_160 : Cond.instanceMethod yX4_workOut ∈ gw := gw_3 (i := 160) (by decide +kernel) rfl
theorem q_s_26 : Cond.selects "BeaconDelay$Laws" yX4_workOut yX4_workOut ∈ gw := gw_s (i := 26) (by decide +kernel) rfl
theorem mt_X4_workOut : MtV yX4_workOut cX4_workOut 6 (some .int) 2 := ⟨⟨q_3_161, q_1_4, by decide +kernel, by decide +kernel, by decide +kernel⟩, q_3_160, q_s_26⟩
theorem q_3_158 : Cond.methodLink "BeaconDelay$Laws" 63 yX4_workOut ∈ gw := gw_3 (i := 158) (by decide +kernel) rfl
theorem dX4_workOutDigit_91 : decode cX4_workOutDigit 91 = .ok (.invokevirtual 63, 3) := by decide +kernel
theorem dX4_workOutDigit_94 : decode cX4_workOutDigit 94 = .ok (.istore 4, 2) := by decide +kernel
theorem dX4_workOutDigit_42 : decode cX4_workOutDigit 42 = .ok (.iconst 0, 1) := by decide +kernel
theorem dX4_workOutDigit_43 : decode cX4_workOutDigit 43 = .ok (.iload_n 1, 1) := by decide +kernel
theorem dX4_workOutDigit_44 : decode cX4_workOutDigit 44 = .ok (.iconst 1, 1) := by decide +kernel
theorem dX4_workOutDigit_45 : decode cX4_workOutDigit 45 = .ok (.isub, 1) := by decide +kernel
theorem dX4_workOutDigit_46 : decode cX4_workOutDigit 46 = .ok (.invokestatic 66, 3) := by decide +kernel
theorem dX4_workOutDigit_49 : decode cX4_workOutDigit 49 = .ok (.iconst 2, 1) := by decide +kernel
theorem dX4_workOutDigit_50 : decode cX4_workOutDigit 50 = .ok (.imul, 1) := by decide +kernel
theorem dX4_workOutDigit_51 : decode cX4_workOutDigit 51 = .ok (.iconst 1, 1) := by decide +kernel
theorem dX4_workOutDigit_52 : decode cX4_workOutDigit 52 = .ok (.iadd, 1) := by decide +kernel
theorem dX4_workOutDigit_53 : decode cX4_workOutDigit 53 = .ok (.ireturn, 1) := by decide +kernel
theorem dX4_workOutDigit_19 : decode cX4_workOutDigit 19 = .ok (.aload_n 0, 1) := by decide +kernel
theorem dX4_workOutDigit_20 : decode cX4_workOutDigit 20 = .ok (.aload_n 0, 1) := by decide +kernel
theorem dX4_workOutDigit_21 : decode cX4_workOutDigit 21 = .ok (.getfield 27, 3) := by decide +kernel
theorem dX4_workOutDigit_24 : decode cX4_workOutDigit 24 = .ok (.getfield 60, 3) := by decide +kernel
theorem dX4_workOutDigit_27 : decode cX4_workOutDigit 27 = .ok (.aload_n 0, 1) := by decide +kernel
theorem dX4_workOutDigit_28 : decode cX4_workOutDigit 28 = .ok (.getfield 27, 3) := by decide +kernel
theorem dX4_workOutDigit_31 : decode cX4_workOutDigit 31 = .ok (.getfield 57, 3) := by decide +kernel
theorem dX4_workOutDigit_34 : decode cX4_workOutDigit 34 = .ok (.invokevirtual 63, 3) := by decide +kernel
theorem dX4_workOutDigit_37 : decode cX4_workOutDigit 37 = .ok (.istore_n 3, 1) := by decide +kernel
set_option maxHeartbeats 4000000 in
set_option maxRecDepth 100000 in
theorem k_X4_workOutDigit_0 (l : Launch) (V : GV) (y : Nat → Nat) (a1 : Int32) (a2 : Int32) (fy9 : Nat → Int32) (fy21 : Nat → Int32) (fy22 : Nat → Int32) (py2_0 : Int32) (py2_1 : Int32) (py2_2 : Int32) (py2_3 : Int32) (py2_4 : Int32) (py2_5 : Int32) (py2_13 : Int32) (py2_14 : Int32) (py2_15 : Int32) (py2_16 : Int32) (py2_17 : Int32) (ba1 : iv 0 4 a1) (ba2 : iv 0 1 a2) (bpy2_1 : iv 0 4 py2_1) (bpy2_2 : iv 0 4 py2_2) (bpy2_3 : iv 0 8 py2_3) (bpy2_4 : iv 0 9999 py2_4) (bpy2_5 : iv 0 9 py2_5) (bpy2_13 : iv 0 900 py2_13) (bpy2_14 : iv 0 900 py2_14) (bpy2_15 : iv 0 900 py2_15) (bpy2_16 : iv 0 900 py2_16) (bpy2_17 : iv 0 900 py2_17) : Ct l V yX4_workOutDigit (.code yX4_workOutDigit cX4_workOutDigit 5 (some .int)) 3 [.ref (y 19), .int a1, .int a2] [(y 9, aI V 900 fy9), (y 19, .inr (4, o4_rrrrrr (y 2) (y 20) (y 21) (y 22) (y 23) (y 24))), (y 21, aI V 6 fy21), (y 22, aI V 64 fy22), (y 2, .inr (1, o1_iiiiiirrrrrrriiiii py2_0 py2_1 py2_2 py2_3 py2_4 py2_5 (y 3) (y 4) (y 5) (y 6) (y 7) (y 8) (y 9) py2_13 py2_14 py2_15 py2_16 py2_17))] 0 0 (QI V (fun (r : Int32) (w : va_W) => ∃ (g0 : Nat → Int32), iv 0 8 r ∧ (∀ d9 : Int32, (∀ S9 S8 : Nat → Int32, woW S9 S8 fy21 fy9 py2_14 py2_15 py2_16 py2_17 a1 a2 = d9) → r = d9) ∧ w = [(y 9, aI V 900 fy9), (y 19, .inr (4, o4_rrrrrr (y 2) (y 20) (y 21) (y 22) (y 23) (y 24))), (y 21, aI V 6 fy21), (y 22, aI V 64 g0), (y 2, .inr (1, o1_iiiiiirrrrrrriiiii py2_0 py2_1 py2_2 py2_3 py2_4 py2_5 (y 3) (y 4) (y 5) (y 6) (y 7) (y 8) (y 9) py2_13 py2_14 py2_15 py2_16 py2_17))])) := by
  refine Ct.of (by decide) (Nat.le_of_ble_eq_true rfl) (fun p e s m below meth c A ls hx hb hr hml hown hlk hnm hg hP hK hD hE hA hS hl => ?_)
  have hl : lv_has ls 5 [(0, .ref (y 19)), (1, .int a1), (2, .int a2)] := hl
  refine lv_iload_n hx hb dX4_workOutDigit_0 rfl (lv_at hl 2 rfl) ?_
  refine lv_istore_n (lv' := [(3, .int a2), (0, .ref (y 19)), (1, .int a1), (2, .int a2)]) hx hb dX4_workOutDigit_1 rfl hl (by decide) rfl (fun ls hl => ?_)
  refine lv_aload_n hx hb dX4_workOutDigit_2 rfl (lv_at hl 1 rfl) ?_
  refine va_get (ci := 4) (v := .ref (y 2)) (C := RX4) (T := TX4) (N := 6) hx hb hg inX4 hown hK hP 1 rfl rfl 0 (by decide) (hg _ q_1_171) (fun _ h9 => h9) rfl dX4_workOutDigit_3 ?_
  refine va_get (ci := 1) (v := .int py2_15) (C := RX1) (T := TX1) (N := 18) hx hb hg inX1 hown hK hP 4 rfl rfl 15 (by decide) (hg _ q_1_79) (fun _ h9 => h9) rfl dX4_workOutDigit_6 ?_
  refine lv_aload_n hx hb dX4_workOutDigit_9 rfl (lv_at hl 1 rfl) ?_
  refine va_get (ci := 4) (v := .ref (y 2)) (C := RX4) (T := TX4) (N := 6) hx hb hg inX4 hown hK hP 1 rfl rfl 0 (by decide) (hg _ q_1_171) (fun _ h9 => h9) rfl dX4_workOutDigit_10 ?_
  refine va_get (ci := 1) (v := .int py2_14) (C := RX1) (T := TX1) (N := 18) hx hb hg inX1 hown hK hP 4 rfl rfl 14 (by decide) (hg _ q_1_76) (fun _ h9 => h9) rfl dX4_workOutDigit_13 ?_
  refine lv_icmp_le (tgt := 38) hx hb dX4_workOutDigit_16 (by decide) (fun c_1 => ?_) (fun c_1 => ?_)
  · refine lv_iload_n hx hb dX4_workOutDigit_38 rfl (lv_at hl 0 rfl) ?_
    refine lv_if_eq (tgt := 54) hx hb dX4_workOutDigit_39 (by decide) (fun c_2 => ?_) (fun c_2 => ?_)
    · have b_3 : iv 0 0 a2 := iv_q c_2 (iv_c (0 : Int32) (a := 0) (b := 0) (by decide))
      refine lv_iload_n hx hb dX4_workOutDigit_54 rfl (lv_at hl 2 rfl) ?_
      refine lv_iconst (v := 1) hx hb dX4_workOutDigit_55 (by decide) ?_
      refine lv_iadd hx hb dX4_workOutDigit_56 ?_
      refine lv_topi (fun x_4 ex_4 => ?_)
      have bx_4 : iv 1 5 x_4 := by rw [ex_4]; exact iv_add ba1 (iv_c (1 : Int32) (a := 1) (b := 1) (by decide)) (by decide)
      refine lv_istore (lv' := [(4, .int x_4), (3, .int a2), (0, .ref (y 19)), (1, .int a1), (2, .int a2)]) hx hb dX4_workOutDigit_57 hl (by decide) rfl (fun ls hl => ?_)
      refine lv_aload_n hx hb dX4_workOutDigit_59 rfl (lv_at hl 2 rfl) ?_
      refine va_get (ci := 4) (v := .ref (y 2)) (C := RX4) (T := TX4) (N := 6) hx hb hg inX4 hown hK hP 1 rfl rfl 0 (by decide) (hg _ q_1_171) (fun _ h9 => h9) rfl dX4_workOutDigit_60 ?_
      refine va_get (ci := 1) (v := .int py2_17) (C := RX1) (T := TX1) (N := 18) hx hb hg inX1 hown hK hP 4 rfl rfl 17 (by decide) (hg _ q_1_85) (fun _ h9 => h9) rfl dX4_workOutDigit_63 ?_
      refine lv_aload_n hx hb dX4_workOutDigit_66 rfl (lv_at hl 2 rfl) ?_
      refine va_get (ci := 4) (v := .ref (y 2)) (C := RX4) (T := TX4) (N := 6) hx hb hg inX4 hown hK hP 1 rfl rfl 0 (by decide) (hg _ q_1_171) (fun _ h9 => h9) rfl dX4_workOutDigit_67 ?_
      refine va_get (ci := 1) (v := .int py2_16) (C := RX1) (T := TX1) (N := 18) hx hb hg inX1 hown hK hP 4 rfl rfl 16 (by decide) (hg _ q_1_82) (fun _ h9 => h9) rfl dX4_workOutDigit_70 ?_
      refine lv_icmp_le (tgt := 96) hx hb dX4_workOutDigit_73 (by decide) (fun c_5 => ?_) (fun c_5 => ?_)
      · refine lv_iconst (v := 0) hx hb dX4_workOutDigit_96 (by decide) ?_
        refine lv_iconst (v := 4) hx hb dX4_workOutDigit_97 (by decide) ?_
        refine lv_iload hx hb dX4_workOutDigit_98 (lv_at hl 0 rfl) ?_
        refine va_mmin hx hb (hml.trans hl.1.symm) hown (hg _ q_3_168) (hg _ q_2_99) (hg _ q_1_10) (hg _ q_2_100) (Nat.le_of_ble_eq_true rfl) (Nat.le_of_ble_eq_true rfl) (Nat.le_of_ble_eq_true rfl) (Nat.le_of_ble_eq_true rfl) dX4_workOutDigit_100 ?_
        refine lv_topi (fun x_6 ex_6 => ?_)
        have bx_6 : iv 1 4 x_6 := by rw [ex_6]; exact iv_min (iv_c (4 : Int32) (a := 4) (b := 4) (by decide)) bx_4 (by decide)
        refine va_mmax hx hb (hml.trans hl.1.symm) hown (hg _ q_3_167) (hg _ q_2_102) (hg _ q_1_10) (hg _ q_2_103) (Nat.le_of_ble_eq_true rfl) (Nat.le_of_ble_eq_true rfl) (Nat.le_of_ble_eq_true rfl) (Nat.le_of_ble_eq_true rfl) dX4_workOutDigit_103 ?_
        refine lv_topi (fun x_7 ex_7 => ?_)
        have bx_7 : iv 1 4 x_7 := by rw [ex_7]; exact iv_max (iv_c (0 : Int32) (a := 0) (b := 0) (by decide)) bx_6 (by decide)
        refine lv_iconst (v := 2) hx hb dX4_workOutDigit_106 (by decide) ?_
        refine lv_imul hx hb dX4_workOutDigit_107 ?_
        refine lv_topi (fun x_8 ex_8 => ?_)
        have bx_8 : iv 2 8 x_8 := by rw [ex_8]; exact iv_mulc bx_7 (iv_c (2 : Int32) (a := 2) (b := 2) (by decide)) (by decide)
        exact fiI hx hb hr hlk hK hP hD hS dX4_workOutDigit_108 (Nat.le_of_ble_eq_true rfl) (Nat.le_of_ble_eq_true rfl) (⟨fy22, (iv_w bx_8 (by decide)), (fun d9 h9 => (show x_8 = woW fy22 fy22 fy21 fy9 py2_14 py2_15 py2_16 py2_17 a1 a2 from (wo_a (wo_n (by have z_0 := Int32.le_iff_toInt_le.mp c_1; have z_1 := congrArg Int32.toInt c_2; have z_2 := Int32.le_iff_toInt_le.mp c_5; have k_0 : (0 : Int32).toInt = 0 := (by decide); omega) rfl) c_2 (wo_n (by have z_0 := Int32.le_iff_toInt_le.mp c_1; have z_1 := congrArg Int32.toInt c_2; have z_2 := Int32.le_iff_toInt_le.mp c_5; have k_0 : (0 : Int32).toInt = 0 := (by decide); omega) ex_4) ex_6 ex_7 ex_8)).trans (h9 _ _)), rfl⟩)
      · have b_9 : iv 0 899 py2_16 := iv_l1 (Int32.not_le.mp c_5) bpy2_16 bpy2_17 (by decide)
        have b_10 : iv 1 900 py2_17 := iv_l2 (Int32.not_le.mp c_5) bpy2_16 bpy2_17 (by decide)
        refine lv_aload_n hx hb dX4_workOutDigit_76 rfl (lv_at hl 2 rfl) ?_
        refine lv_aload_n hx hb dX4_workOutDigit_77 rfl (lv_at hl 2 rfl) ?_
        refine va_get (ci := 4) (v := .ref (y 2)) (C := RX4) (T := TX4) (N := 6) hx hb hg inX4 hown hK hP 1 rfl rfl 0 (by decide) (hg _ q_1_171) (fun _ h9 => h9) rfl dX4_workOutDigit_78 ?_
        refine va_get (ci := 1) (v := .int py2_16) (C := RX1) (T := TX1) (N := 18) hx hb hg inX1 hown hK hP 4 rfl rfl 16 (by decide) (hg _ q_1_82) (fun _ h9 => h9) rfl dX4_workOutDigit_81 ?_
        refine lv_aload_n hx hb dX4_workOutDigit_84 rfl (lv_at hl 2 rfl) ?_
        refine va_get (ci := 4) (v := .ref (y 2)) (C := RX4) (T := TX4) (N := 6) hx hb hg inX4 hown hK hP 1 rfl rfl 0 (by decide) (hg _ q_1_171) (fun _ h9 => h9) rfl dX4_workOutDigit_85 ?_
        refine va_get (ci := 1) (v := .int py2_17) (C := RX1) (T := TX1) (N := 18) hx hb hg inX1 hown hK hP 4 rfl rfl 17 (by decide) (hg _ q_1_85) (fun _ h9 => h9) rfl dX4_workOutDigit_88 ?_
        refine jnI (wr := []) (rnV (rest := []) ⟨hx, hb, hml, hown, hg⟩ (k_X4_workOut_0 l V y py2_16 py2_17 fy9 fy21 fy22 py2_0 py2_1 py2_2 py2_3 py2_4 py2_5 py2_13 py2_14 py2_15 py2_16 py2_17 (iv_w b_9 (by decide)) (iv_w b_10 (by decide)) bpy2_1 bpy2_2 bpy2_3 bpy2_4 bpy2_5 bpy2_13 bpy2_14 bpy2_15 (iv_w b_9 (by decide)) (iv_w b_10 (by decide))) mt_X4_workOut q_3_158 ⟨Nat.le_of_ble_eq_true rfl, Nat.le_of_ble_eq_true rfl⟩ hK hP hD hS hA hE [0, 1, 2, 3, 4] rfl rfl 1 rfl rfl rfl rfl hl.1 rfl (Nat.le_of_ble_eq_true rfl) dX4_workOutDigit_91 ⟨Nat.le_of_ble_eq_true rfl, Nat.le_of_ble_eq_true rfl⟩) hP hD hS hA [0, 1, 2, 3, 4] [] rfl rfl rfl (by decide) (fun r_11 w H locs hw hP hD hS => ?_)
        obtain ⟨f_12, er_11, rfl⟩ := hw
        have hP : va_P V.1 vwCl [(y 9, aI V 900 fy9), (y 19, .inr (4, o4_rrrrrr (y 2) (y 20) (y 21) (y 22) (y 23) (y 24))), (y 21, aI V 6 fy21), (y 22, aI V 64 f_12), (y 2, .inr (1, o1_iiiiiirrrrrrriiiii py2_0 py2_1 py2_2 py2_3 py2_4 py2_5 (y 3) (y 4) (y 5) (y 6) (y 7) (y 8) (y 9) py2_13 py2_14 py2_15 py2_16 py2_17))] H := hP
        have hD := cpD hP hD
        refine lv_istore (lv' := [(4, .int r_11), (3, .int a2), (0, .ref (y 19)), (1, .int a1), (2, .int a2)]) hx hb dX4_workOutDigit_94 hl (by decide) rfl (fun ls hl => ?_)
        refine lv_iconst (v := 0) hx hb dX4_workOutDigit_96 (by decide) ?_
        refine lv_iconst (v := 4) hx hb dX4_workOutDigit_97 (by decide) ?_
        refine lv_iload hx hb dX4_workOutDigit_98 (lv_at hl 0 rfl) ?_
        refine va_mmin hx hb (hml.trans hl.1.symm) hown (hg _ q_3_168) (hg _ q_2_99) (hg _ q_1_10) (hg _ q_2_100) (Nat.le_of_ble_eq_true rfl) (Nat.le_of_ble_eq_true rfl) (Nat.le_of_ble_eq_true rfl) (Nat.le_of_ble_eq_true rfl) dX4_workOutDigit_100 ?_
        refine lv_topi (fun x_13 ex_13 => ?_)
        have bx_13 : iv (-2147483648) 4 x_13 := by rw [ex_13]; exact iv_min (iv_c (4 : Int32) (a := 4) (b := 4) (by decide)) (iv_top r_11) (by decide)
        refine va_mmax hx hb (hml.trans hl.1.symm) hown (hg _ q_3_167) (hg _ q_2_102) (hg _ q_1_10) (hg _ q_2_103) (Nat.le_of_ble_eq_true rfl) (Nat.le_of_ble_eq_true rfl) (Nat.le_of_ble_eq_true rfl) (Nat.le_of_ble_eq_true rfl) dX4_workOutDigit_103 ?_
        refine lv_topi (fun x_14 ex_14 => ?_)
        have bx_14 : iv 0 4 x_14 := by rw [ex_14]; exact iv_max (iv_c (0 : Int32) (a := 0) (b := 0) (by decide)) bx_13 (by decide)
        refine lv_iconst (v := 2) hx hb dX4_workOutDigit_106 (by decide) ?_
        refine lv_imul hx hb dX4_workOutDigit_107 ?_
        refine lv_topi (fun x_15 ex_15 => ?_)
        have bx_15 : iv 0 8 x_15 := by rw [ex_15]; exact iv_mulc bx_14 (iv_c (2 : Int32) (a := 2) (b := 2) (by decide)) (by decide)
        exact fiI hx hb hr hlk hK hP hD hS dX4_workOutDigit_108 (Nat.le_of_ble_eq_true rfl) (Nat.le_of_ble_eq_true rfl) (⟨f_12, bx_15, (fun d9 h9 => (show x_15 = woW fy22 fy22 fy21 fy9 py2_14 py2_15 py2_16 py2_17 a1 a2 from (wo_a (wo_n (by have z_0 := Int32.le_iff_toInt_le.mp c_1; have z_1 := congrArg Int32.toInt c_2; have z_2 := Int32.lt_iff_toInt_lt.mp (Int32.not_le.mp c_5); have k_0 : (0 : Int32).toInt = 0 := (by decide); omega) rfl) c_2 (wo_y (by have z_0 := Int32.le_iff_toInt_le.mp c_1; have z_1 := congrArg Int32.toInt c_2; have z_2 := Int32.lt_iff_toInt_lt.mp (Int32.not_le.mp c_5); have k_0 : (0 : Int32).toInt = 0 := (by decide); omega) er_11) ex_13 ex_14 ex_15)).trans (h9 _ _)), rfl⟩)
    · have b_16 : iv 1 1 a2 := iv_n0 c_2 ba2 (iv_c (0 : Int32) (a := 0) (b := 0) (by decide)) (by decide)
      refine lv_iconst (v := 0) hx hb dX4_workOutDigit_42 (by decide) ?_
      refine lv_iload_n hx hb dX4_workOutDigit_43 rfl (lv_at hl 2 rfl) ?_
      refine lv_iconst (v := 1) hx hb dX4_workOutDigit_44 (by decide) ?_
      refine lv_isub hx hb dX4_workOutDigit_45 ?_
      refine lv_topi (fun x_17 ex_17 => ?_)
      have bx_17 : iv (-1) 3 x_17 := by rw [ex_17]; exact iv_sub ba1 (iv_c (1 : Int32) (a := 1) (b := 1) (by decide)) (by decide)
      refine va_mmax hx hb (hml.trans hl.1.symm) hown (hg _ q_3_167) (hg _ q_2_102) (hg _ q_1_10) (hg _ q_2_103) (Nat.le_of_ble_eq_true rfl) (Nat.le_of_ble_eq_true rfl) (Nat.le_of_ble_eq_true rfl) (Nat.le_of_ble_eq_true rfl) dX4_workOutDigit_46 ?_
      refine lv_topi (fun x_18 ex_18 => ?_)
      have bx_18 : iv 0 3 x_18 := by rw [ex_18]; exact iv_max (iv_c (0 : Int32) (a := 0) (b := 0) (by decide)) bx_17 (by decide)
      refine lv_iconst (v := 2) hx hb dX4_workOutDigit_49 (by decide) ?_
      refine lv_imul hx hb dX4_workOutDigit_50 ?_
      refine lv_topi (fun x_19 ex_19 => ?_)
      have bx_19 : iv 0 6 x_19 := by rw [ex_19]; exact iv_mulc bx_18 (iv_c (2 : Int32) (a := 2) (b := 2) (by decide)) (by decide)
      refine lv_iconst (v := 1) hx hb dX4_workOutDigit_51 (by decide) ?_
      refine lv_iadd hx hb dX4_workOutDigit_52 ?_
      refine lv_topi (fun x_20 ex_20 => ?_)
      have bx_20 : iv 1 7 x_20 := by rw [ex_20]; exact iv_add bx_19 (iv_c (1 : Int32) (a := 1) (b := 1) (by decide)) (by decide)
      exact fiI hx hb hr hlk hK hP hD hS dX4_workOutDigit_53 (Nat.le_of_ble_eq_true rfl) (Nat.le_of_ble_eq_true rfl) (⟨fy22, (iv_w bx_20 (by decide)), (fun d9 h9 => (show x_20 = woW fy22 fy22 fy21 fy9 py2_14 py2_15 py2_16 py2_17 a1 a2 from (wo_t (wo_n (by have z_0 := Int32.le_iff_toInt_le.mp c_1; have z_1 : ¬ ((a2 : Int32).toInt = (0 : Int32).toInt) := fun q9 => c_2 (Int32.toInt_inj.mp q9); have k_0 : (0 : Int32).toInt = 0 := (by decide); omega) rfl) c_2 ex_17 ex_18 ex_19 ex_20)).trans (h9 _ _)), rfl⟩)
  · have b_21 : iv 0 899 py2_14 := iv_l1 (Int32.not_le.mp c_1) bpy2_14 bpy2_15 (by decide)
    have b_22 : iv 1 900 py2_15 := iv_l2 (Int32.not_le.mp c_1) bpy2_14 bpy2_15 (by decide)
    refine lv_aload_n hx hb dX4_workOutDigit_19 rfl (lv_at hl 1 rfl) ?_
    refine lv_aload_n hx hb dX4_workOutDigit_20 rfl (lv_at hl 1 rfl) ?_
    refine va_get (ci := 4) (v := .ref (y 2)) (C := RX4) (T := TX4) (N := 6) hx hb hg inX4 hown hK hP 1 rfl rfl 0 (by decide) (hg _ q_1_171) (fun _ h9 => h9) rfl dX4_workOutDigit_21 ?_
    refine va_get (ci := 1) (v := .int py2_14) (C := RX1) (T := TX1) (N := 18) hx hb hg inX1 hown hK hP 4 rfl rfl 14 (by decide) (hg _ q_1_76) (fun _ h9 => h9) rfl dX4_workOutDigit_24 ?_
    refine lv_aload_n hx hb dX4_workOutDigit_27 rfl (lv_at hl 1 rfl) ?_
    refine va_get (ci := 4) (v := .ref (y 2)) (C := RX4) (T := TX4) (N := 6) hx hb hg inX4 hown hK hP 1 rfl rfl 0 (by decide) (hg _ q_1_171) (fun _ h9 => h9) rfl dX4_workOutDigit_28 ?_
    refine va_get (ci := 1) (v := .int py2_15) (C := RX1) (T := TX1) (N := 18) hx hb hg inX1 hown hK hP 4 rfl rfl 15 (by decide) (hg _ q_1_79) (fun _ h9 => h9) rfl dX4_workOutDigit_31 ?_
    refine jnI (wr := []) (rnV (rest := []) ⟨hx, hb, hml, hown, hg⟩ (k_X4_workOut_0 l V y py2_14 py2_15 fy9 fy21 fy22 py2_0 py2_1 py2_2 py2_3 py2_4 py2_5 py2_13 py2_14 py2_15 py2_16 py2_17 (iv_w b_21 (by decide)) (iv_w b_22 (by decide)) bpy2_1 bpy2_2 bpy2_3 bpy2_4 bpy2_5 bpy2_13 (iv_w b_21 (by decide)) (iv_w b_22 (by decide)) bpy2_16 bpy2_17) mt_X4_workOut q_3_158 ⟨Nat.le_of_ble_eq_true rfl, Nat.le_of_ble_eq_true rfl⟩ hK hP hD hS hA hE [0, 1, 2, 3, 4] rfl rfl 1 rfl rfl rfl rfl hl.1 rfl (Nat.le_of_ble_eq_true rfl) dX4_workOutDigit_34 ⟨Nat.le_of_ble_eq_true rfl, Nat.le_of_ble_eq_true rfl⟩) hP hD hS hA [0, 1, 2, 3, 4] [] rfl rfl rfl (by decide) (fun r_23 w H locs hw hP hD hS => ?_)
    obtain ⟨f_24, er_23, rfl⟩ := hw
    have hP : va_P V.1 vwCl [(y 9, aI V 900 fy9), (y 19, .inr (4, o4_rrrrrr (y 2) (y 20) (y 21) (y 22) (y 23) (y 24))), (y 21, aI V 6 fy21), (y 22, aI V 64 f_24), (y 2, .inr (1, o1_iiiiiirrrrrrriiiii py2_0 py2_1 py2_2 py2_3 py2_4 py2_5 (y 3) (y 4) (y 5) (y 6) (y 7) (y 8) (y 9) py2_13 py2_14 py2_15 py2_16 py2_17))] H := hP
    have hD := cpD hP hD
    refine lv_istore_n (lv' := [(3, .int r_23), (0, .ref (y 19)), (1, .int a1), (2, .int a2)]) hx hb dX4_workOutDigit_37 rfl hl (by decide) rfl (fun ls hl => ?_)
    refine lv_iload_n hx hb dX4_workOutDigit_38 rfl (lv_at hl 0 rfl) ?_
    refine lv_if_eq (tgt := 54) hx hb dX4_workOutDigit_39 (by decide) (fun c_25 => ?_) (fun c_25 => ?_)
    · have b_26 : iv 0 0 r_23 := iv_q c_25 (iv_c (0 : Int32) (a := 0) (b := 0) (by decide))
      refine lv_iload_n hx hb dX4_workOutDigit_54 rfl (lv_at hl 2 rfl) ?_
      refine lv_iconst (v := 1) hx hb dX4_workOutDigit_55 (by decide) ?_
      refine lv_iadd hx hb dX4_workOutDigit_56 ?_
      refine lv_topi (fun x_27 ex_27 => ?_)
      have bx_27 : iv 1 5 x_27 := by rw [ex_27]; exact iv_add ba1 (iv_c (1 : Int32) (a := 1) (b := 1) (by decide)) (by decide)
      refine lv_istore (lv' := [(4, .int x_27), (3, .int r_23), (0, .ref (y 19)), (1, .int a1), (2, .int a2)]) hx hb dX4_workOutDigit_57 hl (by decide) rfl (fun ls hl => ?_)
      refine lv_aload_n hx hb dX4_workOutDigit_59 rfl (lv_at hl 2 rfl) ?_
      refine va_get (ci := 4) (v := .ref (y 2)) (C := RX4) (T := TX4) (N := 6) hx hb hg inX4 hown hK hP 1 rfl rfl 0 (by decide) (hg _ q_1_171) (fun _ h9 => h9) rfl dX4_workOutDigit_60 ?_
      refine va_get (ci := 1) (v := .int py2_17) (C := RX1) (T := TX1) (N := 18) hx hb hg inX1 hown hK hP 4 rfl rfl 17 (by decide) (hg _ q_1_85) (fun _ h9 => h9) rfl dX4_workOutDigit_63 ?_
      refine lv_aload_n hx hb dX4_workOutDigit_66 rfl (lv_at hl 2 rfl) ?_
      refine va_get (ci := 4) (v := .ref (y 2)) (C := RX4) (T := TX4) (N := 6) hx hb hg inX4 hown hK hP 1 rfl rfl 0 (by decide) (hg _ q_1_171) (fun _ h9 => h9) rfl dX4_workOutDigit_67 ?_
      refine va_get (ci := 1) (v := .int py2_16) (C := RX1) (T := TX1) (N := 18) hx hb hg inX1 hown hK hP 4 rfl rfl 16 (by decide) (hg _ q_1_82) (fun _ h9 => h9) rfl dX4_workOutDigit_70 ?_
      refine lv_icmp_le (tgt := 96) hx hb dX4_workOutDigit_73 (by decide) (fun c_28 => ?_) (fun c_28 => ?_)
      · refine lv_iconst (v := 0) hx hb dX4_workOutDigit_96 (by decide) ?_
        refine lv_iconst (v := 4) hx hb dX4_workOutDigit_97 (by decide) ?_
        refine lv_iload hx hb dX4_workOutDigit_98 (lv_at hl 0 rfl) ?_
        refine va_mmin hx hb (hml.trans hl.1.symm) hown (hg _ q_3_168) (hg _ q_2_99) (hg _ q_1_10) (hg _ q_2_100) (Nat.le_of_ble_eq_true rfl) (Nat.le_of_ble_eq_true rfl) (Nat.le_of_ble_eq_true rfl) (Nat.le_of_ble_eq_true rfl) dX4_workOutDigit_100 ?_
        refine lv_topi (fun x_29 ex_29 => ?_)
        have bx_29 : iv 1 4 x_29 := by rw [ex_29]; exact iv_min (iv_c (4 : Int32) (a := 4) (b := 4) (by decide)) bx_27 (by decide)
        refine va_mmax hx hb (hml.trans hl.1.symm) hown (hg _ q_3_167) (hg _ q_2_102) (hg _ q_1_10) (hg _ q_2_103) (Nat.le_of_ble_eq_true rfl) (Nat.le_of_ble_eq_true rfl) (Nat.le_of_ble_eq_true rfl) (Nat.le_of_ble_eq_true rfl) dX4_workOutDigit_103 ?_
        refine lv_topi (fun x_30 ex_30 => ?_)
        have bx_30 : iv 1 4 x_30 := by rw [ex_30]; exact iv_max (iv_c (0 : Int32) (a := 0) (b := 0) (by decide)) bx_29 (by decide)
        refine lv_iconst (v := 2) hx hb dX4_workOutDigit_106 (by decide) ?_
        refine lv_imul hx hb dX4_workOutDigit_107 ?_
        refine lv_topi (fun x_31 ex_31 => ?_)
        have bx_31 : iv 2 8 x_31 := by rw [ex_31]; exact iv_mulc bx_30 (iv_c (2 : Int32) (a := 2) (b := 2) (by decide)) (by decide)
        exact fiI hx hb hr hlk hK hP hD hS dX4_workOutDigit_108 (Nat.le_of_ble_eq_true rfl) (Nat.le_of_ble_eq_true rfl) (⟨f_24, (iv_w bx_31 (by decide)), (fun d9 h9 => (show x_31 = woW fy22 f_24 fy21 fy9 py2_14 py2_15 py2_16 py2_17 a1 a2 from (wo_a (wo_y (by have z_0 := Int32.lt_iff_toInt_lt.mp (Int32.not_le.mp c_1); have z_1 := congrArg Int32.toInt c_25; have z_2 := Int32.le_iff_toInt_le.mp c_28; have k_0 : (0 : Int32).toInt = 0 := (by decide); omega) er_23) c_25 (wo_n (by have z_0 := Int32.lt_iff_toInt_lt.mp (Int32.not_le.mp c_1); have z_1 := congrArg Int32.toInt c_25; have z_2 := Int32.le_iff_toInt_le.mp c_28; have k_0 : (0 : Int32).toInt = 0 := (by decide); omega) ex_27) ex_29 ex_30 ex_31)).trans (h9 _ _)), rfl⟩)
      · have b_32 : iv 0 899 py2_16 := iv_l1 (Int32.not_le.mp c_28) bpy2_16 bpy2_17 (by decide)
        have b_33 : iv 1 900 py2_17 := iv_l2 (Int32.not_le.mp c_28) bpy2_16 bpy2_17 (by decide)
        refine lv_aload_n hx hb dX4_workOutDigit_76 rfl (lv_at hl 2 rfl) ?_
        refine lv_aload_n hx hb dX4_workOutDigit_77 rfl (lv_at hl 2 rfl) ?_
        refine va_get (ci := 4) (v := .ref (y 2)) (C := RX4) (T := TX4) (N := 6) hx hb hg inX4 hown hK hP 1 rfl rfl 0 (by decide) (hg _ q_1_171) (fun _ h9 => h9) rfl dX4_workOutDigit_78 ?_
        refine va_get (ci := 1) (v := .int py2_16) (C := RX1) (T := TX1) (N := 18) hx hb hg inX1 hown hK hP 4 rfl rfl 16 (by decide) (hg _ q_1_82) (fun _ h9 => h9) rfl dX4_workOutDigit_81 ?_
        refine lv_aload_n hx hb dX4_workOutDigit_84 rfl (lv_at hl 2 rfl) ?_
        refine va_get (ci := 4) (v := .ref (y 2)) (C := RX4) (T := TX4) (N := 6) hx hb hg inX4 hown hK hP 1 rfl rfl 0 (by decide) (hg _ q_1_171) (fun _ h9 => h9) rfl dX4_workOutDigit_85 ?_
        refine va_get (ci := 1) (v := .int py2_17) (C := RX1) (T := TX1) (N := 18) hx hb hg inX1 hown hK hP 4 rfl rfl 17 (by decide) (hg _ q_1_85) (fun _ h9 => h9) rfl dX4_workOutDigit_88 ?_
        refine jnI (wr := []) (rnV (rest := []) ⟨hx, hb, hml, hown, hg⟩ (k_X4_workOut_0 l V y py2_16 py2_17 fy9 fy21 f_24 py2_0 py2_1 py2_2 py2_3 py2_4 py2_5 py2_13 py2_14 py2_15 py2_16 py2_17 (iv_w b_32 (by decide)) (iv_w b_33 (by decide)) bpy2_1 bpy2_2 bpy2_3 bpy2_4 bpy2_5 bpy2_13 (iv_w b_21 (by decide)) (iv_w b_22 (by decide)) (iv_w b_32 (by decide)) (iv_w b_33 (by decide))) mt_X4_workOut q_3_158 ⟨Nat.le_of_ble_eq_true rfl, Nat.le_of_ble_eq_true rfl⟩ hK hP hD hS hA hE [0, 1, 2, 3, 4] rfl rfl 1 rfl rfl rfl rfl hl.1 rfl (Nat.le_of_ble_eq_true rfl) dX4_workOutDigit_91 ⟨Nat.le_of_ble_eq_true rfl, Nat.le_of_ble_eq_true rfl⟩) hP hD hS hA [0, 1, 2, 3, 4] [] rfl rfl rfl (by decide) (fun r_34 w H locs hw hP hD hS => ?_)
        obtain ⟨f_35, er_34, rfl⟩ := hw
        have hP : va_P V.1 vwCl [(y 9, aI V 900 fy9), (y 19, .inr (4, o4_rrrrrr (y 2) (y 20) (y 21) (y 22) (y 23) (y 24))), (y 21, aI V 6 fy21), (y 22, aI V 64 f_35), (y 2, .inr (1, o1_iiiiiirrrrrrriiiii py2_0 py2_1 py2_2 py2_3 py2_4 py2_5 (y 3) (y 4) (y 5) (y 6) (y 7) (y 8) (y 9) py2_13 py2_14 py2_15 py2_16 py2_17))] H := hP
        have hD := cpD hP hD
        refine lv_istore (lv' := [(4, .int r_34), (3, .int r_23), (0, .ref (y 19)), (1, .int a1), (2, .int a2)]) hx hb dX4_workOutDigit_94 hl (by decide) rfl (fun ls hl => ?_)
        refine lv_iconst (v := 0) hx hb dX4_workOutDigit_96 (by decide) ?_
        refine lv_iconst (v := 4) hx hb dX4_workOutDigit_97 (by decide) ?_
        refine lv_iload hx hb dX4_workOutDigit_98 (lv_at hl 0 rfl) ?_
        refine va_mmin hx hb (hml.trans hl.1.symm) hown (hg _ q_3_168) (hg _ q_2_99) (hg _ q_1_10) (hg _ q_2_100) (Nat.le_of_ble_eq_true rfl) (Nat.le_of_ble_eq_true rfl) (Nat.le_of_ble_eq_true rfl) (Nat.le_of_ble_eq_true rfl) dX4_workOutDigit_100 ?_
        refine lv_topi (fun x_36 ex_36 => ?_)
        have bx_36 : iv (-2147483648) 4 x_36 := by rw [ex_36]; exact iv_min (iv_c (4 : Int32) (a := 4) (b := 4) (by decide)) (iv_top r_34) (by decide)
        refine va_mmax hx hb (hml.trans hl.1.symm) hown (hg _ q_3_167) (hg _ q_2_102) (hg _ q_1_10) (hg _ q_2_103) (Nat.le_of_ble_eq_true rfl) (Nat.le_of_ble_eq_true rfl) (Nat.le_of_ble_eq_true rfl) (Nat.le_of_ble_eq_true rfl) dX4_workOutDigit_103 ?_
        refine lv_topi (fun x_37 ex_37 => ?_)
        have bx_37 : iv 0 4 x_37 := by rw [ex_37]; exact iv_max (iv_c (0 : Int32) (a := 0) (b := 0) (by decide)) bx_36 (by decide)
        refine lv_iconst (v := 2) hx hb dX4_workOutDigit_106 (by decide) ?_
        refine lv_imul hx hb dX4_workOutDigit_107 ?_
        refine lv_topi (fun x_38 ex_38 => ?_)
        have bx_38 : iv 0 8 x_38 := by rw [ex_38]; exact iv_mulc bx_37 (iv_c (2 : Int32) (a := 2) (b := 2) (by decide)) (by decide)
        exact fiI hx hb hr hlk hK hP hD hS dX4_workOutDigit_108 (Nat.le_of_ble_eq_true rfl) (Nat.le_of_ble_eq_true rfl) (⟨f_35, bx_38, (fun d9 h9 => (show x_38 = woW fy22 f_24 fy21 fy9 py2_14 py2_15 py2_16 py2_17 a1 a2 from (wo_a (wo_y (by have z_0 := Int32.lt_iff_toInt_lt.mp (Int32.not_le.mp c_1); have z_1 := congrArg Int32.toInt c_25; have z_2 := Int32.lt_iff_toInt_lt.mp (Int32.not_le.mp c_28); have k_0 : (0 : Int32).toInt = 0 := (by decide); omega) er_23) c_25 (wo_y (by have z_0 := Int32.lt_iff_toInt_lt.mp (Int32.not_le.mp c_1); have z_1 := congrArg Int32.toInt c_25; have z_2 := Int32.lt_iff_toInt_lt.mp (Int32.not_le.mp c_28); have k_0 : (0 : Int32).toInt = 0 := (by decide); omega) er_34) ex_36 ex_37 ex_38)).trans (h9 _ _)), rfl⟩)
    · refine lv_iconst (v := 0) hx hb dX4_workOutDigit_42 (by decide) ?_
      refine lv_iload_n hx hb dX4_workOutDigit_43 rfl (lv_at hl 2 rfl) ?_
      refine lv_iconst (v := 1) hx hb dX4_workOutDigit_44 (by decide) ?_
      refine lv_isub hx hb dX4_workOutDigit_45 ?_
      refine lv_topi (fun x_39 ex_39 => ?_)
      have bx_39 : iv (-1) 3 x_39 := by rw [ex_39]; exact iv_sub ba1 (iv_c (1 : Int32) (a := 1) (b := 1) (by decide)) (by decide)
      refine va_mmax hx hb (hml.trans hl.1.symm) hown (hg _ q_3_167) (hg _ q_2_102) (hg _ q_1_10) (hg _ q_2_103) (Nat.le_of_ble_eq_true rfl) (Nat.le_of_ble_eq_true rfl) (Nat.le_of_ble_eq_true rfl) (Nat.le_of_ble_eq_true rfl) dX4_workOutDigit_46 ?_
      refine lv_topi (fun x_40 ex_40 => ?_)
      have bx_40 : iv 0 3 x_40 := by rw [ex_40]; exact iv_max (iv_c (0 : Int32) (a := 0) (b := 0) (by decide)) bx_39 (by decide)
      refine lv_iconst (v := 2) hx hb dX4_workOutDigit_49 (by decide) ?_
      refine lv_imul hx hb dX4_workOutDigit_50 ?_
      refine lv_topi (fun x_41 ex_41 => ?_)
      have bx_41 : iv 0 6 x_41 := by rw [ex_41]; exact iv_mulc bx_40 (iv_c (2 : Int32) (a := 2) (b := 2) (by decide)) (by decide)
      refine lv_iconst (v := 1) hx hb dX4_workOutDigit_51 (by decide) ?_
      refine lv_iadd hx hb dX4_workOutDigit_52 ?_
      refine lv_topi (fun x_42 ex_42 => ?_)
      have bx_42 : iv 1 7 x_42 := by rw [ex_42]; exact iv_add bx_41 (iv_c (1 : Int32) (a := 1) (b := 1) (by decide)) (by decide)
      exact fiI hx hb hr hlk hK hP hD hS dX4_workOutDigit_53 (Nat.le_of_ble_eq_true rfl) (Nat.le_of_ble_eq_true rfl) (⟨f_24, (iv_w bx_42 (by decide)), (fun d9 h9 => (show x_42 = woW fy22 f_24 fy21 fy9 py2_14 py2_15 py2_16 py2_17 a1 a2 from (wo_t (wo_y (by have z_0 := Int32.lt_iff_toInt_lt.mp (Int32.not_le.mp c_1); have z_1 : ¬ ((r_23 : Int32).toInt = (0 : Int32).toInt) := fun q9 => c_25 (Int32.toInt_inj.mp q9); have k_0 : (0 : Int32).toInt = 0 := (by decide); omega) er_23) c_25 ex_39 ex_40 ex_41 ex_42)).trans (h9 _ _)), rfl⟩)
