theorem dX10_takesNow_0 : decode cX10_takesNow 0 = .ok (.aload_n 0, 1) := by decide +kernel
theorem dX10_takesNow_1 : decode cX10_takesNow 1 = .ok (.getfield 13, 3) := by decide +kernel
theorem dX10_takesNow_4 : decode cX10_takesNow 4 = .ok (.iconst 4, 1) := by decide +kernel
theorem dX10_takesNow_5 : decode cX10_takesNow 5 = .ok (.iaload, 1) := by decide +kernel
theorem dX10_takesNow_6 : decode cX10_takesNow 6 = .ok (.ifCond .ne 21, 3) := by decide +kernel
theorem dX10_takesNow_27 : decode cX10_takesNow 27 = .ok (.aload_n 0, 1) := by decide +kernel
theorem dX10_takesNow_28 : decode cX10_takesNow 28 = .ok (.iconst 0, 1) := by decide +kernel
theorem q_7_42 : Cond.code yX10_reckons prog_12_method_46_code 5 (some FieldType.int) ∈ gw := gw_7 (i := 42) (rfl) rfl
theorem q_7_41 : Cond.instanceMethod yX10_reckons ∈ gw := gw_7 (i := 41) (by decide +kernel) rfl
theorem q_s_85 : Cond.selects "BeaconDelayModel" yX10_reckons yX10_reckons ∈ gw := gw_s (i := 85) (by decide +kernel) rfl
theorem mt_X10_reckons : MtV yX10_reckons cX10_reckons 5 (some .int) 1 := ⟨⟨q_7_42, q_1_9, by decide +kernel, by decide +kernel, by decide +kernel⟩, q_7_41, q_s_85⟩
theorem q_7_39 : Cond.methodLink "BeaconDelayModel" 248 yX10_reckons ∈ gw := gw_7 (i := 39) (by decide +kernel) rfl
theorem dX10_takesNow_29 : decode cX10_takesNow 29 = .ok (.invokevirtual 248, 3) := by decide +kernel
theorem dX10_takesNow_32 : decode cX10_takesNow 32 = .ok (.iconst 1, 1) := by decide +kernel
theorem dX10_takesNow_33 : decode cX10_takesNow 33 = .ok (.if_icmp .ne 7, 3) := by decide +kernel
theorem dX10_takesNow_40 : decode cX10_takesNow 40 = .ok (.iconst 0, 1) := by decide +kernel
theorem dX10_takesNow_41 : decode cX10_takesNow 41 = .ok (.ireturn, 1) := by decide +kernel
theorem dX10_takesNow_36 : decode cX10_takesNow 36 = .ok (.iconst 1, 1) := by decide +kernel
theorem dX10_takesNow_37 : decode cX10_takesNow 37 = .ok (.goto 4, 3) := by decide +kernel
theorem dX10_takesNow_9 : decode cX10_takesNow 9 = .ok (.aload_n 0, 1) := by decide +kernel
theorem dX10_takesNow_10 : decode cX10_takesNow 10 = .ok (.getfield 33, 3) := by decide +kernel
theorem dX10_takesNow_13 : decode cX10_takesNow 13 = .ok (.iconst 3, 1) := by decide +kernel
theorem dX10_takesNow_14 : decode cX10_takesNow 14 = .ok (.iaload, 1) := by decide +kernel
theorem dX10_takesNow_15 : decode cX10_takesNow 15 = .ok (.iconst 1, 1) := by decide +kernel
theorem dX10_takesNow_16 : decode cX10_takesNow 16 = .ok (.if_icmp .ne 7, 3) := by decide +kernel
theorem dX10_takesNow_23 : decode cX10_takesNow 23 = .ok (.iconst 0, 1) := by decide +kernel
theorem dX10_takesNow_24 : decode cX10_takesNow 24 = .ok (.goto 17, 3) := by decide +kernel
theorem dX10_takesNow_19 : decode cX10_takesNow 19 = .ok (.iconst 1, 1) := by decide +kernel
theorem dX10_takesNow_20 : decode cX10_takesNow 20 = .ok (.goto 21, 3) := by decide +kernel
set_option maxRecDepth 100000 in
noncomputable def F_k_X10_takesNow_0 (fz15 : Nat → Int32) (fz16 : Nat → Int32) (fz1 : Nat → Int32) : Int32 × (Nat → Int32) := bnd (fz1 (4 : Int32).toNatClampNeg : Int32) fun (x_1 : Int32) => if x_1 = (0 : Int32) then (bnd (fz16 (3 : Int32).toNatClampNeg : Int32) fun (x_13 : Int32) => if x_13 = (1 : Int32) then (((1 : Int32), fz15)) else (((0 : Int32), fz15))) else (bnd (F_k_X10_reckons_0 fz15 fz16 fz1 : Int32 × (Nat → Int32)) fun (q_9 : Int32 × (Nat → Int32)) => bnd (q_9.1 : Int32) fun (r_4 : Int32) => bnd (q_9.2 : Nat → Int32) fun (f_5 : Nat → Int32) => if r_4 = (1 : Int32) then (((1 : Int32), f_5)) else (((0 : Int32), f_5)))
set_option maxHeartbeats 4000000 in
set_option maxRecDepth 100000 in
theorem k_X10_takesNow_0 (l : Launch) (V : GV) (z : Nat → Nat) (fz15 : Nat → Int32) (fz16 : Nat → Int32) (pz0_0 : Int32) (pz0_5 : Int32) (pz0_6 : Int32) (pz0_7 : Int32) (pz0_8 : Int32) (pz0_9 : Int32) (pz0_10 : Int32) (pz0_11 : Int32) (pz0_12 : Int32) (pz0_13 : Int32) (pz0_14 : Int32) (pz0_18 : Int32) (pz0_19 : Int32) (pz0_22 : Int32) (pz0_23 : Int32) (pz0_29 : Int32) (fz1 : Nat → Int32) (tfz16 : ivT tW fz16) (bpz0_5 : iv 0 900 pz0_5) (bpz0_6 : iv 0 900 pz0_6) (bpz0_7 : iv 0 900 pz0_7) (bpz0_8 : iv 0 900 pz0_8) (bpz0_10 : iv 0 999 pz0_10) (bpz0_11 : iv 0 4 pz0_11) (bpz0_12 : iv 0 900 pz0_12) (bpz0_13 : iv 0 4 pz0_13) (bpz0_14 : iv (-1) 900 pz0_14) (bpz0_18 : iv 0 2 pz0_18) (bpz0_22 : iv 0 9999 pz0_22) (bpz0_29 : iv 0 10000 pz0_29) (tfz1 : ivT tA fz1) (hf0 : RW fz1) : Ct l V yX10_takesNow (.code yX10_takesNow cX10_takesNow 1 (some .boolean)) 3 [.ref (z 0)] [(z 15, aI V 900 fz15), (z 16, aI V 6 fz16), (z 0, .inr (10, mo z pz0_0 pz0_5 pz0_6 pz0_7 pz0_8 pz0_9 pz0_10 pz0_11 pz0_12 pz0_13 pz0_14 pz0_18 pz0_19 pz0_22 pz0_23 pz0_29)), (z 1, aI V 3075 fz1)] 0 0 (QI V (fun (r : Int32) (w : va_W) => ∃ (g0 : Nat → Int32), iv 0 1 r ∧ (RW fz1) ∧ r = (F_k_X10_takesNow_0 fz15 fz16 fz1).1 ∧ g0 = (F_k_X10_takesNow_0 fz15 fz16 fz1).2 ∧ w = [(z 15, aI V 900 g0), (z 16, aI V 6 fz16), (z 0, .inr (10, mo z pz0_0 pz0_5 pz0_6 pz0_7 pz0_8 pz0_9 pz0_10 pz0_11 pz0_12 pz0_13 pz0_14 pz0_18 pz0_19 pz0_22 pz0_23 pz0_29)), (z 1, aI V 3075 fz1)])) := by
  refine Ct.of (by decide) (Nat.le_of_ble_eq_true rfl) (fun p e s m below meth c A ls hx hb hr hml hown hlk hnm hg hP hK hD hE hA hS hl => ?_)
  have hl : lv_has ls 1 [(0, .ref (z 0))] := hl
  obtain ⟨T0, hT0⟩ : ∃ T9, T9 = F_k_X10_takesNow_0 fz15 fz16 fz1 := ⟨_, rfl⟩
  have hR := hT0.trans (F_k_X10_takesNow_0.eq_1 ..)
  refine lv_aload_n hx hb dX10_takesNow_0 rfl (lv_at hl 0 rfl) ?_
  refine va_get (ci := 10) (v := .ref (z 1)) (C := RX10) (T := TX10) (N := 40) hx hb hg inX10 hown hK hP 2 rfl rfl 1 (by decide) (hg _ q_5_225) (fun _ h9 => h9) rfl dX10_takesNow_1 ?_
  refine lv_iconst (v := 4) hx hb dX10_takesNow_4 (by decide) ?_
  refine va_iald hx hb hK hP 3 0 rfl rfl (vin (by decide +kernel)) dX10_takesNow_5 ?_
  refine lv_topi (fun x_1 ex_1 => ?_)
  have bx_1 : iv 0 1 x_1 := by rw [ex_1]; exact rdT (a := 4) (n := 1) tfz1 (iv_c (4 : Int32) (a := 4) (b := 4) (by decide)) (by decide) (by decide +kernel)
  replace hR := tb hR ex_1
  refine lv_if_ne (tgt := 27) hx hb dX10_takesNow_6 (by decide) (fun c_2 => ?_) (fun c_2 => ?_)
  · replace hR := te hR c_2
    have b_3 : iv 1 1 x_1 := iv_n0 c_2 bx_1 (iv_c (0 : Int32) (a := 0) (b := 0) (by decide)) (by decide)
    refine lv_aload_n hx hb dX10_takesNow_27 rfl (lv_at hl 0 rfl) ?_
    refine lv_iconst (v := 0) hx hb dX10_takesNow_28 (by decide) ?_
    refine jnI (wr := []) (rnV (rest := []) ⟨hx, hb, hml, hown, hg⟩ (k_X10_reckons_0 l V z fz15 fz16 pz0_0 pz0_5 pz0_6 pz0_7 pz0_8 pz0_9 pz0_10 pz0_11 pz0_12 pz0_13 pz0_14 pz0_18 pz0_19 pz0_22 pz0_23 pz0_29 fz1 tfz16 bpz0_5 bpz0_6 bpz0_7 bpz0_8 bpz0_10 bpz0_11 bpz0_12 bpz0_13 bpz0_14 bpz0_18 bpz0_22 bpz0_29 tfz1 hf0) mt_X10_reckons q_7_39 ⟨Nat.le_of_ble_eq_true rfl, Nat.le_of_ble_eq_true rfl⟩ hK hP hD hS hA hE [0, 1, 2, 3] rfl rfl 2 rfl rfl rfl rfl hl.1 rfl (Nat.le_of_ble_eq_true rfl) dX10_takesNow_29 ⟨Nat.le_of_ble_eq_true rfl, Nat.le_of_ble_eq_true rfl⟩) hP hD hS hA [0, 1, 2, 3] [] rfl rfl rfl (by decide) (fun r_4 w H locs hw hP hD hS => ?_)
    obtain ⟨f_5, g_6, et_7, et_8, rfl⟩ := hw
    replace hR := tb0 hR
    replace hR := tb hR et_7
    replace hR := tb hR et_8
    have hP : va_P V.1 vwCl [(z 15, aI V 900 f_5), (z 16, aI V 6 fz16), (z 0, .inr (10, mo z pz0_0 pz0_5 pz0_6 pz0_7 pz0_8 pz0_9 pz0_10 pz0_11 pz0_12 pz0_13 pz0_14 pz0_18 pz0_19 pz0_22 pz0_23 pz0_29)), (z 1, aI V 3075 fz1)] H := hP
    have hD := cpD hP hD
    refine lv_iconst (v := 1) hx hb dX10_takesNow_32 (by decide) ?_
    refine lv_icmp_ne (tgt := 40) hx hb dX10_takesNow_33 (by decide) (fun c_10 => ?_) (fun c_10 => ?_)
    · replace hR := te hR c_10
      refine lv_iconst (v := 0) hx hb dX10_takesNow_40 (by decide) ?_
      exact fiZ rfl hx hb hr hlk hK hP hD hS dX10_takesNow_41 (Nat.le_of_ble_eq_true rfl) (Nat.le_of_ble_eq_true rfl) (⟨f_5, (iv_c (0 : Int32) (by decide)), g_6, (congrArg Prod.fst (hR.symm.trans hT0)), (congrArg Prod.snd (hR.symm.trans hT0)), rfl⟩)
    · replace hR := ti hR c_10
      have b_11 : iv 1 1 r_4 := iv_q c_10 (iv_c (1 : Int32) (a := 1) (b := 1) (by decide))
      refine lv_iconst (v := 1) hx hb dX10_takesNow_36 (by decide) ?_
      refine lv_goto (tgt := 41) hx hb dX10_takesNow_37 (by decide) ?_
      exact fiZ rfl hx hb hr hlk hK hP hD hS dX10_takesNow_41 (Nat.le_of_ble_eq_true rfl) (Nat.le_of_ble_eq_true rfl) (⟨f_5, (iv_c (1 : Int32) (by decide)), g_6, (congrArg Prod.fst (hR.symm.trans hT0)), (congrArg Prod.snd (hR.symm.trans hT0)), rfl⟩)
  · replace hR := ti hR c_2
    have b_12 : iv 0 0 x_1 := iv_q c_2 (iv_c (0 : Int32) (a := 0) (b := 0) (by decide))
    refine lv_aload_n hx hb dX10_takesNow_9 rfl (lv_at hl 0 rfl) ?_
    refine va_get (ci := 10) (v := .ref (z 16)) (C := RX10) (T := TX10) (N := 40) hx hb hg inX10 hown hK hP 2 rfl rfl 16 (by decide) (hg _ q_6_0) (fun _ h9 => h9) rfl dX10_takesNow_10 ?_
    refine lv_iconst (v := 3) hx hb dX10_takesNow_13 (by decide) ?_
    refine va_iald hx hb hK hP 1 0 rfl rfl (vin (by decide +kernel)) dX10_takesNow_14 ?_
    refine lv_topi (fun x_13 ex_13 => ?_)
    replace hR := tb hR ex_13
    refine lv_iconst (v := 1) hx hb dX10_takesNow_15 (by decide) ?_
    refine lv_icmp_ne (tgt := 23) hx hb dX10_takesNow_16 (by decide) (fun c_14 => ?_) (fun c_14 => ?_)
    · replace hR := te hR c_14
      refine lv_iconst (v := 0) hx hb dX10_takesNow_23 (by decide) ?_
      refine lv_goto (tgt := 41) hx hb dX10_takesNow_24 (by decide) ?_
      exact fiZ rfl hx hb hr hlk hK hP hD hS dX10_takesNow_41 (Nat.le_of_ble_eq_true rfl) (Nat.le_of_ble_eq_true rfl) (⟨fz15, (iv_c (0 : Int32) (by decide)), hf0, (congrArg Prod.fst (hR.symm.trans hT0)), (congrArg Prod.snd (hR.symm.trans hT0)), rfl⟩)
    · replace hR := ti hR c_14
      have b_15 : iv 1 1 x_13 := iv_q c_14 (iv_c (1 : Int32) (a := 1) (b := 1) (by decide))
      refine lv_iconst (v := 1) hx hb dX10_takesNow_19 (by decide) ?_
      refine lv_goto (tgt := 41) hx hb dX10_takesNow_20 (by decide) ?_
      exact fiZ rfl hx hb hr hlk hK hP hD hS dX10_takesNow_41 (Nat.le_of_ble_eq_true rfl) (Nat.le_of_ble_eq_true rfl) (⟨fz15, (iv_c (1 : Int32) (by decide)), hf0, (congrArg Prod.fst (hR.symm.trans hT0)), (congrArg Prod.snd (hR.symm.trans hT0)), rfl⟩)
set_option maxRecDepth 100000 in
noncomputable def B_k_X10_reckons_1_1 (fz1 : Nat → Int32) (fz16 : Nat → Int32) (u_1 : Int32) (u_2 : Int32) (f_3 : Nat → Int32) : (Int32 × Int32 × (Nat → Int32)) ⊕ (Int32 × (Nat → Int32)) := bnd (fz1 (9 : Int32).toNatClampNeg : Int32) fun (x_5 : Int32) => if x_5 ≤ u_1 then (bnd (f_3 (0 : Int32).toNatClampNeg : Int32) fun (x_7 : Int32) => Sum.inr ((x_7, f_3))) else (bnd (fz1 (7 : Int32).toNatClampNeg : Int32) fun (x_10 : Int32) => bnd ((125 : Int32) + x_10 : Int32) fun (x_11 : Int32) => bnd (x_11 + u_1 : Int32) fun (x_12 : Int32) => bnd (fz1 (x_12 : Int32).toNatClampNeg : Int32) fun (x_13 : Int32) => if (3000 : Int32) ≤ x_13 then (if x_13 = (3006 : Int32) then (bnd (u_2 - (1 : Int32) : Int32) fun (x_45 : Int32) => bnd (f_3 (x_45 : Int32).toNatClampNeg : Int32) fun (x_46 : Int32) => bnd ((1 : Int32) - x_46 : Int32) fun (x_47 : Int32) => bnd ((upd f_3 (x_45 : Int32).toNatClampNeg x_47) : Nat → Int32) fun (f_48 : Nat → Int32) => bnd (u_1 + 1 : Int32) fun (x_49 : Int32) => Sum.inl (x_49, u_2, f_48)) else (if x_13 = (3009 : Int32) then (bnd (u_2 + (-2) : Int32) fun (x_31 : Int32) => bnd (x_31 - (1 : Int32) : Int32) fun (x_32 : Int32) => bnd (f_3 (x_32 : Int32).toNatClampNeg : Int32) fun (x_33 : Int32) => if x_33 = (1 : Int32) then (bnd (f_3 (x_31 : Int32).toNatClampNeg : Int32) fun (x_40 : Int32) => bnd ((upd f_3 (x_32 : Int32).toNatClampNeg x_40) : Nat → Int32) fun (f_41 : Nat → Int32) => bnd (u_1 + 1 : Int32) fun (x_42 : Int32) => Sum.inl (x_42, x_31, f_41)) else (bnd (x_31 + (1 : Int32) : Int32) fun (x_35 : Int32) => bnd (f_3 (x_35 : Int32).toNatClampNeg : Int32) fun (x_36 : Int32) => bnd ((upd f_3 (x_32 : Int32).toNatClampNeg x_36) : Nat → Int32) fun (f_37 : Nat → Int32) => bnd (u_1 + 1 : Int32) fun (x_38 : Int32) => Sum.inl (x_38, x_31, f_37))) else (bnd (u_2 + (-1) : Int32) fun (x_20 : Int32) => bnd (x_20 - (1 : Int32) : Int32) fun (x_21 : Int32) => bnd (f_3 (x_21 : Int32).toNatClampNeg : Int32) fun (x_22 : Int32) => bnd (f_3 (x_20 : Int32).toNatClampNeg : Int32) fun (x_23 : Int32) => bnd (F_k_X10_between_0 x_13 x_22 x_23 : Int32) fun (r_24 : Int32) => bnd ((upd f_3 (x_21 : Int32).toNatClampNeg r_24) : Nat → Int32) fun (f_27 : Nat → Int32) => bnd (u_1 + 1 : Int32) fun (x_28 : Int32) => Sum.inl (x_28, x_20, f_27)))) else (if (1000 : Int32) ≤ x_13 then (bnd (x_13 - (1000 : Int32) : Int32) fun (x_53 : Int32) => bnd (fz16 (x_53 : Int32).toNatClampNeg : Int32) fun (x_55 : Int32) => bnd ((upd f_3 (u_2 : Int32).toNatClampNeg x_55) : Nat → Int32) fun (f_56 : Nat → Int32) => bnd (u_2 + 1 : Int32) fun (x_57 : Int32) => bnd (u_1 + 1 : Int32) fun (x_58 : Int32) => Sum.inl (x_58, x_57, f_56)) else (bnd ((upd f_3 (u_2 : Int32).toNatClampNeg x_13) : Nat → Int32) fun (f_60 : Nat → Int32) => bnd (u_2 + 1 : Int32) fun (x_61 : Int32) => bnd (u_1 + 1 : Int32) fun (x_62 : Int32) => Sum.inl (x_62, x_61, f_60))))
noncomputable def L_k_X10_reckons_1_1 (fz1 : Nat → Int32) (fz16 : Nat → Int32) (q9 : Int32 × Int32 × (Nat → Int32)) : (Int32 × Int32 × (Nat → Int32)) ⊕ (Int32 × (Nat → Int32)) := B_k_X10_reckons_1_1 fz1 fz16 q9.1 q9.2.1 q9.2.2
set_option maxRecDepth 100000 in
noncomputable def F_k_X10_reckons_1 (fz15 : Nat → Int32) (fz16 : Nat → Int32) (fz1 : Nat → Int32) : Int32 × (Nat → Int32) := W9 (L_k_X10_reckons_1_1 fz1 fz16) (0, 0, fz15)
set_option maxHeartbeats 4000000 in
set_option maxRecDepth 100000 in
theorem k_X10_reckons_1 (l : Launch) (V : GV) (z : Nat → Nat) (fz15 : Nat → Int32) (fz16 : Nat → Int32) (pz0_0 : Int32) (pz0_5 : Int32) (pz0_6 : Int32) (pz0_7 : Int32) (pz0_8 : Int32) (pz0_9 : Int32) (pz0_10 : Int32) (pz0_11 : Int32) (pz0_12 : Int32) (pz0_13 : Int32) (pz0_14 : Int32) (pz0_18 : Int32) (pz0_19 : Int32) (pz0_22 : Int32) (pz0_23 : Int32) (pz0_29 : Int32) (fz1 : Nat → Int32) (tfz16 : ivT tW fz16) (bpz0_5 : iv 0 900 pz0_5) (bpz0_6 : iv 0 900 pz0_6) (bpz0_7 : iv 0 900 pz0_7) (bpz0_8 : iv 0 900 pz0_8) (bpz0_10 : iv 0 999 pz0_10) (bpz0_11 : iv 0 4 pz0_11) (bpz0_12 : iv 0 900 pz0_12) (bpz0_13 : iv 0 4 pz0_13) (bpz0_14 : iv (-1) 900 pz0_14) (bpz0_18 : iv 0 2 pz0_18) (bpz0_22 : iv 0 9999 pz0_22) (bpz0_29 : iv 0 10000 pz0_29) (tfz1 : ivT tA fz1) (hf0 : RW fz1) : Ct l V yX10_reckons (.code yX10_reckons cX10_reckons 5 (some .int)) 2 [.ref (z 0), .int 1] [(z 15, aI V 900 fz15), (z 16, aI V 6 fz16), (z 0, .inr (10, mo z pz0_0 pz0_5 pz0_6 pz0_7 pz0_8 pz0_9 pz0_10 pz0_11 pz0_12 pz0_13 pz0_14 pz0_18 pz0_19 pz0_22 pz0_23 pz0_29)), (z 1, aI V 3075 fz1)] 0 0 (QI V (fun (r : Int32) (w : va_W) => ∃ (g0 : Nat → Int32), (RW fz1) ∧ r = (F_k_X10_reckons_1 fz15 fz16 fz1).1 ∧ g0 = (F_k_X10_reckons_1 fz15 fz16 fz1).2 ∧ w = [(z 15, aI V 900 g0), (z 16, aI V 6 fz16), (z 0, .inr (10, mo z pz0_0 pz0_5 pz0_6 pz0_7 pz0_8 pz0_9 pz0_10 pz0_11 pz0_12 pz0_13 pz0_14 pz0_18 pz0_19 pz0_22 pz0_23 pz0_29)), (z 1, aI V 3075 fz1)])) := by
  refine Ct.of (by decide) (Nat.le_of_ble_eq_true rfl) (fun p e s m below meth c A ls hx hb hr hml hown hlk hnm hg hP hK hD hE hA hS hl => ?_)
  have hl : lv_has ls 5 [(0, .ref (z 0)), (1, .int 1)] := hl
  obtain ⟨T0, hT0⟩ : ∃ T9, T9 = F_k_X10_reckons_1 fz15 fz16 fz1 := ⟨_, rfl⟩
  have hR := hT0.trans (F_k_X10_reckons_1.eq_1 ..)
  refine lv_iconst (v := 0) hx hb dX10_reckons_0 (by decide) ?_
  refine lv_istore_n (lv' := [(2, .int 0), (0, .ref (z 0)), (1, .int 1)]) hx hb dX10_reckons_1 rfl hl (by decide) rfl (fun ls hl => ?_)
  refine lv_iconst (v := 0) hx hb dX10_reckons_2 (by decide) ?_
  refine lv_istore_n (lv' := [(3, .int 0), (2, .int 0), (0, .ref (z 0)), (1, .int 1)]) hx hb dX10_reckons_3 rfl hl (by decide) rfl (fun ls hl => ?_)
  refine loopF (X := fun (n_4 : Nat) (H : Heap) (locs : List Loc) (ls : Array Slot) => ∃ (u_1 : Int32) (u_2 : Int32) (f_3 : Nat → Int32), (iv 0 900 u_1) ∧ (iv (-2147483648) 2147483647 u_2) ∧ (RK fz1 (1 : Int32) u_1 u_2) ∧ T0 = W9 (L_k_X10_reckons_1_1 fz1 fz16) (u_1, u_2, f_3) ∧ n_4 = (2147483647 - (u_1 : Int32).toInt).toNat ∧ va_P V.1 vwCl [(z 15, aI V 900 f_3), (z 16, aI V 6 fz16), (z 0, .inr (10, mo z pz0_0 pz0_5 pz0_6 pz0_7 pz0_8 pz0_9 pz0_10 pz0_11 pz0_12 pz0_13 pz0_14 pz0_18 pz0_19 pz0_22 pz0_23 pz0_29)), (z 1, aI V 3075 fz1)] H ∧ va_D A [(z 15, aI V 900 f_3), (z 16, aI V 6 fz16), (z 0, .inr (10, mo z pz0_0 pz0_5 pz0_6 pz0_7 pz0_8 pz0_9 pz0_10 pz0_11 pz0_12 pz0_13 pz0_14 pz0_18 pz0_19 pz0_22 pz0_23 pz0_29)), (z 1, aI V 3075 fz1)] ∧ va_S A s.heap H locs ∧ lv_has ls 5 [(3, .int u_1), (2, .int u_2), (0, .ref (z 0)), (1, .int 1)]) (g := fun ls => F0 m 4 ls []) (fun n_4 H locs ls hX ihn_4 => ?_) _ ⟨0, 0, fz15, (iv_c (0 : Int32) (by decide)), (iv_c (0 : Int32) (by decide)), RK_0, hR, rfl, hP, hD, hS, lv_sub hl [0, 1, 2, 3] rfl⟩
  obtain ⟨u_1, u_2, f_3, bu_1, bu_2, inn_4_0, hR, en_4, hP, hD, hS, hl⟩ := hX
  obtain ⟨Tn_4, hR, hAn_4⟩ := tw hR
  replace hR : Tn_4 = B_k_X10_reckons_1_1 fz1 fz16 u_1 u_2 f_3 := hR
  replace hR := hR.trans (B_k_X10_reckons_1_1.eq_1 ..)
  refine lv_iload_n hx hb dX10_reckons_4 rfl (lv_at hl 0 rfl) ?_
  refine lv_aload_n hx hb dX10_reckons_5 rfl (lv_at hl 2 rfl) ?_
  refine va_get (ci := 10) (v := .ref (z 1)) (C := RX10) (T := TX10) (N := 40) hx hb hg inX10 hown hK hP 2 rfl rfl 1 (by decide) (hg _ q_5_225) (fun _ h9 => h9) rfl dX10_reckons_6 ?_
  refine lv_bipush (v := 8) hx hb dX10_reckons_9 (by decide) ?_
  refine lv_iload_n hx hb dX10_reckons_11 rfl (lv_at hl 3 rfl) ?_
  refine lv_iadd hx hb dX10_reckons_12 ?_
  refine tpi (y := 9) (by decide +kernel) ?_
  refine va_iald hx hb hK hP 3 0 rfl rfl (vin (by decide +kernel)) dX10_reckons_13 ?_
  refine lv_topi (fun x_5 ex_5 => ?_)
  have bx_5 : iv 0 900 x_5 := by rw [ex_5]; exact rdT (a := 9) (n := 1) tfz1 (iv_c (9 : Int32) (a := 9) (b := 9) (by decide)) (by decide) (by decide +kernel)
  replace hR := tb hR ex_5
  refine lv_icmp_ge (tgt := 198) hx hb dX10_reckons_14 (by decide) (fun c_6 => ?_) (fun c_6 => ?_)
  · replace hR := ti hR c_6
    refine lv_aload_n hx hb dX10_reckons_198 rfl (lv_at hl 2 rfl) ?_
    refine va_get (ci := 10) (v := .ref (z 15)) (C := RX10) (T := TX10) (N := 40) hx hb hg inX10 hown hK hP 2 rfl rfl 15 (by decide) (hg _ q_5_239) (fun _ h9 => h9) rfl dX10_reckons_199 ?_
    refine lv_iconst (v := 0) hx hb dX10_reckons_202 (by decide) ?_
    refine va_iald hx hb hK hP 0 0 rfl rfl (vin (by decide +kernel)) dX10_reckons_203 ?_
    refine lv_topi (fun x_7 ex_7 => ?_)
    replace hR := tb hR ex_7
    exact fiI hx hb hr hlk hK hP hD hS dX10_reckons_204 (Nat.le_of_ble_eq_true rfl) (Nat.le_of_ble_eq_true rfl) (⟨f_3, hf0, (congrArg Prod.fst ((tx hAn_4 hR).symm.trans hT0)), (congrArg Prod.snd ((tx hAn_4 hR).symm.trans hT0)), rfl⟩)
  · replace hR := te hR c_6
    have b_8 : iv 0 899 u_1 := iv_l1 (Int32.not_le.mp c_6) bu_1 bx_5 (by decide)
    have b_9 : iv 1 900 x_5 := iv_l2 (Int32.not_le.mp c_6) bu_1 bx_5 (by decide)
    refine lv_aload_n hx hb dX10_reckons_17 rfl (lv_at hl 2 rfl) ?_
    refine va_get (ci := 10) (v := .ref (z 1)) (C := RX10) (T := TX10) (N := 40) hx hb hg inX10 hown hK hP 2 rfl rfl 1 (by decide) (hg _ q_5_225) (fun _ h9 => h9) rfl dX10_reckons_18 ?_
    refine lv_bipush (v := 125) hx hb dX10_reckons_21 (by decide) ?_
    refine lv_aload_n hx hb dX10_reckons_23 rfl (lv_at hl 2 rfl) ?_
    refine va_get (ci := 10) (v := .ref (z 1)) (C := RX10) (T := TX10) (N := 40) hx hb hg inX10 hown hK hP 2 rfl rfl 1 (by decide) (hg _ q_5_225) (fun _ h9 => h9) rfl dX10_reckons_24 ?_
    refine lv_bipush (v := 6) hx hb dX10_reckons_27 (by decide) ?_
    refine lv_iload_n hx hb dX10_reckons_29 rfl (lv_at hl 3 rfl) ?_
    refine lv_iadd hx hb dX10_reckons_30 ?_
    refine tpi (y := 7) (by decide +kernel) ?_
    refine va_iald hx hb hK hP 3 0 rfl rfl (vin (by decide +kernel)) dX10_reckons_31 ?_
    refine lv_topi (fun x_10 ex_10 => ?_)
    have bx_10 : iv 0 900 x_10 := by rw [ex_10]; exact rdT (a := 7) (n := 1) tfz1 (iv_c (7 : Int32) (a := 7) (b := 7) (by decide)) (by decide) (by decide +kernel)
    replace hR := tb hR ex_10
    refine lv_iadd hx hb dX10_reckons_32 ?_
    refine lv_topi (fun x_11 ex_11 => ?_)
    have bx_11 : iv 125 1025 x_11 := by rw [ex_11]; exact iv_add (iv_c (125 : Int32) (a := 125) (b := 125) (by decide)) bx_10 (by decide)
    replace hR := tb hR ex_11
    refine lv_iload_n hx hb dX10_reckons_33 rfl (lv_at hl 0 rfl) ?_
    refine lv_iadd hx hb dX10_reckons_34 ?_
    refine lv_topi (fun x_12 ex_12 => ?_)
    have bx_12 : iv 125 1924 x_12 := by rw [ex_12]; exact iv_add bx_11 b_8 (by decide)
    replace hR := tb hR ex_12
    refine va_iald hx hb hK hP 3 0 rfl rfl (iv_in bx_12 (by decide)) dX10_reckons_35 ?_
    refine lv_topi (fun x_13 ex_13 => ?_)
    replace hR := tb hR ex_13
    have hc_x_13 := RK_c (law := (1 : Int32)) (i6 := 7) (i8 := 9) hf0 (iv_c (1 : Int32) (by decide)) b_8 inn_4_0 (by decide) (by decide) ex_5 (iv_w b_9 (by decide)) ex_10 bx_10 (Int32.not_le.mp c_6) ex_11 ex_12 ex_13
    have b_14 : iv 0 899 u_2 := by have q9 := hc_x_13; have q8 := ned_0 x_13; have q7 := b_8; unfold iv at *; omega
    refine lv_istore (lv' := [(4, .int x_13), (3, .int u_1), (2, .int u_2), (0, .ref (z 0)), (1, .int 1)]) hx hb dX10_reckons_36 hl (by decide) rfl (fun ls hl => ?_)
    refine lv_iload hx hb dX10_reckons_38 (lv_at hl 0 rfl) ?_
    refine lv_sipush (v := 3000) hx hb dX10_reckons_40 (by decide) ?_
    refine lv_icmp_ge (tgt := 82) hx hb dX10_reckons_43 (by decide) (fun c_15 => ?_) (fun c_15 => ?_)
    · replace hR := ti hR c_15
      have b_16 : iv 3000 2147483647 x_13 := iv_e2 c_15 (iv_c (3000 : Int32) (a := 3000) (b := 3000) (by decide)) (iv_top x_13) (by decide)
      refine lv_iload hx hb dX10_reckons_82 (lv_at hl 0 rfl) ?_
      refine lv_sipush (v := 3006) hx hb dX10_reckons_84 (by decide) ?_
      refine lv_icmp_ne (tgt := 111) hx hb dX10_reckons_87 (by decide) (fun c_17 => ?_) (fun c_17 => ?_)
      · replace hR := te hR c_17
        refine lv_iload hx hb dX10_reckons_111 (lv_at hl 0 rfl) ?_
        refine lv_sipush (v := 3009) hx hb dX10_reckons_113 (by decide) ?_
        refine lv_icmp_ne (tgt := 162) hx hb dX10_reckons_116 (by decide) (fun c_18 => ?_) (fun c_18 => ?_)
        · replace hR := te hR c_18
          have b_19 : iv 2 899 u_2 := by have q9 := hc_x_13.2.1; have q8 := ned_two (Int32.not_lt.mpr c_15) c_17 c_18; have q7 := b_14; unfold iv at *; omega
          obtain ⟨x_20, ex_20⟩ : ∃ z9 : Int32, z9 = u_2 + (-1) := ⟨_, rfl⟩
          have bx_20 : iv 1 898 x_20 := by rw [ex_20]; exact iv_add b_19 (iv_c ((-1) : Int32) (a := (-1)) (b := (-1)) (by decide)) (by decide)
          replace hR := tb hR ex_20
          refine lv_iinc (v := x_20) (lv' := [(2, .int x_20), (4, .int x_13), (3, .int u_1), (0, .ref (z 0)), (1, .int 1)]) hx hb dX10_reckons_162 hl (k := 2) rfl (by rw [ex_20]; rfl) (by decide) rfl (fun ls hl => ?_)
          refine lv_aload_n hx hb dX10_reckons_165 rfl (lv_at hl 3 rfl) ?_
          refine va_get (ci := 10) (v := .ref (z 15)) (C := RX10) (T := TX10) (N := 40) hx hb hg inX10 hown hK hP 2 rfl rfl 15 (by decide) (hg _ q_5_239) (fun _ h9 => h9) rfl dX10_reckons_166 ?_
          refine lv_iload_n hx hb dX10_reckons_169 rfl (lv_at hl 0 rfl) ?_
          refine lv_iconst (v := 1) hx hb dX10_reckons_170 (by decide) ?_
          refine lv_isub hx hb dX10_reckons_171 ?_
          refine lv_topi (fun x_21 ex_21 => ?_)
          have bx_21 : iv 0 897 x_21 := by rw [ex_21]; exact iv_sub bx_20 (iv_c (1 : Int32) (a := 1) (b := 1) (by decide)) (by decide)
          replace hR := tb hR ex_21
          refine lv_iload hx hb dX10_reckons_172 (lv_at hl 1 rfl) ?_
          refine lv_aload_n hx hb dX10_reckons_174 rfl (lv_at hl 3 rfl) ?_
          refine va_get (ci := 10) (v := .ref (z 15)) (C := RX10) (T := TX10) (N := 40) hx hb hg inX10 hown hK hP 2 rfl rfl 15 (by decide) (hg _ q_5_239) (fun _ h9 => h9) rfl dX10_reckons_175 ?_
          refine lv_iload_n hx hb dX10_reckons_178 rfl (lv_at hl 0 rfl) ?_
          refine lv_iconst (v := 1) hx hb dX10_reckons_179 (by decide) ?_
          refine lv_isub hx hb dX10_reckons_180 ?_
          refine tpi (y := x_21) ex_21.symm ?_
          refine va_iald hx hb hK hP 0 0 rfl rfl (iv_in bx_21 (by decide)) dX10_reckons_181 ?_
          refine lv_topi (fun x_22 ex_22 => ?_)
          replace hR := tb hR ex_22
          refine lv_aload_n hx hb dX10_reckons_182 rfl (lv_at hl 3 rfl) ?_
          refine va_get (ci := 10) (v := .ref (z 15)) (C := RX10) (T := TX10) (N := 40) hx hb hg inX10 hown hK hP 2 rfl rfl 15 (by decide) (hg _ q_5_239) (fun _ h9 => h9) rfl dX10_reckons_183 ?_
          refine lv_iload_n hx hb dX10_reckons_186 rfl (lv_at hl 0 rfl) ?_
          refine va_iald hx hb hK hP 0 0 rfl rfl (iv_in bx_20 (by decide)) dX10_reckons_187 ?_
          refine lv_topi (fun x_23 ex_23 => ?_)
          replace hR := tb hR ex_23
          refine jnI (wr := [(z 15, aI V 900 f_3), (z 16, aI V 6 fz16), (z 0, .inr (10, mo z pz0_0 pz0_5 pz0_6 pz0_7 pz0_8 pz0_9 pz0_10 pz0_11 pz0_12 pz0_13 pz0_14 pz0_18 pz0_19 pz0_22 pz0_23 pz0_29)), (z 1, aI V 3075 fz1)]) (rnS (rest := [.int x_21, .ref (z 15)]) ⟨hx, hb, hml, hown, hg⟩ (k_X10_between_0 l V x_13 x_22 x_23) mt_X10_between q_7_43 ⟨Nat.le_of_ble_eq_true rfl, Nat.le_of_ble_eq_true rfl⟩ hK hP hD hS hA hE [] rfl rfl rfl hl.1 rfl (Nat.le_of_ble_eq_true rfl) dX10_reckons_188 ⟨Nat.le_of_ble_eq_true rfl, Nat.le_of_ble_eq_true rfl⟩) hP hD hS hA [] [0, 1, 2, 3] rfl rfl rfl (by decide) (fun r_24 w H locs hw hP hD hS => ?_)
          obtain ⟨et_25, rfl⟩ := hw
          replace hR := tb hR et_25
          have hP : va_P V.1 vwCl [(z 15, aI V 900 f_3), (z 16, aI V 6 fz16), (z 0, .inr (10, mo z pz0_0 pz0_5 pz0_6 pz0_7 pz0_8 pz0_9 pz0_10 pz0_11 pz0_12 pz0_13 pz0_14 pz0_18 pz0_19 pz0_22 pz0_23 pz0_29)), (z 1, aI V 3075 fz1)] H := hP
          have hD := cpD hP hD
          refine va_iast hx hb hK hP hD hS 0 0 rfl rfl (iv_in bx_21 (by decide)) dX10_reckons_191 (fun H locs hP hD hS => ?_)
          obtain ⟨f_27, ef_27, hP, hD⟩ : ∃ f_27 : Nat → Int32, f_27 = (upd f_3 (x_21 : Int32).toNatClampNeg r_24) ∧ va_P V.1 vwCl [(z 15, aI V 900 f_27), (z 16, aI V 6 fz16), (z 0, .inr (10, mo z pz0_0 pz0_5 pz0_6 pz0_7 pz0_8 pz0_9 pz0_10 pz0_11 pz0_12 pz0_13 pz0_14 pz0_18 pz0_19 pz0_22 pz0_23 pz0_29)), (z 1, aI V 3075 fz1)] H ∧ va_D A [(z 15, aI V 900 f_27), (z 16, aI V 6 fz16), (z 0, .inr (10, mo z pz0_0 pz0_5 pz0_6 pz0_7 pz0_8 pz0_9 pz0_10 pz0_11 pz0_12 pz0_13 pz0_14 pz0_18 pz0_19 pz0_22 pz0_23 pz0_29)), (z 1, aI V 3075 fz1)] := ⟨_, rfl, hP, hD⟩
          replace hR := tb hR ef_27
          obtain ⟨x_28, ex_28⟩ : ∃ z9 : Int32, z9 = u_1 + 1 := ⟨_, rfl⟩
          have bx_28 : iv 1 900 x_28 := by rw [ex_28]; exact iv_add b_8 (iv_c (1 : Int32) (a := 1) (b := 1) (by decide)) (by decide)
          replace hR := tb hR ex_28
          refine lv_iinc (v := x_28) (lv' := [(3, .int x_28), (2, .int x_20), (4, .int x_13), (0, .ref (z 0)), (1, .int 1)]) hx hb dX10_reckons_192 hl (k := 2) rfl (by rw [ex_28]; rfl) (by decide) rfl (fun ls hl => ?_)
          refine lv_goto (tgt := 4) hx hb dX10_reckons_195 (by decide) ?_
          exact ihn_4 _ _ _ _ (by rw [en_4, ex_28]; exact mu_up b_8 (by decide)) ⟨x_28, x_20, f_27, (iv_w bx_28 (by decide)), (iv_w bx_20 (by decide)), (RK_s (law := (1 : Int32)) (i6 := 7) (iv_c (1 : Int32) (by decide)) b_8 inn_4_0 (by decide) ex_10 bx_10 ex_11 ex_12 ex_13 ex_28 (by have q8 := toInt_add ex_20 b_19 (iv_c ((-1) : Int32) (a := (-1)) (b := (-1)) (by decide)) (by decide); have q7 : ((-1) : Int32).toInt = (-1) := (by decide); have q9 := eff_two (Int32.not_lt.mpr c_15) c_17 c_18; omega)), (tbk hAn_4 hR), rfl, hP, hD, hS, lv_sub hl [0, 1, 3, 4] rfl⟩
        · replace hR := ti hR c_18
          have b_29 : iv 3009 3009 x_13 := iv_q c_18 (iv_c (3009 : Int32) (a := 3009) (b := 3009) (by decide))
          have b_30 : iv 3 899 u_2 := by have q9 := hc_x_13.2.1; have q8 := ned_if c_18; have q7 := b_14; unfold iv at *; omega
          obtain ⟨x_31, ex_31⟩ : ∃ z9 : Int32, z9 = u_2 + (-2) := ⟨_, rfl⟩
          have bx_31 : iv 1 897 x_31 := by rw [ex_31]; exact iv_add b_30 (iv_c ((-2) : Int32) (a := (-2)) (b := (-2)) (by decide)) (by decide)
          replace hR := tb hR ex_31
          refine lv_iinc (v := x_31) (lv' := [(2, .int x_31), (4, .int x_13), (3, .int u_1), (0, .ref (z 0)), (1, .int 1)]) hx hb dX10_reckons_119 hl (k := 2) rfl (by rw [ex_31]; rfl) (by decide) rfl (fun ls hl => ?_)
          refine lv_aload_n hx hb dX10_reckons_122 rfl (lv_at hl 3 rfl) ?_
          refine va_get (ci := 10) (v := .ref (z 15)) (C := RX10) (T := TX10) (N := 40) hx hb hg inX10 hown hK hP 2 rfl rfl 15 (by decide) (hg _ q_5_239) (fun _ h9 => h9) rfl dX10_reckons_123 ?_
          refine lv_iload_n hx hb dX10_reckons_126 rfl (lv_at hl 0 rfl) ?_
          refine lv_iconst (v := 1) hx hb dX10_reckons_127 (by decide) ?_
          refine lv_isub hx hb dX10_reckons_128 ?_
          refine lv_topi (fun x_32 ex_32 => ?_)
          have bx_32 : iv 0 896 x_32 := by rw [ex_32]; exact iv_sub bx_31 (iv_c (1 : Int32) (a := 1) (b := 1) (by decide)) (by decide)
          replace hR := tb hR ex_32
          refine lv_aload_n hx hb dX10_reckons_129 rfl (lv_at hl 3 rfl) ?_
          refine va_get (ci := 10) (v := .ref (z 15)) (C := RX10) (T := TX10) (N := 40) hx hb hg inX10 hown hK hP 2 rfl rfl 15 (by decide) (hg _ q_5_239) (fun _ h9 => h9) rfl dX10_reckons_130 ?_
          refine lv_iload_n hx hb dX10_reckons_133 rfl (lv_at hl 0 rfl) ?_
          refine lv_iconst (v := 1) hx hb dX10_reckons_134 (by decide) ?_
          refine lv_isub hx hb dX10_reckons_135 ?_
          refine tpi (y := x_32) ex_32.symm ?_
          refine va_iald hx hb hK hP 0 0 rfl rfl (iv_in bx_32 (by decide)) dX10_reckons_136 ?_
          refine lv_topi (fun x_33 ex_33 => ?_)
          replace hR := tb hR ex_33
          refine lv_iconst (v := 1) hx hb dX10_reckons_137 (by decide) ?_
          refine lv_icmp_ne (tgt := 150) hx hb dX10_reckons_138 (by decide) (fun c_34 => ?_) (fun c_34 => ?_)
          · replace hR := te hR c_34
            refine lv_aload_n hx hb dX10_reckons_150 rfl (lv_at hl 3 rfl) ?_
            refine va_get (ci := 10) (v := .ref (z 15)) (C := RX10) (T := TX10) (N := 40) hx hb hg inX10 hown hK hP 2 rfl rfl 15 (by decide) (hg _ q_5_239) (fun _ h9 => h9) rfl dX10_reckons_151 ?_
            refine lv_iload_n hx hb dX10_reckons_154 rfl (lv_at hl 0 rfl) ?_
            refine lv_iconst (v := 1) hx hb dX10_reckons_155 (by decide) ?_
            refine lv_iadd hx hb dX10_reckons_156 ?_
            refine lv_topi (fun x_35 ex_35 => ?_)
            have bx_35 : iv 2 898 x_35 := by rw [ex_35]; exact iv_add bx_31 (iv_c (1 : Int32) (a := 1) (b := 1) (by decide)) (by decide)
            replace hR := tb hR ex_35
            refine va_iald hx hb hK hP 0 0 rfl rfl (iv_in bx_35 (by decide)) dX10_reckons_157 ?_
            refine lv_topi (fun x_36 ex_36 => ?_)
            replace hR := tb hR ex_36
            refine va_iast hx hb hK hP hD hS 0 0 rfl rfl (iv_in bx_32 (by decide)) dX10_reckons_158 (fun H locs hP hD hS => ?_)
            obtain ⟨f_37, ef_37, hP, hD⟩ : ∃ f_37 : Nat → Int32, f_37 = (upd f_3 (x_32 : Int32).toNatClampNeg x_36) ∧ va_P V.1 vwCl [(z 15, aI V 900 f_37), (z 16, aI V 6 fz16), (z 0, .inr (10, mo z pz0_0 pz0_5 pz0_6 pz0_7 pz0_8 pz0_9 pz0_10 pz0_11 pz0_12 pz0_13 pz0_14 pz0_18 pz0_19 pz0_22 pz0_23 pz0_29)), (z 1, aI V 3075 fz1)] H ∧ va_D A [(z 15, aI V 900 f_37), (z 16, aI V 6 fz16), (z 0, .inr (10, mo z pz0_0 pz0_5 pz0_6 pz0_7 pz0_8 pz0_9 pz0_10 pz0_11 pz0_12 pz0_13 pz0_14 pz0_18 pz0_19 pz0_22 pz0_23 pz0_29)), (z 1, aI V 3075 fz1)] := ⟨_, rfl, hP, hD⟩
            replace hR := tb hR ef_37
            refine lv_goto (tgt := 192) hx hb dX10_reckons_159 (by decide) ?_
            obtain ⟨x_38, ex_38⟩ : ∃ z9 : Int32, z9 = u_1 + 1 := ⟨_, rfl⟩
            have bx_38 : iv 1 900 x_38 := by rw [ex_38]; exact iv_add b_8 (iv_c (1 : Int32) (a := 1) (b := 1) (by decide)) (by decide)
            replace hR := tb hR ex_38
            refine lv_iinc (v := x_38) (lv' := [(3, .int x_38), (2, .int x_31), (4, .int x_13), (0, .ref (z 0)), (1, .int 1)]) hx hb dX10_reckons_192 hl (k := 2) rfl (by rw [ex_38]; rfl) (by decide) rfl (fun ls hl => ?_)
            refine lv_goto (tgt := 4) hx hb dX10_reckons_195 (by decide) ?_
            exact ihn_4 _ _ _ _ (by rw [en_4, ex_38]; exact mu_up b_8 (by decide)) ⟨x_38, x_31, f_37, (iv_w bx_38 (by decide)), (iv_w bx_31 (by decide)), (RK_s (law := (1 : Int32)) (i6 := 7) (iv_c (1 : Int32) (by decide)) b_8 inn_4_0 (by decide) ex_10 bx_10 ex_11 ex_12 ex_13 ex_38 (by have q8 := toInt_add ex_31 b_30 (iv_c ((-2) : Int32) (a := (-2)) (b := (-2)) (by decide)) (by decide); have q7 : ((-2) : Int32).toInt = (-2) := (by decide); have q9 := eff_if c_18; omega)), (tbk hAn_4 hR), rfl, hP, hD, hS, lv_sub hl [0, 1, 3, 4] rfl⟩
          · replace hR := ti hR c_34
            have b_39 : iv 1 1 x_33 := iv_q c_34 (iv_c (1 : Int32) (a := 1) (b := 1) (by decide))
            refine lv_aload_n hx hb dX10_reckons_141 rfl (lv_at hl 3 rfl) ?_
            refine va_get (ci := 10) (v := .ref (z 15)) (C := RX10) (T := TX10) (N := 40) hx hb hg inX10 hown hK hP 2 rfl rfl 15 (by decide) (hg _ q_5_239) (fun _ h9 => h9) rfl dX10_reckons_142 ?_
            refine lv_iload_n hx hb dX10_reckons_145 rfl (lv_at hl 0 rfl) ?_
            refine va_iald hx hb hK hP 0 0 rfl rfl (iv_in bx_31 (by decide)) dX10_reckons_146 ?_
            refine lv_topi (fun x_40 ex_40 => ?_)
            replace hR := tb hR ex_40
            refine lv_goto (tgt := 158) hx hb dX10_reckons_147 (by decide) ?_
            refine va_iast hx hb hK hP hD hS 0 0 rfl rfl (iv_in bx_32 (by decide)) dX10_reckons_158 (fun H locs hP hD hS => ?_)
            obtain ⟨f_41, ef_41, hP, hD⟩ : ∃ f_41 : Nat → Int32, f_41 = (upd f_3 (x_32 : Int32).toNatClampNeg x_40) ∧ va_P V.1 vwCl [(z 15, aI V 900 f_41), (z 16, aI V 6 fz16), (z 0, .inr (10, mo z pz0_0 pz0_5 pz0_6 pz0_7 pz0_8 pz0_9 pz0_10 pz0_11 pz0_12 pz0_13 pz0_14 pz0_18 pz0_19 pz0_22 pz0_23 pz0_29)), (z 1, aI V 3075 fz1)] H ∧ va_D A [(z 15, aI V 900 f_41), (z 16, aI V 6 fz16), (z 0, .inr (10, mo z pz0_0 pz0_5 pz0_6 pz0_7 pz0_8 pz0_9 pz0_10 pz0_11 pz0_12 pz0_13 pz0_14 pz0_18 pz0_19 pz0_22 pz0_23 pz0_29)), (z 1, aI V 3075 fz1)] := ⟨_, rfl, hP, hD⟩
            replace hR := tb hR ef_41
            refine lv_goto (tgt := 192) hx hb dX10_reckons_159 (by decide) ?_
            obtain ⟨x_42, ex_42⟩ : ∃ z9 : Int32, z9 = u_1 + 1 := ⟨_, rfl⟩
            have bx_42 : iv 1 900 x_42 := by rw [ex_42]; exact iv_add b_8 (iv_c (1 : Int32) (a := 1) (b := 1) (by decide)) (by decide)
            replace hR := tb hR ex_42
            refine lv_iinc (v := x_42) (lv' := [(3, .int x_42), (2, .int x_31), (4, .int x_13), (0, .ref (z 0)), (1, .int 1)]) hx hb dX10_reckons_192 hl (k := 2) rfl (by rw [ex_42]; rfl) (by decide) rfl (fun ls hl => ?_)
            refine lv_goto (tgt := 4) hx hb dX10_reckons_195 (by decide) ?_
            exact ihn_4 _ _ _ _ (by rw [en_4, ex_42]; exact mu_up b_8 (by decide)) ⟨x_42, x_31, f_41, (iv_w bx_42 (by decide)), (iv_w bx_31 (by decide)), (RK_s (law := (1 : Int32)) (i6 := 7) (iv_c (1 : Int32) (by decide)) b_8 inn_4_0 (by decide) ex_10 bx_10 ex_11 ex_12 ex_13 ex_42 (by have q8 := toInt_add ex_31 b_30 (iv_c ((-2) : Int32) (a := (-2)) (b := (-2)) (by decide)) (by decide); have q7 : ((-2) : Int32).toInt = (-2) := (by decide); have q9 := eff_if c_18; omega)), (tbk hAn_4 hR), rfl, hP, hD, hS, lv_sub hl [0, 1, 3, 4] rfl⟩
      · replace hR := ti hR c_17
        have b_43 : iv 3006 3006 x_13 := iv_q c_17 (iv_c (3006 : Int32) (a := 3006) (b := 3006) (by decide))
        have b_44 : iv 1 899 u_2 := by have q9 := hc_x_13.2.1; have q8 := ned_not c_17; have q7 := b_14; unfold iv at *; omega
        refine lv_aload_n hx hb dX10_reckons_90 rfl (lv_at hl 3 rfl) ?_
        refine va_get (ci := 10) (v := .ref (z 15)) (C := RX10) (T := TX10) (N := 40) hx hb hg inX10 hown hK hP 2 rfl rfl 15 (by decide) (hg _ q_5_239) (fun _ h9 => h9) rfl dX10_reckons_91 ?_
        refine lv_iload_n hx hb dX10_reckons_94 rfl (lv_at hl 2 rfl) ?_
        refine lv_iconst (v := 1) hx hb dX10_reckons_95 (by decide) ?_
        refine lv_isub hx hb dX10_reckons_96 ?_
        refine lv_topi (fun x_45 ex_45 => ?_)
        have bx_45 : iv 0 898 x_45 := by rw [ex_45]; exact iv_sub b_44 (iv_c (1 : Int32) (a := 1) (b := 1) (by decide)) (by decide)
        replace hR := tb hR ex_45
        refine lv_iconst (v := 1) hx hb dX10_reckons_97 (by decide) ?_
        refine lv_aload_n hx hb dX10_reckons_98 rfl (lv_at hl 3 rfl) ?_
        refine va_get (ci := 10) (v := .ref (z 15)) (C := RX10) (T := TX10) (N := 40) hx hb hg inX10 hown hK hP 2 rfl rfl 15 (by decide) (hg _ q_5_239) (fun _ h9 => h9) rfl dX10_reckons_99 ?_
        refine lv_iload_n hx hb dX10_reckons_102 rfl (lv_at hl 2 rfl) ?_
        refine lv_iconst (v := 1) hx hb dX10_reckons_103 (by decide) ?_
        refine lv_isub hx hb dX10_reckons_104 ?_
        refine tpi (y := x_45) ex_45.symm ?_
        refine va_iald hx hb hK hP 0 0 rfl rfl (iv_in bx_45 (by decide)) dX10_reckons_105 ?_
        refine lv_topi (fun x_46 ex_46 => ?_)
        replace hR := tb hR ex_46
        refine lv_isub hx hb dX10_reckons_106 ?_
        refine lv_topi (fun x_47 ex_47 => ?_)
        replace hR := tb hR ex_47
        refine va_iast hx hb hK hP hD hS 0 0 rfl rfl (iv_in bx_45 (by decide)) dX10_reckons_107 (fun H locs hP hD hS => ?_)
        obtain ⟨f_48, ef_48, hP, hD⟩ : ∃ f_48 : Nat → Int32, f_48 = (upd f_3 (x_45 : Int32).toNatClampNeg x_47) ∧ va_P V.1 vwCl [(z 15, aI V 900 f_48), (z 16, aI V 6 fz16), (z 0, .inr (10, mo z pz0_0 pz0_5 pz0_6 pz0_7 pz0_8 pz0_9 pz0_10 pz0_11 pz0_12 pz0_13 pz0_14 pz0_18 pz0_19 pz0_22 pz0_23 pz0_29)), (z 1, aI V 3075 fz1)] H ∧ va_D A [(z 15, aI V 900 f_48), (z 16, aI V 6 fz16), (z 0, .inr (10, mo z pz0_0 pz0_5 pz0_6 pz0_7 pz0_8 pz0_9 pz0_10 pz0_11 pz0_12 pz0_13 pz0_14 pz0_18 pz0_19 pz0_22 pz0_23 pz0_29)), (z 1, aI V 3075 fz1)] := ⟨_, rfl, hP, hD⟩
        replace hR := tb hR ef_48
        refine lv_goto (tgt := 192) hx hb dX10_reckons_108 (by decide) ?_
        obtain ⟨x_49, ex_49⟩ : ∃ z9 : Int32, z9 = u_1 + 1 := ⟨_, rfl⟩
        have bx_49 : iv 1 900 x_49 := by rw [ex_49]; exact iv_add b_8 (iv_c (1 : Int32) (a := 1) (b := 1) (by decide)) (by decide)
        replace hR := tb hR ex_49
        refine lv_iinc (v := x_49) (lv' := [(3, .int x_49), (4, .int x_13), (2, .int u_2), (0, .ref (z 0)), (1, .int 1)]) hx hb dX10_reckons_192 hl (k := 1) rfl (by rw [ex_49]; rfl) (by decide) rfl (fun ls hl => ?_)
        refine lv_goto (tgt := 4) hx hb dX10_reckons_195 (by decide) ?_
        exact ihn_4 _ _ _ _ (by rw [en_4, ex_49]; exact mu_up b_8 (by decide)) ⟨x_49, u_2, f_48, (iv_w bx_49 (by decide)), (iv_w b_44 (by decide)), (RK_s (law := (1 : Int32)) (i6 := 7) (iv_c (1 : Int32) (by decide)) b_8 inn_4_0 (by decide) ex_10 bx_10 ex_11 ex_12 ex_13 ex_49 (by have q9 := eff_not c_17; omega)), (tbk hAn_4 hR), rfl, hP, hD, hS, lv_sub hl [0, 2, 3, 4] rfl⟩
    · replace hR := te hR c_15
      have b_50 : iv (-2147483648) 2999 x_13 := iv_l1 (Int32.not_le.mp c_15) (iv_top x_13) (iv_c (3000 : Int32) (a := 3000) (b := 3000) (by decide)) (by decide)
      refine lv_aload_n hx hb dX10_reckons_46 rfl (lv_at hl 3 rfl) ?_
      refine va_get (ci := 10) (v := .ref (z 15)) (C := RX10) (T := TX10) (N := 40) hx hb hg inX10 hown hK hP 2 rfl rfl 15 (by decide) (hg _ q_5_239) (fun _ h9 => h9) rfl dX10_reckons_47 ?_
      refine lv_iload_n hx hb dX10_reckons_50 rfl (lv_at hl 2 rfl) ?_
      refine lv_iload hx hb dX10_reckons_51 (lv_at hl 0 rfl) ?_
      refine lv_sipush (v := 1000) hx hb dX10_reckons_53 (by decide) ?_
      refine lv_icmp_ge (tgt := 64) hx hb dX10_reckons_56 (by decide) (fun c_51 => ?_) (fun c_51 => ?_)
      · replace hR := ti hR c_51
        have b_52 : iv 1000 2999 x_13 := iv_e2 c_51 (iv_c (1000 : Int32) (a := 1000) (b := 1000) (by decide)) b_50 (by decide)
        refine lv_aload_n hx hb dX10_reckons_64 rfl (lv_at hl 3 rfl) ?_
        refine va_get (ci := 10) (v := .ref (z 16)) (C := RX10) (T := TX10) (N := 40) hx hb hg inX10 hown hK hP 2 rfl rfl 16 (by decide) (hg _ q_6_0) (fun _ h9 => h9) rfl dX10_reckons_65 ?_
        refine lv_iload hx hb dX10_reckons_68 (lv_at hl 0 rfl) ?_
        refine lv_sipush (v := 1000) hx hb dX10_reckons_70 (by decide) ?_
        refine lv_isub hx hb dX10_reckons_73 ?_
        refine lv_topi (fun x_53 ex_53 => ?_)
        have bx_53 : iv 0 1999 x_53 := by rw [ex_53]; exact iv_subl c_51 b_52 (iv_c (1000 : Int32) (a := 1000) (b := 1000) (by decide)) (by decide)
        replace hR := tb hR ex_53
        have b_54 : iv 0 5 x_53 := by have q9 := hc_x_13.1.2; have q8 := b_52; have q7 := toInt_sub ex_53 b_52 (iv_c (1000 : Int32) (a := 1000) (b := 1000) (by decide)) (by decide); have q6 : (1000 : Int32).toInt = 1000 := (by decide); unfold iv at *; omega
        refine va_iald hx hb hK hP 1 0 rfl rfl (iv_in b_54 (by decide)) dX10_reckons_74 ?_
        refine lv_topi (fun x_55 ex_55 => ?_)
        replace hR := tb hR ex_55
        refine va_iast hx hb hK hP hD hS 0 0 rfl rfl (iv_in b_14 (by decide)) dX10_reckons_75 (fun H locs hP hD hS => ?_)
        obtain ⟨f_56, ef_56, hP, hD⟩ : ∃ f_56 : Nat → Int32, f_56 = (upd f_3 (u_2 : Int32).toNatClampNeg x_55) ∧ va_P V.1 vwCl [(z 15, aI V 900 f_56), (z 16, aI V 6 fz16), (z 0, .inr (10, mo z pz0_0 pz0_5 pz0_6 pz0_7 pz0_8 pz0_9 pz0_10 pz0_11 pz0_12 pz0_13 pz0_14 pz0_18 pz0_19 pz0_22 pz0_23 pz0_29)), (z 1, aI V 3075 fz1)] H ∧ va_D A [(z 15, aI V 900 f_56), (z 16, aI V 6 fz16), (z 0, .inr (10, mo z pz0_0 pz0_5 pz0_6 pz0_7 pz0_8 pz0_9 pz0_10 pz0_11 pz0_12 pz0_13 pz0_14 pz0_18 pz0_19 pz0_22 pz0_23 pz0_29)), (z 1, aI V 3075 fz1)] := ⟨_, rfl, hP, hD⟩
        replace hR := tb hR ef_56
        obtain ⟨x_57, ex_57⟩ : ∃ z9 : Int32, z9 = u_2 + 1 := ⟨_, rfl⟩
        have bx_57 : iv 1 900 x_57 := by rw [ex_57]; exact iv_add b_14 (iv_c (1 : Int32) (a := 1) (b := 1) (by decide)) (by decide)
        replace hR := tb hR ex_57
        refine lv_iinc (v := x_57) (lv' := [(2, .int x_57), (4, .int x_13), (3, .int u_1), (0, .ref (z 0)), (1, .int 1)]) hx hb dX10_reckons_76 hl (k := 2) rfl (by rw [ex_57]; rfl) (by decide) rfl (fun ls hl => ?_)
        refine lv_goto (tgt := 192) hx hb dX10_reckons_79 (by decide) ?_
        obtain ⟨x_58, ex_58⟩ : ∃ z9 : Int32, z9 = u_1 + 1 := ⟨_, rfl⟩
        have bx_58 : iv 1 900 x_58 := by rw [ex_58]; exact iv_add b_8 (iv_c (1 : Int32) (a := 1) (b := 1) (by decide)) (by decide)
        replace hR := tb hR ex_58
        refine lv_iinc (v := x_58) (lv' := [(3, .int x_58), (2, .int x_57), (4, .int x_13), (0, .ref (z 0)), (1, .int 1)]) hx hb dX10_reckons_192 hl (k := 2) rfl (by rw [ex_58]; rfl) (by decide) rfl (fun ls hl => ?_)
        refine lv_goto (tgt := 4) hx hb dX10_reckons_195 (by decide) ?_
        exact ihn_4 _ _ _ _ (by rw [en_4, ex_58]; exact mu_up b_8 (by decide)) ⟨x_58, x_57, f_56, (iv_w bx_58 (by decide)), (iv_w bx_57 (by decide)), (RK_s (law := (1 : Int32)) (i6 := 7) (iv_c (1 : Int32) (by decide)) b_8 inn_4_0 (by decide) ex_10 bx_10 ex_11 ex_12 ex_13 ex_58 (by have q8 := toInt_add ex_57 b_14 (iv_c (1 : Int32) (a := 1) (b := 1) (by decide)) (by decide); have q7 : (1 : Int32).toInt = 1 := (by decide); have q9 := eff_push (Int32.not_le.mp c_15); omega)), (tbk hAn_4 hR), rfl, hP, hD, hS, lv_sub hl [0, 1, 3, 4] rfl⟩
      · replace hR := te hR c_51
        have b_59 : iv (-2147483648) 999 x_13 := iv_l1 (Int32.not_le.mp c_51) b_50 (iv_c (1000 : Int32) (a := 1000) (b := 1000) (by decide)) (by decide)
        refine lv_iload hx hb dX10_reckons_59 (lv_at hl 0 rfl) ?_
        refine lv_goto (tgt := 75) hx hb dX10_reckons_61 (by decide) ?_
        refine va_iast hx hb hK hP hD hS 0 0 rfl rfl (iv_in b_14 (by decide)) dX10_reckons_75 (fun H locs hP hD hS => ?_)
        obtain ⟨f_60, ef_60, hP, hD⟩ : ∃ f_60 : Nat → Int32, f_60 = (upd f_3 (u_2 : Int32).toNatClampNeg x_13) ∧ va_P V.1 vwCl [(z 15, aI V 900 f_60), (z 16, aI V 6 fz16), (z 0, .inr (10, mo z pz0_0 pz0_5 pz0_6 pz0_7 pz0_8 pz0_9 pz0_10 pz0_11 pz0_12 pz0_13 pz0_14 pz0_18 pz0_19 pz0_22 pz0_23 pz0_29)), (z 1, aI V 3075 fz1)] H ∧ va_D A [(z 15, aI V 900 f_60), (z 16, aI V 6 fz16), (z 0, .inr (10, mo z pz0_0 pz0_5 pz0_6 pz0_7 pz0_8 pz0_9 pz0_10 pz0_11 pz0_12 pz0_13 pz0_14 pz0_18 pz0_19 pz0_22 pz0_23 pz0_29)), (z 1, aI V 3075 fz1)] := ⟨_, rfl, hP, hD⟩
        replace hR := tb hR ef_60
        obtain ⟨x_61, ex_61⟩ : ∃ z9 : Int32, z9 = u_2 + 1 := ⟨_, rfl⟩
        have bx_61 : iv 1 900 x_61 := by rw [ex_61]; exact iv_add b_14 (iv_c (1 : Int32) (a := 1) (b := 1) (by decide)) (by decide)
        replace hR := tb hR ex_61
        refine lv_iinc (v := x_61) (lv' := [(2, .int x_61), (4, .int x_13), (3, .int u_1), (0, .ref (z 0)), (1, .int 1)]) hx hb dX10_reckons_76 hl (k := 2) rfl (by rw [ex_61]; rfl) (by decide) rfl (fun ls hl => ?_)
        refine lv_goto (tgt := 192) hx hb dX10_reckons_79 (by decide) ?_
        obtain ⟨x_62, ex_62⟩ : ∃ z9 : Int32, z9 = u_1 + 1 := ⟨_, rfl⟩
        have bx_62 : iv 1 900 x_62 := by rw [ex_62]; exact iv_add b_8 (iv_c (1 : Int32) (a := 1) (b := 1) (by decide)) (by decide)
        replace hR := tb hR ex_62
        refine lv_iinc (v := x_62) (lv' := [(3, .int x_62), (2, .int x_61), (4, .int x_13), (0, .ref (z 0)), (1, .int 1)]) hx hb dX10_reckons_192 hl (k := 2) rfl (by rw [ex_62]; rfl) (by decide) rfl (fun ls hl => ?_)
        refine lv_goto (tgt := 4) hx hb dX10_reckons_195 (by decide) ?_
        exact ihn_4 _ _ _ _ (by rw [en_4, ex_62]; exact mu_up b_8 (by decide)) ⟨x_62, x_61, f_60, (iv_w bx_62 (by decide)), (iv_w bx_61 (by decide)), (RK_s (law := (1 : Int32)) (i6 := 7) (iv_c (1 : Int32) (by decide)) b_8 inn_4_0 (by decide) ex_10 bx_10 ex_11 ex_12 ex_13 ex_62 (by have q8 := toInt_add ex_61 b_14 (iv_c (1 : Int32) (a := 1) (b := 1) (by decide)) (by decide); have q7 : (1 : Int32).toInt = 1 := (by decide); have q9 := eff_push (Int32.not_le.mp c_15); omega)), (tbk hAn_4 hR), rfl, hP, hD, hS, lv_sub hl [0, 1, 3, 4] rfl⟩
theorem dX10_addedNow_0 : decode cX10_addedNow 0 = .ok (.aload_n 0, 1) := by decide +kernel
theorem dX10_addedNow_1 : decode cX10_addedNow 1 = .ok (.getfield 13, 3) := by decide +kernel
theorem dX10_addedNow_4 : decode cX10_addedNow 4 = .ok (.iconst 5, 1) := by decide +kernel
theorem dX10_addedNow_5 : decode cX10_addedNow 5 = .ok (.iaload, 1) := by decide +kernel
theorem dX10_addedNow_6 : decode cX10_addedNow 6 = .ok (.iconst 1, 1) := by decide +kernel
theorem dX10_addedNow_7 : decode cX10_addedNow 7 = .ok (.if_icmp .ne 11, 3) := by decide +kernel
theorem dX10_addedNow_18 : decode cX10_addedNow 18 = .ok (.aload_n 0, 1) := by decide +kernel
theorem dX10_addedNow_19 : decode cX10_addedNow 19 = .ok (.getfield 33, 3) := by decide +kernel
theorem dX10_addedNow_22 : decode cX10_addedNow 22 = .ok (.iconst 1, 1) := by decide +kernel
theorem dX10_addedNow_23 : decode cX10_addedNow 23 = .ok (.iaload, 1) := by decide +kernel
theorem dX10_addedNow_24 : decode cX10_addedNow 24 = .ok (.iconst 1, 1) := by decide +kernel
theorem dX10_addedNow_25 : decode cX10_addedNow 25 = .ok (.iadd, 1) := by decide +kernel
theorem dX10_addedNow_26 : decode cX10_addedNow 26 = .ok (.istore_n 1, 1) := by decide +kernel
theorem dX10_addedNow_27 : decode cX10_addedNow 27 = .ok (.iload_n 1, 1) := by decide +kernel
theorem dX10_addedNow_28 : decode cX10_addedNow 28 = .ok (.ifCond .ge 7, 3) := by decide +kernel
theorem dX10_addedNow_35 : decode cX10_addedNow 35 = .ok (.iload_n 1, 1) := by decide +kernel
theorem dX10_addedNow_36 : decode cX10_addedNow 36 = .ok (.iconst 4, 1) := by decide +kernel
theorem dX10_addedNow_37 : decode cX10_addedNow 37 = .ok (.if_icmp .le 7, 3) := by decide +kernel
theorem dX10_addedNow_44 : decode cX10_addedNow 44 = .ok (.iload_n 1, 1) := by decide +kernel
theorem dX10_addedNow_45 : decode cX10_addedNow 45 = .ok (.ireturn, 1) := by decide +kernel
theorem dX10_addedNow_40 : decode cX10_addedNow 40 = .ok (.iconst 4, 1) := by decide +kernel
theorem dX10_addedNow_41 : decode cX10_addedNow 41 = .ok (.goto 4, 3) := by decide +kernel
theorem dX10_addedNow_10 : decode cX10_addedNow 10 = .ok (.aload_n 0, 1) := by decide +kernel
theorem dX10_addedNow_11 : decode cX10_addedNow 11 = .ok (.iconst 1, 1) := by decide +kernel
theorem dX10_addedNow_12 : decode cX10_addedNow 12 = .ok (.invokevirtual 248, 3) := by decide +kernel
theorem dX10_addedNow_15 : decode cX10_addedNow 15 = .ok (.goto 11, 3) := by decide +kernel
theorem dX10_addedNow_31 : decode cX10_addedNow 31 = .ok (.iconst 0, 1) := by decide +kernel
theorem dX10_addedNow_32 : decode cX10_addedNow 32 = .ok (.goto 13, 3) := by decide +kernel
set_option maxRecDepth 100000 in
noncomputable def F_k_X10_addedNow_0 (fz15 : Nat → Int32) (fz16 : Nat → Int32) (fz1 : Nat → Int32) : Int32 × (Nat → Int32) := bnd (fz1 (5 : Int32).toNatClampNeg : Int32) fun (x_1 : Int32) => if x_1 = (1 : Int32) then (bnd (F_k_X10_reckons_1 fz15 fz16 fz1 : Int32 × (Nat → Int32)) fun (q_18 : Int32 × (Nat → Int32)) => bnd (q_18.1 : Int32) fun (r_13 : Int32) => bnd (q_18.2 : Nat → Int32) fun (f_14 : Nat → Int32) => if (0 : Int32) ≤ r_13 then (if r_13 ≤ (4 : Int32) then ((r_13, f_14)) else (((4 : Int32), f_14))) else (((0 : Int32), f_14))) else (bnd (fz16 (1 : Int32).toNatClampNeg : Int32) fun (x_4 : Int32) => bnd (x_4 + (1 : Int32) : Int32) fun (x_5 : Int32) => if x_5 ≤ (4 : Int32) then ((x_5, fz15)) else (((4 : Int32), fz15)))
set_option maxHeartbeats 4000000 in
set_option maxRecDepth 100000 in
theorem k_X10_addedNow_0 (l : Launch) (V : GV) (z : Nat → Nat) (fz15 : Nat → Int32) (fz16 : Nat → Int32) (pz0_0 : Int32) (pz0_5 : Int32) (pz0_6 : Int32) (pz0_7 : Int32) (pz0_8 : Int32) (pz0_9 : Int32) (pz0_10 : Int32) (pz0_11 : Int32) (pz0_12 : Int32) (pz0_13 : Int32) (pz0_14 : Int32) (pz0_18 : Int32) (pz0_19 : Int32) (pz0_22 : Int32) (pz0_23 : Int32) (pz0_29 : Int32) (fz1 : Nat → Int32) (tfz16 : ivT tW fz16) (bpz0_5 : iv 0 900 pz0_5) (bpz0_6 : iv 0 900 pz0_6) (bpz0_7 : iv 0 900 pz0_7) (bpz0_8 : iv 0 900 pz0_8) (bpz0_10 : iv 0 999 pz0_10) (bpz0_11 : iv 0 4 pz0_11) (bpz0_12 : iv 0 900 pz0_12) (bpz0_13 : iv 0 4 pz0_13) (bpz0_14 : iv (-1) 900 pz0_14) (bpz0_18 : iv 0 2 pz0_18) (bpz0_22 : iv 0 9999 pz0_22) (bpz0_29 : iv 0 10000 pz0_29) (tfz1 : ivT tA fz1) (hf0 : RW fz1) : Ct l V yX10_addedNow (.code yX10_addedNow cX10_addedNow 2 (some .int)) 3 [.ref (z 0)] [(z 15, aI V 900 fz15), (z 16, aI V 6 fz16), (z 0, .inr (10, mo z pz0_0 pz0_5 pz0_6 pz0_7 pz0_8 pz0_9 pz0_10 pz0_11 pz0_12 pz0_13 pz0_14 pz0_18 pz0_19 pz0_22 pz0_23 pz0_29)), (z 1, aI V 3075 fz1)] 0 0 (QI V (fun (r : Int32) (w : va_W) => ∃ (g0 : Nat → Int32), iv 0 4 r ∧ (RW fz1) ∧ r = (F_k_X10_addedNow_0 fz15 fz16 fz1).1 ∧ g0 = (F_k_X10_addedNow_0 fz15 fz16 fz1).2 ∧ w = [(z 15, aI V 900 g0), (z 16, aI V 6 fz16), (z 0, .inr (10, mo z pz0_0 pz0_5 pz0_6 pz0_7 pz0_8 pz0_9 pz0_10 pz0_11 pz0_12 pz0_13 pz0_14 pz0_18 pz0_19 pz0_22 pz0_23 pz0_29)), (z 1, aI V 3075 fz1)])) := by
  refine Ct.of (by decide) (Nat.le_of_ble_eq_true rfl) (fun p e s m below meth c A ls hx hb hr hml hown hlk hnm hg hP hK hD hE hA hS hl => ?_)
  have hl : lv_has ls 2 [(0, .ref (z 0))] := hl
  obtain ⟨T0, hT0⟩ : ∃ T9, T9 = F_k_X10_addedNow_0 fz15 fz16 fz1 := ⟨_, rfl⟩
  have hR := hT0.trans (F_k_X10_addedNow_0.eq_1 ..)
  refine lv_aload_n hx hb dX10_addedNow_0 rfl (lv_at hl 0 rfl) ?_
  refine va_get (ci := 10) (v := .ref (z 1)) (C := RX10) (T := TX10) (N := 40) hx hb hg inX10 hown hK hP 2 rfl rfl 1 (by decide) (hg _ q_5_225) (fun _ h9 => h9) rfl dX10_addedNow_1 ?_
  refine lv_iconst (v := 5) hx hb dX10_addedNow_4 (by decide) ?_
  refine va_iald hx hb hK hP 3 0 rfl rfl (vin (by decide +kernel)) dX10_addedNow_5 ?_
  refine lv_topi (fun x_1 ex_1 => ?_)
  have bx_1 : iv 0 1 x_1 := by rw [ex_1]; exact rdT (a := 5) (n := 1) tfz1 (iv_c (5 : Int32) (a := 5) (b := 5) (by decide)) (by decide) (by decide +kernel)
  replace hR := tb hR ex_1
  refine lv_iconst (v := 1) hx hb dX10_addedNow_6 (by decide) ?_
  refine lv_icmp_ne (tgt := 18) hx hb dX10_addedNow_7 (by decide) (fun c_2 => ?_) (fun c_2 => ?_)
  · replace hR := te hR c_2
    have b_3 : iv 0 0 x_1 := iv_n1 c_2 bx_1 (iv_c (1 : Int32) (a := 1) (b := 1) (by decide)) (by decide)
    refine lv_aload_n hx hb dX10_addedNow_18 rfl (lv_at hl 0 rfl) ?_
    refine va_get (ci := 10) (v := .ref (z 16)) (C := RX10) (T := TX10) (N := 40) hx hb hg inX10 hown hK hP 2 rfl rfl 16 (by decide) (hg _ q_6_0) (fun _ h9 => h9) rfl dX10_addedNow_19 ?_
    refine lv_iconst (v := 1) hx hb dX10_addedNow_22 (by decide) ?_
    refine va_iald hx hb hK hP 1 0 rfl rfl (vin (by decide +kernel)) dX10_addedNow_23 ?_
    refine lv_topi (fun x_4 ex_4 => ?_)
    have bx_4 : iv 0 4 x_4 := by rw [ex_4]; exact rdT (a := 1) (n := 1) tfz16 (iv_c (1 : Int32) (a := 1) (b := 1) (by decide)) (by decide) (by decide +kernel)
    replace hR := tb hR ex_4
    refine lv_iconst (v := 1) hx hb dX10_addedNow_24 (by decide) ?_
    refine lv_iadd hx hb dX10_addedNow_25 ?_
    refine lv_topi (fun x_5 ex_5 => ?_)
    have bx_5 : iv 1 5 x_5 := by rw [ex_5]; exact iv_add bx_4 (iv_c (1 : Int32) (a := 1) (b := 1) (by decide)) (by decide)
    replace hR := tb hR ex_5
    refine lv_istore_n (lv' := [(1, .int x_5), (0, .ref (z 0))]) hx hb dX10_addedNow_26 rfl hl (by decide) rfl (fun ls hl => ?_)
    refine lv_iload_n hx hb dX10_addedNow_27 rfl (lv_at hl 0 rfl) ?_
    refine lv_if_ge (tgt := 35) hx hb dX10_addedNow_28 (by decide) (fun _ => ?_) (fun c_6 => absurd (iv_le (iv_c (0 : Int32) (a := 0) (b := 0) (by decide)) bx_5 (by decide)) c_6)
    refine lv_iload_n hx hb dX10_addedNow_35 rfl (lv_at hl 0 rfl) ?_
    refine lv_iconst (v := 4) hx hb dX10_addedNow_36 (by decide) ?_
    refine lv_icmp_le (tgt := 44) hx hb dX10_addedNow_37 (by decide) (fun c_7 => ?_) (fun c_7 => ?_)
    · replace hR := ti hR c_7
      have b_8 : iv 1 4 x_5 := iv_e1 c_7 bx_5 (iv_c (4 : Int32) (a := 4) (b := 4) (by decide)) (by decide)
      have b_9 : iv 0 3 x_4 := iv_addb ex_5 b_8 bx_4 (iv_c (1 : Int32) (a := 1) (b := 1) (by decide)) (by decide)
      refine lv_iload_n hx hb dX10_addedNow_44 rfl (lv_at hl 0 rfl) ?_
      exact fiI hx hb hr hlk hK hP hD hS dX10_addedNow_45 (Nat.le_of_ble_eq_true rfl) (Nat.le_of_ble_eq_true rfl) (⟨fz15, (iv_w b_8 (by decide)), hf0, (congrArg Prod.fst (hR.symm.trans hT0)), (congrArg Prod.snd (hR.symm.trans hT0)), rfl⟩)
    · replace hR := te hR c_7
      have b_10 : iv 5 5 x_5 := iv_l2 (Int32.not_le.mp c_7) (iv_c (4 : Int32) (a := 4) (b := 4) (by decide)) bx_5 (by decide)
      have b_11 : iv 4 4 x_4 := iv_addb ex_5 b_10 bx_4 (iv_c (1 : Int32) (a := 1) (b := 1) (by decide)) (by decide)
      refine lv_iconst (v := 4) hx hb dX10_addedNow_40 (by decide) ?_
      refine lv_goto (tgt := 45) hx hb dX10_addedNow_41 (by decide) ?_
      exact fiI hx hb hr hlk hK hP hD hS dX10_addedNow_45 (Nat.le_of_ble_eq_true rfl) (Nat.le_of_ble_eq_true rfl) (⟨fz15, (iv_c (4 : Int32) (by decide)), hf0, (congrArg Prod.fst (hR.symm.trans hT0)), (congrArg Prod.snd (hR.symm.trans hT0)), rfl⟩)
  · replace hR := ti hR c_2
    have b_12 : iv 1 1 x_1 := iv_q c_2 (iv_c (1 : Int32) (a := 1) (b := 1) (by decide))
    refine lv_aload_n hx hb dX10_addedNow_10 rfl (lv_at hl 0 rfl) ?_
    refine lv_iconst (v := 1) hx hb dX10_addedNow_11 (by decide) ?_
    refine jnI (wr := []) (rnV (rest := []) ⟨hx, hb, hml, hown, hg⟩ (k_X10_reckons_1 l V z fz15 fz16 pz0_0 pz0_5 pz0_6 pz0_7 pz0_8 pz0_9 pz0_10 pz0_11 pz0_12 pz0_13 pz0_14 pz0_18 pz0_19 pz0_22 pz0_23 pz0_29 fz1 tfz16 bpz0_5 bpz0_6 bpz0_7 bpz0_8 bpz0_10 bpz0_11 bpz0_12 bpz0_13 bpz0_14 bpz0_18 bpz0_22 bpz0_29 tfz1 hf0) mt_X10_reckons q_7_39 ⟨Nat.le_of_ble_eq_true rfl, Nat.le_of_ble_eq_true rfl⟩ hK hP hD hS hA hE [0, 1, 2, 3] rfl rfl 2 rfl rfl rfl rfl hl.1 rfl (Nat.le_of_ble_eq_true rfl) dX10_addedNow_12 ⟨Nat.le_of_ble_eq_true rfl, Nat.le_of_ble_eq_true rfl⟩) hP hD hS hA [0, 1, 2, 3] [] rfl rfl rfl (by decide) (fun r_13 w H locs hw hP hD hS => ?_)
    obtain ⟨f_14, g_15, et_16, et_17, rfl⟩ := hw
    replace hR := tb0 hR
    replace hR := tb hR et_16
    replace hR := tb hR et_17
    have hP : va_P V.1 vwCl [(z 15, aI V 900 f_14), (z 16, aI V 6 fz16), (z 0, .inr (10, mo z pz0_0 pz0_5 pz0_6 pz0_7 pz0_8 pz0_9 pz0_10 pz0_11 pz0_12 pz0_13 pz0_14 pz0_18 pz0_19 pz0_22 pz0_23 pz0_29)), (z 1, aI V 3075 fz1)] H := hP
    have hD := cpD hP hD
    refine lv_goto (tgt := 26) hx hb dX10_addedNow_15 (by decide) ?_
    refine lv_istore_n (lv' := [(1, .int r_13), (0, .ref (z 0))]) hx hb dX10_addedNow_26 rfl hl (by decide) rfl (fun ls hl => ?_)
    refine lv_iload_n hx hb dX10_addedNow_27 rfl (lv_at hl 0 rfl) ?_
    refine lv_if_ge (tgt := 35) hx hb dX10_addedNow_28 (by decide) (fun c_19 => ?_) (fun c_19 => ?_)
    · replace hR := ti hR c_19
      have b_20 : iv 0 2147483647 r_13 := iv_e2 c_19 (iv_c (0 : Int32) (a := 0) (b := 0) (by decide)) (iv_top r_13) (by decide)
      refine lv_iload_n hx hb dX10_addedNow_35 rfl (lv_at hl 0 rfl) ?_
      refine lv_iconst (v := 4) hx hb dX10_addedNow_36 (by decide) ?_
      refine lv_icmp_le (tgt := 44) hx hb dX10_addedNow_37 (by decide) (fun c_21 => ?_) (fun c_21 => ?_)
      · replace hR := ti hR c_21
        have b_22 : iv 0 4 r_13 := iv_e1 c_21 b_20 (iv_c (4 : Int32) (a := 4) (b := 4) (by decide)) (by decide)
        refine lv_iload_n hx hb dX10_addedNow_44 rfl (lv_at hl 0 rfl) ?_
        exact fiI hx hb hr hlk hK hP hD hS dX10_addedNow_45 (Nat.le_of_ble_eq_true rfl) (Nat.le_of_ble_eq_true rfl) (⟨f_14, b_22, g_15, (congrArg Prod.fst (hR.symm.trans hT0)), (congrArg Prod.snd (hR.symm.trans hT0)), rfl⟩)
      · replace hR := te hR c_21
        have b_23 : iv 5 2147483647 r_13 := iv_l2 (Int32.not_le.mp c_21) (iv_c (4 : Int32) (a := 4) (b := 4) (by decide)) b_20 (by decide)
        refine lv_iconst (v := 4) hx hb dX10_addedNow_40 (by decide) ?_
        refine lv_goto (tgt := 45) hx hb dX10_addedNow_41 (by decide) ?_
        exact fiI hx hb hr hlk hK hP hD hS dX10_addedNow_45 (Nat.le_of_ble_eq_true rfl) (Nat.le_of_ble_eq_true rfl) (⟨f_14, (iv_c (4 : Int32) (by decide)), g_15, (congrArg Prod.fst (hR.symm.trans hT0)), (congrArg Prod.snd (hR.symm.trans hT0)), rfl⟩)
    · replace hR := te hR c_19
      have b_24 : iv (-2147483648) (-1) r_13 := iv_l1 (Int32.not_le.mp c_19) (iv_top r_13) (iv_c (0 : Int32) (a := 0) (b := 0) (by decide)) (by decide)
      refine lv_iconst (v := 0) hx hb dX10_addedNow_31 (by decide) ?_
      refine lv_goto (tgt := 45) hx hb dX10_addedNow_32 (by decide) ?_
      exact fiI hx hb hr hlk hK hP hD hS dX10_addedNow_45 (Nat.le_of_ble_eq_true rfl) (Nat.le_of_ble_eq_true rfl) (⟨f_14, (iv_c (0 : Int32) (by decide)), g_15, (congrArg Prod.fst (hR.symm.trans hT0)), (congrArg Prod.snd (hR.symm.trans hT0)), rfl⟩)
theorem dX10_nightTo_0 : decode cX10_nightTo 0 = .ok (.iconst 0, 1) := by decide +kernel
theorem dX10_nightTo_1 : decode cX10_nightTo 1 = .ok (.istore 4, 2) := by decide +kernel
theorem dX10_nightTo_3 : decode cX10_nightTo 3 = .ok (.iconst 0, 1) := by decide +kernel
theorem dX10_nightTo_4 : decode cX10_nightTo 4 = .ok (.istore 5, 2) := by decide +kernel
theorem dX10_nightTo_6 : decode cX10_nightTo 6 = .ok (.iload 5, 2) := by decide +kernel
theorem dX10_nightTo_8 : decode cX10_nightTo 8 = .ok (.aload_n 0, 1) := by decide +kernel
theorem dX10_nightTo_9 : decode cX10_nightTo 9 = .ok (.getfield 13, 3) := by decide +kernel
theorem dX10_nightTo_12 : decode cX10_nightTo 12 = .ok (.iconst 1, 1) := by decide +kernel
theorem dX10_nightTo_13 : decode cX10_nightTo 13 = .ok (.iaload, 1) := by decide +kernel
theorem dX10_nightTo_14 : decode cX10_nightTo 14 = .ok (.if_icmp .ge 84, 3) := by decide +kernel
theorem dX10_nightTo_98 : decode cX10_nightTo 98 = .ok (.iload 4, 2) := by decide +kernel
theorem dX10_nightTo_100 : decode cX10_nightTo 100 = .ok (.ireturn, 1) := by decide +kernel
theorem dX10_nightTo_17 : decode cX10_nightTo 17 = .ok (.aload_n 0, 1) := by decide +kernel
theorem dX10_nightTo_18 : decode cX10_nightTo 18 = .ok (.iload_n 1, 1) := by decide +kernel
theorem dX10_nightTo_19 : decode cX10_nightTo 19 = .ok (.iload 5, 2) := by decide +kernel
theorem dX10_nightTo_21 : decode cX10_nightTo 21 = .ok (.iload_n 2, 1) := by decide +kernel
theorem dX10_nightTo_22 : decode cX10_nightTo 22 = .ok (.iload_n 3, 1) := by decide +kernel
theorem q_7_25 : Cond.code yX10_laysWords prog_12_method_47_code 5 none ∈ gw := gw_7 (i := 25) (rfl) rfl
theorem q_7_24 : Cond.instanceMethod yX10_laysWords ∈ gw := gw_7 (i := 24) (by decide +kernel) rfl
theorem q_s_83 : Cond.selects "BeaconDelayModel" yX10_laysWords yX10_laysWords ∈ gw := gw_s (i := 83) (by decide +kernel) rfl
theorem mt_X10_laysWords : MtV yX10_laysWords cX10_laysWords 5 none 4 := ⟨⟨q_7_25, q_1_9, by decide +kernel, by decide +kernel, by decide +kernel⟩, q_7_24, q_s_83⟩
theorem q_7_22 : Cond.methodLink "BeaconDelayModel" 251 yX10_laysWords ∈ gw := gw_7 (i := 22) (by decide +kernel) rfl
theorem dX10_nightTo_23 : decode cX10_nightTo 23 = .ok (.invokevirtual 251, 3) := by decide +kernel
theorem dX10_nightTo_26 : decode cX10_nightTo 26 = .ok (.aload_n 0, 1) := by decide +kernel
theorem q_7_38 : Cond.code yX10_takesNow prog_12_method_48_code 1 (some FieldType.boolean) ∈ gw := gw_7 (i := 38) (rfl) rfl
theorem q_7_37 : Cond.instanceMethod yX10_takesNow ∈ gw := gw_7 (i := 37) (by decide +kernel) rfl
theorem q_s_84 : Cond.selects "BeaconDelayModel" yX10_takesNow yX10_takesNow ∈ gw := gw_s (i := 84) (by decide +kernel) rfl
theorem mt_X10_takesNow : MtV yX10_takesNow cX10_takesNow 1 (some .boolean) 0 := ⟨⟨q_7_38, q_1_9, by decide +kernel, by decide +kernel, by decide +kernel⟩, q_7_37, q_s_84⟩
theorem q_7_35 : Cond.methodLink "BeaconDelayModel" 255 yX10_takesNow ∈ gw := gw_7 (i := 35) (by decide +kernel) rfl
theorem dX10_nightTo_27 : decode cX10_nightTo 27 = .ok (.invokevirtual 255, 3) := by decide +kernel
theorem dX10_nightTo_30 : decode cX10_nightTo 30 = .ok (.ifCond .eq 47, 3) := by decide +kernel
theorem dX10_nightTo_77 : decode cX10_nightTo 77 = .ok (.iload 4, 2) := by decide +kernel
theorem dX10_nightTo_79 : decode cX10_nightTo 79 = .ok (.iload 5, 2) := by decide +kernel
theorem dX10_nightTo_81 : decode cX10_nightTo 81 = .ok (.invokestatic 228, 3) := by decide +kernel
theorem dX10_nightTo_84 : decode cX10_nightTo 84 = .ok (.aload_n 0, 1) := by decide +kernel
theorem q_7_51 : Cond.code yX10_addedNow prog_12_method_49_code 2 (some FieldType.int) ∈ gw := gw_7 (i := 51) (rfl) rfl
theorem q_7_50 : Cond.instanceMethod yX10_addedNow ∈ gw := gw_7 (i := 50) (by decide +kernel) rfl
theorem q_s_86 : Cond.selects "BeaconDelayModel" yX10_addedNow yX10_addedNow ∈ gw := gw_s (i := 86) (by decide +kernel) rfl
theorem mt_X10_addedNow : MtV yX10_addedNow cX10_addedNow 2 (some .int) 0 := ⟨⟨q_7_51, q_1_9, by decide +kernel, by decide +kernel, by decide +kernel⟩, q_7_50, q_s_86⟩
theorem q_7_48 : Cond.methodLink "BeaconDelayModel" 259 yX10_addedNow ∈ gw := gw_7 (i := 48) (by decide +kernel) rfl
theorem dX10_nightTo_85 : decode cX10_nightTo 85 = .ok (.invokevirtual 259, 3) := by decide +kernel
theorem dX10_nightTo_88 : decode cX10_nightTo 88 = .ok (.imul, 1) := by decide +kernel
theorem dX10_nightTo_89 : decode cX10_nightTo 89 = .ok (.iadd, 1) := by decide +kernel
theorem dX10_nightTo_90 : decode cX10_nightTo 90 = .ok (.istore 4, 2) := by decide +kernel
theorem dX10_nightTo_92 : decode cX10_nightTo 92 = .ok (.iinc 5 1, 3) := by decide +kernel
theorem dX10_nightTo_95 : decode cX10_nightTo 95 = .ok (.goto (-89), 3) := by decide +kernel
theorem dX10_nightTo_33 : decode cX10_nightTo 33 = .ok (.iload 4, 2) := by decide +kernel
theorem dX10_nightTo_35 : decode cX10_nightTo 35 = .ok (.sipush 625, 3) := by decide +kernel
theorem dX10_nightTo_38 : decode cX10_nightTo 38 = .ok (.iconst 1, 1) := by decide +kernel
theorem dX10_nightTo_39 : decode cX10_nightTo 39 = .ok (.iload 5, 2) := by decide +kernel
theorem dX10_nightTo_41 : decode cX10_nightTo 41 = .ok (.ishl, 1) := by decide +kernel
theorem dX10_nightTo_42 : decode cX10_nightTo 42 = .ok (.imul, 1) := by decide +kernel
theorem dX10_nightTo_43 : decode cX10_nightTo 43 = .ok (.iload 5, 2) := by decide +kernel
theorem dX10_nightTo_45 : decode cX10_nightTo 45 = .ok (.invokestatic 228, 3) := by decide +kernel
theorem dX10_nightTo_48 : decode cX10_nightTo 48 = .ok (.aload_n 0, 1) := by decide +kernel
theorem dX10_nightTo_49 : decode cX10_nightTo 49 = .ok (.getfield 33, 3) := by decide +kernel
theorem dX10_nightTo_52 : decode cX10_nightTo 52 = .ok (.iconst 1, 1) := by decide +kernel
theorem dX10_nightTo_53 : decode cX10_nightTo 53 = .ok (.iaload, 1) := by decide +kernel
theorem dX10_nightTo_54 : decode cX10_nightTo 54 = .ok (.ifCond .le 14, 3) := by decide +kernel
theorem dX10_nightTo_68 : decode cX10_nightTo 68 = .ok (.iconst 0, 1) := by decide +kernel
theorem dX10_nightTo_69 : decode cX10_nightTo 69 = .ok (.imul, 1) := by decide +kernel
theorem dX10_nightTo_70 : decode cX10_nightTo 70 = .ok (.iadd, 1) := by decide +kernel
theorem dX10_nightTo_71 : decode cX10_nightTo 71 = .ok (.iadd, 1) := by decide +kernel
theorem dX10_nightTo_72 : decode cX10_nightTo 72 = .ok (.istore 4, 2) := by decide +kernel
theorem dX10_nightTo_74 : decode cX10_nightTo 74 = .ok (.goto 18, 3) := by decide +kernel
theorem dX10_nightTo_57 : decode cX10_nightTo 57 = .ok (.aload_n 0, 1) := by decide +kernel
theorem dX10_nightTo_58 : decode cX10_nightTo 58 = .ok (.getfield 33, 3) := by decide +kernel
theorem dX10_nightTo_61 : decode cX10_nightTo 61 = .ok (.iconst 1, 1) := by decide +kernel
theorem dX10_nightTo_62 : decode cX10_nightTo 62 = .ok (.iaload, 1) := by decide +kernel
theorem dX10_nightTo_63 : decode cX10_nightTo 63 = .ok (.iconst 1, 1) := by decide +kernel
theorem dX10_nightTo_64 : decode cX10_nightTo 64 = .ok (.isub, 1) := by decide +kernel
theorem dX10_nightTo_65 : decode cX10_nightTo 65 = .ok (.goto 4, 3) := by decide +kernel
set_option maxRecDepth 100000 in
noncomputable def B_k_X10_nightTo_0_1 (a1 : Int32) (a2 : Int32) (a3 : Int32) (fz1 : Nat → Int32) (u_1 : Int32) (u_2 : Int32) (f_3 : Nat → Int32) (f_4 : Nat → Int32) : (Int32 × Int32 × (Nat → Int32) × (Nat → Int32)) ⊕ (Int32 × (Nat → Int32) × (Nat → Int32)) := bnd (fz1 (1 : Int32).toNatClampNeg : Int32) fun (x_6 : Int32) => if x_6 ≤ u_1 then (Sum.inr ((u_2, f_3, f_4))) else (if u_1 = 0 then (bnd (F_k_X10_laysWords_0 a1 (0 : Int32) a2 a3 f_4 fz1 : Nat → Int32) fun (f_12 : Nat → Int32) => bnd (F_k_X10_takesNow_0 f_3 f_12 fz1 : Int32 × (Nat → Int32)) fun (q_20 : Int32 × (Nat → Int32)) => bnd (q_20.1 : Int32) fun (r_15 : Int32) => bnd (q_20.2 : Nat → Int32) fun (f_16 : Nat → Int32) => if r_15 = (0 : Int32) then (if F_k_X10_digitOf_0 (0 : Int32) = 0 then (Sum.inl default) else (if F_k_X10_digitOf_0 (0 : Int32) = 1 then (Sum.inl default) else (if F_k_X10_digitOf_0 (0 : Int32) = 2 then (Sum.inl default) else (bnd (F_k_X10_addedNow_0 f_16 f_12 fz1 : Int32 × (Nat → Int32)) fun (q_42 : Int32 × (Nat → Int32)) => bnd (q_42.1 : Int32) fun (r_37 : Int32) => bnd (q_42.2 : Nat → Int32) fun (f_38 : Nat → Int32) => bnd ((1 : Int32) * r_37 : Int32) fun (x_43 : Int32) => bnd (u_2 + x_43 : Int32) fun (x_44 : Int32) => Sum.inl (1, x_44, f_38, f_12))))) else (if F_k_X10_digitOf_0 (0 : Int32) = 0 then (Sum.inl default) else (if F_k_X10_digitOf_0 (0 : Int32) = 1 then (Sum.inl default) else (if F_k_X10_digitOf_0 (0 : Int32) = 2 then (Sum.inl default) else (bnd (f_12 (1 : Int32).toNatClampNeg : Int32) fun (x_60 : Int32) => if x_60 ≤ (0 : Int32) then (bnd (u_2 + (625 : Int32) : Int32) fun (x_63 : Int32) => Sum.inl (1, x_63, f_16, f_12)) else (bnd (x_60 - (1 : Int32) : Int32) fun (x_65 : Int32) => bnd ((1 : Int32) * x_65 : Int32) fun (x_66 : Int32) => bnd ((625 : Int32) + x_66 : Int32) fun (x_67 : Int32) => bnd (u_2 + x_67 : Int32) fun (x_68 : Int32) => Sum.inl (1, x_68, f_16, f_12))))))) else (if u_1 = 1 then (bnd (F_k_X10_laysWords_0 a1 (1 : Int32) a2 a3 f_4 fz1 : Nat → Int32) fun (f_70 : Nat → Int32) => bnd (F_k_X10_takesNow_0 f_3 f_70 fz1 : Int32 × (Nat → Int32)) fun (q_78 : Int32 × (Nat → Int32)) => bnd (q_78.1 : Int32) fun (r_73 : Int32) => bnd (q_78.2 : Nat → Int32) fun (f_74 : Nat → Int32) => if r_73 = (0 : Int32) then (if F_k_X10_digitOf_0 (1 : Int32) = 0 then (Sum.inl default) else (if F_k_X10_digitOf_0 (1 : Int32) = 1 then (Sum.inl default) else (if F_k_X10_digitOf_0 (1 : Int32) = 2 then (bnd (F_k_X10_addedNow_0 f_74 f_70 fz1 : Int32 × (Nat → Int32)) fun (q_100 : Int32 × (Nat → Int32)) => bnd (q_100.1 : Int32) fun (r_95 : Int32) => bnd (q_100.2 : Nat → Int32) fun (f_96 : Nat → Int32) => bnd ((5 : Int32) * r_95 : Int32) fun (x_101 : Int32) => bnd (u_2 + x_101 : Int32) fun (x_102 : Int32) => Sum.inl (2, x_102, f_96, f_70)) else (Sum.inl default)))) else (if F_k_X10_digitOf_0 (1 : Int32) = 0 then (Sum.inl default) else (if F_k_X10_digitOf_0 (1 : Int32) = 1 then (Sum.inl default) else (if F_k_X10_digitOf_0 (1 : Int32) = 2 then (bnd (f_70 (1 : Int32).toNatClampNeg : Int32) fun (x_118 : Int32) => if x_118 ≤ (0 : Int32) then (bnd (u_2 + (1250 : Int32) : Int32) fun (x_121 : Int32) => Sum.inl (2, x_121, f_74, f_70)) else (bnd (x_118 - (1 : Int32) : Int32) fun (x_123 : Int32) => bnd ((5 : Int32) * x_123 : Int32) fun (x_124 : Int32) => bnd ((1250 : Int32) + x_124 : Int32) fun (x_125 : Int32) => bnd (u_2 + x_125 : Int32) fun (x_126 : Int32) => Sum.inl (2, x_126, f_74, f_70))) else (Sum.inl default))))) else (if u_1 = 2 then (bnd (F_k_X10_laysWords_0 a1 (2 : Int32) a2 a3 f_4 fz1 : Nat → Int32) fun (f_128 : Nat → Int32) => bnd (F_k_X10_takesNow_0 f_3 f_128 fz1 : Int32 × (Nat → Int32)) fun (q_136 : Int32 × (Nat → Int32)) => bnd (q_136.1 : Int32) fun (r_131 : Int32) => bnd (q_136.2 : Nat → Int32) fun (f_132 : Nat → Int32) => if r_131 = (0 : Int32) then (if F_k_X10_digitOf_0 (2 : Int32) = 0 then (Sum.inl default) else (if F_k_X10_digitOf_0 (2 : Int32) = 1 then (bnd (F_k_X10_addedNow_0 f_132 f_128 fz1 : Int32 × (Nat → Int32)) fun (q_158 : Int32 × (Nat → Int32)) => bnd (q_158.1 : Int32) fun (r_153 : Int32) => bnd (q_158.2 : Nat → Int32) fun (f_154 : Nat → Int32) => bnd ((25 : Int32) * r_153 : Int32) fun (x_159 : Int32) => bnd (u_2 + x_159 : Int32) fun (x_160 : Int32) => Sum.inl (3, x_160, f_154, f_128)) else (if F_k_X10_digitOf_0 (2 : Int32) = 2 then (Sum.inl default) else (Sum.inl default)))) else (if F_k_X10_digitOf_0 (2 : Int32) = 0 then (Sum.inl default) else (if F_k_X10_digitOf_0 (2 : Int32) = 1 then (bnd (f_128 (1 : Int32).toNatClampNeg : Int32) fun (x_176 : Int32) => if x_176 ≤ (0 : Int32) then (bnd (u_2 + (2500 : Int32) : Int32) fun (x_179 : Int32) => Sum.inl (3, x_179, f_132, f_128)) else (bnd (x_176 - (1 : Int32) : Int32) fun (x_181 : Int32) => bnd ((25 : Int32) * x_181 : Int32) fun (x_182 : Int32) => bnd ((2500 : Int32) + x_182 : Int32) fun (x_183 : Int32) => bnd (u_2 + x_183 : Int32) fun (x_184 : Int32) => Sum.inl (3, x_184, f_132, f_128))) else (if F_k_X10_digitOf_0 (2 : Int32) = 2 then (Sum.inl default) else (Sum.inl default))))) else (bnd (F_k_X10_laysWords_0 a1 (3 : Int32) a2 a3 f_4 fz1 : Nat → Int32) fun (f_186 : Nat → Int32) => bnd (F_k_X10_takesNow_0 f_3 f_186 fz1 : Int32 × (Nat → Int32)) fun (q_194 : Int32 × (Nat → Int32)) => bnd (q_194.1 : Int32) fun (r_189 : Int32) => bnd (q_194.2 : Nat → Int32) fun (f_190 : Nat → Int32) => if r_189 = (0 : Int32) then (if F_k_X10_digitOf_0 (3 : Int32) = 0 then (bnd (F_k_X10_addedNow_0 f_190 f_186 fz1 : Int32 × (Nat → Int32)) fun (q_216 : Int32 × (Nat → Int32)) => bnd (q_216.1 : Int32) fun (r_211 : Int32) => bnd (q_216.2 : Nat → Int32) fun (f_212 : Nat → Int32) => bnd ((125 : Int32) * r_211 : Int32) fun (x_217 : Int32) => bnd (u_2 + x_217 : Int32) fun (x_218 : Int32) => Sum.inl (4, x_218, f_212, f_186)) else (if F_k_X10_digitOf_0 (3 : Int32) = 1 then (Sum.inl default) else (if F_k_X10_digitOf_0 (3 : Int32) = 2 then (Sum.inl default) else (Sum.inl default)))) else (if F_k_X10_digitOf_0 (3 : Int32) = 0 then (bnd (f_186 (1 : Int32).toNatClampNeg : Int32) fun (x_234 : Int32) => if x_234 ≤ (0 : Int32) then (bnd (u_2 + (5000 : Int32) : Int32) fun (x_237 : Int32) => Sum.inl (4, x_237, f_190, f_186)) else (bnd (x_234 - (1 : Int32) : Int32) fun (x_239 : Int32) => bnd ((125 : Int32) * x_239 : Int32) fun (x_240 : Int32) => bnd ((5000 : Int32) + x_240 : Int32) fun (x_241 : Int32) => bnd (u_2 + x_241 : Int32) fun (x_242 : Int32) => Sum.inl (4, x_242, f_190, f_186))) else (if F_k_X10_digitOf_0 (3 : Int32) = 1 then (Sum.inl default) else (if F_k_X10_digitOf_0 (3 : Int32) = 2 then (Sum.inl default) else (Sum.inl default))))))))
noncomputable def L_k_X10_nightTo_0_1 (a1 : Int32) (a2 : Int32) (a3 : Int32) (fz1 : Nat → Int32) (q9 : Int32 × Int32 × (Nat → Int32) × (Nat → Int32)) : (Int32 × Int32 × (Nat → Int32) × (Nat → Int32)) ⊕ (Int32 × (Nat → Int32) × (Nat → Int32)) := B_k_X10_nightTo_0_1 a1 a2 a3 fz1 q9.1 q9.2.1 q9.2.2.1 q9.2.2.2
set_option maxRecDepth 100000 in
noncomputable def F_k_X10_nightTo_0 (a1 : Int32) (a2 : Int32) (a3 : Int32) (fz15 : Nat → Int32) (fz16 : Nat → Int32) (fz1 : Nat → Int32) : Int32 × (Nat → Int32) × (Nat → Int32) := W9 (L_k_X10_nightTo_0_1 a1 a2 a3 fz1) (0, 0, fz15, fz16)
set_option maxHeartbeats 4000000 in
set_option maxRecDepth 100000 in
theorem k_X10_nightTo_0 (l : Launch) (V : GV) (z : Nat → Nat) (a1 : Int32) (a2 : Int32) (a3 : Int32) (fz15 : Nat → Int32) (fz16 : Nat → Int32) (pz0_0 : Int32) (pz0_5 : Int32) (pz0_6 : Int32) (pz0_7 : Int32) (pz0_8 : Int32) (pz0_9 : Int32) (pz0_10 : Int32) (pz0_11 : Int32) (pz0_12 : Int32) (pz0_13 : Int32) (pz0_14 : Int32) (pz0_18 : Int32) (pz0_19 : Int32) (pz0_22 : Int32) (pz0_23 : Int32) (pz0_29 : Int32) (fz1 : Nat → Int32) (ba1 : iv 0 9999 a1) (tfz16 : ivT tW fz16) (bpz0_5 : iv 0 900 pz0_5) (bpz0_6 : iv 0 900 pz0_6) (bpz0_7 : iv 0 900 pz0_7) (bpz0_8 : iv 0 900 pz0_8) (bpz0_10 : iv 0 999 pz0_10) (bpz0_11 : iv 0 4 pz0_11) (bpz0_12 : iv 0 900 pz0_12) (bpz0_13 : iv 0 4 pz0_13) (bpz0_14 : iv (-1) 900 pz0_14) (bpz0_18 : iv 0 2 pz0_18) (bpz0_22 : iv 0 9999 pz0_22) (bpz0_29 : iv 0 10000 pz0_29) (tfz1 : ivT tA fz1) (hf0 : RW fz1) : Ct l V yX10_nightTo (.code yX10_nightTo cX10_nightTo 6 (some .int)) 4 [.ref (z 0), .int a1, .int a2, .int a3] [(z 15, aI V 900 fz15), (z 16, aI V 6 fz16), (z 0, .inr (10, mo z pz0_0 pz0_5 pz0_6 pz0_7 pz0_8 pz0_9 pz0_10 pz0_11 pz0_12 pz0_13 pz0_14 pz0_18 pz0_19 pz0_22 pz0_23 pz0_29)), (z 1, aI V 3075 fz1)] 0 0 (QI V (fun (r : Int32) (w : va_W) => ∃ (g0 : Nat → Int32) (g1 : Nat → Int32), (ivT tW g1) ∧ iv 0 9843 r ∧ (RW fz1) ∧ r = (F_k_X10_nightTo_0 a1 a2 a3 fz15 fz16 fz1).1 ∧ g0 = (F_k_X10_nightTo_0 a1 a2 a3 fz15 fz16 fz1).2.1 ∧ g1 = (F_k_X10_nightTo_0 a1 a2 a3 fz15 fz16 fz1).2.2 ∧ w = [(z 15, aI V 900 g0), (z 16, aI V 6 g1), (z 0, .inr (10, mo z pz0_0 pz0_5 pz0_6 pz0_7 pz0_8 pz0_9 pz0_10 pz0_11 pz0_12 pz0_13 pz0_14 pz0_18 pz0_19 pz0_22 pz0_23 pz0_29)), (z 1, aI V 3075 fz1)])) := by
  refine Ct.of (by decide) (Nat.le_of_ble_eq_true rfl) (fun p e s m below meth c A ls hx hb hr hml hown hlk hnm hg hP hK hD hE hA hS hl => ?_)
  have hl : lv_has ls 6 [(0, .ref (z 0)), (1, .int a1), (2, .int a2), (3, .int a3)] := hl
  obtain ⟨T0, hT0⟩ : ∃ T9, T9 = F_k_X10_nightTo_0 a1 a2 a3 fz15 fz16 fz1 := ⟨_, rfl⟩
  have hR := hT0.trans (F_k_X10_nightTo_0.eq_1 ..)
  refine lv_iconst (v := 0) hx hb dX10_nightTo_0 (by decide) ?_
  refine lv_istore (lv' := [(4, .int 0), (0, .ref (z 0)), (1, .int a1), (2, .int a2), (3, .int a3)]) hx hb dX10_nightTo_1 hl (by decide) rfl (fun ls hl => ?_)
  refine lv_iconst (v := 0) hx hb dX10_nightTo_3 (by decide) ?_
  refine lv_istore (lv' := [(5, .int 0), (4, .int 0), (0, .ref (z 0)), (1, .int a1), (2, .int a2), (3, .int a3)]) hx hb dX10_nightTo_4 hl (by decide) rfl (fun ls hl => ?_)
  refine loopF (X := fun (n_5 : Nat) (H : Heap) (locs : List Loc) (ls : Array Slot) => ∃ (u_1 : Int32) (u_2 : Int32) (f_3 : Nat → Int32) (f_4 : Nat → Int32), (iv 0 4 u_1) ∧ (iv 0 9843 u_2) ∧ (ivT tW f_4) ∧ (nbP u_1 u_2) ∧ (RW fz1) ∧ T0 = W9 (L_k_X10_nightTo_0_1 a1 a2 a3 fz1) (u_1, u_2, f_3, f_4) ∧ n_5 = (2147483647 - (u_1 : Int32).toInt).toNat ∧ va_P V.1 vwCl [(z 15, aI V 900 f_3), (z 16, aI V 6 f_4), (z 0, .inr (10, mo z pz0_0 pz0_5 pz0_6 pz0_7 pz0_8 pz0_9 pz0_10 pz0_11 pz0_12 pz0_13 pz0_14 pz0_18 pz0_19 pz0_22 pz0_23 pz0_29)), (z 1, aI V 3075 fz1)] H ∧ va_D A [(z 15, aI V 900 f_3), (z 16, aI V 6 f_4), (z 0, .inr (10, mo z pz0_0 pz0_5 pz0_6 pz0_7 pz0_8 pz0_9 pz0_10 pz0_11 pz0_12 pz0_13 pz0_14 pz0_18 pz0_19 pz0_22 pz0_23 pz0_29)), (z 1, aI V 3075 fz1)] ∧ va_S A s.heap H locs ∧ lv_has ls 6 [(5, .int u_1), (4, .int u_2), (0, .ref (z 0)), (1, .int a1), (2, .int a2), (3, .int a3)]) (g := fun ls => F0 m 6 ls []) (fun n_5 H locs ls hX ihn_5 => ?_) _ ⟨0, 0, fz15, fz16, (iv_c (0 : Int32) (by decide)), (iv_c (0 : Int32) (by decide)), tfz16, (nb_o (iv_c (0 : Int32) (a := 0) (b := 0) (by decide)) (by decide)), hf0, hR, rfl, hP, hD, hS, lv_sub hl [0, 1, 2, 3, 4, 5] rfl⟩
  obtain ⟨u_1, u_2, f_3, f_4, bu_1, bu_2, tf_4, inn_5_0, inn_5_1, hR, en_5, hP, hD, hS, hl⟩ := hX
  obtain ⟨Tn_5, hR, hAn_5⟩ := tw hR
  replace hR : Tn_5 = B_k_X10_nightTo_0_1 a1 a2 a3 fz1 u_1 u_2 f_3 f_4 := hR
  replace hR := hR.trans (B_k_X10_nightTo_0_1.eq_1 ..)
  refine lv_iload hx hb dX10_nightTo_6 (lv_at hl 0 rfl) ?_
  refine lv_aload_n hx hb dX10_nightTo_8 rfl (lv_at hl 2 rfl) ?_
  refine va_get (ci := 10) (v := .ref (z 1)) (C := RX10) (T := TX10) (N := 40) hx hb hg inX10 hown hK hP 2 rfl rfl 1 (by decide) (hg _ q_5_225) (fun _ h9 => h9) rfl dX10_nightTo_9 ?_
  refine lv_iconst (v := 1) hx hb dX10_nightTo_12 (by decide) ?_
  refine va_iald hx hb hK hP 3 0 rfl rfl (vin (by decide +kernel)) dX10_nightTo_13 ?_
  refine lv_topi (fun x_6 ex_6 => ?_)
  have bx_6 : iv 0 4 x_6 := by rw [ex_6]; exact rdT (a := 1) (n := 1) tfz1 (iv_c (1 : Int32) (a := 1) (b := 1) (by decide)) (by decide) (by decide +kernel)
  replace hR := tb hR ex_6
  refine lv_icmp_ge (tgt := 98) hx hb dX10_nightTo_14 (by decide) (fun c_7 => ?_) (fun c_7 => ?_)
  · replace hR := ti hR c_7
    refine lv_iload hx hb dX10_nightTo_98 (lv_at hl 1 rfl) ?_
    exact fiI hx hb hr hlk hK hP hD hS dX10_nightTo_100 (Nat.le_of_ble_eq_true rfl) (Nat.le_of_ble_eq_true rfl) (⟨f_3, f_4, tf_4, bu_2, inn_5_1, (congrArg Prod.fst ((tx hAn_5 hR).symm.trans hT0)), (congrArg Prod.fst (congrArg Prod.snd ((tx hAn_5 hR).symm.trans hT0))), (congrArg Prod.snd (congrArg Prod.snd ((tx hAn_5 hR).symm.trans hT0))), rfl⟩)
  · replace hR := te hR c_7
    have b_8 : iv 0 3 u_1 := iv_l1 (Int32.not_le.mp c_7) bu_1 bx_6 (by decide)
    have b_9 : iv 1 4 x_6 := iv_l2 (Int32.not_le.mp c_7) bu_1 bx_6 (by decide)
    have c_10 : u_1 = 0 ∨ u_1 = 1 ∨ u_1 = 2 ∨ u_1 = 3 := by have q9 := b_8; unfold iv at q9; simp only [tI_eq, (by decide : (0 : Int32).toInt = 0), (by decide : (1 : Int32).toInt = 1), (by decide : (2 : Int32).toInt = 2), (by decide : (3 : Int32).toInt = 3)]; omega
    rcases c_10 with rfl | rfl | rfl | rfl
    · replace hR := ti hR rfl
      have b_11 : iv 0 0 u_2 := nb_i inn_5_0 (by decide)
      refine lv_aload_n hx hb dX10_nightTo_17 rfl (lv_at hl 2 rfl) ?_
      refine lv_iload_n hx hb dX10_nightTo_18 rfl (lv_at hl 3 rfl) ?_
      refine lv_iload hx hb dX10_nightTo_19 (lv_at hl 0 rfl) ?_
      refine lv_iload_n hx hb dX10_nightTo_21 rfl (lv_at hl 4 rfl) ?_
      refine lv_iload_n hx hb dX10_nightTo_22 rfl (lv_at hl 5 rfl) ?_
      refine jnV (wr := [(z 15, aI V 900 f_3)]) (rnV (rest := []) ⟨hx, hb, hml, hown, hg⟩ (k_X10_laysWords_0 l V z a1 0 a2 a3 f_4 pz0_0 pz0_5 pz0_6 pz0_7 pz0_8 pz0_9 pz0_10 pz0_11 pz0_12 pz0_13 pz0_14 pz0_18 pz0_19 pz0_22 pz0_23 pz0_29 fz1 ba1 (iv_c (0 : Int32) (by decide)) tf_4 bpz0_5 bpz0_6 bpz0_7 bpz0_8 bpz0_10 bpz0_11 bpz0_12 bpz0_13 bpz0_14 bpz0_18 bpz0_22 bpz0_29 tfz1) mt_X10_laysWords q_7_22 ⟨Nat.le_of_ble_eq_true rfl, Nat.le_of_ble_eq_true rfl⟩ hK hP hD hS hA hE [1, 2, 3] rfl rfl 2 rfl rfl rfl rfl hl.1 rfl (Nat.le_of_ble_eq_true rfl) dX10_nightTo_23 ⟨Nat.le_of_ble_eq_true rfl, Nat.le_of_ble_eq_true rfl⟩) hP hD hS hA [1, 2, 3] [0] rfl rfl rfl (by decide) (fun  w H locs hw hP hD hS => ?_)
      obtain ⟨f_12, tf_12, et_13, rfl⟩ := hw
      replace hR := tb hR et_13
      have hP : va_P V.1 vwCl [(z 15, aI V 900 f_3), (z 16, aI V 6 f_12), (z 0, .inr (10, mo z pz0_0 pz0_5 pz0_6 pz0_7 pz0_8 pz0_9 pz0_10 pz0_11 pz0_12 pz0_13 pz0_14 pz0_18 pz0_19 pz0_22 pz0_23 pz0_29)), (z 1, aI V 3075 fz1)] H := hP
      have hD := cpD hP hD
      refine lv_aload_n hx hb dX10_nightTo_26 rfl (lv_at hl 2 rfl) ?_
      refine jnI (wr := []) (rnV (rest := []) ⟨hx, hb, hml, hown, hg⟩ (k_X10_takesNow_0 l V z f_3 f_12 pz0_0 pz0_5 pz0_6 pz0_7 pz0_8 pz0_9 pz0_10 pz0_11 pz0_12 pz0_13 pz0_14 pz0_18 pz0_19 pz0_22 pz0_23 pz0_29 fz1 tf_12 bpz0_5 bpz0_6 bpz0_7 bpz0_8 bpz0_10 bpz0_11 bpz0_12 bpz0_13 bpz0_14 bpz0_18 bpz0_22 bpz0_29 tfz1 inn_5_1) mt_X10_takesNow q_7_35 ⟨Nat.le_of_ble_eq_true rfl, Nat.le_of_ble_eq_true rfl⟩ hK hP hD hS hA hE [0, 1, 2, 3] rfl rfl 2 rfl rfl rfl rfl hl.1 rfl (Nat.le_of_ble_eq_true rfl) dX10_nightTo_27 ⟨Nat.le_of_ble_eq_true rfl, Nat.le_of_ble_eq_true rfl⟩) hP hD hS hA [0, 1, 2, 3] [] rfl rfl rfl (by decide) (fun r_15 w H locs hw hP hD hS => ?_)
      obtain ⟨f_16, br_15, g_17, et_18, et_19, rfl⟩ := hw
      replace hR := tb0 hR
      replace hR := tb hR et_18
      replace hR := tb hR et_19
      have hP : va_P V.1 vwCl [(z 15, aI V 900 f_16), (z 16, aI V 6 f_12), (z 0, .inr (10, mo z pz0_0 pz0_5 pz0_6 pz0_7 pz0_8 pz0_9 pz0_10 pz0_11 pz0_12 pz0_13 pz0_14 pz0_18 pz0_19 pz0_22 pz0_23 pz0_29)), (z 1, aI V 3075 fz1)] H := hP
      have hD := cpD hP hD
      refine lv_if_eq (tgt := 77) hx hb dX10_nightTo_30 (by decide) (fun c_21 => ?_) (fun c_21 => ?_)
      · replace hR := ti hR c_21
        have b_22 : iv 0 0 r_15 := iv_q c_21 (iv_c (0 : Int32) (a := 0) (b := 0) (by decide))
        refine lv_iload hx hb dX10_nightTo_77 (lv_at hl 1 rfl) ?_
        refine lv_iload hx hb dX10_nightTo_79 (lv_at hl 0 rfl) ?_
        refine jnI (wr := [(z 15, aI V 900 f_16), (z 16, aI V 6 f_12), (z 0, .inr (10, mo z pz0_0 pz0_5 pz0_6 pz0_7 pz0_8 pz0_9 pz0_10 pz0_11 pz0_12 pz0_13 pz0_14 pz0_18 pz0_19 pz0_22 pz0_23 pz0_29)), (z 1, aI V 3075 fz1)]) (rnS (rest := [.int u_2]) ⟨hx, hb, hml, hown, hg⟩ (k_X10_digitOf_0 l V 0 (iv_c (0 : Int32) (by decide))) mt_X10_digitOf q_7_15 ⟨Nat.le_of_ble_eq_true rfl, Nat.le_of_ble_eq_true rfl⟩ hK hP hD hS hA hE [] rfl rfl rfl hl.1 rfl (Nat.le_of_ble_eq_true rfl) dX10_nightTo_81 ⟨Nat.le_of_ble_eq_true rfl, Nat.le_of_ble_eq_true rfl⟩) hP hD hS hA [] [0, 1, 2, 3] rfl rfl rfl (by decide) (fun r_23 w H locs hw hP hD hS => ?_)
        rcases hw with ⟨c_24, c_25, c_26, rfl, et_27, rfl⟩ | ⟨c_28, c_29, c_30, rfl, et_31, rfl⟩ | ⟨c_32, c_33, rfl, et_34, rfl⟩ | ⟨c_35, rfl, et_36, rfl⟩
        · have hP : va_P V.1 vwCl [(z 15, aI V 900 f_16), (z 16, aI V 6 f_12), (z 0, .inr (10, mo z pz0_0 pz0_5 pz0_6 pz0_7 pz0_8 pz0_9 pz0_10 pz0_11 pz0_12 pz0_13 pz0_14 pz0_18 pz0_19 pz0_22 pz0_23 pz0_29)), (z 1, aI V 3075 fz1)] H := hP
          have hD := cpD hP hD
          replace hR := ti hR et_27.symm
          exact absurd c_24 (by decide)
        · have hP : va_P V.1 vwCl [(z 15, aI V 900 f_16), (z 16, aI V 6 f_12), (z 0, .inr (10, mo z pz0_0 pz0_5 pz0_6 pz0_7 pz0_8 pz0_9 pz0_10 pz0_11 pz0_12 pz0_13 pz0_14 pz0_18 pz0_19 pz0_22 pz0_23 pz0_29)), (z 1, aI V 3075 fz1)] H := hP
          have hD := cpD hP hD
          replace hR := te hR (by rw [← et_31]; decide)
          replace hR := ti hR et_31.symm
          exact absurd c_28 (by decide)
        · have hP : va_P V.1 vwCl [(z 15, aI V 900 f_16), (z 16, aI V 6 f_12), (z 0, .inr (10, mo z pz0_0 pz0_5 pz0_6 pz0_7 pz0_8 pz0_9 pz0_10 pz0_11 pz0_12 pz0_13 pz0_14 pz0_18 pz0_19 pz0_22 pz0_23 pz0_29)), (z 1, aI V 3075 fz1)] H := hP
          have hD := cpD hP hD
          replace hR := te hR (by rw [← et_34]; decide)
          replace hR := te hR (by rw [← et_34]; decide)
          replace hR := ti hR et_34.symm
          exact absurd c_32 (by decide)
        · have hP : va_P V.1 vwCl [(z 15, aI V 900 f_16), (z 16, aI V 6 f_12), (z 0, .inr (10, mo z pz0_0 pz0_5 pz0_6 pz0_7 pz0_8 pz0_9 pz0_10 pz0_11 pz0_12 pz0_13 pz0_14 pz0_18 pz0_19 pz0_22 pz0_23 pz0_29)), (z 1, aI V 3075 fz1)] H := hP
          have hD := cpD hP hD
          replace hR := te hR (by rw [← et_36]; decide)
          replace hR := te hR (by rw [← et_36]; decide)
          replace hR := te hR (by rw [← et_36]; decide)
          refine lv_aload_n hx hb dX10_nightTo_84 rfl (lv_at hl 2 rfl) ?_
          refine jnI (wr := []) (rnV (rest := [.int 1, .int u_2]) ⟨hx, hb, hml, hown, hg⟩ (k_X10_addedNow_0 l V z f_16 f_12 pz0_0 pz0_5 pz0_6 pz0_7 pz0_8 pz0_9 pz0_10 pz0_11 pz0_12 pz0_13 pz0_14 pz0_18 pz0_19 pz0_22 pz0_23 pz0_29 fz1 tf_12 bpz0_5 bpz0_6 bpz0_7 bpz0_8 bpz0_10 bpz0_11 bpz0_12 bpz0_13 bpz0_14 bpz0_18 bpz0_22 bpz0_29 tfz1 g_17) mt_X10_addedNow q_7_48 ⟨Nat.le_of_ble_eq_true rfl, Nat.le_of_ble_eq_true rfl⟩ hK hP hD hS hA hE [0, 1, 2, 3] rfl rfl 2 rfl rfl rfl rfl hl.1 rfl (Nat.le_of_ble_eq_true rfl) dX10_nightTo_85 ⟨Nat.le_of_ble_eq_true rfl, Nat.le_of_ble_eq_true rfl⟩) hP hD hS hA [0, 1, 2, 3] [] rfl rfl rfl (by decide) (fun r_37 w H locs hw hP hD hS => ?_)
          obtain ⟨f_38, br_37, g_39, et_40, et_41, rfl⟩ := hw
          replace hR := tb0 hR
          replace hR := tb hR et_40
          replace hR := tb hR et_41
          have hP : va_P V.1 vwCl [(z 15, aI V 900 f_38), (z 16, aI V 6 f_12), (z 0, .inr (10, mo z pz0_0 pz0_5 pz0_6 pz0_7 pz0_8 pz0_9 pz0_10 pz0_11 pz0_12 pz0_13 pz0_14 pz0_18 pz0_19 pz0_22 pz0_23 pz0_29)), (z 1, aI V 3075 fz1)] H := hP
          have hD := cpD hP hD
          refine lv_imul hx hb dX10_nightTo_88 ?_
          refine lv_topi (fun x_43 ex_43 => ?_)
          have bx_43 : iv 0 4 x_43 := by rw [ex_43]; exact iv_cmul (iv_c (1 : Int32) (a := 1) (b := 1) (by decide)) br_37 (by decide)
          replace hR := tb hR ex_43
          refine lv_iadd hx hb dX10_nightTo_89 ?_
          refine lv_topi (fun x_44 ex_44 => ?_)
          have bx_44 : iv 0 4 x_44 := by rw [ex_44]; exact iv_add b_11 bx_43 (by decide)
          replace hR := tb hR ex_44
          refine lv_istore (lv' := [(4, .int x_44), (5, .int 0), (0, .ref (z 0)), (1, .int a1), (2, .int a2), (3, .int a3)]) hx hb dX10_nightTo_90 hl (by decide) rfl (fun ls hl => ?_)
          refine lv_iinc (v := 1) (lv' := [(5, .int 1), (4, .int x_44), (0, .ref (z 0)), (1, .int a1), (2, .int a2), (3, .int a3)]) hx hb dX10_nightTo_92 hl (k := 1) rfl (by decide +kernel) (by decide) rfl (fun ls hl => ?_)
          refine lv_goto (tgt := 6) hx hb dX10_nightTo_95 (by decide) ?_
          exact ihn_5 _ _ _ _ (by rw [en_5]; decide) ⟨1, x_44, f_38, f_12, (iv_c (1 : Int32) (by decide)), (iv_w bx_44 (by decide)), tf_12, (nb_o bx_44 (by decide)), g_39, (tbk hAn_5 hR), rfl, hP, hD, hS, lv_sub hl [0, 1, 2, 3, 4, 5] rfl⟩
      · replace hR := te hR c_21
        have b_45 : iv 1 1 r_15 := iv_n0 c_21 br_15 (iv_c (0 : Int32) (a := 0) (b := 0) (by decide)) (by decide)
        refine lv_iload hx hb dX10_nightTo_33 (lv_at hl 1 rfl) ?_
        refine lv_sipush (v := 625) hx hb dX10_nightTo_35 (by decide) ?_
        refine lv_iconst (v := 1) hx hb dX10_nightTo_38 (by decide) ?_
        refine lv_iload hx hb dX10_nightTo_39 (lv_at hl 0 rfl) ?_
        refine lv_ishl hx hb dX10_nightTo_41 ?_
        refine tpi (y := 1) (by decide +kernel) ?_
        refine lv_imul hx hb dX10_nightTo_42 ?_
        refine tpi (y := 625) (by decide +kernel) ?_
        refine lv_iload hx hb dX10_nightTo_43 (lv_at hl 0 rfl) ?_
        refine jnI (wr := [(z 15, aI V 900 f_16), (z 16, aI V 6 f_12), (z 0, .inr (10, mo z pz0_0 pz0_5 pz0_6 pz0_7 pz0_8 pz0_9 pz0_10 pz0_11 pz0_12 pz0_13 pz0_14 pz0_18 pz0_19 pz0_22 pz0_23 pz0_29)), (z 1, aI V 3075 fz1)]) (rnS (rest := [.int 625, .int u_2]) ⟨hx, hb, hml, hown, hg⟩ (k_X10_digitOf_0 l V 0 (iv_c (0 : Int32) (by decide))) mt_X10_digitOf q_7_15 ⟨Nat.le_of_ble_eq_true rfl, Nat.le_of_ble_eq_true rfl⟩ hK hP hD hS hA hE [] rfl rfl rfl hl.1 rfl (Nat.le_of_ble_eq_true rfl) dX10_nightTo_45 ⟨Nat.le_of_ble_eq_true rfl, Nat.le_of_ble_eq_true rfl⟩) hP hD hS hA [] [0, 1, 2, 3] rfl rfl rfl (by decide) (fun r_46 w H locs hw hP hD hS => ?_)
        rcases hw with ⟨c_47, c_48, c_49, rfl, et_50, rfl⟩ | ⟨c_51, c_52, c_53, rfl, et_54, rfl⟩ | ⟨c_55, c_56, rfl, et_57, rfl⟩ | ⟨c_58, rfl, et_59, rfl⟩
        · have hP : va_P V.1 vwCl [(z 15, aI V 900 f_16), (z 16, aI V 6 f_12), (z 0, .inr (10, mo z pz0_0 pz0_5 pz0_6 pz0_7 pz0_8 pz0_9 pz0_10 pz0_11 pz0_12 pz0_13 pz0_14 pz0_18 pz0_19 pz0_22 pz0_23 pz0_29)), (z 1, aI V 3075 fz1)] H := hP
          have hD := cpD hP hD
          replace hR := ti hR et_50.symm
          exact absurd c_47 (by decide)
        · have hP : va_P V.1 vwCl [(z 15, aI V 900 f_16), (z 16, aI V 6 f_12), (z 0, .inr (10, mo z pz0_0 pz0_5 pz0_6 pz0_7 pz0_8 pz0_9 pz0_10 pz0_11 pz0_12 pz0_13 pz0_14 pz0_18 pz0_19 pz0_22 pz0_23 pz0_29)), (z 1, aI V 3075 fz1)] H := hP
          have hD := cpD hP hD
          replace hR := te hR (by rw [← et_54]; decide)
          replace hR := ti hR et_54.symm
          exact absurd c_51 (by decide)
        · have hP : va_P V.1 vwCl [(z 15, aI V 900 f_16), (z 16, aI V 6 f_12), (z 0, .inr (10, mo z pz0_0 pz0_5 pz0_6 pz0_7 pz0_8 pz0_9 pz0_10 pz0_11 pz0_12 pz0_13 pz0_14 pz0_18 pz0_19 pz0_22 pz0_23 pz0_29)), (z 1, aI V 3075 fz1)] H := hP
          have hD := cpD hP hD
          replace hR := te hR (by rw [← et_57]; decide)
          replace hR := te hR (by rw [← et_57]; decide)
          replace hR := ti hR et_57.symm
          exact absurd c_55 (by decide)
        · have hP : va_P V.1 vwCl [(z 15, aI V 900 f_16), (z 16, aI V 6 f_12), (z 0, .inr (10, mo z pz0_0 pz0_5 pz0_6 pz0_7 pz0_8 pz0_9 pz0_10 pz0_11 pz0_12 pz0_13 pz0_14 pz0_18 pz0_19 pz0_22 pz0_23 pz0_29)), (z 1, aI V 3075 fz1)] H := hP
          have hD := cpD hP hD
          replace hR := te hR (by rw [← et_59]; decide)
          replace hR := te hR (by rw [← et_59]; decide)
          replace hR := te hR (by rw [← et_59]; decide)
          refine lv_aload_n hx hb dX10_nightTo_48 rfl (lv_at hl 2 rfl) ?_
          refine va_get (ci := 10) (v := .ref (z 16)) (C := RX10) (T := TX10) (N := 40) hx hb hg inX10 hown hK hP 2 rfl rfl 16 (by decide) (hg _ q_6_0) (fun _ h9 => h9) rfl dX10_nightTo_49 ?_
          refine lv_iconst (v := 1) hx hb dX10_nightTo_52 (by decide) ?_
          refine va_iald hx hb hK hP 1 0 rfl rfl (vin (by decide +kernel)) dX10_nightTo_53 ?_
          refine lv_topi (fun x_60 ex_60 => ?_)
          have bx_60 : iv 0 4 x_60 := by rw [ex_60]; exact rdT (a := 1) (n := 1) tf_12 (iv_c (1 : Int32) (a := 1) (b := 1) (by decide)) (by decide) (by decide +kernel)
          replace hR := tb hR ex_60
          refine lv_if_le (tgt := 68) hx hb dX10_nightTo_54 (by decide) (fun c_61 => ?_) (fun c_61 => ?_)
          · replace hR := ti hR c_61
            have b_62 : iv 0 0 x_60 := iv_e1 c_61 bx_60 (iv_c (0 : Int32) (a := 0) (b := 0) (by decide)) (by decide)
            refine lv_iconst (v := 0) hx hb dX10_nightTo_68 (by decide) ?_
            refine lv_imul hx hb dX10_nightTo_69 ?_
            refine tpi (y := 0) (by decide +kernel) ?_
            refine lv_iadd hx hb dX10_nightTo_70 ?_
            refine tpi (y := 625) (by decide +kernel) ?_
            refine lv_iadd hx hb dX10_nightTo_71 ?_
            refine lv_topi (fun x_63 ex_63 => ?_)
            have bx_63 : iv 625 625 x_63 := by rw [ex_63]; exact iv_add b_11 (iv_c (625 : Int32) (a := 625) (b := 625) (by decide)) (by decide)
            replace hR := tb hR ex_63
            refine lv_istore (lv' := [(4, .int x_63), (5, .int 0), (0, .ref (z 0)), (1, .int a1), (2, .int a2), (3, .int a3)]) hx hb dX10_nightTo_72 hl (by decide) rfl (fun ls hl => ?_)
            refine lv_goto (tgt := 92) hx hb dX10_nightTo_74 (by decide) ?_
            refine lv_iinc (v := 1) (lv' := [(5, .int 1), (4, .int x_63), (0, .ref (z 0)), (1, .int a1), (2, .int a2), (3, .int a3)]) hx hb dX10_nightTo_92 hl (k := 1) rfl (by decide +kernel) (by decide) rfl (fun ls hl => ?_)
            refine lv_goto (tgt := 6) hx hb dX10_nightTo_95 (by decide) ?_
            exact ihn_5 _ _ _ _ (by rw [en_5]; decide) ⟨1, x_63, f_16, f_12, (iv_c (1 : Int32) (by decide)), (iv_w bx_63 (by decide)), tf_12, (nb_o bx_63 (by decide)), g_17, (tbk hAn_5 hR), rfl, hP, hD, hS, lv_sub hl [0, 1, 2, 3, 4, 5] rfl⟩
          · replace hR := te hR c_61
            have b_64 : iv 1 4 x_60 := iv_l2 (Int32.not_le.mp c_61) (iv_c (0 : Int32) (a := 0) (b := 0) (by decide)) bx_60 (by decide)
            refine lv_aload_n hx hb dX10_nightTo_57 rfl (lv_at hl 2 rfl) ?_
            refine va_get (ci := 10) (v := .ref (z 16)) (C := RX10) (T := TX10) (N := 40) hx hb hg inX10 hown hK hP 2 rfl rfl 16 (by decide) (hg _ q_6_0) (fun _ h9 => h9) rfl dX10_nightTo_58 ?_
            refine lv_iconst (v := 1) hx hb dX10_nightTo_61 (by decide) ?_
            refine va_iald hx hb hK hP 1 0 rfl rfl (vin (by decide +kernel)) dX10_nightTo_62 ?_
            refine tpi (y := x_60) ex_60.symm ?_
            refine lv_iconst (v := 1) hx hb dX10_nightTo_63 (by decide) ?_
            refine lv_isub hx hb dX10_nightTo_64 ?_
            refine lv_topi (fun x_65 ex_65 => ?_)
            have bx_65 : iv 0 3 x_65 := by rw [ex_65]; exact iv_sub b_64 (iv_c (1 : Int32) (a := 1) (b := 1) (by decide)) (by decide)
            replace hR := tb hR ex_65
            refine lv_goto (tgt := 69) hx hb dX10_nightTo_65 (by decide) ?_
            refine lv_imul hx hb dX10_nightTo_69 ?_
            refine lv_topi (fun x_66 ex_66 => ?_)
            have bx_66 : iv 0 3 x_66 := by rw [ex_66]; exact iv_cmul (iv_c (1 : Int32) (a := 1) (b := 1) (by decide)) bx_65 (by decide)
            replace hR := tb hR ex_66
            refine lv_iadd hx hb dX10_nightTo_70 ?_
            refine lv_topi (fun x_67 ex_67 => ?_)
            have bx_67 : iv 625 628 x_67 := by rw [ex_67]; exact iv_add (iv_c (625 : Int32) (a := 625) (b := 625) (by decide)) bx_66 (by decide)
            replace hR := tb hR ex_67
            refine lv_iadd hx hb dX10_nightTo_71 ?_
            refine lv_topi (fun x_68 ex_68 => ?_)
            have bx_68 : iv 625 628 x_68 := by rw [ex_68]; exact iv_add b_11 bx_67 (by decide)
            replace hR := tb hR ex_68
            refine lv_istore (lv' := [(4, .int x_68), (5, .int 0), (0, .ref (z 0)), (1, .int a1), (2, .int a2), (3, .int a3)]) hx hb dX10_nightTo_72 hl (by decide) rfl (fun ls hl => ?_)
            refine lv_goto (tgt := 92) hx hb dX10_nightTo_74 (by decide) ?_
            refine lv_iinc (v := 1) (lv' := [(5, .int 1), (4, .int x_68), (0, .ref (z 0)), (1, .int a1), (2, .int a2), (3, .int a3)]) hx hb dX10_nightTo_92 hl (k := 1) rfl (by decide +kernel) (by decide) rfl (fun ls hl => ?_)
            refine lv_goto (tgt := 6) hx hb dX10_nightTo_95 (by decide) ?_
            exact ihn_5 _ _ _ _ (by rw [en_5]; decide) ⟨1, x_68, f_16, f_12, (iv_c (1 : Int32) (by decide)), (iv_w bx_68 (by decide)), tf_12, (nb_o bx_68 (by decide)), g_17, (tbk hAn_5 hR), rfl, hP, hD, hS, lv_sub hl [0, 1, 2, 3, 4, 5] rfl⟩
    · replace hR := te hR (by decide)
      replace hR := ti hR rfl
      have b_69 : iv 0 628 u_2 := nb_i inn_5_0 (by decide)
      refine lv_aload_n hx hb dX10_nightTo_17 rfl (lv_at hl 2 rfl) ?_
      refine lv_iload_n hx hb dX10_nightTo_18 rfl (lv_at hl 3 rfl) ?_
      refine lv_iload hx hb dX10_nightTo_19 (lv_at hl 0 rfl) ?_
      refine lv_iload_n hx hb dX10_nightTo_21 rfl (lv_at hl 4 rfl) ?_
      refine lv_iload_n hx hb dX10_nightTo_22 rfl (lv_at hl 5 rfl) ?_
      refine jnV (wr := [(z 15, aI V 900 f_3)]) (rnV (rest := []) ⟨hx, hb, hml, hown, hg⟩ (k_X10_laysWords_0 l V z a1 1 a2 a3 f_4 pz0_0 pz0_5 pz0_6 pz0_7 pz0_8 pz0_9 pz0_10 pz0_11 pz0_12 pz0_13 pz0_14 pz0_18 pz0_19 pz0_22 pz0_23 pz0_29 fz1 ba1 (iv_c (1 : Int32) (by decide)) tf_4 bpz0_5 bpz0_6 bpz0_7 bpz0_8 bpz0_10 bpz0_11 bpz0_12 bpz0_13 bpz0_14 bpz0_18 bpz0_22 bpz0_29 tfz1) mt_X10_laysWords q_7_22 ⟨Nat.le_of_ble_eq_true rfl, Nat.le_of_ble_eq_true rfl⟩ hK hP hD hS hA hE [1, 2, 3] rfl rfl 2 rfl rfl rfl rfl hl.1 rfl (Nat.le_of_ble_eq_true rfl) dX10_nightTo_23 ⟨Nat.le_of_ble_eq_true rfl, Nat.le_of_ble_eq_true rfl⟩) hP hD hS hA [1, 2, 3] [0] rfl rfl rfl (by decide) (fun  w H locs hw hP hD hS => ?_)
      obtain ⟨f_70, tf_70, et_71, rfl⟩ := hw
      replace hR := tb hR et_71
      have hP : va_P V.1 vwCl [(z 15, aI V 900 f_3), (z 16, aI V 6 f_70), (z 0, .inr (10, mo z pz0_0 pz0_5 pz0_6 pz0_7 pz0_8 pz0_9 pz0_10 pz0_11 pz0_12 pz0_13 pz0_14 pz0_18 pz0_19 pz0_22 pz0_23 pz0_29)), (z 1, aI V 3075 fz1)] H := hP
      have hD := cpD hP hD
      refine lv_aload_n hx hb dX10_nightTo_26 rfl (lv_at hl 2 rfl) ?_
      refine jnI (wr := []) (rnV (rest := []) ⟨hx, hb, hml, hown, hg⟩ (k_X10_takesNow_0 l V z f_3 f_70 pz0_0 pz0_5 pz0_6 pz0_7 pz0_8 pz0_9 pz0_10 pz0_11 pz0_12 pz0_13 pz0_14 pz0_18 pz0_19 pz0_22 pz0_23 pz0_29 fz1 tf_70 bpz0_5 bpz0_6 bpz0_7 bpz0_8 bpz0_10 bpz0_11 bpz0_12 bpz0_13 bpz0_14 bpz0_18 bpz0_22 bpz0_29 tfz1 inn_5_1) mt_X10_takesNow q_7_35 ⟨Nat.le_of_ble_eq_true rfl, Nat.le_of_ble_eq_true rfl⟩ hK hP hD hS hA hE [0, 1, 2, 3] rfl rfl 2 rfl rfl rfl rfl hl.1 rfl (Nat.le_of_ble_eq_true rfl) dX10_nightTo_27 ⟨Nat.le_of_ble_eq_true rfl, Nat.le_of_ble_eq_true rfl⟩) hP hD hS hA [0, 1, 2, 3] [] rfl rfl rfl (by decide) (fun r_73 w H locs hw hP hD hS => ?_)
      obtain ⟨f_74, br_73, g_75, et_76, et_77, rfl⟩ := hw
      replace hR := tb0 hR
      replace hR := tb hR et_76
      replace hR := tb hR et_77
      have hP : va_P V.1 vwCl [(z 15, aI V 900 f_74), (z 16, aI V 6 f_70), (z 0, .inr (10, mo z pz0_0 pz0_5 pz0_6 pz0_7 pz0_8 pz0_9 pz0_10 pz0_11 pz0_12 pz0_13 pz0_14 pz0_18 pz0_19 pz0_22 pz0_23 pz0_29)), (z 1, aI V 3075 fz1)] H := hP
      have hD := cpD hP hD
      refine lv_if_eq (tgt := 77) hx hb dX10_nightTo_30 (by decide) (fun c_79 => ?_) (fun c_79 => ?_)
      · replace hR := ti hR c_79
        have b_80 : iv 0 0 r_73 := iv_q c_79 (iv_c (0 : Int32) (a := 0) (b := 0) (by decide))
        refine lv_iload hx hb dX10_nightTo_77 (lv_at hl 1 rfl) ?_
        refine lv_iload hx hb dX10_nightTo_79 (lv_at hl 0 rfl) ?_
        refine jnI (wr := [(z 15, aI V 900 f_74), (z 16, aI V 6 f_70), (z 0, .inr (10, mo z pz0_0 pz0_5 pz0_6 pz0_7 pz0_8 pz0_9 pz0_10 pz0_11 pz0_12 pz0_13 pz0_14 pz0_18 pz0_19 pz0_22 pz0_23 pz0_29)), (z 1, aI V 3075 fz1)]) (rnS (rest := [.int u_2]) ⟨hx, hb, hml, hown, hg⟩ (k_X10_digitOf_0 l V 1 (iv_c (1 : Int32) (by decide))) mt_X10_digitOf q_7_15 ⟨Nat.le_of_ble_eq_true rfl, Nat.le_of_ble_eq_true rfl⟩ hK hP hD hS hA hE [] rfl rfl rfl hl.1 rfl (Nat.le_of_ble_eq_true rfl) dX10_nightTo_81 ⟨Nat.le_of_ble_eq_true rfl, Nat.le_of_ble_eq_true rfl⟩) hP hD hS hA [] [0, 1, 2, 3] rfl rfl rfl (by decide) (fun r_81 w H locs hw hP hD hS => ?_)
        rcases hw with ⟨c_82, c_83, c_84, rfl, et_85, rfl⟩ | ⟨c_86, c_87, c_88, rfl, et_89, rfl⟩ | ⟨c_90, c_91, rfl, et_92, rfl⟩ | ⟨c_93, rfl, et_94, rfl⟩
        · have hP : va_P V.1 vwCl [(z 15, aI V 900 f_74), (z 16, aI V 6 f_70), (z 0, .inr (10, mo z pz0_0 pz0_5 pz0_6 pz0_7 pz0_8 pz0_9 pz0_10 pz0_11 pz0_12 pz0_13 pz0_14 pz0_18 pz0_19 pz0_22 pz0_23 pz0_29)), (z 1, aI V 3075 fz1)] H := hP
          have hD := cpD hP hD
          replace hR := ti hR et_85.symm
          exact absurd c_83 (by decide)
        · have hP : va_P V.1 vwCl [(z 15, aI V 900 f_74), (z 16, aI V 6 f_70), (z 0, .inr (10, mo z pz0_0 pz0_5 pz0_6 pz0_7 pz0_8 pz0_9 pz0_10 pz0_11 pz0_12 pz0_13 pz0_14 pz0_18 pz0_19 pz0_22 pz0_23 pz0_29)), (z 1, aI V 3075 fz1)] H := hP
          have hD := cpD hP hD
          replace hR := te hR (by rw [← et_89]; decide)
          replace hR := ti hR et_89.symm
          exact absurd c_87 (by decide)
        · have hP : va_P V.1 vwCl [(z 15, aI V 900 f_74), (z 16, aI V 6 f_70), (z 0, .inr (10, mo z pz0_0 pz0_5 pz0_6 pz0_7 pz0_8 pz0_9 pz0_10 pz0_11 pz0_12 pz0_13 pz0_14 pz0_18 pz0_19 pz0_22 pz0_23 pz0_29)), (z 1, aI V 3075 fz1)] H := hP
          have hD := cpD hP hD
          replace hR := te hR (by rw [← et_92]; decide)
          replace hR := te hR (by rw [← et_92]; decide)
          replace hR := ti hR et_92.symm
          refine lv_aload_n hx hb dX10_nightTo_84 rfl (lv_at hl 2 rfl) ?_
          refine jnI (wr := []) (rnV (rest := [.int 5, .int u_2]) ⟨hx, hb, hml, hown, hg⟩ (k_X10_addedNow_0 l V z f_74 f_70 pz0_0 pz0_5 pz0_6 pz0_7 pz0_8 pz0_9 pz0_10 pz0_11 pz0_12 pz0_13 pz0_14 pz0_18 pz0_19 pz0_22 pz0_23 pz0_29 fz1 tf_70 bpz0_5 bpz0_6 bpz0_7 bpz0_8 bpz0_10 bpz0_11 bpz0_12 bpz0_13 bpz0_14 bpz0_18 bpz0_22 bpz0_29 tfz1 g_75) mt_X10_addedNow q_7_48 ⟨Nat.le_of_ble_eq_true rfl, Nat.le_of_ble_eq_true rfl⟩ hK hP hD hS hA hE [0, 1, 2, 3] rfl rfl 2 rfl rfl rfl rfl hl.1 rfl (Nat.le_of_ble_eq_true rfl) dX10_nightTo_85 ⟨Nat.le_of_ble_eq_true rfl, Nat.le_of_ble_eq_true rfl⟩) hP hD hS hA [0, 1, 2, 3] [] rfl rfl rfl (by decide) (fun r_95 w H locs hw hP hD hS => ?_)
          obtain ⟨f_96, br_95, g_97, et_98, et_99, rfl⟩ := hw
          replace hR := tb0 hR
          replace hR := tb hR et_98
          replace hR := tb hR et_99
          have hP : va_P V.1 vwCl [(z 15, aI V 900 f_96), (z 16, aI V 6 f_70), (z 0, .inr (10, mo z pz0_0 pz0_5 pz0_6 pz0_7 pz0_8 pz0_9 pz0_10 pz0_11 pz0_12 pz0_13 pz0_14 pz0_18 pz0_19 pz0_22 pz0_23 pz0_29)), (z 1, aI V 3075 fz1)] H := hP
          have hD := cpD hP hD
          refine lv_imul hx hb dX10_nightTo_88 ?_
          refine lv_topi (fun x_101 ex_101 => ?_)
          have bx_101 : iv 0 20 x_101 := by rw [ex_101]; exact iv_cmul (iv_c (5 : Int32) (a := 5) (b := 5) (by decide)) br_95 (by decide)
          replace hR := tb hR ex_101
          refine lv_iadd hx hb dX10_nightTo_89 ?_
          refine lv_topi (fun x_102 ex_102 => ?_)
          have bx_102 : iv 0 648 x_102 := by rw [ex_102]; exact iv_add b_69 bx_101 (by decide)
          replace hR := tb hR ex_102
          refine lv_istore (lv' := [(4, .int x_102), (5, .int 1), (0, .ref (z 0)), (1, .int a1), (2, .int a2), (3, .int a3)]) hx hb dX10_nightTo_90 hl (by decide) rfl (fun ls hl => ?_)
          refine lv_iinc (v := 2) (lv' := [(5, .int 2), (4, .int x_102), (0, .ref (z 0)), (1, .int a1), (2, .int a2), (3, .int a3)]) hx hb dX10_nightTo_92 hl (k := 1) rfl (by decide +kernel) (by decide) rfl (fun ls hl => ?_)
          refine lv_goto (tgt := 6) hx hb dX10_nightTo_95 (by decide) ?_
          exact ihn_5 _ _ _ _ (by rw [en_5]; decide) ⟨2, x_102, f_96, f_70, (iv_c (2 : Int32) (by decide)), (iv_w bx_102 (by decide)), tf_70, (nb_o bx_102 (by decide)), g_97, (tbk hAn_5 hR), rfl, hP, hD, hS, lv_sub hl [0, 1, 2, 3, 4, 5] rfl⟩
        · have hP : va_P V.1 vwCl [(z 15, aI V 900 f_74), (z 16, aI V 6 f_70), (z 0, .inr (10, mo z pz0_0 pz0_5 pz0_6 pz0_7 pz0_8 pz0_9 pz0_10 pz0_11 pz0_12 pz0_13 pz0_14 pz0_18 pz0_19 pz0_22 pz0_23 pz0_29)), (z 1, aI V 3075 fz1)] H := hP
          have hD := cpD hP hD
          replace hR := te hR (by rw [← et_94]; decide)
          replace hR := te hR (by rw [← et_94]; decide)
          replace hR := te hR (by rw [← et_94]; decide)
          exact absurd c_93 (by decide)
      · replace hR := te hR c_79
        have b_103 : iv 1 1 r_73 := iv_n0 c_79 br_73 (iv_c (0 : Int32) (a := 0) (b := 0) (by decide)) (by decide)
        refine lv_iload hx hb dX10_nightTo_33 (lv_at hl 1 rfl) ?_
        refine lv_sipush (v := 625) hx hb dX10_nightTo_35 (by decide) ?_
        refine lv_iconst (v := 1) hx hb dX10_nightTo_38 (by decide) ?_
        refine lv_iload hx hb dX10_nightTo_39 (lv_at hl 0 rfl) ?_
        refine lv_ishl hx hb dX10_nightTo_41 ?_
        refine tpi (y := 2) (by decide +kernel) ?_
        refine lv_imul hx hb dX10_nightTo_42 ?_
        refine tpi (y := 1250) (by decide +kernel) ?_
        refine lv_iload hx hb dX10_nightTo_43 (lv_at hl 0 rfl) ?_
        refine jnI (wr := [(z 15, aI V 900 f_74), (z 16, aI V 6 f_70), (z 0, .inr (10, mo z pz0_0 pz0_5 pz0_6 pz0_7 pz0_8 pz0_9 pz0_10 pz0_11 pz0_12 pz0_13 pz0_14 pz0_18 pz0_19 pz0_22 pz0_23 pz0_29)), (z 1, aI V 3075 fz1)]) (rnS (rest := [.int 1250, .int u_2]) ⟨hx, hb, hml, hown, hg⟩ (k_X10_digitOf_0 l V 1 (iv_c (1 : Int32) (by decide))) mt_X10_digitOf q_7_15 ⟨Nat.le_of_ble_eq_true rfl, Nat.le_of_ble_eq_true rfl⟩ hK hP hD hS hA hE [] rfl rfl rfl hl.1 rfl (Nat.le_of_ble_eq_true rfl) dX10_nightTo_45 ⟨Nat.le_of_ble_eq_true rfl, Nat.le_of_ble_eq_true rfl⟩) hP hD hS hA [] [0, 1, 2, 3] rfl rfl rfl (by decide) (fun r_104 w H locs hw hP hD hS => ?_)
        rcases hw with ⟨c_105, c_106, c_107, rfl, et_108, rfl⟩ | ⟨c_109, c_110, c_111, rfl, et_112, rfl⟩ | ⟨c_113, c_114, rfl, et_115, rfl⟩ | ⟨c_116, rfl, et_117, rfl⟩
        · have hP : va_P V.1 vwCl [(z 15, aI V 900 f_74), (z 16, aI V 6 f_70), (z 0, .inr (10, mo z pz0_0 pz0_5 pz0_6 pz0_7 pz0_8 pz0_9 pz0_10 pz0_11 pz0_12 pz0_13 pz0_14 pz0_18 pz0_19 pz0_22 pz0_23 pz0_29)), (z 1, aI V 3075 fz1)] H := hP
          have hD := cpD hP hD
          replace hR := ti hR et_108.symm
          exact absurd c_106 (by decide)
        · have hP : va_P V.1 vwCl [(z 15, aI V 900 f_74), (z 16, aI V 6 f_70), (z 0, .inr (10, mo z pz0_0 pz0_5 pz0_6 pz0_7 pz0_8 pz0_9 pz0_10 pz0_11 pz0_12 pz0_13 pz0_14 pz0_18 pz0_19 pz0_22 pz0_23 pz0_29)), (z 1, aI V 3075 fz1)] H := hP
          have hD := cpD hP hD
          replace hR := te hR (by rw [← et_112]; decide)
          replace hR := ti hR et_112.symm
          exact absurd c_110 (by decide)
        · have hP : va_P V.1 vwCl [(z 15, aI V 900 f_74), (z 16, aI V 6 f_70), (z 0, .inr (10, mo z pz0_0 pz0_5 pz0_6 pz0_7 pz0_8 pz0_9 pz0_10 pz0_11 pz0_12 pz0_13 pz0_14 pz0_18 pz0_19 pz0_22 pz0_23 pz0_29)), (z 1, aI V 3075 fz1)] H := hP
          have hD := cpD hP hD
          replace hR := te hR (by rw [← et_115]; decide)
          replace hR := te hR (by rw [← et_115]; decide)
          replace hR := ti hR et_115.symm
          refine lv_aload_n hx hb dX10_nightTo_48 rfl (lv_at hl 2 rfl) ?_
          refine va_get (ci := 10) (v := .ref (z 16)) (C := RX10) (T := TX10) (N := 40) hx hb hg inX10 hown hK hP 2 rfl rfl 16 (by decide) (hg _ q_6_0) (fun _ h9 => h9) rfl dX10_nightTo_49 ?_
          refine lv_iconst (v := 1) hx hb dX10_nightTo_52 (by decide) ?_
          refine va_iald hx hb hK hP 1 0 rfl rfl (vin (by decide +kernel)) dX10_nightTo_53 ?_
          refine lv_topi (fun x_118 ex_118 => ?_)
          have bx_118 : iv 0 4 x_118 := by rw [ex_118]; exact rdT (a := 1) (n := 1) tf_70 (iv_c (1 : Int32) (a := 1) (b := 1) (by decide)) (by decide) (by decide +kernel)
          replace hR := tb hR ex_118
          refine lv_if_le (tgt := 68) hx hb dX10_nightTo_54 (by decide) (fun c_119 => ?_) (fun c_119 => ?_)
          · replace hR := ti hR c_119
            have b_120 : iv 0 0 x_118 := iv_e1 c_119 bx_118 (iv_c (0 : Int32) (a := 0) (b := 0) (by decide)) (by decide)
            refine lv_iconst (v := 0) hx hb dX10_nightTo_68 (by decide) ?_
            refine lv_imul hx hb dX10_nightTo_69 ?_
            refine tpi (y := 0) (by decide +kernel) ?_
            refine lv_iadd hx hb dX10_nightTo_70 ?_
            refine tpi (y := 1250) (by decide +kernel) ?_
            refine lv_iadd hx hb dX10_nightTo_71 ?_
            refine lv_topi (fun x_121 ex_121 => ?_)
            have bx_121 : iv 1250 1878 x_121 := by rw [ex_121]; exact iv_add b_69 (iv_c (1250 : Int32) (a := 1250) (b := 1250) (by decide)) (by decide)
            replace hR := tb hR ex_121
            refine lv_istore (lv' := [(4, .int x_121), (5, .int 1), (0, .ref (z 0)), (1, .int a1), (2, .int a2), (3, .int a3)]) hx hb dX10_nightTo_72 hl (by decide) rfl (fun ls hl => ?_)
            refine lv_goto (tgt := 92) hx hb dX10_nightTo_74 (by decide) ?_
            refine lv_iinc (v := 2) (lv' := [(5, .int 2), (4, .int x_121), (0, .ref (z 0)), (1, .int a1), (2, .int a2), (3, .int a3)]) hx hb dX10_nightTo_92 hl (k := 1) rfl (by decide +kernel) (by decide) rfl (fun ls hl => ?_)
            refine lv_goto (tgt := 6) hx hb dX10_nightTo_95 (by decide) ?_
            exact ihn_5 _ _ _ _ (by rw [en_5]; decide) ⟨2, x_121, f_74, f_70, (iv_c (2 : Int32) (by decide)), (iv_w bx_121 (by decide)), tf_70, (nb_o bx_121 (by decide)), g_75, (tbk hAn_5 hR), rfl, hP, hD, hS, lv_sub hl [0, 1, 2, 3, 4, 5] rfl⟩
          · replace hR := te hR c_119
            have b_122 : iv 1 4 x_118 := iv_l2 (Int32.not_le.mp c_119) (iv_c (0 : Int32) (a := 0) (b := 0) (by decide)) bx_118 (by decide)
            refine lv_aload_n hx hb dX10_nightTo_57 rfl (lv_at hl 2 rfl) ?_
            refine va_get (ci := 10) (v := .ref (z 16)) (C := RX10) (T := TX10) (N := 40) hx hb hg inX10 hown hK hP 2 rfl rfl 16 (by decide) (hg _ q_6_0) (fun _ h9 => h9) rfl dX10_nightTo_58 ?_
            refine lv_iconst (v := 1) hx hb dX10_nightTo_61 (by decide) ?_
            refine va_iald hx hb hK hP 1 0 rfl rfl (vin (by decide +kernel)) dX10_nightTo_62 ?_
            refine tpi (y := x_118) ex_118.symm ?_
            refine lv_iconst (v := 1) hx hb dX10_nightTo_63 (by decide) ?_
            refine lv_isub hx hb dX10_nightTo_64 ?_
            refine lv_topi (fun x_123 ex_123 => ?_)
            have bx_123 : iv 0 3 x_123 := by rw [ex_123]; exact iv_sub b_122 (iv_c (1 : Int32) (a := 1) (b := 1) (by decide)) (by decide)
            replace hR := tb hR ex_123
            refine lv_goto (tgt := 69) hx hb dX10_nightTo_65 (by decide) ?_
            refine lv_imul hx hb dX10_nightTo_69 ?_
            refine lv_topi (fun x_124 ex_124 => ?_)
            have bx_124 : iv 0 15 x_124 := by rw [ex_124]; exact iv_cmul (iv_c (5 : Int32) (a := 5) (b := 5) (by decide)) bx_123 (by decide)
            replace hR := tb hR ex_124
            refine lv_iadd hx hb dX10_nightTo_70 ?_
            refine lv_topi (fun x_125 ex_125 => ?_)
            have bx_125 : iv 1250 1265 x_125 := by rw [ex_125]; exact iv_add (iv_c (1250 : Int32) (a := 1250) (b := 1250) (by decide)) bx_124 (by decide)
            replace hR := tb hR ex_125
            refine lv_iadd hx hb dX10_nightTo_71 ?_
            refine lv_topi (fun x_126 ex_126 => ?_)
            have bx_126 : iv 1250 1893 x_126 := by rw [ex_126]; exact iv_add b_69 bx_125 (by decide)
            replace hR := tb hR ex_126
            refine lv_istore (lv' := [(4, .int x_126), (5, .int 1), (0, .ref (z 0)), (1, .int a1), (2, .int a2), (3, .int a3)]) hx hb dX10_nightTo_72 hl (by decide) rfl (fun ls hl => ?_)
            refine lv_goto (tgt := 92) hx hb dX10_nightTo_74 (by decide) ?_
            refine lv_iinc (v := 2) (lv' := [(5, .int 2), (4, .int x_126), (0, .ref (z 0)), (1, .int a1), (2, .int a2), (3, .int a3)]) hx hb dX10_nightTo_92 hl (k := 1) rfl (by decide +kernel) (by decide) rfl (fun ls hl => ?_)
            refine lv_goto (tgt := 6) hx hb dX10_nightTo_95 (by decide) ?_
            exact ihn_5 _ _ _ _ (by rw [en_5]; decide) ⟨2, x_126, f_74, f_70, (iv_c (2 : Int32) (by decide)), (iv_w bx_126 (by decide)), tf_70, (nb_o bx_126 (by decide)), g_75, (tbk hAn_5 hR), rfl, hP, hD, hS, lv_sub hl [0, 1, 2, 3, 4, 5] rfl⟩
        · have hP : va_P V.1 vwCl [(z 15, aI V 900 f_74), (z 16, aI V 6 f_70), (z 0, .inr (10, mo z pz0_0 pz0_5 pz0_6 pz0_7 pz0_8 pz0_9 pz0_10 pz0_11 pz0_12 pz0_13 pz0_14 pz0_18 pz0_19 pz0_22 pz0_23 pz0_29)), (z 1, aI V 3075 fz1)] H := hP
          have hD := cpD hP hD
          replace hR := te hR (by rw [← et_117]; decide)
          replace hR := te hR (by rw [← et_117]; decide)
          replace hR := te hR (by rw [← et_117]; decide)
          exact absurd c_116 (by decide)
    · replace hR := te hR (by decide)
      replace hR := te hR (by decide)
      replace hR := ti hR rfl
      have b_127 : iv 0 1893 u_2 := nb_i inn_5_0 (by decide)
      refine lv_aload_n hx hb dX10_nightTo_17 rfl (lv_at hl 2 rfl) ?_
      refine lv_iload_n hx hb dX10_nightTo_18 rfl (lv_at hl 3 rfl) ?_
      refine lv_iload hx hb dX10_nightTo_19 (lv_at hl 0 rfl) ?_
      refine lv_iload_n hx hb dX10_nightTo_21 rfl (lv_at hl 4 rfl) ?_
      refine lv_iload_n hx hb dX10_nightTo_22 rfl (lv_at hl 5 rfl) ?_
      refine jnV (wr := [(z 15, aI V 900 f_3)]) (rnV (rest := []) ⟨hx, hb, hml, hown, hg⟩ (k_X10_laysWords_0 l V z a1 2 a2 a3 f_4 pz0_0 pz0_5 pz0_6 pz0_7 pz0_8 pz0_9 pz0_10 pz0_11 pz0_12 pz0_13 pz0_14 pz0_18 pz0_19 pz0_22 pz0_23 pz0_29 fz1 ba1 (iv_c (2 : Int32) (by decide)) tf_4 bpz0_5 bpz0_6 bpz0_7 bpz0_8 bpz0_10 bpz0_11 bpz0_12 bpz0_13 bpz0_14 bpz0_18 bpz0_22 bpz0_29 tfz1) mt_X10_laysWords q_7_22 ⟨Nat.le_of_ble_eq_true rfl, Nat.le_of_ble_eq_true rfl⟩ hK hP hD hS hA hE [1, 2, 3] rfl rfl 2 rfl rfl rfl rfl hl.1 rfl (Nat.le_of_ble_eq_true rfl) dX10_nightTo_23 ⟨Nat.le_of_ble_eq_true rfl, Nat.le_of_ble_eq_true rfl⟩) hP hD hS hA [1, 2, 3] [0] rfl rfl rfl (by decide) (fun  w H locs hw hP hD hS => ?_)
      obtain ⟨f_128, tf_128, et_129, rfl⟩ := hw
      replace hR := tb hR et_129
      have hP : va_P V.1 vwCl [(z 15, aI V 900 f_3), (z 16, aI V 6 f_128), (z 0, .inr (10, mo z pz0_0 pz0_5 pz0_6 pz0_7 pz0_8 pz0_9 pz0_10 pz0_11 pz0_12 pz0_13 pz0_14 pz0_18 pz0_19 pz0_22 pz0_23 pz0_29)), (z 1, aI V 3075 fz1)] H := hP
      have hD := cpD hP hD
      refine lv_aload_n hx hb dX10_nightTo_26 rfl (lv_at hl 2 rfl) ?_
      refine jnI (wr := []) (rnV (rest := []) ⟨hx, hb, hml, hown, hg⟩ (k_X10_takesNow_0 l V z f_3 f_128 pz0_0 pz0_5 pz0_6 pz0_7 pz0_8 pz0_9 pz0_10 pz0_11 pz0_12 pz0_13 pz0_14 pz0_18 pz0_19 pz0_22 pz0_23 pz0_29 fz1 tf_128 bpz0_5 bpz0_6 bpz0_7 bpz0_8 bpz0_10 bpz0_11 bpz0_12 bpz0_13 bpz0_14 bpz0_18 bpz0_22 bpz0_29 tfz1 inn_5_1) mt_X10_takesNow q_7_35 ⟨Nat.le_of_ble_eq_true rfl, Nat.le_of_ble_eq_true rfl⟩ hK hP hD hS hA hE [0, 1, 2, 3] rfl rfl 2 rfl rfl rfl rfl hl.1 rfl (Nat.le_of_ble_eq_true rfl) dX10_nightTo_27 ⟨Nat.le_of_ble_eq_true rfl, Nat.le_of_ble_eq_true rfl⟩) hP hD hS hA [0, 1, 2, 3] [] rfl rfl rfl (by decide) (fun r_131 w H locs hw hP hD hS => ?_)
      obtain ⟨f_132, br_131, g_133, et_134, et_135, rfl⟩ := hw
      replace hR := tb0 hR
      replace hR := tb hR et_134
      replace hR := tb hR et_135
      have hP : va_P V.1 vwCl [(z 15, aI V 900 f_132), (z 16, aI V 6 f_128), (z 0, .inr (10, mo z pz0_0 pz0_5 pz0_6 pz0_7 pz0_8 pz0_9 pz0_10 pz0_11 pz0_12 pz0_13 pz0_14 pz0_18 pz0_19 pz0_22 pz0_23 pz0_29)), (z 1, aI V 3075 fz1)] H := hP
      have hD := cpD hP hD
      refine lv_if_eq (tgt := 77) hx hb dX10_nightTo_30 (by decide) (fun c_137 => ?_) (fun c_137 => ?_)
      · replace hR := ti hR c_137
        have b_138 : iv 0 0 r_131 := iv_q c_137 (iv_c (0 : Int32) (a := 0) (b := 0) (by decide))
        refine lv_iload hx hb dX10_nightTo_77 (lv_at hl 1 rfl) ?_
        refine lv_iload hx hb dX10_nightTo_79 (lv_at hl 0 rfl) ?_
        refine jnI (wr := [(z 15, aI V 900 f_132), (z 16, aI V 6 f_128), (z 0, .inr (10, mo z pz0_0 pz0_5 pz0_6 pz0_7 pz0_8 pz0_9 pz0_10 pz0_11 pz0_12 pz0_13 pz0_14 pz0_18 pz0_19 pz0_22 pz0_23 pz0_29)), (z 1, aI V 3075 fz1)]) (rnS (rest := [.int u_2]) ⟨hx, hb, hml, hown, hg⟩ (k_X10_digitOf_0 l V 2 (iv_c (2 : Int32) (by decide))) mt_X10_digitOf q_7_15 ⟨Nat.le_of_ble_eq_true rfl, Nat.le_of_ble_eq_true rfl⟩ hK hP hD hS hA hE [] rfl rfl rfl hl.1 rfl (Nat.le_of_ble_eq_true rfl) dX10_nightTo_81 ⟨Nat.le_of_ble_eq_true rfl, Nat.le_of_ble_eq_true rfl⟩) hP hD hS hA [] [0, 1, 2, 3] rfl rfl rfl (by decide) (fun r_139 w H locs hw hP hD hS => ?_)
        rcases hw with ⟨c_140, c_141, c_142, rfl, et_143, rfl⟩ | ⟨c_144, c_145, c_146, rfl, et_147, rfl⟩ | ⟨c_148, c_149, rfl, et_150, rfl⟩ | ⟨c_151, rfl, et_152, rfl⟩
        · have hP : va_P V.1 vwCl [(z 15, aI V 900 f_132), (z 16, aI V 6 f_128), (z 0, .inr (10, mo z pz0_0 pz0_5 pz0_6 pz0_7 pz0_8 pz0_9 pz0_10 pz0_11 pz0_12 pz0_13 pz0_14 pz0_18 pz0_19 pz0_22 pz0_23 pz0_29)), (z 1, aI V 3075 fz1)] H := hP
          have hD := cpD hP hD
          replace hR := ti hR et_143.symm
          exact absurd c_142 (by decide)
        · have hP : va_P V.1 vwCl [(z 15, aI V 900 f_132), (z 16, aI V 6 f_128), (z 0, .inr (10, mo z pz0_0 pz0_5 pz0_6 pz0_7 pz0_8 pz0_9 pz0_10 pz0_11 pz0_12 pz0_13 pz0_14 pz0_18 pz0_19 pz0_22 pz0_23 pz0_29)), (z 1, aI V 3075 fz1)] H := hP
          have hD := cpD hP hD
          replace hR := te hR (by rw [← et_147]; decide)
          replace hR := ti hR et_147.symm
          refine lv_aload_n hx hb dX10_nightTo_84 rfl (lv_at hl 2 rfl) ?_
          refine jnI (wr := []) (rnV (rest := [.int 25, .int u_2]) ⟨hx, hb, hml, hown, hg⟩ (k_X10_addedNow_0 l V z f_132 f_128 pz0_0 pz0_5 pz0_6 pz0_7 pz0_8 pz0_9 pz0_10 pz0_11 pz0_12 pz0_13 pz0_14 pz0_18 pz0_19 pz0_22 pz0_23 pz0_29 fz1 tf_128 bpz0_5 bpz0_6 bpz0_7 bpz0_8 bpz0_10 bpz0_11 bpz0_12 bpz0_13 bpz0_14 bpz0_18 bpz0_22 bpz0_29 tfz1 g_133) mt_X10_addedNow q_7_48 ⟨Nat.le_of_ble_eq_true rfl, Nat.le_of_ble_eq_true rfl⟩ hK hP hD hS hA hE [0, 1, 2, 3] rfl rfl 2 rfl rfl rfl rfl hl.1 rfl (Nat.le_of_ble_eq_true rfl) dX10_nightTo_85 ⟨Nat.le_of_ble_eq_true rfl, Nat.le_of_ble_eq_true rfl⟩) hP hD hS hA [0, 1, 2, 3] [] rfl rfl rfl (by decide) (fun r_153 w H locs hw hP hD hS => ?_)
          obtain ⟨f_154, br_153, g_155, et_156, et_157, rfl⟩ := hw
          replace hR := tb0 hR
          replace hR := tb hR et_156
          replace hR := tb hR et_157
          have hP : va_P V.1 vwCl [(z 15, aI V 900 f_154), (z 16, aI V 6 f_128), (z 0, .inr (10, mo z pz0_0 pz0_5 pz0_6 pz0_7 pz0_8 pz0_9 pz0_10 pz0_11 pz0_12 pz0_13 pz0_14 pz0_18 pz0_19 pz0_22 pz0_23 pz0_29)), (z 1, aI V 3075 fz1)] H := hP
          have hD := cpD hP hD
          refine lv_imul hx hb dX10_nightTo_88 ?_
          refine lv_topi (fun x_159 ex_159 => ?_)
          have bx_159 : iv 0 100 x_159 := by rw [ex_159]; exact iv_cmul (iv_c (25 : Int32) (a := 25) (b := 25) (by decide)) br_153 (by decide)
          replace hR := tb hR ex_159
          refine lv_iadd hx hb dX10_nightTo_89 ?_
          refine lv_topi (fun x_160 ex_160 => ?_)
          have bx_160 : iv 0 1993 x_160 := by rw [ex_160]; exact iv_add b_127 bx_159 (by decide)
          replace hR := tb hR ex_160
          refine lv_istore (lv' := [(4, .int x_160), (5, .int 2), (0, .ref (z 0)), (1, .int a1), (2, .int a2), (3, .int a3)]) hx hb dX10_nightTo_90 hl (by decide) rfl (fun ls hl => ?_)
          refine lv_iinc (v := 3) (lv' := [(5, .int 3), (4, .int x_160), (0, .ref (z 0)), (1, .int a1), (2, .int a2), (3, .int a3)]) hx hb dX10_nightTo_92 hl (k := 1) rfl (by decide +kernel) (by decide) rfl (fun ls hl => ?_)
          refine lv_goto (tgt := 6) hx hb dX10_nightTo_95 (by decide) ?_
          exact ihn_5 _ _ _ _ (by rw [en_5]; decide) ⟨3, x_160, f_154, f_128, (iv_c (3 : Int32) (by decide)), (iv_w bx_160 (by decide)), tf_128, (nb_o bx_160 (by decide)), g_155, (tbk hAn_5 hR), rfl, hP, hD, hS, lv_sub hl [0, 1, 2, 3, 4, 5] rfl⟩
        · have hP : va_P V.1 vwCl [(z 15, aI V 900 f_132), (z 16, aI V 6 f_128), (z 0, .inr (10, mo z pz0_0 pz0_5 pz0_6 pz0_7 pz0_8 pz0_9 pz0_10 pz0_11 pz0_12 pz0_13 pz0_14 pz0_18 pz0_19 pz0_22 pz0_23 pz0_29)), (z 1, aI V 3075 fz1)] H := hP
          have hD := cpD hP hD
          replace hR := te hR (by rw [← et_150]; decide)
          replace hR := te hR (by rw [← et_150]; decide)
          replace hR := ti hR et_150.symm
          exact absurd c_149 (by decide)
        · have hP : va_P V.1 vwCl [(z 15, aI V 900 f_132), (z 16, aI V 6 f_128), (z 0, .inr (10, mo z pz0_0 pz0_5 pz0_6 pz0_7 pz0_8 pz0_9 pz0_10 pz0_11 pz0_12 pz0_13 pz0_14 pz0_18 pz0_19 pz0_22 pz0_23 pz0_29)), (z 1, aI V 3075 fz1)] H := hP
          have hD := cpD hP hD
          replace hR := te hR (by rw [← et_152]; decide)
          replace hR := te hR (by rw [← et_152]; decide)
          replace hR := te hR (by rw [← et_152]; decide)
          exact absurd c_151 (by decide)
      · replace hR := te hR c_137
        have b_161 : iv 1 1 r_131 := iv_n0 c_137 br_131 (iv_c (0 : Int32) (a := 0) (b := 0) (by decide)) (by decide)
        refine lv_iload hx hb dX10_nightTo_33 (lv_at hl 1 rfl) ?_
        refine lv_sipush (v := 625) hx hb dX10_nightTo_35 (by decide) ?_
        refine lv_iconst (v := 1) hx hb dX10_nightTo_38 (by decide) ?_
        refine lv_iload hx hb dX10_nightTo_39 (lv_at hl 0 rfl) ?_
        refine lv_ishl hx hb dX10_nightTo_41 ?_
        refine tpi (y := 4) (by decide +kernel) ?_
        refine lv_imul hx hb dX10_nightTo_42 ?_
        refine tpi (y := 2500) (by decide +kernel) ?_
        refine lv_iload hx hb dX10_nightTo_43 (lv_at hl 0 rfl) ?_
        refine jnI (wr := [(z 15, aI V 900 f_132), (z 16, aI V 6 f_128), (z 0, .inr (10, mo z pz0_0 pz0_5 pz0_6 pz0_7 pz0_8 pz0_9 pz0_10 pz0_11 pz0_12 pz0_13 pz0_14 pz0_18 pz0_19 pz0_22 pz0_23 pz0_29)), (z 1, aI V 3075 fz1)]) (rnS (rest := [.int 2500, .int u_2]) ⟨hx, hb, hml, hown, hg⟩ (k_X10_digitOf_0 l V 2 (iv_c (2 : Int32) (by decide))) mt_X10_digitOf q_7_15 ⟨Nat.le_of_ble_eq_true rfl, Nat.le_of_ble_eq_true rfl⟩ hK hP hD hS hA hE [] rfl rfl rfl hl.1 rfl (Nat.le_of_ble_eq_true rfl) dX10_nightTo_45 ⟨Nat.le_of_ble_eq_true rfl, Nat.le_of_ble_eq_true rfl⟩) hP hD hS hA [] [0, 1, 2, 3] rfl rfl rfl (by decide) (fun r_162 w H locs hw hP hD hS => ?_)
        rcases hw with ⟨c_163, c_164, c_165, rfl, et_166, rfl⟩ | ⟨c_167, c_168, c_169, rfl, et_170, rfl⟩ | ⟨c_171, c_172, rfl, et_173, rfl⟩ | ⟨c_174, rfl, et_175, rfl⟩
        · have hP : va_P V.1 vwCl [(z 15, aI V 900 f_132), (z 16, aI V 6 f_128), (z 0, .inr (10, mo z pz0_0 pz0_5 pz0_6 pz0_7 pz0_8 pz0_9 pz0_10 pz0_11 pz0_12 pz0_13 pz0_14 pz0_18 pz0_19 pz0_22 pz0_23 pz0_29)), (z 1, aI V 3075 fz1)] H := hP
          have hD := cpD hP hD
          replace hR := ti hR et_166.symm
          exact absurd c_165 (by decide)
        · have hP : va_P V.1 vwCl [(z 15, aI V 900 f_132), (z 16, aI V 6 f_128), (z 0, .inr (10, mo z pz0_0 pz0_5 pz0_6 pz0_7 pz0_8 pz0_9 pz0_10 pz0_11 pz0_12 pz0_13 pz0_14 pz0_18 pz0_19 pz0_22 pz0_23 pz0_29)), (z 1, aI V 3075 fz1)] H := hP
          have hD := cpD hP hD
          replace hR := te hR (by rw [← et_170]; decide)
          replace hR := ti hR et_170.symm
          refine lv_aload_n hx hb dX10_nightTo_48 rfl (lv_at hl 2 rfl) ?_
          refine va_get (ci := 10) (v := .ref (z 16)) (C := RX10) (T := TX10) (N := 40) hx hb hg inX10 hown hK hP 2 rfl rfl 16 (by decide) (hg _ q_6_0) (fun _ h9 => h9) rfl dX10_nightTo_49 ?_
          refine lv_iconst (v := 1) hx hb dX10_nightTo_52 (by decide) ?_
          refine va_iald hx hb hK hP 1 0 rfl rfl (vin (by decide +kernel)) dX10_nightTo_53 ?_
          refine lv_topi (fun x_176 ex_176 => ?_)
          have bx_176 : iv 0 4 x_176 := by rw [ex_176]; exact rdT (a := 1) (n := 1) tf_128 (iv_c (1 : Int32) (a := 1) (b := 1) (by decide)) (by decide) (by decide +kernel)
          replace hR := tb hR ex_176
          refine lv_if_le (tgt := 68) hx hb dX10_nightTo_54 (by decide) (fun c_177 => ?_) (fun c_177 => ?_)
          · replace hR := ti hR c_177
            have b_178 : iv 0 0 x_176 := iv_e1 c_177 bx_176 (iv_c (0 : Int32) (a := 0) (b := 0) (by decide)) (by decide)
            refine lv_iconst (v := 0) hx hb dX10_nightTo_68 (by decide) ?_
            refine lv_imul hx hb dX10_nightTo_69 ?_
            refine tpi (y := 0) (by decide +kernel) ?_
            refine lv_iadd hx hb dX10_nightTo_70 ?_
            refine tpi (y := 2500) (by decide +kernel) ?_
            refine lv_iadd hx hb dX10_nightTo_71 ?_
            refine lv_topi (fun x_179 ex_179 => ?_)
            have bx_179 : iv 2500 4393 x_179 := by rw [ex_179]; exact iv_add b_127 (iv_c (2500 : Int32) (a := 2500) (b := 2500) (by decide)) (by decide)
            replace hR := tb hR ex_179
            refine lv_istore (lv' := [(4, .int x_179), (5, .int 2), (0, .ref (z 0)), (1, .int a1), (2, .int a2), (3, .int a3)]) hx hb dX10_nightTo_72 hl (by decide) rfl (fun ls hl => ?_)
            refine lv_goto (tgt := 92) hx hb dX10_nightTo_74 (by decide) ?_
            refine lv_iinc (v := 3) (lv' := [(5, .int 3), (4, .int x_179), (0, .ref (z 0)), (1, .int a1), (2, .int a2), (3, .int a3)]) hx hb dX10_nightTo_92 hl (k := 1) rfl (by decide +kernel) (by decide) rfl (fun ls hl => ?_)
            refine lv_goto (tgt := 6) hx hb dX10_nightTo_95 (by decide) ?_
            exact ihn_5 _ _ _ _ (by rw [en_5]; decide) ⟨3, x_179, f_132, f_128, (iv_c (3 : Int32) (by decide)), (iv_w bx_179 (by decide)), tf_128, (nb_o bx_179 (by decide)), g_133, (tbk hAn_5 hR), rfl, hP, hD, hS, lv_sub hl [0, 1, 2, 3, 4, 5] rfl⟩
          · replace hR := te hR c_177
            have b_180 : iv 1 4 x_176 := iv_l2 (Int32.not_le.mp c_177) (iv_c (0 : Int32) (a := 0) (b := 0) (by decide)) bx_176 (by decide)
            refine lv_aload_n hx hb dX10_nightTo_57 rfl (lv_at hl 2 rfl) ?_
            refine va_get (ci := 10) (v := .ref (z 16)) (C := RX10) (T := TX10) (N := 40) hx hb hg inX10 hown hK hP 2 rfl rfl 16 (by decide) (hg _ q_6_0) (fun _ h9 => h9) rfl dX10_nightTo_58 ?_
            refine lv_iconst (v := 1) hx hb dX10_nightTo_61 (by decide) ?_
            refine va_iald hx hb hK hP 1 0 rfl rfl (vin (by decide +kernel)) dX10_nightTo_62 ?_
            refine tpi (y := x_176) ex_176.symm ?_
            refine lv_iconst (v := 1) hx hb dX10_nightTo_63 (by decide) ?_
            refine lv_isub hx hb dX10_nightTo_64 ?_
            refine lv_topi (fun x_181 ex_181 => ?_)
            have bx_181 : iv 0 3 x_181 := by rw [ex_181]; exact iv_sub b_180 (iv_c (1 : Int32) (a := 1) (b := 1) (by decide)) (by decide)
            replace hR := tb hR ex_181
            refine lv_goto (tgt := 69) hx hb dX10_nightTo_65 (by decide) ?_
            refine lv_imul hx hb dX10_nightTo_69 ?_
            refine lv_topi (fun x_182 ex_182 => ?_)
            have bx_182 : iv 0 75 x_182 := by rw [ex_182]; exact iv_cmul (iv_c (25 : Int32) (a := 25) (b := 25) (by decide)) bx_181 (by decide)
            replace hR := tb hR ex_182
            refine lv_iadd hx hb dX10_nightTo_70 ?_
            refine lv_topi (fun x_183 ex_183 => ?_)
            have bx_183 : iv 2500 2575 x_183 := by rw [ex_183]; exact iv_add (iv_c (2500 : Int32) (a := 2500) (b := 2500) (by decide)) bx_182 (by decide)
            replace hR := tb hR ex_183
            refine lv_iadd hx hb dX10_nightTo_71 ?_
            refine lv_topi (fun x_184 ex_184 => ?_)
            have bx_184 : iv 2500 4468 x_184 := by rw [ex_184]; exact iv_add b_127 bx_183 (by decide)
            replace hR := tb hR ex_184
            refine lv_istore (lv' := [(4, .int x_184), (5, .int 2), (0, .ref (z 0)), (1, .int a1), (2, .int a2), (3, .int a3)]) hx hb dX10_nightTo_72 hl (by decide) rfl (fun ls hl => ?_)
            refine lv_goto (tgt := 92) hx hb dX10_nightTo_74 (by decide) ?_
            refine lv_iinc (v := 3) (lv' := [(5, .int 3), (4, .int x_184), (0, .ref (z 0)), (1, .int a1), (2, .int a2), (3, .int a3)]) hx hb dX10_nightTo_92 hl (k := 1) rfl (by decide +kernel) (by decide) rfl (fun ls hl => ?_)
            refine lv_goto (tgt := 6) hx hb dX10_nightTo_95 (by decide) ?_
            exact ihn_5 _ _ _ _ (by rw [en_5]; decide) ⟨3, x_184, f_132, f_128, (iv_c (3 : Int32) (by decide)), (iv_w bx_184 (by decide)), tf_128, (nb_o bx_184 (by decide)), g_133, (tbk hAn_5 hR), rfl, hP, hD, hS, lv_sub hl [0, 1, 2, 3, 4, 5] rfl⟩
        · have hP : va_P V.1 vwCl [(z 15, aI V 900 f_132), (z 16, aI V 6 f_128), (z 0, .inr (10, mo z pz0_0 pz0_5 pz0_6 pz0_7 pz0_8 pz0_9 pz0_10 pz0_11 pz0_12 pz0_13 pz0_14 pz0_18 pz0_19 pz0_22 pz0_23 pz0_29)), (z 1, aI V 3075 fz1)] H := hP
          have hD := cpD hP hD
          replace hR := te hR (by rw [← et_173]; decide)
          replace hR := te hR (by rw [← et_173]; decide)
          replace hR := ti hR et_173.symm
          exact absurd c_172 (by decide)
        · have hP : va_P V.1 vwCl [(z 15, aI V 900 f_132), (z 16, aI V 6 f_128), (z 0, .inr (10, mo z pz0_0 pz0_5 pz0_6 pz0_7 pz0_8 pz0_9 pz0_10 pz0_11 pz0_12 pz0_13 pz0_14 pz0_18 pz0_19 pz0_22 pz0_23 pz0_29)), (z 1, aI V 3075 fz1)] H := hP
          have hD := cpD hP hD
          replace hR := te hR (by rw [← et_175]; decide)
          replace hR := te hR (by rw [← et_175]; decide)
          replace hR := te hR (by rw [← et_175]; decide)
          exact absurd c_174 (by decide)
    · replace hR := te hR (by decide)
      replace hR := te hR (by decide)
      replace hR := te hR (by decide)
      have b_185 : iv 0 4468 u_2 := nb_i inn_5_0 (by decide)
      refine lv_aload_n hx hb dX10_nightTo_17 rfl (lv_at hl 2 rfl) ?_
      refine lv_iload_n hx hb dX10_nightTo_18 rfl (lv_at hl 3 rfl) ?_
      refine lv_iload hx hb dX10_nightTo_19 (lv_at hl 0 rfl) ?_
      refine lv_iload_n hx hb dX10_nightTo_21 rfl (lv_at hl 4 rfl) ?_
      refine lv_iload_n hx hb dX10_nightTo_22 rfl (lv_at hl 5 rfl) ?_
      refine jnV (wr := [(z 15, aI V 900 f_3)]) (rnV (rest := []) ⟨hx, hb, hml, hown, hg⟩ (k_X10_laysWords_0 l V z a1 3 a2 a3 f_4 pz0_0 pz0_5 pz0_6 pz0_7 pz0_8 pz0_9 pz0_10 pz0_11 pz0_12 pz0_13 pz0_14 pz0_18 pz0_19 pz0_22 pz0_23 pz0_29 fz1 ba1 (iv_c (3 : Int32) (by decide)) tf_4 bpz0_5 bpz0_6 bpz0_7 bpz0_8 bpz0_10 bpz0_11 bpz0_12 bpz0_13 bpz0_14 bpz0_18 bpz0_22 bpz0_29 tfz1) mt_X10_laysWords q_7_22 ⟨Nat.le_of_ble_eq_true rfl, Nat.le_of_ble_eq_true rfl⟩ hK hP hD hS hA hE [1, 2, 3] rfl rfl 2 rfl rfl rfl rfl hl.1 rfl (Nat.le_of_ble_eq_true rfl) dX10_nightTo_23 ⟨Nat.le_of_ble_eq_true rfl, Nat.le_of_ble_eq_true rfl⟩) hP hD hS hA [1, 2, 3] [0] rfl rfl rfl (by decide) (fun  w H locs hw hP hD hS => ?_)
      obtain ⟨f_186, tf_186, et_187, rfl⟩ := hw
      replace hR := tb hR et_187
      have hP : va_P V.1 vwCl [(z 15, aI V 900 f_3), (z 16, aI V 6 f_186), (z 0, .inr (10, mo z pz0_0 pz0_5 pz0_6 pz0_7 pz0_8 pz0_9 pz0_10 pz0_11 pz0_12 pz0_13 pz0_14 pz0_18 pz0_19 pz0_22 pz0_23 pz0_29)), (z 1, aI V 3075 fz1)] H := hP
      have hD := cpD hP hD
      refine lv_aload_n hx hb dX10_nightTo_26 rfl (lv_at hl 2 rfl) ?_
      refine jnI (wr := []) (rnV (rest := []) ⟨hx, hb, hml, hown, hg⟩ (k_X10_takesNow_0 l V z f_3 f_186 pz0_0 pz0_5 pz0_6 pz0_7 pz0_8 pz0_9 pz0_10 pz0_11 pz0_12 pz0_13 pz0_14 pz0_18 pz0_19 pz0_22 pz0_23 pz0_29 fz1 tf_186 bpz0_5 bpz0_6 bpz0_7 bpz0_8 bpz0_10 bpz0_11 bpz0_12 bpz0_13 bpz0_14 bpz0_18 bpz0_22 bpz0_29 tfz1 inn_5_1) mt_X10_takesNow q_7_35 ⟨Nat.le_of_ble_eq_true rfl, Nat.le_of_ble_eq_true rfl⟩ hK hP hD hS hA hE [0, 1, 2, 3] rfl rfl 2 rfl rfl rfl rfl hl.1 rfl (Nat.le_of_ble_eq_true rfl) dX10_nightTo_27 ⟨Nat.le_of_ble_eq_true rfl, Nat.le_of_ble_eq_true rfl⟩) hP hD hS hA [0, 1, 2, 3] [] rfl rfl rfl (by decide) (fun r_189 w H locs hw hP hD hS => ?_)
      obtain ⟨f_190, br_189, g_191, et_192, et_193, rfl⟩ := hw
      replace hR := tb0 hR
      replace hR := tb hR et_192
      replace hR := tb hR et_193
      have hP : va_P V.1 vwCl [(z 15, aI V 900 f_190), (z 16, aI V 6 f_186), (z 0, .inr (10, mo z pz0_0 pz0_5 pz0_6 pz0_7 pz0_8 pz0_9 pz0_10 pz0_11 pz0_12 pz0_13 pz0_14 pz0_18 pz0_19 pz0_22 pz0_23 pz0_29)), (z 1, aI V 3075 fz1)] H := hP
      have hD := cpD hP hD
      refine lv_if_eq (tgt := 77) hx hb dX10_nightTo_30 (by decide) (fun c_195 => ?_) (fun c_195 => ?_)
      · replace hR := ti hR c_195
        have b_196 : iv 0 0 r_189 := iv_q c_195 (iv_c (0 : Int32) (a := 0) (b := 0) (by decide))
        refine lv_iload hx hb dX10_nightTo_77 (lv_at hl 1 rfl) ?_
        refine lv_iload hx hb dX10_nightTo_79 (lv_at hl 0 rfl) ?_
        refine jnI (wr := [(z 15, aI V 900 f_190), (z 16, aI V 6 f_186), (z 0, .inr (10, mo z pz0_0 pz0_5 pz0_6 pz0_7 pz0_8 pz0_9 pz0_10 pz0_11 pz0_12 pz0_13 pz0_14 pz0_18 pz0_19 pz0_22 pz0_23 pz0_29)), (z 1, aI V 3075 fz1)]) (rnS (rest := [.int u_2]) ⟨hx, hb, hml, hown, hg⟩ (k_X10_digitOf_0 l V 3 (iv_c (3 : Int32) (by decide))) mt_X10_digitOf q_7_15 ⟨Nat.le_of_ble_eq_true rfl, Nat.le_of_ble_eq_true rfl⟩ hK hP hD hS hA hE [] rfl rfl rfl hl.1 rfl (Nat.le_of_ble_eq_true rfl) dX10_nightTo_81 ⟨Nat.le_of_ble_eq_true rfl, Nat.le_of_ble_eq_true rfl⟩) hP hD hS hA [] [0, 1, 2, 3] rfl rfl rfl (by decide) (fun r_197 w H locs hw hP hD hS => ?_)
        rcases hw with ⟨c_198, c_199, c_200, rfl, et_201, rfl⟩ | ⟨c_202, c_203, c_204, rfl, et_205, rfl⟩ | ⟨c_206, c_207, rfl, et_208, rfl⟩ | ⟨c_209, rfl, et_210, rfl⟩
        · have hP : va_P V.1 vwCl [(z 15, aI V 900 f_190), (z 16, aI V 6 f_186), (z 0, .inr (10, mo z pz0_0 pz0_5 pz0_6 pz0_7 pz0_8 pz0_9 pz0_10 pz0_11 pz0_12 pz0_13 pz0_14 pz0_18 pz0_19 pz0_22 pz0_23 pz0_29)), (z 1, aI V 3075 fz1)] H := hP
          have hD := cpD hP hD
          replace hR := ti hR et_201.symm
          refine lv_aload_n hx hb dX10_nightTo_84 rfl (lv_at hl 2 rfl) ?_
          refine jnI (wr := []) (rnV (rest := [.int 125, .int u_2]) ⟨hx, hb, hml, hown, hg⟩ (k_X10_addedNow_0 l V z f_190 f_186 pz0_0 pz0_5 pz0_6 pz0_7 pz0_8 pz0_9 pz0_10 pz0_11 pz0_12 pz0_13 pz0_14 pz0_18 pz0_19 pz0_22 pz0_23 pz0_29 fz1 tf_186 bpz0_5 bpz0_6 bpz0_7 bpz0_8 bpz0_10 bpz0_11 bpz0_12 bpz0_13 bpz0_14 bpz0_18 bpz0_22 bpz0_29 tfz1 g_191) mt_X10_addedNow q_7_48 ⟨Nat.le_of_ble_eq_true rfl, Nat.le_of_ble_eq_true rfl⟩ hK hP hD hS hA hE [0, 1, 2, 3] rfl rfl 2 rfl rfl rfl rfl hl.1 rfl (Nat.le_of_ble_eq_true rfl) dX10_nightTo_85 ⟨Nat.le_of_ble_eq_true rfl, Nat.le_of_ble_eq_true rfl⟩) hP hD hS hA [0, 1, 2, 3] [] rfl rfl rfl (by decide) (fun r_211 w H locs hw hP hD hS => ?_)
          obtain ⟨f_212, br_211, g_213, et_214, et_215, rfl⟩ := hw
          replace hR := tb0 hR
          replace hR := tb hR et_214
          replace hR := tb hR et_215
          have hP : va_P V.1 vwCl [(z 15, aI V 900 f_212), (z 16, aI V 6 f_186), (z 0, .inr (10, mo z pz0_0 pz0_5 pz0_6 pz0_7 pz0_8 pz0_9 pz0_10 pz0_11 pz0_12 pz0_13 pz0_14 pz0_18 pz0_19 pz0_22 pz0_23 pz0_29)), (z 1, aI V 3075 fz1)] H := hP
          have hD := cpD hP hD
          refine lv_imul hx hb dX10_nightTo_88 ?_
          refine lv_topi (fun x_217 ex_217 => ?_)
          have bx_217 : iv 0 500 x_217 := by rw [ex_217]; exact iv_cmul (iv_c (125 : Int32) (a := 125) (b := 125) (by decide)) br_211 (by decide)
          replace hR := tb hR ex_217
          refine lv_iadd hx hb dX10_nightTo_89 ?_
          refine lv_topi (fun x_218 ex_218 => ?_)
          have bx_218 : iv 0 4968 x_218 := by rw [ex_218]; exact iv_add b_185 bx_217 (by decide)
          replace hR := tb hR ex_218
          refine lv_istore (lv' := [(4, .int x_218), (5, .int 3), (0, .ref (z 0)), (1, .int a1), (2, .int a2), (3, .int a3)]) hx hb dX10_nightTo_90 hl (by decide) rfl (fun ls hl => ?_)
          refine lv_iinc (v := 4) (lv' := [(5, .int 4), (4, .int x_218), (0, .ref (z 0)), (1, .int a1), (2, .int a2), (3, .int a3)]) hx hb dX10_nightTo_92 hl (k := 1) rfl (by decide +kernel) (by decide) rfl (fun ls hl => ?_)
          refine lv_goto (tgt := 6) hx hb dX10_nightTo_95 (by decide) ?_
          exact ihn_5 _ _ _ _ (by rw [en_5]; decide) ⟨4, x_218, f_212, f_186, (iv_c (4 : Int32) (by decide)), (iv_w bx_218 (by decide)), tf_186, (nb_o bx_218 (by decide)), g_213, (tbk hAn_5 hR), rfl, hP, hD, hS, lv_sub hl [0, 1, 2, 3, 4, 5] rfl⟩
        · have hP : va_P V.1 vwCl [(z 15, aI V 900 f_190), (z 16, aI V 6 f_186), (z 0, .inr (10, mo z pz0_0 pz0_5 pz0_6 pz0_7 pz0_8 pz0_9 pz0_10 pz0_11 pz0_12 pz0_13 pz0_14 pz0_18 pz0_19 pz0_22 pz0_23 pz0_29)), (z 1, aI V 3075 fz1)] H := hP
          have hD := cpD hP hD
          replace hR := te hR (by rw [← et_205]; decide)
          replace hR := ti hR et_205.symm
          exact absurd c_204 (by decide)
        · have hP : va_P V.1 vwCl [(z 15, aI V 900 f_190), (z 16, aI V 6 f_186), (z 0, .inr (10, mo z pz0_0 pz0_5 pz0_6 pz0_7 pz0_8 pz0_9 pz0_10 pz0_11 pz0_12 pz0_13 pz0_14 pz0_18 pz0_19 pz0_22 pz0_23 pz0_29)), (z 1, aI V 3075 fz1)] H := hP
          have hD := cpD hP hD
          replace hR := te hR (by rw [← et_208]; decide)
          replace hR := te hR (by rw [← et_208]; decide)
          replace hR := ti hR et_208.symm
          exact absurd c_207 (by decide)
        · have hP : va_P V.1 vwCl [(z 15, aI V 900 f_190), (z 16, aI V 6 f_186), (z 0, .inr (10, mo z pz0_0 pz0_5 pz0_6 pz0_7 pz0_8 pz0_9 pz0_10 pz0_11 pz0_12 pz0_13 pz0_14 pz0_18 pz0_19 pz0_22 pz0_23 pz0_29)), (z 1, aI V 3075 fz1)] H := hP
          have hD := cpD hP hD
          replace hR := te hR (by rw [← et_210]; decide)
          replace hR := te hR (by rw [← et_210]; decide)
          replace hR := te hR (by rw [← et_210]; decide)
          exact absurd c_209 (by decide)
      · replace hR := te hR c_195
        have b_219 : iv 1 1 r_189 := iv_n0 c_195 br_189 (iv_c (0 : Int32) (a := 0) (b := 0) (by decide)) (by decide)
        refine lv_iload hx hb dX10_nightTo_33 (lv_at hl 1 rfl) ?_
        refine lv_sipush (v := 625) hx hb dX10_nightTo_35 (by decide) ?_
        refine lv_iconst (v := 1) hx hb dX10_nightTo_38 (by decide) ?_
        refine lv_iload hx hb dX10_nightTo_39 (lv_at hl 0 rfl) ?_
        refine lv_ishl hx hb dX10_nightTo_41 ?_
        refine tpi (y := 8) (by decide +kernel) ?_
        refine lv_imul hx hb dX10_nightTo_42 ?_
        refine tpi (y := 5000) (by decide +kernel) ?_
        refine lv_iload hx hb dX10_nightTo_43 (lv_at hl 0 rfl) ?_
        refine jnI (wr := [(z 15, aI V 900 f_190), (z 16, aI V 6 f_186), (z 0, .inr (10, mo z pz0_0 pz0_5 pz0_6 pz0_7 pz0_8 pz0_9 pz0_10 pz0_11 pz0_12 pz0_13 pz0_14 pz0_18 pz0_19 pz0_22 pz0_23 pz0_29)), (z 1, aI V 3075 fz1)]) (rnS (rest := [.int 5000, .int u_2]) ⟨hx, hb, hml, hown, hg⟩ (k_X10_digitOf_0 l V 3 (iv_c (3 : Int32) (by decide))) mt_X10_digitOf q_7_15 ⟨Nat.le_of_ble_eq_true rfl, Nat.le_of_ble_eq_true rfl⟩ hK hP hD hS hA hE [] rfl rfl rfl hl.1 rfl (Nat.le_of_ble_eq_true rfl) dX10_nightTo_45 ⟨Nat.le_of_ble_eq_true rfl, Nat.le_of_ble_eq_true rfl⟩) hP hD hS hA [] [0, 1, 2, 3] rfl rfl rfl (by decide) (fun r_220 w H locs hw hP hD hS => ?_)
        rcases hw with ⟨c_221, c_222, c_223, rfl, et_224, rfl⟩ | ⟨c_225, c_226, c_227, rfl, et_228, rfl⟩ | ⟨c_229, c_230, rfl, et_231, rfl⟩ | ⟨c_232, rfl, et_233, rfl⟩
        · have hP : va_P V.1 vwCl [(z 15, aI V 900 f_190), (z 16, aI V 6 f_186), (z 0, .inr (10, mo z pz0_0 pz0_5 pz0_6 pz0_7 pz0_8 pz0_9 pz0_10 pz0_11 pz0_12 pz0_13 pz0_14 pz0_18 pz0_19 pz0_22 pz0_23 pz0_29)), (z 1, aI V 3075 fz1)] H := hP
          have hD := cpD hP hD
          replace hR := ti hR et_224.symm
          refine lv_aload_n hx hb dX10_nightTo_48 rfl (lv_at hl 2 rfl) ?_
          refine va_get (ci := 10) (v := .ref (z 16)) (C := RX10) (T := TX10) (N := 40) hx hb hg inX10 hown hK hP 2 rfl rfl 16 (by decide) (hg _ q_6_0) (fun _ h9 => h9) rfl dX10_nightTo_49 ?_
          refine lv_iconst (v := 1) hx hb dX10_nightTo_52 (by decide) ?_
          refine va_iald hx hb hK hP 1 0 rfl rfl (vin (by decide +kernel)) dX10_nightTo_53 ?_
          refine lv_topi (fun x_234 ex_234 => ?_)
          have bx_234 : iv 0 4 x_234 := by rw [ex_234]; exact rdT (a := 1) (n := 1) tf_186 (iv_c (1 : Int32) (a := 1) (b := 1) (by decide)) (by decide) (by decide +kernel)
          replace hR := tb hR ex_234
          refine lv_if_le (tgt := 68) hx hb dX10_nightTo_54 (by decide) (fun c_235 => ?_) (fun c_235 => ?_)
          · replace hR := ti hR c_235
            have b_236 : iv 0 0 x_234 := iv_e1 c_235 bx_234 (iv_c (0 : Int32) (a := 0) (b := 0) (by decide)) (by decide)
            refine lv_iconst (v := 0) hx hb dX10_nightTo_68 (by decide) ?_
            refine lv_imul hx hb dX10_nightTo_69 ?_
            refine tpi (y := 0) (by decide +kernel) ?_
            refine lv_iadd hx hb dX10_nightTo_70 ?_
            refine tpi (y := 5000) (by decide +kernel) ?_
            refine lv_iadd hx hb dX10_nightTo_71 ?_
            refine lv_topi (fun x_237 ex_237 => ?_)
            have bx_237 : iv 5000 9468 x_237 := by rw [ex_237]; exact iv_add b_185 (iv_c (5000 : Int32) (a := 5000) (b := 5000) (by decide)) (by decide)
            replace hR := tb hR ex_237
            refine lv_istore (lv' := [(4, .int x_237), (5, .int 3), (0, .ref (z 0)), (1, .int a1), (2, .int a2), (3, .int a3)]) hx hb dX10_nightTo_72 hl (by decide) rfl (fun ls hl => ?_)
            refine lv_goto (tgt := 92) hx hb dX10_nightTo_74 (by decide) ?_
            refine lv_iinc (v := 4) (lv' := [(5, .int 4), (4, .int x_237), (0, .ref (z 0)), (1, .int a1), (2, .int a2), (3, .int a3)]) hx hb dX10_nightTo_92 hl (k := 1) rfl (by decide +kernel) (by decide) rfl (fun ls hl => ?_)
            refine lv_goto (tgt := 6) hx hb dX10_nightTo_95 (by decide) ?_
            exact ihn_5 _ _ _ _ (by rw [en_5]; decide) ⟨4, x_237, f_190, f_186, (iv_c (4 : Int32) (by decide)), (iv_w bx_237 (by decide)), tf_186, (nb_o bx_237 (by decide)), g_191, (tbk hAn_5 hR), rfl, hP, hD, hS, lv_sub hl [0, 1, 2, 3, 4, 5] rfl⟩
          · replace hR := te hR c_235
            have b_238 : iv 1 4 x_234 := iv_l2 (Int32.not_le.mp c_235) (iv_c (0 : Int32) (a := 0) (b := 0) (by decide)) bx_234 (by decide)
            refine lv_aload_n hx hb dX10_nightTo_57 rfl (lv_at hl 2 rfl) ?_
            refine va_get (ci := 10) (v := .ref (z 16)) (C := RX10) (T := TX10) (N := 40) hx hb hg inX10 hown hK hP 2 rfl rfl 16 (by decide) (hg _ q_6_0) (fun _ h9 => h9) rfl dX10_nightTo_58 ?_
            refine lv_iconst (v := 1) hx hb dX10_nightTo_61 (by decide) ?_
            refine va_iald hx hb hK hP 1 0 rfl rfl (vin (by decide +kernel)) dX10_nightTo_62 ?_
            refine tpi (y := x_234) ex_234.symm ?_
            refine lv_iconst (v := 1) hx hb dX10_nightTo_63 (by decide) ?_
            refine lv_isub hx hb dX10_nightTo_64 ?_
            refine lv_topi (fun x_239 ex_239 => ?_)
            have bx_239 : iv 0 3 x_239 := by rw [ex_239]; exact iv_sub b_238 (iv_c (1 : Int32) (a := 1) (b := 1) (by decide)) (by decide)
            replace hR := tb hR ex_239
            refine lv_goto (tgt := 69) hx hb dX10_nightTo_65 (by decide) ?_
            refine lv_imul hx hb dX10_nightTo_69 ?_
            refine lv_topi (fun x_240 ex_240 => ?_)
            have bx_240 : iv 0 375 x_240 := by rw [ex_240]; exact iv_cmul (iv_c (125 : Int32) (a := 125) (b := 125) (by decide)) bx_239 (by decide)
            replace hR := tb hR ex_240
            refine lv_iadd hx hb dX10_nightTo_70 ?_
            refine lv_topi (fun x_241 ex_241 => ?_)
            have bx_241 : iv 5000 5375 x_241 := by rw [ex_241]; exact iv_add (iv_c (5000 : Int32) (a := 5000) (b := 5000) (by decide)) bx_240 (by decide)
            replace hR := tb hR ex_241
            refine lv_iadd hx hb dX10_nightTo_71 ?_
            refine lv_topi (fun x_242 ex_242 => ?_)
            have bx_242 : iv 5000 9843 x_242 := by rw [ex_242]; exact iv_add b_185 bx_241 (by decide)
            replace hR := tb hR ex_242
            refine lv_istore (lv' := [(4, .int x_242), (5, .int 3), (0, .ref (z 0)), (1, .int a1), (2, .int a2), (3, .int a3)]) hx hb dX10_nightTo_72 hl (by decide) rfl (fun ls hl => ?_)
            refine lv_goto (tgt := 92) hx hb dX10_nightTo_74 (by decide) ?_
            refine lv_iinc (v := 4) (lv' := [(5, .int 4), (4, .int x_242), (0, .ref (z 0)), (1, .int a1), (2, .int a2), (3, .int a3)]) hx hb dX10_nightTo_92 hl (k := 1) rfl (by decide +kernel) (by decide) rfl (fun ls hl => ?_)
            refine lv_goto (tgt := 6) hx hb dX10_nightTo_95 (by decide) ?_
            exact ihn_5 _ _ _ _ (by rw [en_5]; decide) ⟨4, x_242, f_190, f_186, (iv_c (4 : Int32) (by decide)), (iv_w bx_242 (by decide)), tf_186, (nb_o bx_242 (by decide)), g_191, (tbk hAn_5 hR), rfl, hP, hD, hS, lv_sub hl [0, 1, 2, 3, 4, 5] rfl⟩
        · have hP : va_P V.1 vwCl [(z 15, aI V 900 f_190), (z 16, aI V 6 f_186), (z 0, .inr (10, mo z pz0_0 pz0_5 pz0_6 pz0_7 pz0_8 pz0_9 pz0_10 pz0_11 pz0_12 pz0_13 pz0_14 pz0_18 pz0_19 pz0_22 pz0_23 pz0_29)), (z 1, aI V 3075 fz1)] H := hP
          have hD := cpD hP hD
          replace hR := te hR (by rw [← et_228]; decide)
          replace hR := ti hR et_228.symm
          exact absurd c_227 (by decide)
        · have hP : va_P V.1 vwCl [(z 15, aI V 900 f_190), (z 16, aI V 6 f_186), (z 0, .inr (10, mo z pz0_0 pz0_5 pz0_6 pz0_7 pz0_8 pz0_9 pz0_10 pz0_11 pz0_12 pz0_13 pz0_14 pz0_18 pz0_19 pz0_22 pz0_23 pz0_29)), (z 1, aI V 3075 fz1)] H := hP
          have hD := cpD hP hD
          replace hR := te hR (by rw [← et_231]; decide)
          replace hR := te hR (by rw [← et_231]; decide)
          replace hR := ti hR et_231.symm
          exact absurd c_230 (by decide)
        · have hP : va_P V.1 vwCl [(z 15, aI V 900 f_190), (z 16, aI V 6 f_186), (z 0, .inr (10, mo z pz0_0 pz0_5 pz0_6 pz0_7 pz0_8 pz0_9 pz0_10 pz0_11 pz0_12 pz0_13 pz0_14 pz0_18 pz0_19 pz0_22 pz0_23 pz0_29)), (z 1, aI V 3075 fz1)] H := hP
          have hD := cpD hP hD
          replace hR := te hR (by rw [← et_233]; decide)
          replace hR := te hR (by rw [← et_233]; decide)
          replace hR := te hR (by rw [← et_233]; decide)
          exact absurd c_232 (by decide)
theorem dX10_takes_0 : decode cX10_takes 0 = .ok (.aload_n 0, 1) := by decide +kernel
theorem dX10_takes_1 : decode cX10_takes 1 = .ok (.iconst 0, 1) := by decide +kernel
theorem dX10_takes_2 : decode cX10_takes 2 = .ok (.putfield 1, 3) := by decide +kernel
theorem dX10_takes_5 : decode cX10_takes 5 = .ok (.aload_n 0, 1) := by decide +kernel
theorem dX10_takes_6 : decode cX10_takes 6 = .ok (.iload_n 2, 1) := by decide +kernel
theorem dX10_takes_7 : decode cX10_takes 7 = .ok (.i2l, 1) := by decide +kernel
theorem dX10_takes_8 : decode cX10_takes 8 = .ok (.invokevirtual 262, 3) := by decide +kernel
theorem dX10_takes_11 : decode cX10_takes 11 = .ok (.ifCond .ne 6, 3) := by decide +kernel
theorem dX10_takes_17 : decode cX10_takes 17 = .ok (.aload_n 0, 1) := by decide +kernel
theorem dX10_takes_18 : decode cX10_takes 18 = .ok (.iload_n 1, 1) := by decide +kernel
theorem dX10_takes_19 : decode cX10_takes 19 = .ok (.i2l, 1) := by decide +kernel
theorem q_7_10 : Cond.code yX10_isNight prog_12_method_51_code 3 (some FieldType.boolean) ∈ gw := gw_7 (i := 10) (rfl) rfl
theorem q_7_9 : Cond.instanceMethod yX10_isNight ∈ gw := gw_7 (i := 9) (by decide +kernel) rfl
theorem q_s_80 : Cond.selects "BeaconDelayModel" yX10_isNight yX10_isNight ∈ gw := gw_s (i := 80) (by decide +kernel) rfl
theorem mt_X10_isNight : MtV yX10_isNight cX10_isNight 3 (some .boolean) 1 := ⟨⟨q_7_10, q_1_9, by decide +kernel, by decide +kernel, by decide +kernel⟩, q_7_9, q_s_80⟩
theorem q_7_7 : Cond.methodLink "BeaconDelayModel" 266 yX10_isNight ∈ gw := gw_7 (i := 7) (by decide +kernel) rfl
theorem dX10_takes_20 : decode cX10_takes 20 = .ok (.invokevirtual 266, 3) := by decide +kernel
theorem dX10_takes_23 : decode cX10_takes 23 = .ok (.ifCond .eq 29, 3) := by decide +kernel
theorem dX10_takes_52 : decode cX10_takes 52 = .ok (.bipush (-5), 2) := by decide +kernel
theorem dX10_takes_54 : decode cX10_takes 54 = .ok (.ireturn, 1) := by decide +kernel
theorem dX10_takes_26 : decode cX10_takes 26 = .ok (.aload_n 0, 1) := by decide +kernel
theorem dX10_takes_27 : decode cX10_takes 27 = .ok (.aload_n 0, 1) := by decide +kernel
theorem q_7_14 : Cond.code yX10_standNow prog_12_method_40_code 3 (some FieldType.int) ∈ gw := gw_7 (i := 14) (rfl) rfl
theorem q_7_13 : Cond.instanceMethod yX10_standNow ∈ gw := gw_7 (i := 13) (by decide +kernel) rfl
theorem q_s_81 : Cond.selects "BeaconDelayModel" yX10_standNow yX10_standNow ∈ gw := gw_s (i := 81) (by decide +kernel) rfl
theorem mt_X10_standNow : MtV yX10_standNow cX10_standNow 3 (some .int) 0 := ⟨⟨q_7_14, q_1_9, by decide +kernel, by decide +kernel, by decide +kernel⟩, q_7_13, q_s_81⟩
theorem q_7_11 : Cond.methodLink "BeaconDelayModel" 269 yX10_standNow ∈ gw := gw_7 (i := 11) (by decide +kernel) rfl
theorem dX10_takes_28 : decode cX10_takes 28 = .ok (.invokevirtual 269, 3) := by decide +kernel
theorem dX10_takes_31 : decode cX10_takes 31 = .ok (.iload_n 1, 1) := by decide +kernel
theorem dX10_takes_32 : decode cX10_takes 32 = .ok (.aload_n 0, 1) := by decide +kernel
theorem dX10_takes_33 : decode cX10_takes 33 = .ok (.getfield 13, 3) := by decide +kernel
theorem dX10_takes_36 : decode cX10_takes 36 = .ok (.bipush 51, 2) := by decide +kernel
theorem dX10_takes_38 : decode cX10_takes 38 = .ok (.iaload, 1) := by decide +kernel
theorem q_7_21 : Cond.code yX10_nightTo prog_12_method_50_code 6 (some FieldType.int) ∈ gw := gw_7 (i := 21) (rfl) rfl
theorem q_7_20 : Cond.instanceMethod yX10_nightTo ∈ gw := gw_7 (i := 20) (by decide +kernel) rfl
theorem q_s_82 : Cond.selects "BeaconDelayModel" yX10_nightTo yX10_nightTo ∈ gw := gw_s (i := 82) (by decide +kernel) rfl
theorem mt_X10_nightTo : MtV yX10_nightTo cX10_nightTo 6 (some .int) 3 := ⟨⟨q_7_21, q_1_9, by decide +kernel, by decide +kernel, by decide +kernel⟩, q_7_20, q_s_82⟩
theorem q_7_18 : Cond.methodLink "BeaconDelayModel" 272 yX10_nightTo ∈ gw := gw_7 (i := 18) (by decide +kernel) rfl
theorem dX10_takes_39 : decode cX10_takes 39 = .ok (.invokevirtual 272, 3) := by decide +kernel
theorem dX10_takes_42 : decode cX10_takes 42 = .ok (.invokestatic 234, 3) := by decide +kernel
theorem dX10_takes_45 : decode cX10_takes 45 = .ok (.iload_n 2, 1) := by decide +kernel
theorem dX10_takes_46 : decode cX10_takes 46 = .ok (.ishr, 1) := by decide +kernel
theorem dX10_takes_47 : decode cX10_takes 47 = .ok (.iconst 1, 1) := by decide +kernel
theorem dX10_takes_48 : decode cX10_takes 48 = .ok (.iand, 1) := by decide +kernel
theorem dX10_takes_49 : decode cX10_takes 49 = .ok (.goto 5, 3) := by decide +kernel
theorem dX10_takes_14 : decode cX10_takes 14 = .ok (.bipush (-2), 2) := by decide +kernel
theorem dX10_takes_16 : decode cX10_takes 16 = .ok (.ireturn, 1) := by decide +kernel
set_option maxRecDepth 100000 in
noncomputable def F_k_X10_takes_0 (a1 : Int32) (a2 : Int32) (fz1 : Nat → Int32) (fz15 : Nat → Int32) (fz16 : Nat → Int32) : Int32 × Int32 × (Nat → Int32) × (Nat → Int32) := bnd (a2.toInt64 : Int64) fun (j_1 : Int64) => bnd (F_k_X10_isHill_0 j_1 fz1 : Int32) fun (r_2 : Int32) => if r_2 = (0 : Int32) then ((((-2) : Int32), (0 : Int32), fz15, fz16)) else (bnd (a1.toInt64 : Int64) fun (j_10 : Int64) => bnd (F_k_X10_isNight_0 j_10 fz1 : Int32) fun (r_11 : Int32) => if r_11 = (0 : Int32) then ((((-5) : Int32), (0 : Int32), fz15, fz16)) else (bnd (F_k_X10_standNow_0 fz1 : Int32) fun (r_20 : Int32) => bnd (fz1 (51 : Int32).toNatClampNeg : Int32) fun (x_23 : Int32) => bnd (F_k_X10_nightTo_0 r_20 a1 x_23 fz15 fz16 fz1 : Int32 × (Nat → Int32) × (Nat → Int32)) fun (q_31 : Int32 × (Nat → Int32) × (Nat → Int32)) => bnd (q_31.1 : Int32) fun (r_24 : Int32) => bnd (q_31.2.1 : Nat → Int32) fun (f_25 : Nat → Int32) => bnd (q_31.2.2 : Nat → Int32) fun (f_26 : Nat → Int32) => bnd (F_k_X10_tookIn_0 r_24 : Int32) fun (r_32 : Int32) => bnd (r_32 >>> (a2 &&& 31) : Int32) fun (x_35 : Int32) => bnd (x_35 &&& (1 : Int32) : Int32) fun (x_36 : Int32) => (x_36, (0 : Int32), f_25, f_26)))
set_option maxHeartbeats 4000000 in
set_option maxRecDepth 100000 in
theorem k_X10_takes_0 (l : Launch) (V : GV) (z : Nat → Nat) (a1 : Int32) (a2 : Int32) (pz0_0 : Int32) (pz0_5 : Int32) (pz0_6 : Int32) (pz0_7 : Int32) (pz0_8 : Int32) (pz0_9 : Int32) (pz0_10 : Int32) (pz0_11 : Int32) (pz0_12 : Int32) (pz0_13 : Int32) (pz0_14 : Int32) (pz0_18 : Int32) (pz0_19 : Int32) (pz0_22 : Int32) (pz0_23 : Int32) (pz0_29 : Int32) (fz1 : Nat → Int32) (fz15 : Nat → Int32) (fz16 : Nat → Int32) (bpz0_5 : iv 0 900 pz0_5) (bpz0_6 : iv 0 900 pz0_6) (bpz0_7 : iv 0 900 pz0_7) (bpz0_8 : iv 0 900 pz0_8) (bpz0_10 : iv 0 999 pz0_10) (bpz0_11 : iv 0 4 pz0_11) (bpz0_12 : iv 0 900 pz0_12) (bpz0_13 : iv 0 4 pz0_13) (bpz0_14 : iv (-1) 900 pz0_14) (bpz0_18 : iv 0 2 pz0_18) (bpz0_22 : iv 0 9999 pz0_22) (bpz0_29 : iv 0 10000 pz0_29) (tfz1 : ivT tA fz1) (tfz16 : ivT tW fz16) (hf0 : RW fz1) : Ct l V yX10_takes (.code yX10_takes cX10_takes 3 (some .int)) 5 [.ref (z 0), .int a1, .int a2] [(z 0, .inr (10, mo z pz0_0 pz0_5 pz0_6 pz0_7 pz0_8 pz0_9 pz0_10 pz0_11 pz0_12 pz0_13 pz0_14 pz0_18 pz0_19 pz0_22 pz0_23 pz0_29)), (z 1, aI V 3075 fz1), (z 15, aI V 900 fz15), (z 16, aI V 6 fz16)] 0 0 (QI V (fun (r : Int32) (w : va_W) => ∃ (v0 : Int32) (g1 : Nat → Int32) (g2 : Nat → Int32), (ivT tW g2) ∧ iv (-5) 1 r ∧ (RW fz1) ∧ r = (F_k_X10_takes_0 a1 a2 fz1 fz15 fz16).1 ∧ v0 = (F_k_X10_takes_0 a1 a2 fz1 fz15 fz16).2.1 ∧ g1 = (F_k_X10_takes_0 a1 a2 fz1 fz15 fz16).2.2.1 ∧ g2 = (F_k_X10_takes_0 a1 a2 fz1 fz15 fz16).2.2.2 ∧ w = [(z 0, .inr (10, mo z v0 pz0_5 pz0_6 pz0_7 pz0_8 pz0_9 pz0_10 pz0_11 pz0_12 pz0_13 pz0_14 pz0_18 pz0_19 pz0_22 pz0_23 pz0_29)), (z 1, aI V 3075 fz1), (z 15, aI V 900 g1), (z 16, aI V 6 g2)])) := by
  refine Ct.of (by decide) (Nat.le_of_ble_eq_true rfl) (fun p e s m below meth c A ls hx hb hr hml hown hlk hnm hg hP hK hD hE hA hS hl => ?_)
  have hl : lv_has ls 3 [(0, .ref (z 0)), (1, .int a1), (2, .int a2)] := hl
  obtain ⟨T0, hT0⟩ : ∃ T9, T9 = F_k_X10_takes_0 a1 a2 fz1 fz15 fz16 := ⟨_, rfl⟩
  have hR := hT0.trans (F_k_X10_takes_0.eq_1 ..)
  refine lv_aload_n hx hb dX10_takes_0 rfl (lv_at hl 0 rfl) ?_
  refine lv_iconst (v := 0) hx hb dX10_takes_1 (by decide) ?_
  refine va_put (ci := 10) (v := .int 0) (ty := .int) (C := RX10) (T := TX10) (N := 40) hx hb hg inX10 tyX10 tyX10_ok nmX10 hown hK hP hD hS 0 rfl rfl 0 (by decide) (hg _ q_5_224) (fun _ h9 => h9) rfl (by decide +kernel) rfl rfl (Nat.le_of_ble_eq_true rfl) dX10_takes_2 (fun H locs hP hD hS => ?_)
  have hP : va_P V.1 vwCl [(z 0, .inr (10, mo z 0 pz0_5 pz0_6 pz0_7 pz0_8 pz0_9 pz0_10 pz0_11 pz0_12 pz0_13 pz0_14 pz0_18 pz0_19 pz0_22 pz0_23 pz0_29)), (z 1, aI V 3075 fz1), (z 15, aI V 900 fz15), (z 16, aI V 6 fz16)] H := hP
  have hD := cpD hP hD
  refine lv_aload_n hx hb dX10_takes_5 rfl (lv_at hl 0 rfl) ?_
  refine lv_iload_n hx hb dX10_takes_6 rfl (lv_at hl 2 rfl) ?_
  refine lv_i2l hx hb dX10_takes_7 rfl ?_
  refine lv_topl (fun j_1 ej_1 => ?_)
  replace hR := tb hR ej_1
  refine jnI (wr := [(z 15, aI V 900 fz15), (z 16, aI V 6 fz16)]) (rnV (rest := []) ⟨hx, hb, hml, hown, hg⟩ (k_X10_isHill_0 l V z j_1 0 pz0_5 pz0_6 pz0_7 pz0_8 pz0_9 pz0_10 pz0_11 pz0_12 pz0_13 pz0_14 pz0_18 pz0_19 pz0_22 pz0_23 pz0_29 fz1 bpz0_5 bpz0_6 bpz0_7 bpz0_8 bpz0_10 bpz0_11 bpz0_12 bpz0_13 bpz0_14 bpz0_18 bpz0_22 bpz0_29 tfz1) mt_X10_isHill q_6_235 ⟨Nat.le_of_ble_eq_true rfl, Nat.le_of_ble_eq_true rfl⟩ hK hP hD hS hA hE [0, 1] rfl rfl 0 rfl rfl rfl rfl hl.1 rfl (Nat.le_of_ble_eq_true rfl) dX10_takes_8 ⟨Nat.le_of_ble_eq_true rfl, Nat.le_of_ble_eq_true rfl⟩) hP hD hS hA [0, 1] [2, 3] rfl rfl rfl (by decide) (fun r_2 w H locs hw hP hD hS => ?_)
  obtain ⟨br_2, g_3, et_4, rfl⟩ := hw
  replace hR := tb hR et_4
  have hP : va_P V.1 vwCl [(z 15, aI V 900 fz15), (z 16, aI V 6 fz16), (z 0, .inr (10, mo z 0 pz0_5 pz0_6 pz0_7 pz0_8 pz0_9 pz0_10 pz0_11 pz0_12 pz0_13 pz0_14 pz0_18 pz0_19 pz0_22 pz0_23 pz0_29)), (z 1, aI V 3075 fz1)] H := hP
  have hD := cpD hP hD
  refine lv_if_ne (tgt := 17) hx hb dX10_takes_11 (by decide) (fun c_6 => ?_) (fun c_6 => ?_)
  · replace hR := te hR c_6
    have b_7 : iv 1 1 r_2 := iv_n0 c_6 br_2 (iv_c (0 : Int32) (a := 0) (b := 0) (by decide)) (by decide)
    have b_8 : ivL 0 3 j_1 := ivL_cap (g_3 (iv_eqp b_7 (iv_c (1 : Int32) (by decide)))) (ivL_top j_1) (by decide)
    have b_9 : iv 0 3 a2 := iv_cap (ivL_i ej_1 b_8) (iv_top a2) (by decide)
    refine lv_aload_n hx hb dX10_takes_17 rfl (lv_at hl 0 rfl) ?_
    refine lv_iload_n hx hb dX10_takes_18 rfl (lv_at hl 1 rfl) ?_
    refine lv_i2l hx hb dX10_takes_19 rfl ?_
    refine lv_topl (fun j_10 ej_10 => ?_)
    replace hR := tb hR ej_10
    refine jnI (wr := [(z 15, aI V 900 fz15), (z 16, aI V 6 fz16)]) (rnV (rest := []) ⟨hx, hb, hml, hown, hg⟩ (k_X10_isNight_0 l V z j_10 0 pz0_5 pz0_6 pz0_7 pz0_8 pz0_9 pz0_10 pz0_11 pz0_12 pz0_13 pz0_14 pz0_18 pz0_19 pz0_22 pz0_23 pz0_29 fz1 bpz0_5 bpz0_6 bpz0_7 bpz0_8 bpz0_10 bpz0_11 bpz0_12 bpz0_13 bpz0_14 bpz0_18 bpz0_22 bpz0_29 tfz1) mt_X10_isNight q_7_7 ⟨Nat.le_of_ble_eq_true rfl, Nat.le_of_ble_eq_true rfl⟩ hK hP hD hS hA hE [2, 3] rfl rfl 2 rfl rfl rfl rfl hl.1 rfl (Nat.le_of_ble_eq_true rfl) dX10_takes_20 ⟨Nat.le_of_ble_eq_true rfl, Nat.le_of_ble_eq_true rfl⟩) hP hD hS hA [2, 3] [0, 1] rfl rfl rfl (by decide) (fun r_11 w H locs hw hP hD hS => ?_)
    obtain ⟨br_11, g_12, et_13, rfl⟩ := hw
    replace hR := tb hR et_13
    have hP : va_P V.1 vwCl [(z 15, aI V 900 fz15), (z 16, aI V 6 fz16), (z 0, .inr (10, mo z 0 pz0_5 pz0_6 pz0_7 pz0_8 pz0_9 pz0_10 pz0_11 pz0_12 pz0_13 pz0_14 pz0_18 pz0_19 pz0_22 pz0_23 pz0_29)), (z 1, aI V 3075 fz1)] H := hP
    have hD := cpD hP hD
    refine lv_if_eq (tgt := 52) hx hb dX10_takes_23 (by decide) (fun c_15 => ?_) (fun c_15 => ?_)
    · replace hR := ti hR c_15
      have b_16 : iv 0 0 r_11 := iv_q c_15 (iv_c (0 : Int32) (a := 0) (b := 0) (by decide))
      refine lv_bipush (v := (-5)) hx hb dX10_takes_52 (by decide) ?_
      have hP := subP (ws' := [(z 0, .inr (10, mo z 0 pz0_5 pz0_6 pz0_7 pz0_8 pz0_9 pz0_10 pz0_11 pz0_12 pz0_13 pz0_14 pz0_18 pz0_19 pz0_22 pz0_23 pz0_29)), (z 1, aI V 3075 fz1), (z 15, aI V 900 fz15), (z 16, aI V 6 fz16)]) hP [2, 3, 0, 1] rfl
      have hD := subD hP hD [2, 3, 0, 1] rfl rfl
      exact fiI hx hb hr hlk hK hP hD hS dX10_takes_54 (Nat.le_of_ble_eq_true rfl) (Nat.le_of_ble_eq_true rfl) (⟨0, fz15, fz16, tfz16, (iv_c ((-5) : Int32) (by decide)), hf0, (congrArg Prod.fst (hR.symm.trans hT0)), (congrArg Prod.fst (congrArg Prod.snd (hR.symm.trans hT0))), (congrArg Prod.fst (congrArg Prod.snd (congrArg Prod.snd (hR.symm.trans hT0)))), (congrArg Prod.snd (congrArg Prod.snd (congrArg Prod.snd (hR.symm.trans hT0)))), rfl⟩)
    · replace hR := te hR c_15
      have b_17 : iv 1 1 r_11 := iv_n0 c_15 br_11 (iv_c (0 : Int32) (a := 0) (b := 0) (by decide)) (by decide)
      have b_18 : ivL 0 3 j_10 := ivL_cap (g_12 (iv_eqp b_17 (iv_c (1 : Int32) (by decide)))) (ivL_top j_10) (by decide)
      have b_19 : iv 0 3 a1 := iv_cap (ivL_i ej_10 b_18) (iv_top a1) (by decide)
      refine lv_aload_n hx hb dX10_takes_26 rfl (lv_at hl 0 rfl) ?_
      refine lv_aload_n hx hb dX10_takes_27 rfl (lv_at hl 0 rfl) ?_
      refine jnI (wr := [(z 15, aI V 900 fz15), (z 16, aI V 6 fz16)]) (rnV (rest := [.ref (z 0)]) ⟨hx, hb, hml, hown, hg⟩ (k_X10_standNow_0 l V z 0 pz0_5 pz0_6 pz0_7 pz0_8 pz0_9 pz0_10 pz0_11 pz0_12 pz0_13 pz0_14 pz0_18 pz0_19 pz0_22 pz0_23 pz0_29 fz1 bpz0_5 bpz0_6 bpz0_7 bpz0_8 bpz0_10 bpz0_11 bpz0_12 bpz0_13 bpz0_14 bpz0_18 bpz0_22 bpz0_29 tfz1) mt_X10_standNow q_7_11 ⟨Nat.le_of_ble_eq_true rfl, Nat.le_of_ble_eq_true rfl⟩ hK hP hD hS hA hE [2, 3] rfl rfl 2 rfl rfl rfl rfl hl.1 rfl (Nat.le_of_ble_eq_true rfl) dX10_takes_28 ⟨Nat.le_of_ble_eq_true rfl, Nat.le_of_ble_eq_true rfl⟩) hP hD hS hA [2, 3] [0, 1] rfl rfl rfl (by decide) (fun r_20 w H locs hw hP hD hS => ?_)
      obtain ⟨br_20, er_20, et_21, rfl⟩ := hw
      replace hR := tb hR et_21
      have hP : va_P V.1 vwCl [(z 15, aI V 900 fz15), (z 16, aI V 6 fz16), (z 0, .inr (10, mo z 0 pz0_5 pz0_6 pz0_7 pz0_8 pz0_9 pz0_10 pz0_11 pz0_12 pz0_13 pz0_14 pz0_18 pz0_19 pz0_22 pz0_23 pz0_29)), (z 1, aI V 3075 fz1)] H := hP
      have hD := cpD hP hD
      refine lv_iload_n hx hb dX10_takes_31 rfl (lv_at hl 1 rfl) ?_
      refine lv_aload_n hx hb dX10_takes_32 rfl (lv_at hl 0 rfl) ?_
      refine va_get (ci := 10) (v := .ref (z 1)) (C := RX10) (T := TX10) (N := 40) hx hb hg inX10 hown hK hP 2 rfl rfl 1 (by decide) (hg _ q_5_225) (fun _ h9 => h9) rfl dX10_takes_33 ?_
      refine lv_bipush (v := 51) hx hb dX10_takes_36 (by decide) ?_
      refine va_iald hx hb hK hP 3 0 rfl rfl (vin (by decide +kernel)) dX10_takes_38 ?_
      refine lv_topi (fun x_23 ex_23 => ?_)
      have bx_23 : iv 0 9 x_23 := by rw [ex_23]; exact rdT (a := 51) (n := 1) tfz1 (iv_c (51 : Int32) (a := 51) (b := 51) (by decide)) (by decide) (by decide +kernel)
      replace hR := tb hR ex_23
      refine jnI (wr := []) (rnV (rest := []) ⟨hx, hb, hml, hown, hg⟩ (k_X10_nightTo_0 l V z r_20 a1 x_23 fz15 fz16 0 pz0_5 pz0_6 pz0_7 pz0_8 pz0_9 pz0_10 pz0_11 pz0_12 pz0_13 pz0_14 pz0_18 pz0_19 pz0_22 pz0_23 pz0_29 fz1 br_20 tfz16 bpz0_5 bpz0_6 bpz0_7 bpz0_8 bpz0_10 bpz0_11 bpz0_12 bpz0_13 bpz0_14 bpz0_18 bpz0_22 bpz0_29 tfz1 hf0) mt_X10_nightTo q_7_18 ⟨Nat.le_of_ble_eq_true rfl, Nat.le_of_ble_eq_true rfl⟩ hK hP hD hS hA hE [0, 1, 2, 3] rfl rfl 2 rfl rfl rfl rfl hl.1 rfl (Nat.le_of_ble_eq_true rfl) dX10_takes_39 ⟨Nat.le_of_ble_eq_true rfl, Nat.le_of_ble_eq_true rfl⟩) hP hD hS hA [0, 1, 2, 3] [] rfl rfl rfl (by decide) (fun r_24 w H locs hw hP hD hS => ?_)
      obtain ⟨f_25, f_26, tf_26, br_24, g_27, et_28, et_29, et_30, rfl⟩ := hw
      replace hR := tb0 hR
      replace hR := tb hR et_28
      replace hR := tb hR et_29
      replace hR := tb hR et_30
      have hP : va_P V.1 vwCl [(z 15, aI V 900 f_25), (z 16, aI V 6 f_26), (z 0, .inr (10, mo z 0 pz0_5 pz0_6 pz0_7 pz0_8 pz0_9 pz0_10 pz0_11 pz0_12 pz0_13 pz0_14 pz0_18 pz0_19 pz0_22 pz0_23 pz0_29)), (z 1, aI V 3075 fz1)] H := hP
      have hD := cpD hP hD
      refine jnI (wr := [(z 15, aI V 900 f_25), (z 16, aI V 6 f_26), (z 0, .inr (10, mo z 0 pz0_5 pz0_6 pz0_7 pz0_8 pz0_9 pz0_10 pz0_11 pz0_12 pz0_13 pz0_14 pz0_18 pz0_19 pz0_22 pz0_23 pz0_29)), (z 1, aI V 3075 fz1)]) (rnS (rest := []) ⟨hx, hb, hml, hown, hg⟩ (k_X10_tookIn_0 l V r_24 (iv_w br_24 (by decide))) mt_X10_tookIn q_7_29 ⟨Nat.le_of_ble_eq_true rfl, Nat.le_of_ble_eq_true rfl⟩ hK hP hD hS hA hE [] rfl rfl rfl hl.1 rfl (Nat.le_of_ble_eq_true rfl) dX10_takes_42 ⟨Nat.le_of_ble_eq_true rfl, Nat.le_of_ble_eq_true rfl⟩) hP hD hS hA [] [0, 1, 2, 3] rfl rfl rfl (by decide) (fun r_32 w H locs hw hP hD hS => ?_)
      obtain ⟨br_32, et_33, rfl⟩ := hw
      replace hR := tb hR et_33
      have hP : va_P V.1 vwCl [(z 15, aI V 900 f_25), (z 16, aI V 6 f_26), (z 0, .inr (10, mo z 0 pz0_5 pz0_6 pz0_7 pz0_8 pz0_9 pz0_10 pz0_11 pz0_12 pz0_13 pz0_14 pz0_18 pz0_19 pz0_22 pz0_23 pz0_29)), (z 1, aI V 3075 fz1)] H := hP
      have hD := cpD hP hD
      refine lv_iload_n hx hb dX10_takes_45 rfl (lv_at hl 2 rfl) ?_
      refine lv_ishr hx hb dX10_takes_46 ?_
      refine lv_topi (fun x_35 ex_35 => ?_)
      replace hR := tb hR ex_35
      refine lv_iconst (v := 1) hx hb dX10_takes_47 (by decide) ?_
      refine lv_iand hx hb dX10_takes_48 ?_
      refine lv_topi (fun x_36 ex_36 => ?_)
      have bx_36 : iv 0 1 x_36 := by rw [ex_36]; exact iv_and1 _
      replace hR := tb hR ex_36
      refine lv_goto (tgt := 54) hx hb dX10_takes_49 (by decide) ?_
      have hP := subP (ws' := [(z 0, .inr (10, mo z 0 pz0_5 pz0_6 pz0_7 pz0_8 pz0_9 pz0_10 pz0_11 pz0_12 pz0_13 pz0_14 pz0_18 pz0_19 pz0_22 pz0_23 pz0_29)), (z 1, aI V 3075 fz1), (z 15, aI V 900 f_25), (z 16, aI V 6 f_26)]) hP [2, 3, 0, 1] rfl
      have hD := subD hP hD [2, 3, 0, 1] rfl rfl
      exact fiI hx hb hr hlk hK hP hD hS dX10_takes_54 (Nat.le_of_ble_eq_true rfl) (Nat.le_of_ble_eq_true rfl) (⟨0, f_25, f_26, tf_26, (iv_w bx_36 (by decide)), g_27, (congrArg Prod.fst (hR.symm.trans hT0)), (congrArg Prod.fst (congrArg Prod.snd (hR.symm.trans hT0))), (congrArg Prod.fst (congrArg Prod.snd (congrArg Prod.snd (hR.symm.trans hT0)))), (congrArg Prod.snd (congrArg Prod.snd (congrArg Prod.snd (hR.symm.trans hT0)))), rfl⟩)
  · replace hR := ti hR c_6
    have b_37 : iv 0 0 r_2 := iv_q c_6 (iv_c (0 : Int32) (a := 0) (b := 0) (by decide))
    refine lv_bipush (v := (-2)) hx hb dX10_takes_14 (by decide) ?_
    have hP := subP (ws' := [(z 0, .inr (10, mo z 0 pz0_5 pz0_6 pz0_7 pz0_8 pz0_9 pz0_10 pz0_11 pz0_12 pz0_13 pz0_14 pz0_18 pz0_19 pz0_22 pz0_23 pz0_29)), (z 1, aI V 3075 fz1), (z 15, aI V 900 fz15), (z 16, aI V 6 fz16)]) hP [2, 3, 0, 1] rfl
    have hD := subD hP hD [2, 3, 0, 1] rfl rfl
    exact fiI hx hb hr hlk hK hP hD hS dX10_takes_16 (Nat.le_of_ble_eq_true rfl) (Nat.le_of_ble_eq_true rfl) (⟨0, fz15, fz16, tfz16, (iv_c ((-2) : Int32) (by decide)), hf0, (congrArg Prod.fst (hR.symm.trans hT0)), (congrArg Prod.fst (congrArg Prod.snd (hR.symm.trans hT0))), (congrArg Prod.fst (congrArg Prod.snd (congrArg Prod.snd (hR.symm.trans hT0)))), (congrArg Prod.snd (congrArg Prod.snd (congrArg Prod.snd (hR.symm.trans hT0)))), rfl⟩)
theorem dX10_by_0 : decode cX10_by 0 = .ok (.aload_n 0, 1) := by decide +kernel
theorem dX10_by_1 : decode cX10_by 1 = .ok (.iconst 0, 1) := by decide +kernel
theorem dX10_by_2 : decode cX10_by 2 = .ok (.putfield 1, 3) := by decide +kernel
theorem dX10_by_5 : decode cX10_by 5 = .ok (.aload_n 0, 1) := by decide +kernel
theorem dX10_by_6 : decode cX10_by 6 = .ok (.iload_n 2, 1) := by decide +kernel
theorem dX10_by_7 : decode cX10_by 7 = .ok (.i2l, 1) := by decide +kernel
theorem dX10_by_8 : decode cX10_by 8 = .ok (.invokevirtual 262, 3) := by decide +kernel
theorem dX10_by_11 : decode cX10_by 11 = .ok (.ifCond .ne 6, 3) := by decide +kernel
theorem dX10_by_17 : decode cX10_by 17 = .ok (.aload_n 0, 1) := by decide +kernel
theorem dX10_by_18 : decode cX10_by 18 = .ok (.iload_n 1, 1) := by decide +kernel
theorem dX10_by_19 : decode cX10_by 19 = .ok (.i2l, 1) := by decide +kernel
theorem dX10_by_20 : decode cX10_by 20 = .ok (.invokevirtual 266, 3) := by decide +kernel
theorem dX10_by_23 : decode cX10_by 23 = .ok (.ifCond .eq 26, 3) := by decide +kernel
theorem dX10_by_49 : decode cX10_by 49 = .ok (.bipush (-5), 2) := by decide +kernel
theorem dX10_by_51 : decode cX10_by 51 = .ok (.ireturn, 1) := by decide +kernel
theorem dX10_by_26 : decode cX10_by 26 = .ok (.aload_n 0, 1) := by decide +kernel
theorem dX10_by_27 : decode cX10_by 27 = .ok (.aload_n 0, 1) := by decide +kernel
theorem dX10_by_28 : decode cX10_by 28 = .ok (.invokevirtual 269, 3) := by decide +kernel
theorem dX10_by_31 : decode cX10_by 31 = .ok (.iload_n 1, 1) := by decide +kernel
theorem dX10_by_32 : decode cX10_by 32 = .ok (.aload_n 0, 1) := by decide +kernel
theorem dX10_by_33 : decode cX10_by 33 = .ok (.getfield 13, 3) := by decide +kernel
theorem dX10_by_36 : decode cX10_by 36 = .ok (.bipush 51, 2) := by decide +kernel
theorem dX10_by_38 : decode cX10_by 38 = .ok (.iaload, 1) := by decide +kernel
theorem dX10_by_39 : decode cX10_by 39 = .ok (.invokevirtual 272, 3) := by decide +kernel
theorem dX10_by_42 : decode cX10_by 42 = .ok (.iload_n 2, 1) := by decide +kernel
theorem dX10_by_43 : decode cX10_by 43 = .ok (.invokestatic 231, 3) := by decide +kernel
theorem dX10_by_46 : decode cX10_by 46 = .ok (.goto 5, 3) := by decide +kernel
theorem dX10_by_14 : decode cX10_by 14 = .ok (.bipush (-2), 2) := by decide +kernel
theorem dX10_by_16 : decode cX10_by 16 = .ok (.ireturn, 1) := by decide +kernel
set_option maxRecDepth 100000 in
noncomputable def F_k_X10_by_0 (a1 : Int32) (a2 : Int32) (fz1 : Nat → Int32) (fz15 : Nat → Int32) (fz16 : Nat → Int32) : Int32 × Int32 × (Nat → Int32) × (Nat → Int32) := bnd (a2.toInt64 : Int64) fun (j_1 : Int64) => bnd (F_k_X10_isHill_0 j_1 fz1 : Int32) fun (r_2 : Int32) => if r_2 = (0 : Int32) then ((((-2) : Int32), (0 : Int32), fz15, fz16)) else (bnd (a1.toInt64 : Int64) fun (j_10 : Int64) => bnd (F_k_X10_isNight_0 j_10 fz1 : Int32) fun (r_11 : Int32) => if r_11 = (0 : Int32) then ((((-5) : Int32), (0 : Int32), fz15, fz16)) else (bnd (F_k_X10_standNow_0 fz1 : Int32) fun (r_20 : Int32) => bnd (fz1 (51 : Int32).toNatClampNeg : Int32) fun (x_23 : Int32) => bnd (F_k_X10_nightTo_0 r_20 a1 x_23 fz15 fz16 fz1 : Int32 × (Nat → Int32) × (Nat → Int32)) fun (q_31 : Int32 × (Nat → Int32) × (Nat → Int32)) => bnd (q_31.1 : Int32) fun (r_24 : Int32) => bnd (q_31.2.1 : Nat → Int32) fun (f_25 : Nat → Int32) => bnd (q_31.2.2 : Nat → Int32) fun (f_26 : Nat → Int32) => bnd (F_k_X10_stackIn_0 r_24 a2 : Int32) fun (r_32 : Int32) => (r_32, (0 : Int32), f_25, f_26)))
set_option maxHeartbeats 4000000 in
set_option maxRecDepth 100000 in
theorem k_X10_by_0 (l : Launch) (V : GV) (z : Nat → Nat) (a1 : Int32) (a2 : Int32) (pz0_0 : Int32) (pz0_5 : Int32) (pz0_6 : Int32) (pz0_7 : Int32) (pz0_8 : Int32) (pz0_9 : Int32) (pz0_10 : Int32) (pz0_11 : Int32) (pz0_12 : Int32) (pz0_13 : Int32) (pz0_14 : Int32) (pz0_18 : Int32) (pz0_19 : Int32) (pz0_22 : Int32) (pz0_23 : Int32) (pz0_29 : Int32) (fz1 : Nat → Int32) (fz15 : Nat → Int32) (fz16 : Nat → Int32) (bpz0_5 : iv 0 900 pz0_5) (bpz0_6 : iv 0 900 pz0_6) (bpz0_7 : iv 0 900 pz0_7) (bpz0_8 : iv 0 900 pz0_8) (bpz0_10 : iv 0 999 pz0_10) (bpz0_11 : iv 0 4 pz0_11) (bpz0_12 : iv 0 900 pz0_12) (bpz0_13 : iv 0 4 pz0_13) (bpz0_14 : iv (-1) 900 pz0_14) (bpz0_18 : iv 0 2 pz0_18) (bpz0_22 : iv 0 9999 pz0_22) (bpz0_29 : iv 0 10000 pz0_29) (tfz1 : ivT tA fz1) (tfz16 : ivT tW fz16) (hf0 : RW fz1) : Ct l V yX10_by (.code yX10_by cX10_by 3 (some .int)) 5 [.ref (z 0), .int a1, .int a2] [(z 0, .inr (10, mo z pz0_0 pz0_5 pz0_6 pz0_7 pz0_8 pz0_9 pz0_10 pz0_11 pz0_12 pz0_13 pz0_14 pz0_18 pz0_19 pz0_22 pz0_23 pz0_29)), (z 1, aI V 3075 fz1), (z 15, aI V 900 fz15), (z 16, aI V 6 fz16)] 0 0 (QI V (fun (r : Int32) (w : va_W) => ∃ (v0 : Int32) (g1 : Nat → Int32) (g2 : Nat → Int32), (ivT tW g2) ∧ iv (-5) 4 r ∧ (RW fz1) ∧ r = (F_k_X10_by_0 a1 a2 fz1 fz15 fz16).1 ∧ v0 = (F_k_X10_by_0 a1 a2 fz1 fz15 fz16).2.1 ∧ g1 = (F_k_X10_by_0 a1 a2 fz1 fz15 fz16).2.2.1 ∧ g2 = (F_k_X10_by_0 a1 a2 fz1 fz15 fz16).2.2.2 ∧ w = [(z 0, .inr (10, mo z v0 pz0_5 pz0_6 pz0_7 pz0_8 pz0_9 pz0_10 pz0_11 pz0_12 pz0_13 pz0_14 pz0_18 pz0_19 pz0_22 pz0_23 pz0_29)), (z 1, aI V 3075 fz1), (z 15, aI V 900 g1), (z 16, aI V 6 g2)])) := by
  refine Ct.of (by decide) (Nat.le_of_ble_eq_true rfl) (fun p e s m below meth c A ls hx hb hr hml hown hlk hnm hg hP hK hD hE hA hS hl => ?_)
  have hl : lv_has ls 3 [(0, .ref (z 0)), (1, .int a1), (2, .int a2)] := hl
  obtain ⟨T0, hT0⟩ : ∃ T9, T9 = F_k_X10_by_0 a1 a2 fz1 fz15 fz16 := ⟨_, rfl⟩
  have hR := hT0.trans (F_k_X10_by_0.eq_1 ..)
  refine lv_aload_n hx hb dX10_by_0 rfl (lv_at hl 0 rfl) ?_
  refine lv_iconst (v := 0) hx hb dX10_by_1 (by decide) ?_
  refine va_put (ci := 10) (v := .int 0) (ty := .int) (C := RX10) (T := TX10) (N := 40) hx hb hg inX10 tyX10 tyX10_ok nmX10 hown hK hP hD hS 0 rfl rfl 0 (by decide) (hg _ q_5_224) (fun _ h9 => h9) rfl (by decide +kernel) rfl rfl (Nat.le_of_ble_eq_true rfl) dX10_by_2 (fun H locs hP hD hS => ?_)
  have hP : va_P V.1 vwCl [(z 0, .inr (10, mo z 0 pz0_5 pz0_6 pz0_7 pz0_8 pz0_9 pz0_10 pz0_11 pz0_12 pz0_13 pz0_14 pz0_18 pz0_19 pz0_22 pz0_23 pz0_29)), (z 1, aI V 3075 fz1), (z 15, aI V 900 fz15), (z 16, aI V 6 fz16)] H := hP
  have hD := cpD hP hD
  refine lv_aload_n hx hb dX10_by_5 rfl (lv_at hl 0 rfl) ?_
  refine lv_iload_n hx hb dX10_by_6 rfl (lv_at hl 2 rfl) ?_
  refine lv_i2l hx hb dX10_by_7 rfl ?_
  refine lv_topl (fun j_1 ej_1 => ?_)
  replace hR := tb hR ej_1
  refine jnI (wr := [(z 15, aI V 900 fz15), (z 16, aI V 6 fz16)]) (rnV (rest := []) ⟨hx, hb, hml, hown, hg⟩ (k_X10_isHill_0 l V z j_1 0 pz0_5 pz0_6 pz0_7 pz0_8 pz0_9 pz0_10 pz0_11 pz0_12 pz0_13 pz0_14 pz0_18 pz0_19 pz0_22 pz0_23 pz0_29 fz1 bpz0_5 bpz0_6 bpz0_7 bpz0_8 bpz0_10 bpz0_11 bpz0_12 bpz0_13 bpz0_14 bpz0_18 bpz0_22 bpz0_29 tfz1) mt_X10_isHill q_6_235 ⟨Nat.le_of_ble_eq_true rfl, Nat.le_of_ble_eq_true rfl⟩ hK hP hD hS hA hE [0, 1] rfl rfl 0 rfl rfl rfl rfl hl.1 rfl (Nat.le_of_ble_eq_true rfl) dX10_by_8 ⟨Nat.le_of_ble_eq_true rfl, Nat.le_of_ble_eq_true rfl⟩) hP hD hS hA [0, 1] [2, 3] rfl rfl rfl (by decide) (fun r_2 w H locs hw hP hD hS => ?_)
  obtain ⟨br_2, g_3, et_4, rfl⟩ := hw
  replace hR := tb hR et_4
  have hP : va_P V.1 vwCl [(z 15, aI V 900 fz15), (z 16, aI V 6 fz16), (z 0, .inr (10, mo z 0 pz0_5 pz0_6 pz0_7 pz0_8 pz0_9 pz0_10 pz0_11 pz0_12 pz0_13 pz0_14 pz0_18 pz0_19 pz0_22 pz0_23 pz0_29)), (z 1, aI V 3075 fz1)] H := hP
  have hD := cpD hP hD
  refine lv_if_ne (tgt := 17) hx hb dX10_by_11 (by decide) (fun c_6 => ?_) (fun c_6 => ?_)
  · replace hR := te hR c_6
    have b_7 : iv 1 1 r_2 := iv_n0 c_6 br_2 (iv_c (0 : Int32) (a := 0) (b := 0) (by decide)) (by decide)
    have b_8 : ivL 0 3 j_1 := ivL_cap (g_3 (iv_eqp b_7 (iv_c (1 : Int32) (by decide)))) (ivL_top j_1) (by decide)
    have b_9 : iv 0 3 a2 := iv_cap (ivL_i ej_1 b_8) (iv_top a2) (by decide)
    refine lv_aload_n hx hb dX10_by_17 rfl (lv_at hl 0 rfl) ?_
    refine lv_iload_n hx hb dX10_by_18 rfl (lv_at hl 1 rfl) ?_
    refine lv_i2l hx hb dX10_by_19 rfl ?_
    refine lv_topl (fun j_10 ej_10 => ?_)
    replace hR := tb hR ej_10
    refine jnI (wr := [(z 15, aI V 900 fz15), (z 16, aI V 6 fz16)]) (rnV (rest := []) ⟨hx, hb, hml, hown, hg⟩ (k_X10_isNight_0 l V z j_10 0 pz0_5 pz0_6 pz0_7 pz0_8 pz0_9 pz0_10 pz0_11 pz0_12 pz0_13 pz0_14 pz0_18 pz0_19 pz0_22 pz0_23 pz0_29 fz1 bpz0_5 bpz0_6 bpz0_7 bpz0_8 bpz0_10 bpz0_11 bpz0_12 bpz0_13 bpz0_14 bpz0_18 bpz0_22 bpz0_29 tfz1) mt_X10_isNight q_7_7 ⟨Nat.le_of_ble_eq_true rfl, Nat.le_of_ble_eq_true rfl⟩ hK hP hD hS hA hE [2, 3] rfl rfl 2 rfl rfl rfl rfl hl.1 rfl (Nat.le_of_ble_eq_true rfl) dX10_by_20 ⟨Nat.le_of_ble_eq_true rfl, Nat.le_of_ble_eq_true rfl⟩) hP hD hS hA [2, 3] [0, 1] rfl rfl rfl (by decide) (fun r_11 w H locs hw hP hD hS => ?_)
    obtain ⟨br_11, g_12, et_13, rfl⟩ := hw
    replace hR := tb hR et_13
    have hP : va_P V.1 vwCl [(z 15, aI V 900 fz15), (z 16, aI V 6 fz16), (z 0, .inr (10, mo z 0 pz0_5 pz0_6 pz0_7 pz0_8 pz0_9 pz0_10 pz0_11 pz0_12 pz0_13 pz0_14 pz0_18 pz0_19 pz0_22 pz0_23 pz0_29)), (z 1, aI V 3075 fz1)] H := hP
    have hD := cpD hP hD
    refine lv_if_eq (tgt := 49) hx hb dX10_by_23 (by decide) (fun c_15 => ?_) (fun c_15 => ?_)
    · replace hR := ti hR c_15
      have b_16 : iv 0 0 r_11 := iv_q c_15 (iv_c (0 : Int32) (a := 0) (b := 0) (by decide))
      refine lv_bipush (v := (-5)) hx hb dX10_by_49 (by decide) ?_
      have hP := subP (ws' := [(z 0, .inr (10, mo z 0 pz0_5 pz0_6 pz0_7 pz0_8 pz0_9 pz0_10 pz0_11 pz0_12 pz0_13 pz0_14 pz0_18 pz0_19 pz0_22 pz0_23 pz0_29)), (z 1, aI V 3075 fz1), (z 15, aI V 900 fz15), (z 16, aI V 6 fz16)]) hP [2, 3, 0, 1] rfl
      have hD := subD hP hD [2, 3, 0, 1] rfl rfl
      exact fiI hx hb hr hlk hK hP hD hS dX10_by_51 (Nat.le_of_ble_eq_true rfl) (Nat.le_of_ble_eq_true rfl) (⟨0, fz15, fz16, tfz16, (iv_c ((-5) : Int32) (by decide)), hf0, (congrArg Prod.fst (hR.symm.trans hT0)), (congrArg Prod.fst (congrArg Prod.snd (hR.symm.trans hT0))), (congrArg Prod.fst (congrArg Prod.snd (congrArg Prod.snd (hR.symm.trans hT0)))), (congrArg Prod.snd (congrArg Prod.snd (congrArg Prod.snd (hR.symm.trans hT0)))), rfl⟩)
    · replace hR := te hR c_15
      have b_17 : iv 1 1 r_11 := iv_n0 c_15 br_11 (iv_c (0 : Int32) (a := 0) (b := 0) (by decide)) (by decide)
      have b_18 : ivL 0 3 j_10 := ivL_cap (g_12 (iv_eqp b_17 (iv_c (1 : Int32) (by decide)))) (ivL_top j_10) (by decide)
      have b_19 : iv 0 3 a1 := iv_cap (ivL_i ej_10 b_18) (iv_top a1) (by decide)
      refine lv_aload_n hx hb dX10_by_26 rfl (lv_at hl 0 rfl) ?_
      refine lv_aload_n hx hb dX10_by_27 rfl (lv_at hl 0 rfl) ?_
      refine jnI (wr := [(z 15, aI V 900 fz15), (z 16, aI V 6 fz16)]) (rnV (rest := [.ref (z 0)]) ⟨hx, hb, hml, hown, hg⟩ (k_X10_standNow_0 l V z 0 pz0_5 pz0_6 pz0_7 pz0_8 pz0_9 pz0_10 pz0_11 pz0_12 pz0_13 pz0_14 pz0_18 pz0_19 pz0_22 pz0_23 pz0_29 fz1 bpz0_5 bpz0_6 bpz0_7 bpz0_8 bpz0_10 bpz0_11 bpz0_12 bpz0_13 bpz0_14 bpz0_18 bpz0_22 bpz0_29 tfz1) mt_X10_standNow q_7_11 ⟨Nat.le_of_ble_eq_true rfl, Nat.le_of_ble_eq_true rfl⟩ hK hP hD hS hA hE [2, 3] rfl rfl 2 rfl rfl rfl rfl hl.1 rfl (Nat.le_of_ble_eq_true rfl) dX10_by_28 ⟨Nat.le_of_ble_eq_true rfl, Nat.le_of_ble_eq_true rfl⟩) hP hD hS hA [2, 3] [0, 1] rfl rfl rfl (by decide) (fun r_20 w H locs hw hP hD hS => ?_)
      obtain ⟨br_20, er_20, et_21, rfl⟩ := hw
      replace hR := tb hR et_21
      have hP : va_P V.1 vwCl [(z 15, aI V 900 fz15), (z 16, aI V 6 fz16), (z 0, .inr (10, mo z 0 pz0_5 pz0_6 pz0_7 pz0_8 pz0_9 pz0_10 pz0_11 pz0_12 pz0_13 pz0_14 pz0_18 pz0_19 pz0_22 pz0_23 pz0_29)), (z 1, aI V 3075 fz1)] H := hP
      have hD := cpD hP hD
      refine lv_iload_n hx hb dX10_by_31 rfl (lv_at hl 1 rfl) ?_
      refine lv_aload_n hx hb dX10_by_32 rfl (lv_at hl 0 rfl) ?_
      refine va_get (ci := 10) (v := .ref (z 1)) (C := RX10) (T := TX10) (N := 40) hx hb hg inX10 hown hK hP 2 rfl rfl 1 (by decide) (hg _ q_5_225) (fun _ h9 => h9) rfl dX10_by_33 ?_
      refine lv_bipush (v := 51) hx hb dX10_by_36 (by decide) ?_
      refine va_iald hx hb hK hP 3 0 rfl rfl (vin (by decide +kernel)) dX10_by_38 ?_
      refine lv_topi (fun x_23 ex_23 => ?_)
      have bx_23 : iv 0 9 x_23 := by rw [ex_23]; exact rdT (a := 51) (n := 1) tfz1 (iv_c (51 : Int32) (a := 51) (b := 51) (by decide)) (by decide) (by decide +kernel)
      replace hR := tb hR ex_23
      refine jnI (wr := []) (rnV (rest := []) ⟨hx, hb, hml, hown, hg⟩ (k_X10_nightTo_0 l V z r_20 a1 x_23 fz15 fz16 0 pz0_5 pz0_6 pz0_7 pz0_8 pz0_9 pz0_10 pz0_11 pz0_12 pz0_13 pz0_14 pz0_18 pz0_19 pz0_22 pz0_23 pz0_29 fz1 br_20 tfz16 bpz0_5 bpz0_6 bpz0_7 bpz0_8 bpz0_10 bpz0_11 bpz0_12 bpz0_13 bpz0_14 bpz0_18 bpz0_22 bpz0_29 tfz1 hf0) mt_X10_nightTo q_7_18 ⟨Nat.le_of_ble_eq_true rfl, Nat.le_of_ble_eq_true rfl⟩ hK hP hD hS hA hE [0, 1, 2, 3] rfl rfl 2 rfl rfl rfl rfl hl.1 rfl (Nat.le_of_ble_eq_true rfl) dX10_by_39 ⟨Nat.le_of_ble_eq_true rfl, Nat.le_of_ble_eq_true rfl⟩) hP hD hS hA [0, 1, 2, 3] [] rfl rfl rfl (by decide) (fun r_24 w H locs hw hP hD hS => ?_)
      obtain ⟨f_25, f_26, tf_26, br_24, g_27, et_28, et_29, et_30, rfl⟩ := hw
      replace hR := tb0 hR
      replace hR := tb hR et_28
      replace hR := tb hR et_29
      replace hR := tb hR et_30
      have hP : va_P V.1 vwCl [(z 15, aI V 900 f_25), (z 16, aI V 6 f_26), (z 0, .inr (10, mo z 0 pz0_5 pz0_6 pz0_7 pz0_8 pz0_9 pz0_10 pz0_11 pz0_12 pz0_13 pz0_14 pz0_18 pz0_19 pz0_22 pz0_23 pz0_29)), (z 1, aI V 3075 fz1)] H := hP
      have hD := cpD hP hD
      refine lv_iload_n hx hb dX10_by_42 rfl (lv_at hl 2 rfl) ?_
      refine jnI (wr := [(z 15, aI V 900 f_25), (z 16, aI V 6 f_26), (z 0, .inr (10, mo z 0 pz0_5 pz0_6 pz0_7 pz0_8 pz0_9 pz0_10 pz0_11 pz0_12 pz0_13 pz0_14 pz0_18 pz0_19 pz0_22 pz0_23 pz0_29)), (z 1, aI V 3075 fz1)]) (rnS (rest := []) ⟨hx, hb, hml, hown, hg⟩ (k_X10_stackIn_0 l V r_24 a2 (iv_w br_24 (by decide)) b_9) mt_X10_stackIn q_7_26 ⟨Nat.le_of_ble_eq_true rfl, Nat.le_of_ble_eq_true rfl⟩ hK hP hD hS hA hE [] rfl rfl rfl hl.1 rfl (Nat.le_of_ble_eq_true rfl) dX10_by_43 ⟨Nat.le_of_ble_eq_true rfl, Nat.le_of_ble_eq_true rfl⟩) hP hD hS hA [] [0, 1, 2, 3] rfl rfl rfl (by decide) (fun r_32 w H locs hw hP hD hS => ?_)
      obtain ⟨br_32, er_32, et_33, rfl⟩ := hw
      replace hR := tb hR et_33
      have hP : va_P V.1 vwCl [(z 15, aI V 900 f_25), (z 16, aI V 6 f_26), (z 0, .inr (10, mo z 0 pz0_5 pz0_6 pz0_7 pz0_8 pz0_9 pz0_10 pz0_11 pz0_12 pz0_13 pz0_14 pz0_18 pz0_19 pz0_22 pz0_23 pz0_29)), (z 1, aI V 3075 fz1)] H := hP
      have hD := cpD hP hD
      refine lv_goto (tgt := 51) hx hb dX10_by_46 (by decide) ?_
      have hP := subP (ws' := [(z 0, .inr (10, mo z 0 pz0_5 pz0_6 pz0_7 pz0_8 pz0_9 pz0_10 pz0_11 pz0_12 pz0_13 pz0_14 pz0_18 pz0_19 pz0_22 pz0_23 pz0_29)), (z 1, aI V 3075 fz1), (z 15, aI V 900 f_25), (z 16, aI V 6 f_26)]) hP [2, 3, 0, 1] rfl
      have hD := subD hP hD [2, 3, 0, 1] rfl rfl
      exact fiI hx hb hr hlk hK hP hD hS dX10_by_51 (Nat.le_of_ble_eq_true rfl) (Nat.le_of_ble_eq_true rfl) (⟨0, f_25, f_26, tf_26, (iv_w br_32 (by decide)), g_27, (congrArg Prod.fst (hR.symm.trans hT0)), (congrArg Prod.fst (congrArg Prod.snd (hR.symm.trans hT0))), (congrArg Prod.fst (congrArg Prod.snd (congrArg Prod.snd (hR.symm.trans hT0)))), (congrArg Prod.snd (congrArg Prod.snd (congrArg Prod.snd (hR.symm.trans hT0)))), rfl⟩)
  · replace hR := ti hR c_6
    have b_35 : iv 0 0 r_2 := iv_q c_6 (iv_c (0 : Int32) (a := 0) (b := 0) (by decide))
    refine lv_bipush (v := (-2)) hx hb dX10_by_14 (by decide) ?_
    have hP := subP (ws' := [(z 0, .inr (10, mo z 0 pz0_5 pz0_6 pz0_7 pz0_8 pz0_9 pz0_10 pz0_11 pz0_12 pz0_13 pz0_14 pz0_18 pz0_19 pz0_22 pz0_23 pz0_29)), (z 1, aI V 3075 fz1), (z 15, aI V 900 fz15), (z 16, aI V 6 fz16)]) hP [2, 3, 0, 1] rfl
    have hD := subD hP hD [2, 3, 0, 1] rfl rfl
    exact fiI hx hb hr hlk hK hP hD hS dX10_by_16 (Nat.le_of_ble_eq_true rfl) (Nat.le_of_ble_eq_true rfl) (⟨0, fz15, fz16, tfz16, (iv_c ((-2) : Int32) (by decide)), hf0, (congrArg Prod.fst (hR.symm.trans hT0)), (congrArg Prod.fst (congrArg Prod.snd (hR.symm.trans hT0))), (congrArg Prod.fst (congrArg Prod.snd (congrArg Prod.snd (hR.symm.trans hT0)))), (congrArg Prod.snd (congrArg Prod.snd (congrArg Prod.snd (hR.symm.trans hT0)))), rfl⟩)
theorem dX10_stores_0 : decode cX10_stores 0 = .ok (.iconst 0, 1) := by decide +kernel
theorem dX10_stores_1 : decode cX10_stores 1 = .ok (.istore_n 1, 1) := by decide +kernel
theorem dX10_stores_2 : decode cX10_stores 2 = .ok (.iload_n 1, 1) := by decide +kernel
theorem dX10_stores_3 : decode cX10_stores 3 = .ok (.bipush 7, 2) := by decide +kernel
theorem dX10_stores_5 : decode cX10_stores 5 = .ok (.if_icmp .ge 24, 3) := by decide +kernel
theorem dX10_stores_8 : decode cX10_stores 8 = .ok (.aload_n 0, 1) := by decide +kernel
theorem q_6_1 : Cond.fieldLink "BeaconDelayModel" 36 "BeaconDelayModel" "was" "[I" ∈ gw := gw_6 (i := 1) (by decide +kernel) rfl
theorem dX10_stores_9 : decode cX10_stores 9 = .ok (.getfield 36, 3) := by decide +kernel
theorem dX10_stores_12 : decode cX10_stores 12 = .ok (.iload_n 1, 1) := by decide +kernel
theorem dX10_stores_13 : decode cX10_stores 13 = .ok (.aload_n 0, 1) := by decide +kernel
theorem dX10_stores_14 : decode cX10_stores 14 = .ok (.getfield 13, 3) := by decide +kernel
theorem dX10_stores_17 : decode cX10_stores 17 = .ok (.bipush 46, 2) := by decide +kernel
theorem dX10_stores_19 : decode cX10_stores 19 = .ok (.iload_n 1, 1) := by decide +kernel
theorem dX10_stores_20 : decode cX10_stores 20 = .ok (.iadd, 1) := by decide +kernel
theorem dX10_stores_21 : decode cX10_stores 21 = .ok (.iaload, 1) := by decide +kernel
theorem dX10_stores_22 : decode cX10_stores 22 = .ok (.iastore, 1) := by decide +kernel
theorem dX10_stores_23 : decode cX10_stores 23 = .ok (.iinc 1 1, 3) := by decide +kernel
theorem dX10_stores_26 : decode cX10_stores 26 = .ok (.goto (-24), 3) := by decide +kernel
theorem dX10_stores_29 : decode cX10_stores 29 = .ok (.return_, 1) := by decide +kernel
set_option maxRecDepth 100000 in
noncomputable def F_k_X10_stores_0 (fz17 : Nat → Int32) (fz1 : Nat → Int32) : (Nat → Int32) := bnd (fz1 (46 : Int32).toNatClampNeg : Int32) fun (x_3 : Int32) => bnd ((upd fz17 (0 : Int32).toNatClampNeg x_3) : Nat → Int32) fun (f_4 : Nat → Int32) => bnd (fz1 (47 : Int32).toNatClampNeg : Int32) fun (x_7 : Int32) => bnd ((upd f_4 (1 : Int32).toNatClampNeg x_7) : Nat → Int32) fun (f_8 : Nat → Int32) => bnd (fz1 (48 : Int32).toNatClampNeg : Int32) fun (x_11 : Int32) => bnd ((upd f_8 (2 : Int32).toNatClampNeg x_11) : Nat → Int32) fun (f_12 : Nat → Int32) => bnd (fz1 (49 : Int32).toNatClampNeg : Int32) fun (x_15 : Int32) => bnd ((upd f_12 (3 : Int32).toNatClampNeg x_15) : Nat → Int32) fun (f_16 : Nat → Int32) => bnd (fz1 (50 : Int32).toNatClampNeg : Int32) fun (x_19 : Int32) => bnd ((upd f_16 (4 : Int32).toNatClampNeg x_19) : Nat → Int32) fun (f_20 : Nat → Int32) => bnd (fz1 (51 : Int32).toNatClampNeg : Int32) fun (x_23 : Int32) => bnd ((upd f_20 (5 : Int32).toNatClampNeg x_23) : Nat → Int32) fun (f_24 : Nat → Int32) => bnd (fz1 (52 : Int32).toNatClampNeg : Int32) fun (x_27 : Int32) => bnd ((upd f_24 (6 : Int32).toNatClampNeg x_27) : Nat → Int32) fun (f_28 : Nat → Int32) => (f_28)
set_option maxHeartbeats 4000000 in
set_option maxRecDepth 100000 in
theorem k_X10_stores_0 (l : Launch) (V : GV) (z : Nat → Nat) (fz17 : Nat → Int32) (pz0_0 : Int32) (pz0_5 : Int32) (pz0_6 : Int32) (pz0_7 : Int32) (pz0_8 : Int32) (pz0_9 : Int32) (pz0_10 : Int32) (pz0_11 : Int32) (pz0_12 : Int32) (pz0_13 : Int32) (pz0_14 : Int32) (pz0_18 : Int32) (pz0_19 : Int32) (pz0_22 : Int32) (pz0_23 : Int32) (pz0_29 : Int32) (fz1 : Nat → Int32) (tfz17 : ivT tS fz17) (bpz0_5 : iv 0 900 pz0_5) (bpz0_6 : iv 0 900 pz0_6) (bpz0_7 : iv 0 900 pz0_7) (bpz0_8 : iv 0 900 pz0_8) (bpz0_10 : iv 0 999 pz0_10) (bpz0_11 : iv 0 4 pz0_11) (bpz0_12 : iv 0 900 pz0_12) (bpz0_13 : iv 0 4 pz0_13) (bpz0_14 : iv (-1) 900 pz0_14) (bpz0_18 : iv 0 2 pz0_18) (bpz0_22 : iv 0 9999 pz0_22) (bpz0_29 : iv 0 10000 pz0_29) (tfz1 : ivT tA fz1) : Ct l V yX10_stores (.code yX10_stores cX10_stores 2 none) 1 [.ref (z 0)] [(z 17, aI V 7 fz17), (z 0, .inr (10, mo z pz0_0 pz0_5 pz0_6 pz0_7 pz0_8 pz0_9 pz0_10 pz0_11 pz0_12 pz0_13 pz0_14 pz0_18 pz0_19 pz0_22 pz0_23 pz0_29)), (z 1, aI V 3075 fz1)] 0 0 (QV V (fun (w : va_W) => ∃ (g0 : Nat → Int32), (ivT tS g0) ∧ g0 = (F_k_X10_stores_0 fz17 fz1) ∧ w = [(z 17, aI V 7 g0), (z 0, .inr (10, mo z pz0_0 pz0_5 pz0_6 pz0_7 pz0_8 pz0_9 pz0_10 pz0_11 pz0_12 pz0_13 pz0_14 pz0_18 pz0_19 pz0_22 pz0_23 pz0_29)), (z 1, aI V 3075 fz1)])) := by
  refine Ct.of (by decide) (Nat.le_of_ble_eq_true rfl) (fun p e s m below meth c A ls hx hb hr hml hown hlk hnm hg hP hK hD hE hA hS hl => ?_)
  have hl : lv_has ls 2 [(0, .ref (z 0))] := hl
  obtain ⟨T0, hT0⟩ : ∃ T9, T9 = F_k_X10_stores_0 fz17 fz1 := ⟨_, rfl⟩
  have hR := hT0.trans (F_k_X10_stores_0.eq_1 ..)
  refine lv_iconst (v := 0) hx hb dX10_stores_0 (by decide) ?_
  refine lv_istore_n (lv' := [(1, .int 0), (0, .ref (z 0))]) hx hb dX10_stores_1 rfl hl (by decide) rfl (fun ls hl => ?_)
  refine lv_iload_n hx hb dX10_stores_2 rfl (lv_at hl 0 rfl) ?_
  refine lv_bipush (v := 7) hx hb dX10_stores_3 (by decide) ?_
  refine lv_icmp_ge (tgt := 29) hx hb dX10_stores_5 (by decide) (fun c_2 => absurd c_2 (by decide)) (fun _ => ?_)
  refine lv_aload_n hx hb dX10_stores_8 rfl (lv_at hl 1 rfl) ?_
  refine va_get (ci := 10) (v := .ref (z 17)) (C := RX10) (T := TX10) (N := 40) hx hb hg inX10 hown hK hP 1 rfl rfl 17 (by decide) (hg _ q_6_1) (fun _ h9 => h9) rfl dX10_stores_9 ?_
  refine lv_iload_n hx hb dX10_stores_12 rfl (lv_at hl 0 rfl) ?_
  refine lv_aload_n hx hb dX10_stores_13 rfl (lv_at hl 1 rfl) ?_
  refine va_get (ci := 10) (v := .ref (z 1)) (C := RX10) (T := TX10) (N := 40) hx hb hg inX10 hown hK hP 1 rfl rfl 1 (by decide) (hg _ q_5_225) (fun _ h9 => h9) rfl dX10_stores_14 ?_
  refine lv_bipush (v := 46) hx hb dX10_stores_17 (by decide) ?_
  refine lv_iload_n hx hb dX10_stores_19 rfl (lv_at hl 0 rfl) ?_
  refine lv_iadd hx hb dX10_stores_20 ?_
  refine tpi (y := 46) (by decide +kernel) ?_
  refine va_iald hx hb hK hP 2 0 rfl rfl (vin (by decide +kernel)) dX10_stores_21 ?_
  refine lv_topi (fun x_3 ex_3 => ?_)
  have bx_3 : iv 0 4 x_3 := by rw [ex_3]; exact rdT (a := 46) (n := 1) tfz1 (iv_c (46 : Int32) (a := 46) (b := 46) (by decide)) (by decide) (by decide +kernel)
  replace hR := tb hR ex_3
  refine va_iast hx hb hK hP hD hS 0 0 rfl rfl (vin (by decide +kernel)) dX10_stores_22 (fun H locs hP hD hS => ?_)
  obtain ⟨f_4, ef_4, tf_4, hP, hD⟩ : ∃ f_4 : Nat → Int32, f_4 = (upd fz17 (0 : Int32).toNatClampNeg x_3) ∧ (ivT tS f_4) ∧ va_P V.1 vwCl [(z 17, aI V 7 f_4), (z 0, .inr (10, mo z pz0_0 pz0_5 pz0_6 pz0_7 pz0_8 pz0_9 pz0_10 pz0_11 pz0_12 pz0_13 pz0_14 pz0_18 pz0_19 pz0_22 pz0_23 pz0_29)), (z 1, aI V 3075 fz1)] H ∧ va_D A [(z 17, aI V 7 f_4), (z 0, .inr (10, mo z pz0_0 pz0_5 pz0_6 pz0_7 pz0_8 pz0_9 pz0_10 pz0_11 pz0_12 pz0_13 pz0_14 pz0_18 pz0_19 pz0_22 pz0_23 pz0_29)), (z 1, aI V 3075 fz1)] := ⟨_, rfl, upT (lo := 0) (hi := 4) (a := 0) (n := 1) tfz17 (iv_c (0 : Int32) (a := 0) (b := 0) (by decide)) (by decide) bx_3 (by decide +kernel), hP, hD⟩
  replace hR := tb hR ef_4
  refine lv_iinc (v := 1) (lv' := [(1, .int 1), (0, .ref (z 0))]) hx hb dX10_stores_23 hl (k := 0) rfl (by decide +kernel) (by decide) rfl (fun ls hl => ?_)
  refine lv_goto (tgt := 2) hx hb dX10_stores_26 (by decide) ?_
  refine lv_iload_n hx hb dX10_stores_2 rfl (lv_at hl 0 rfl) ?_
  refine lv_bipush (v := 7) hx hb dX10_stores_3 (by decide) ?_
  refine lv_icmp_ge (tgt := 29) hx hb dX10_stores_5 (by decide) (fun c_6 => absurd c_6 (by decide)) (fun _ => ?_)
  refine lv_aload_n hx hb dX10_stores_8 rfl (lv_at hl 1 rfl) ?_
  refine va_get (ci := 10) (v := .ref (z 17)) (C := RX10) (T := TX10) (N := 40) hx hb hg inX10 hown hK hP 1 rfl rfl 17 (by decide) (hg _ q_6_1) (fun _ h9 => h9) rfl dX10_stores_9 ?_
  refine lv_iload_n hx hb dX10_stores_12 rfl (lv_at hl 0 rfl) ?_
  refine lv_aload_n hx hb dX10_stores_13 rfl (lv_at hl 1 rfl) ?_
  refine va_get (ci := 10) (v := .ref (z 1)) (C := RX10) (T := TX10) (N := 40) hx hb hg inX10 hown hK hP 1 rfl rfl 1 (by decide) (hg _ q_5_225) (fun _ h9 => h9) rfl dX10_stores_14 ?_
  refine lv_bipush (v := 46) hx hb dX10_stores_17 (by decide) ?_
  refine lv_iload_n hx hb dX10_stores_19 rfl (lv_at hl 0 rfl) ?_
  refine lv_iadd hx hb dX10_stores_20 ?_
  refine tpi (y := 47) (by decide +kernel) ?_
  refine va_iald hx hb hK hP 2 0 rfl rfl (vin (by decide +kernel)) dX10_stores_21 ?_
  refine lv_topi (fun x_7 ex_7 => ?_)
  have bx_7 : iv 0 4 x_7 := by rw [ex_7]; exact rdT (a := 47) (n := 1) tfz1 (iv_c (47 : Int32) (a := 47) (b := 47) (by decide)) (by decide) (by decide +kernel)
  replace hR := tb hR ex_7
  refine va_iast hx hb hK hP hD hS 0 0 rfl rfl (vin (by decide +kernel)) dX10_stores_22 (fun H locs hP hD hS => ?_)
  obtain ⟨f_8, ef_8, tf_8, hP, hD⟩ : ∃ f_8 : Nat → Int32, f_8 = (upd f_4 (1 : Int32).toNatClampNeg x_7) ∧ (ivT tS f_8) ∧ va_P V.1 vwCl [(z 17, aI V 7 f_8), (z 0, .inr (10, mo z pz0_0 pz0_5 pz0_6 pz0_7 pz0_8 pz0_9 pz0_10 pz0_11 pz0_12 pz0_13 pz0_14 pz0_18 pz0_19 pz0_22 pz0_23 pz0_29)), (z 1, aI V 3075 fz1)] H ∧ va_D A [(z 17, aI V 7 f_8), (z 0, .inr (10, mo z pz0_0 pz0_5 pz0_6 pz0_7 pz0_8 pz0_9 pz0_10 pz0_11 pz0_12 pz0_13 pz0_14 pz0_18 pz0_19 pz0_22 pz0_23 pz0_29)), (z 1, aI V 3075 fz1)] := ⟨_, rfl, upT (lo := 0) (hi := 4) (a := 1) (n := 1) tf_4 (iv_c (1 : Int32) (a := 1) (b := 1) (by decide)) (by decide) bx_7 (by decide +kernel), hP, hD⟩
  replace hR := tb hR ef_8
  refine lv_iinc (v := 2) (lv' := [(1, .int 2), (0, .ref (z 0))]) hx hb dX10_stores_23 hl (k := 0) rfl (by decide +kernel) (by decide) rfl (fun ls hl => ?_)
  refine lv_goto (tgt := 2) hx hb dX10_stores_26 (by decide) ?_
  refine lv_iload_n hx hb dX10_stores_2 rfl (lv_at hl 0 rfl) ?_
  refine lv_bipush (v := 7) hx hb dX10_stores_3 (by decide) ?_
  refine lv_icmp_ge (tgt := 29) hx hb dX10_stores_5 (by decide) (fun c_10 => absurd c_10 (by decide)) (fun _ => ?_)
  refine lv_aload_n hx hb dX10_stores_8 rfl (lv_at hl 1 rfl) ?_
  refine va_get (ci := 10) (v := .ref (z 17)) (C := RX10) (T := TX10) (N := 40) hx hb hg inX10 hown hK hP 1 rfl rfl 17 (by decide) (hg _ q_6_1) (fun _ h9 => h9) rfl dX10_stores_9 ?_
  refine lv_iload_n hx hb dX10_stores_12 rfl (lv_at hl 0 rfl) ?_
  refine lv_aload_n hx hb dX10_stores_13 rfl (lv_at hl 1 rfl) ?_
  refine va_get (ci := 10) (v := .ref (z 1)) (C := RX10) (T := TX10) (N := 40) hx hb hg inX10 hown hK hP 1 rfl rfl 1 (by decide) (hg _ q_5_225) (fun _ h9 => h9) rfl dX10_stores_14 ?_
  refine lv_bipush (v := 46) hx hb dX10_stores_17 (by decide) ?_
  refine lv_iload_n hx hb dX10_stores_19 rfl (lv_at hl 0 rfl) ?_
  refine lv_iadd hx hb dX10_stores_20 ?_
  refine tpi (y := 48) (by decide +kernel) ?_
  refine va_iald hx hb hK hP 2 0 rfl rfl (vin (by decide +kernel)) dX10_stores_21 ?_
  refine lv_topi (fun x_11 ex_11 => ?_)
  have bx_11 : iv 0 4 x_11 := by rw [ex_11]; exact rdT (a := 48) (n := 1) tfz1 (iv_c (48 : Int32) (a := 48) (b := 48) (by decide)) (by decide) (by decide +kernel)
  replace hR := tb hR ex_11
  refine va_iast hx hb hK hP hD hS 0 0 rfl rfl (vin (by decide +kernel)) dX10_stores_22 (fun H locs hP hD hS => ?_)
  obtain ⟨f_12, ef_12, tf_12, hP, hD⟩ : ∃ f_12 : Nat → Int32, f_12 = (upd f_8 (2 : Int32).toNatClampNeg x_11) ∧ (ivT tS f_12) ∧ va_P V.1 vwCl [(z 17, aI V 7 f_12), (z 0, .inr (10, mo z pz0_0 pz0_5 pz0_6 pz0_7 pz0_8 pz0_9 pz0_10 pz0_11 pz0_12 pz0_13 pz0_14 pz0_18 pz0_19 pz0_22 pz0_23 pz0_29)), (z 1, aI V 3075 fz1)] H ∧ va_D A [(z 17, aI V 7 f_12), (z 0, .inr (10, mo z pz0_0 pz0_5 pz0_6 pz0_7 pz0_8 pz0_9 pz0_10 pz0_11 pz0_12 pz0_13 pz0_14 pz0_18 pz0_19 pz0_22 pz0_23 pz0_29)), (z 1, aI V 3075 fz1)] := ⟨_, rfl, upT (lo := 0) (hi := 4) (a := 2) (n := 1) tf_8 (iv_c (2 : Int32) (a := 2) (b := 2) (by decide)) (by decide) bx_11 (by decide +kernel), hP, hD⟩
  replace hR := tb hR ef_12
  refine lv_iinc (v := 3) (lv' := [(1, .int 3), (0, .ref (z 0))]) hx hb dX10_stores_23 hl (k := 0) rfl (by decide +kernel) (by decide) rfl (fun ls hl => ?_)
  refine lv_goto (tgt := 2) hx hb dX10_stores_26 (by decide) ?_
  refine lv_iload_n hx hb dX10_stores_2 rfl (lv_at hl 0 rfl) ?_
  refine lv_bipush (v := 7) hx hb dX10_stores_3 (by decide) ?_
  refine lv_icmp_ge (tgt := 29) hx hb dX10_stores_5 (by decide) (fun c_14 => absurd c_14 (by decide)) (fun _ => ?_)
  refine lv_aload_n hx hb dX10_stores_8 rfl (lv_at hl 1 rfl) ?_
  refine va_get (ci := 10) (v := .ref (z 17)) (C := RX10) (T := TX10) (N := 40) hx hb hg inX10 hown hK hP 1 rfl rfl 17 (by decide) (hg _ q_6_1) (fun _ h9 => h9) rfl dX10_stores_9 ?_
  refine lv_iload_n hx hb dX10_stores_12 rfl (lv_at hl 0 rfl) ?_
  refine lv_aload_n hx hb dX10_stores_13 rfl (lv_at hl 1 rfl) ?_
  refine va_get (ci := 10) (v := .ref (z 1)) (C := RX10) (T := TX10) (N := 40) hx hb hg inX10 hown hK hP 1 rfl rfl 1 (by decide) (hg _ q_5_225) (fun _ h9 => h9) rfl dX10_stores_14 ?_
  refine lv_bipush (v := 46) hx hb dX10_stores_17 (by decide) ?_
  refine lv_iload_n hx hb dX10_stores_19 rfl (lv_at hl 0 rfl) ?_
  refine lv_iadd hx hb dX10_stores_20 ?_
  refine tpi (y := 49) (by decide +kernel) ?_
  refine va_iald hx hb hK hP 2 0 rfl rfl (vin (by decide +kernel)) dX10_stores_21 ?_
  refine lv_topi (fun x_15 ex_15 => ?_)
  have bx_15 : iv 0 4 x_15 := by rw [ex_15]; exact rdT (a := 49) (n := 1) tfz1 (iv_c (49 : Int32) (a := 49) (b := 49) (by decide)) (by decide) (by decide +kernel)
  replace hR := tb hR ex_15
  refine va_iast hx hb hK hP hD hS 0 0 rfl rfl (vin (by decide +kernel)) dX10_stores_22 (fun H locs hP hD hS => ?_)
  obtain ⟨f_16, ef_16, tf_16, hP, hD⟩ : ∃ f_16 : Nat → Int32, f_16 = (upd f_12 (3 : Int32).toNatClampNeg x_15) ∧ (ivT tS f_16) ∧ va_P V.1 vwCl [(z 17, aI V 7 f_16), (z 0, .inr (10, mo z pz0_0 pz0_5 pz0_6 pz0_7 pz0_8 pz0_9 pz0_10 pz0_11 pz0_12 pz0_13 pz0_14 pz0_18 pz0_19 pz0_22 pz0_23 pz0_29)), (z 1, aI V 3075 fz1)] H ∧ va_D A [(z 17, aI V 7 f_16), (z 0, .inr (10, mo z pz0_0 pz0_5 pz0_6 pz0_7 pz0_8 pz0_9 pz0_10 pz0_11 pz0_12 pz0_13 pz0_14 pz0_18 pz0_19 pz0_22 pz0_23 pz0_29)), (z 1, aI V 3075 fz1)] := ⟨_, rfl, upT (lo := 0) (hi := 4) (a := 3) (n := 1) tf_12 (iv_c (3 : Int32) (a := 3) (b := 3) (by decide)) (by decide) bx_15 (by decide +kernel), hP, hD⟩
  replace hR := tb hR ef_16
  refine lv_iinc (v := 4) (lv' := [(1, .int 4), (0, .ref (z 0))]) hx hb dX10_stores_23 hl (k := 0) rfl (by decide +kernel) (by decide) rfl (fun ls hl => ?_)
  refine lv_goto (tgt := 2) hx hb dX10_stores_26 (by decide) ?_
  refine lv_iload_n hx hb dX10_stores_2 rfl (lv_at hl 0 rfl) ?_
  refine lv_bipush (v := 7) hx hb dX10_stores_3 (by decide) ?_
  refine lv_icmp_ge (tgt := 29) hx hb dX10_stores_5 (by decide) (fun c_18 => absurd c_18 (by decide)) (fun _ => ?_)
  refine lv_aload_n hx hb dX10_stores_8 rfl (lv_at hl 1 rfl) ?_
  refine va_get (ci := 10) (v := .ref (z 17)) (C := RX10) (T := TX10) (N := 40) hx hb hg inX10 hown hK hP 1 rfl rfl 17 (by decide) (hg _ q_6_1) (fun _ h9 => h9) rfl dX10_stores_9 ?_
  refine lv_iload_n hx hb dX10_stores_12 rfl (lv_at hl 0 rfl) ?_
  refine lv_aload_n hx hb dX10_stores_13 rfl (lv_at hl 1 rfl) ?_
  refine va_get (ci := 10) (v := .ref (z 1)) (C := RX10) (T := TX10) (N := 40) hx hb hg inX10 hown hK hP 1 rfl rfl 1 (by decide) (hg _ q_5_225) (fun _ h9 => h9) rfl dX10_stores_14 ?_
  refine lv_bipush (v := 46) hx hb dX10_stores_17 (by decide) ?_
  refine lv_iload_n hx hb dX10_stores_19 rfl (lv_at hl 0 rfl) ?_
  refine lv_iadd hx hb dX10_stores_20 ?_
  refine tpi (y := 50) (by decide +kernel) ?_
  refine va_iald hx hb hK hP 2 0 rfl rfl (vin (by decide +kernel)) dX10_stores_21 ?_
  refine lv_topi (fun x_19 ex_19 => ?_)
  have bx_19 : iv 0 15 x_19 := by rw [ex_19]; exact rdT (a := 50) (n := 1) tfz1 (iv_c (50 : Int32) (a := 50) (b := 50) (by decide)) (by decide) (by decide +kernel)
  replace hR := tb hR ex_19
  refine va_iast hx hb hK hP hD hS 0 0 rfl rfl (vin (by decide +kernel)) dX10_stores_22 (fun H locs hP hD hS => ?_)
  obtain ⟨f_20, ef_20, tf_20, hP, hD⟩ : ∃ f_20 : Nat → Int32, f_20 = (upd f_16 (4 : Int32).toNatClampNeg x_19) ∧ (ivT tS f_20) ∧ va_P V.1 vwCl [(z 17, aI V 7 f_20), (z 0, .inr (10, mo z pz0_0 pz0_5 pz0_6 pz0_7 pz0_8 pz0_9 pz0_10 pz0_11 pz0_12 pz0_13 pz0_14 pz0_18 pz0_19 pz0_22 pz0_23 pz0_29)), (z 1, aI V 3075 fz1)] H ∧ va_D A [(z 17, aI V 7 f_20), (z 0, .inr (10, mo z pz0_0 pz0_5 pz0_6 pz0_7 pz0_8 pz0_9 pz0_10 pz0_11 pz0_12 pz0_13 pz0_14 pz0_18 pz0_19 pz0_22 pz0_23 pz0_29)), (z 1, aI V 3075 fz1)] := ⟨_, rfl, upT (lo := 0) (hi := 15) (a := 4) (n := 1) tf_16 (iv_c (4 : Int32) (a := 4) (b := 4) (by decide)) (by decide) bx_19 (by decide +kernel), hP, hD⟩
  replace hR := tb hR ef_20
  refine lv_iinc (v := 5) (lv' := [(1, .int 5), (0, .ref (z 0))]) hx hb dX10_stores_23 hl (k := 0) rfl (by decide +kernel) (by decide) rfl (fun ls hl => ?_)
  refine lv_goto (tgt := 2) hx hb dX10_stores_26 (by decide) ?_
  refine lv_iload_n hx hb dX10_stores_2 rfl (lv_at hl 0 rfl) ?_
  refine lv_bipush (v := 7) hx hb dX10_stores_3 (by decide) ?_
  refine lv_icmp_ge (tgt := 29) hx hb dX10_stores_5 (by decide) (fun c_22 => absurd c_22 (by decide)) (fun _ => ?_)
  refine lv_aload_n hx hb dX10_stores_8 rfl (lv_at hl 1 rfl) ?_
  refine va_get (ci := 10) (v := .ref (z 17)) (C := RX10) (T := TX10) (N := 40) hx hb hg inX10 hown hK hP 1 rfl rfl 17 (by decide) (hg _ q_6_1) (fun _ h9 => h9) rfl dX10_stores_9 ?_
  refine lv_iload_n hx hb dX10_stores_12 rfl (lv_at hl 0 rfl) ?_
  refine lv_aload_n hx hb dX10_stores_13 rfl (lv_at hl 1 rfl) ?_
  refine va_get (ci := 10) (v := .ref (z 1)) (C := RX10) (T := TX10) (N := 40) hx hb hg inX10 hown hK hP 1 rfl rfl 1 (by decide) (hg _ q_5_225) (fun _ h9 => h9) rfl dX10_stores_14 ?_
  refine lv_bipush (v := 46) hx hb dX10_stores_17 (by decide) ?_
  refine lv_iload_n hx hb dX10_stores_19 rfl (lv_at hl 0 rfl) ?_
  refine lv_iadd hx hb dX10_stores_20 ?_
  refine tpi (y := 51) (by decide +kernel) ?_
  refine va_iald hx hb hK hP 2 0 rfl rfl (vin (by decide +kernel)) dX10_stores_21 ?_
  refine lv_topi (fun x_23 ex_23 => ?_)
  have bx_23 : iv 0 9 x_23 := by rw [ex_23]; exact rdT (a := 51) (n := 1) tfz1 (iv_c (51 : Int32) (a := 51) (b := 51) (by decide)) (by decide) (by decide +kernel)
  replace hR := tb hR ex_23
  refine va_iast hx hb hK hP hD hS 0 0 rfl rfl (vin (by decide +kernel)) dX10_stores_22 (fun H locs hP hD hS => ?_)
  obtain ⟨f_24, ef_24, tf_24, hP, hD⟩ : ∃ f_24 : Nat → Int32, f_24 = (upd f_20 (5 : Int32).toNatClampNeg x_23) ∧ (ivT tS f_24) ∧ va_P V.1 vwCl [(z 17, aI V 7 f_24), (z 0, .inr (10, mo z pz0_0 pz0_5 pz0_6 pz0_7 pz0_8 pz0_9 pz0_10 pz0_11 pz0_12 pz0_13 pz0_14 pz0_18 pz0_19 pz0_22 pz0_23 pz0_29)), (z 1, aI V 3075 fz1)] H ∧ va_D A [(z 17, aI V 7 f_24), (z 0, .inr (10, mo z pz0_0 pz0_5 pz0_6 pz0_7 pz0_8 pz0_9 pz0_10 pz0_11 pz0_12 pz0_13 pz0_14 pz0_18 pz0_19 pz0_22 pz0_23 pz0_29)), (z 1, aI V 3075 fz1)] := ⟨_, rfl, upT (lo := 0) (hi := 9) (a := 5) (n := 1) tf_20 (iv_c (5 : Int32) (a := 5) (b := 5) (by decide)) (by decide) bx_23 (by decide +kernel), hP, hD⟩
  replace hR := tb hR ef_24
  refine lv_iinc (v := 6) (lv' := [(1, .int 6), (0, .ref (z 0))]) hx hb dX10_stores_23 hl (k := 0) rfl (by decide +kernel) (by decide) rfl (fun ls hl => ?_)
  refine lv_goto (tgt := 2) hx hb dX10_stores_26 (by decide) ?_
  refine lv_iload_n hx hb dX10_stores_2 rfl (lv_at hl 0 rfl) ?_
  refine lv_bipush (v := 7) hx hb dX10_stores_3 (by decide) ?_
  refine lv_icmp_ge (tgt := 29) hx hb dX10_stores_5 (by decide) (fun c_26 => absurd c_26 (by decide)) (fun _ => ?_)
  refine lv_aload_n hx hb dX10_stores_8 rfl (lv_at hl 1 rfl) ?_
  refine va_get (ci := 10) (v := .ref (z 17)) (C := RX10) (T := TX10) (N := 40) hx hb hg inX10 hown hK hP 1 rfl rfl 17 (by decide) (hg _ q_6_1) (fun _ h9 => h9) rfl dX10_stores_9 ?_
  refine lv_iload_n hx hb dX10_stores_12 rfl (lv_at hl 0 rfl) ?_
  refine lv_aload_n hx hb dX10_stores_13 rfl (lv_at hl 1 rfl) ?_
  refine va_get (ci := 10) (v := .ref (z 1)) (C := RX10) (T := TX10) (N := 40) hx hb hg inX10 hown hK hP 1 rfl rfl 1 (by decide) (hg _ q_5_225) (fun _ h9 => h9) rfl dX10_stores_14 ?_
  refine lv_bipush (v := 46) hx hb dX10_stores_17 (by decide) ?_
  refine lv_iload_n hx hb dX10_stores_19 rfl (lv_at hl 0 rfl) ?_
  refine lv_iadd hx hb dX10_stores_20 ?_
  refine tpi (y := 52) (by decide +kernel) ?_
  refine va_iald hx hb hK hP 2 0 rfl rfl (vin (by decide +kernel)) dX10_stores_21 ?_
  refine lv_topi (fun x_27 ex_27 => ?_)
  replace hR := tb hR ex_27
  refine va_iast hx hb hK hP hD hS 0 0 rfl rfl (vin (by decide +kernel)) dX10_stores_22 (fun H locs hP hD hS => ?_)
  obtain ⟨f_28, ef_28, tf_28, hP, hD⟩ : ∃ f_28 : Nat → Int32, f_28 = (upd f_24 (6 : Int32).toNatClampNeg x_27) ∧ (ivT tS f_28) ∧ va_P V.1 vwCl [(z 17, aI V 7 f_28), (z 0, .inr (10, mo z pz0_0 pz0_5 pz0_6 pz0_7 pz0_8 pz0_9 pz0_10 pz0_11 pz0_12 pz0_13 pz0_14 pz0_18 pz0_19 pz0_22 pz0_23 pz0_29)), (z 1, aI V 3075 fz1)] H ∧ va_D A [(z 17, aI V 7 f_28), (z 0, .inr (10, mo z pz0_0 pz0_5 pz0_6 pz0_7 pz0_8 pz0_9 pz0_10 pz0_11 pz0_12 pz0_13 pz0_14 pz0_18 pz0_19 pz0_22 pz0_23 pz0_29)), (z 1, aI V 3075 fz1)] := ⟨_, rfl, upT (lo := (-2147483648)) (hi := 2147483647) (a := 6) (n := 1) tf_24 (iv_c (6 : Int32) (a := 6) (b := 6) (by decide)) (by decide) (iv_top x_27) (by decide +kernel), hP, hD⟩
  replace hR := tb hR ef_28
  refine lv_iinc (v := 7) (lv' := [(1, .int 7), (0, .ref (z 0))]) hx hb dX10_stores_23 hl (k := 0) rfl (by decide +kernel) (by decide) rfl (fun ls hl => ?_)
  refine lv_goto (tgt := 2) hx hb dX10_stores_26 (by decide) ?_
  refine lv_iload_n hx hb dX10_stores_2 rfl (lv_at hl 0 rfl) ?_
  refine lv_bipush (v := 7) hx hb dX10_stores_3 (by decide) ?_
  refine lv_icmp_ge (tgt := 29) hx hb dX10_stores_5 (by decide) (fun _ => ?_) (fun c_30 => absurd c_30 (by decide))
  exact fiV hx hb hr hlk hK hP hD hS dX10_stores_29 (Nat.le_of_ble_eq_true rfl) (Nat.le_of_ble_eq_true rfl) (⟨f_28, tf_28, (hR.symm.trans hT0), rfl⟩)
theorem dX10_isStand_0 : decode cX10_isStand 0 = .ok (.iconst 0, 1) := by decide +kernel
theorem dX10_isStand_1 : decode cX10_isStand 1 = .ok (.istore_n 2, 1) := by decide +kernel
theorem dX10_isStand_2 : decode cX10_isStand 2 = .ok (.iload_n 2, 1) := by decide +kernel
theorem dX10_isStand_3 : decode cX10_isStand 3 = .ok (.aload_n 0, 1) := by decide +kernel
theorem dX10_isStand_4 : decode cX10_isStand 4 = .ok (.getfield 13, 3) := by decide +kernel
theorem dX10_isStand_7 : decode cX10_isStand 7 = .ok (.iconst 1, 1) := by decide +kernel
theorem dX10_isStand_8 : decode cX10_isStand 8 = .ok (.iaload, 1) := by decide +kernel
theorem dX10_isStand_9 : decode cX10_isStand 9 = .ok (.if_icmp .ge 23, 3) := by decide +kernel
theorem dX10_isStand_32 : decode cX10_isStand 32 = .ok (.aload_n 0, 1) := by decide +kernel
theorem dX10_isStand_33 : decode cX10_isStand 33 = .ok (.getfield 13, 3) := by decide +kernel
theorem dX10_isStand_36 : decode cX10_isStand 36 = .ok (.bipush 50, 2) := by decide +kernel
theorem dX10_isStand_38 : decode cX10_isStand 38 = .ok (.iload_n 1, 1) := by decide +kernel
theorem dX10_isStand_39 : decode cX10_isStand 39 = .ok (.invokestatic 234, 3) := by decide +kernel
theorem dX10_isStand_42 : decode cX10_isStand 42 = .ok (.iastore, 1) := by decide +kernel
theorem dX10_isStand_43 : decode cX10_isStand 43 = .ok (.return_, 1) := by decide +kernel
theorem dX10_isStand_12 : decode cX10_isStand 12 = .ok (.aload_n 0, 1) := by decide +kernel
theorem dX10_isStand_13 : decode cX10_isStand 13 = .ok (.getfield 13, 3) := by decide +kernel
theorem dX10_isStand_16 : decode cX10_isStand 16 = .ok (.bipush 46, 2) := by decide +kernel
theorem dX10_isStand_18 : decode cX10_isStand 18 = .ok (.iload_n 2, 1) := by decide +kernel
theorem dX10_isStand_19 : decode cX10_isStand 19 = .ok (.iadd, 1) := by decide +kernel
theorem dX10_isStand_20 : decode cX10_isStand 20 = .ok (.iload_n 1, 1) := by decide +kernel
theorem dX10_isStand_21 : decode cX10_isStand 21 = .ok (.iload_n 2, 1) := by decide +kernel
theorem dX10_isStand_22 : decode cX10_isStand 22 = .ok (.invokestatic 231, 3) := by decide +kernel
theorem dX10_isStand_25 : decode cX10_isStand 25 = .ok (.iastore, 1) := by decide +kernel
theorem dX10_isStand_26 : decode cX10_isStand 26 = .ok (.iinc 2 1, 3) := by decide +kernel
theorem dX10_isStand_29 : decode cX10_isStand 29 = .ok (.goto (-27), 3) := by decide +kernel
set_option maxRecDepth 100000 in
noncomputable def B_k_X10_isStand_0_1 (a1 : Int32) (u_1 : Int32) (f_2 : Nat → Int32) : (Int32 × (Nat → Int32)) ⊕ ((Nat → Int32)) := bnd (f_2 (1 : Int32).toNatClampNeg : Int32) fun (x_4 : Int32) => if x_4 ≤ u_1 then (bnd (F_k_X10_tookIn_0 a1 : Int32) fun (r_6 : Int32) => bnd ((upd f_2 (50 : Int32).toNatClampNeg r_6) : Nat → Int32) fun (f_9 : Nat → Int32) => Sum.inr ((f_9))) else (bnd ((46 : Int32) + u_1 : Int32) fun (x_12 : Int32) => bnd (F_k_X10_stackIn_0 a1 u_1 : Int32) fun (r_13 : Int32) => bnd ((upd f_2 (x_12 : Int32).toNatClampNeg r_13) : Nat → Int32) fun (f_16 : Nat → Int32) => bnd (u_1 + 1 : Int32) fun (x_17 : Int32) => Sum.inl (x_17, f_16))
noncomputable def L_k_X10_isStand_0_1 (a1 : Int32) (q9 : Int32 × (Nat → Int32)) : (Int32 × (Nat → Int32)) ⊕ ((Nat → Int32)) := B_k_X10_isStand_0_1 a1 q9.1 q9.2
set_option maxRecDepth 100000 in
noncomputable def F_k_X10_isStand_0 (a1 : Int32) (fz1 : Nat → Int32) : (Nat → Int32) := W9 (L_k_X10_isStand_0_1 a1) (0, fz1)
set_option maxHeartbeats 4000000 in
set_option maxRecDepth 100000 in
theorem k_X10_isStand_0 (l : Launch) (V : GV) (z : Nat → Nat) (a1 : Int32) (pz0_0 : Int32) (pz0_5 : Int32) (pz0_6 : Int32) (pz0_7 : Int32) (pz0_8 : Int32) (pz0_9 : Int32) (pz0_10 : Int32) (pz0_11 : Int32) (pz0_12 : Int32) (pz0_13 : Int32) (pz0_14 : Int32) (pz0_18 : Int32) (pz0_19 : Int32) (pz0_22 : Int32) (pz0_23 : Int32) (pz0_29 : Int32) (fz1 : Nat → Int32) (ba1 : iv 0 9999 a1) (bpz0_5 : iv 0 900 pz0_5) (bpz0_6 : iv 0 900 pz0_6) (bpz0_7 : iv 0 900 pz0_7) (bpz0_8 : iv 0 900 pz0_8) (bpz0_10 : iv 0 999 pz0_10) (bpz0_11 : iv 0 4 pz0_11) (bpz0_12 : iv 0 900 pz0_12) (bpz0_13 : iv 0 4 pz0_13) (bpz0_14 : iv (-1) 900 pz0_14) (bpz0_18 : iv 0 2 pz0_18) (bpz0_22 : iv 0 9999 pz0_22) (bpz0_29 : iv 0 10000 pz0_29) (tfz1 : ivT tA fz1) (hf0 : RW fz1) : Ct l V yX10_isStand (.code yX10_isStand cX10_isStand 3 none) 3 [.ref (z 0), .int a1] [(z 0, .inr (10, mo z pz0_0 pz0_5 pz0_6 pz0_7 pz0_8 pz0_9 pz0_10 pz0_11 pz0_12 pz0_13 pz0_14 pz0_18 pz0_19 pz0_22 pz0_23 pz0_29)), (z 1, aI V 3075 fz1)] 0 0 (QV V (fun (w : va_W) => ∃ (g0 : Nat → Int32), (ivT tA g0) ∧ (RW g0) ∧ g0 = (F_k_X10_isStand_0 a1 fz1) ∧ w = [(z 0, .inr (10, mo z pz0_0 pz0_5 pz0_6 pz0_7 pz0_8 pz0_9 pz0_10 pz0_11 pz0_12 pz0_13 pz0_14 pz0_18 pz0_19 pz0_22 pz0_23 pz0_29)), (z 1, aI V 3075 g0)])) := by
  refine Ct.of (by decide) (Nat.le_of_ble_eq_true rfl) (fun p e s m below meth c A ls hx hb hr hml hown hlk hnm hg hP hK hD hE hA hS hl => ?_)
  have hl : lv_has ls 3 [(0, .ref (z 0)), (1, .int a1)] := hl
  obtain ⟨T0, hT0⟩ : ∃ T9, T9 = F_k_X10_isStand_0 a1 fz1 := ⟨_, rfl⟩
  have hR := hT0.trans (F_k_X10_isStand_0.eq_1 ..)
  refine lv_iconst (v := 0) hx hb dX10_isStand_0 (by decide) ?_
  refine lv_istore_n (lv' := [(2, .int 0), (0, .ref (z 0)), (1, .int a1)]) hx hb dX10_isStand_1 rfl hl (by decide) rfl (fun ls hl => ?_)
  refine loopF (X := fun (n_3 : Nat) (H : Heap) (locs : List Loc) (ls : Array Slot) => ∃ (u_1 : Int32) (f_2 : Nat → Int32), (iv 0 2147483647 u_1) ∧ (ivT tA f_2) ∧ (RW f_2) ∧ T0 = W9 (L_k_X10_isStand_0_1 a1) (u_1, f_2) ∧ n_3 = (2147483647 - (u_1 : Int32).toInt).toNat ∧ va_P V.1 vwCl [(z 0, .inr (10, mo z pz0_0 pz0_5 pz0_6 pz0_7 pz0_8 pz0_9 pz0_10 pz0_11 pz0_12 pz0_13 pz0_14 pz0_18 pz0_19 pz0_22 pz0_23 pz0_29)), (z 1, aI V 3075 f_2)] H ∧ va_D A [(z 0, .inr (10, mo z pz0_0 pz0_5 pz0_6 pz0_7 pz0_8 pz0_9 pz0_10 pz0_11 pz0_12 pz0_13 pz0_14 pz0_18 pz0_19 pz0_22 pz0_23 pz0_29)), (z 1, aI V 3075 f_2)] ∧ va_S A s.heap H locs ∧ lv_has ls 3 [(2, .int u_1), (0, .ref (z 0)), (1, .int a1)]) (g := fun ls => F0 m 2 ls []) (fun n_3 H locs ls hX ihn_3 => ?_) _ ⟨0, fz1, (iv_c (0 : Int32) (by decide)), tfz1, hf0, hR, rfl, hP, hD, hS, lv_sub hl [0, 1, 2] rfl⟩
  obtain ⟨u_1, f_2, bu_1, tf_2, inn_3_0, hR, en_3, hP, hD, hS, hl⟩ := hX
  obtain ⟨Tn_3, hR, hAn_3⟩ := tw hR
  replace hR : Tn_3 = B_k_X10_isStand_0_1 a1 u_1 f_2 := hR
  replace hR := hR.trans (B_k_X10_isStand_0_1.eq_1 ..)
  refine lv_iload_n hx hb dX10_isStand_2 rfl (lv_at hl 0 rfl) ?_
  refine lv_aload_n hx hb dX10_isStand_3 rfl (lv_at hl 1 rfl) ?_
  refine va_get (ci := 10) (v := .ref (z 1)) (C := RX10) (T := TX10) (N := 40) hx hb hg inX10 hown hK hP 0 rfl rfl 1 (by decide) (hg _ q_5_225) (fun _ h9 => h9) rfl dX10_isStand_4 ?_
  refine lv_iconst (v := 1) hx hb dX10_isStand_7 (by decide) ?_
  refine va_iald hx hb hK hP 1 0 rfl rfl (vin (by decide +kernel)) dX10_isStand_8 ?_
  refine lv_topi (fun x_4 ex_4 => ?_)
  have bx_4 : iv 0 4 x_4 := by rw [ex_4]; exact rdT (a := 1) (n := 1) tf_2 (iv_c (1 : Int32) (a := 1) (b := 1) (by decide)) (by decide) (by decide +kernel)
  replace hR := tb hR ex_4
  refine lv_icmp_ge (tgt := 32) hx hb dX10_isStand_9 (by decide) (fun c_5 => ?_) (fun c_5 => ?_)
  · replace hR := ti hR c_5
    refine lv_aload_n hx hb dX10_isStand_32 rfl (lv_at hl 1 rfl) ?_
    refine va_get (ci := 10) (v := .ref (z 1)) (C := RX10) (T := TX10) (N := 40) hx hb hg inX10 hown hK hP 0 rfl rfl 1 (by decide) (hg _ q_5_225) (fun _ h9 => h9) rfl dX10_isStand_33 ?_
    refine lv_bipush (v := 50) hx hb dX10_isStand_36 (by decide) ?_
    refine lv_iload_n hx hb dX10_isStand_38 rfl (lv_at hl 2 rfl) ?_
    refine jnI (wr := [(z 0, .inr (10, mo z pz0_0 pz0_5 pz0_6 pz0_7 pz0_8 pz0_9 pz0_10 pz0_11 pz0_12 pz0_13 pz0_14 pz0_18 pz0_19 pz0_22 pz0_23 pz0_29)), (z 1, aI V 3075 f_2)]) (rnS (rest := [.int 50, .ref (z 1)]) ⟨hx, hb, hml, hown, hg⟩ (k_X10_tookIn_0 l V a1 ba1) mt_X10_tookIn q_7_29 ⟨Nat.le_of_ble_eq_true rfl, Nat.le_of_ble_eq_true rfl⟩ hK hP hD hS hA hE [] rfl rfl rfl hl.1 rfl (Nat.le_of_ble_eq_true rfl) dX10_isStand_39 ⟨Nat.le_of_ble_eq_true rfl, Nat.le_of_ble_eq_true rfl⟩) hP hD hS hA [] [0, 1] rfl rfl rfl (by decide) (fun r_6 w H locs hw hP hD hS => ?_)
    obtain ⟨br_6, et_7, rfl⟩ := hw
    replace hR := tb hR et_7
    have hP : va_P V.1 vwCl [(z 0, .inr (10, mo z pz0_0 pz0_5 pz0_6 pz0_7 pz0_8 pz0_9 pz0_10 pz0_11 pz0_12 pz0_13 pz0_14 pz0_18 pz0_19 pz0_22 pz0_23 pz0_29)), (z 1, aI V 3075 f_2)] H := hP
    have hD := cpD hP hD
    refine va_iast hx hb hK hP hD hS 1 0 rfl rfl (vin (by decide +kernel)) dX10_isStand_42 (fun H locs hP hD hS => ?_)
    obtain ⟨f_9, ef_9, tf_9, hP, hD⟩ : ∃ f_9 : Nat → Int32, f_9 = (upd f_2 (50 : Int32).toNatClampNeg r_6) ∧ (ivT tA f_9) ∧ va_P V.1 vwCl [(z 0, .inr (10, mo z pz0_0 pz0_5 pz0_6 pz0_7 pz0_8 pz0_9 pz0_10 pz0_11 pz0_12 pz0_13 pz0_14 pz0_18 pz0_19 pz0_22 pz0_23 pz0_29)), (z 1, aI V 3075 f_9)] H ∧ va_D A [(z 0, .inr (10, mo z pz0_0 pz0_5 pz0_6 pz0_7 pz0_8 pz0_9 pz0_10 pz0_11 pz0_12 pz0_13 pz0_14 pz0_18 pz0_19 pz0_22 pz0_23 pz0_29)), (z 1, aI V 3075 f_9)] := ⟨_, rfl, upT (lo := 0) (hi := 15) (a := 50) (n := 1) tf_2 (iv_c (50 : Int32) (a := 50) (b := 50) (by decide)) (by decide) br_6 (by decide +kernel), hP, hD⟩
    replace hR := tb hR ef_9
    exact fiV hx hb hr hlk hK hP hD hS dX10_isStand_43 (Nat.le_of_ble_eq_true rfl) (Nat.le_of_ble_eq_true rfl) (⟨f_9, tf_9, (RW_up inn_3_0 (iv_c (50 : Int32) (a := 50) (b := 50) (by decide)) (by decide) ef_9), ((tx hAn_3 hR).symm.trans hT0), rfl⟩)
  · replace hR := te hR c_5
    have b_10 : iv 0 3 u_1 := iv_l1 (Int32.not_le.mp c_5) bu_1 bx_4 (by decide)
    have b_11 : iv 1 4 x_4 := iv_l2 (Int32.not_le.mp c_5) bu_1 bx_4 (by decide)
    refine lv_aload_n hx hb dX10_isStand_12 rfl (lv_at hl 1 rfl) ?_
    refine va_get (ci := 10) (v := .ref (z 1)) (C := RX10) (T := TX10) (N := 40) hx hb hg inX10 hown hK hP 0 rfl rfl 1 (by decide) (hg _ q_5_225) (fun _ h9 => h9) rfl dX10_isStand_13 ?_
    refine lv_bipush (v := 46) hx hb dX10_isStand_16 (by decide) ?_
    refine lv_iload_n hx hb dX10_isStand_18 rfl (lv_at hl 0 rfl) ?_
    refine lv_iadd hx hb dX10_isStand_19 ?_
    refine lv_topi (fun x_12 ex_12 => ?_)
    have bx_12 : iv 46 49 x_12 := by rw [ex_12]; exact iv_add (iv_c (46 : Int32) (a := 46) (b := 46) (by decide)) b_10 (by decide)
    replace hR := tb hR ex_12
    refine lv_iload_n hx hb dX10_isStand_20 rfl (lv_at hl 2 rfl) ?_
    refine lv_iload_n hx hb dX10_isStand_21 rfl (lv_at hl 0 rfl) ?_
    refine jnI (wr := [(z 0, .inr (10, mo z pz0_0 pz0_5 pz0_6 pz0_7 pz0_8 pz0_9 pz0_10 pz0_11 pz0_12 pz0_13 pz0_14 pz0_18 pz0_19 pz0_22 pz0_23 pz0_29)), (z 1, aI V 3075 f_2)]) (rnS (rest := [.int x_12, .ref (z 1)]) ⟨hx, hb, hml, hown, hg⟩ (k_X10_stackIn_0 l V a1 u_1 ba1 b_10) mt_X10_stackIn q_7_26 ⟨Nat.le_of_ble_eq_true rfl, Nat.le_of_ble_eq_true rfl⟩ hK hP hD hS hA hE [] rfl rfl rfl hl.1 rfl (Nat.le_of_ble_eq_true rfl) dX10_isStand_22 ⟨Nat.le_of_ble_eq_true rfl, Nat.le_of_ble_eq_true rfl⟩) hP hD hS hA [] [0, 1] rfl rfl rfl (by decide) (fun r_13 w H locs hw hP hD hS => ?_)
    obtain ⟨br_13, er_13, et_14, rfl⟩ := hw
    replace hR := tb hR et_14
    have hP : va_P V.1 vwCl [(z 0, .inr (10, mo z pz0_0 pz0_5 pz0_6 pz0_7 pz0_8 pz0_9 pz0_10 pz0_11 pz0_12 pz0_13 pz0_14 pz0_18 pz0_19 pz0_22 pz0_23 pz0_29)), (z 1, aI V 3075 f_2)] H := hP
    have hD := cpD hP hD
    refine va_iast hx hb hK hP hD hS 1 0 rfl rfl (iv_in bx_12 (by decide)) dX10_isStand_25 (fun H locs hP hD hS => ?_)
    obtain ⟨f_16, ef_16, tf_16, hP, hD⟩ : ∃ f_16 : Nat → Int32, f_16 = (upd f_2 (x_12 : Int32).toNatClampNeg r_13) ∧ (ivT tA f_16) ∧ va_P V.1 vwCl [(z 0, .inr (10, mo z pz0_0 pz0_5 pz0_6 pz0_7 pz0_8 pz0_9 pz0_10 pz0_11 pz0_12 pz0_13 pz0_14 pz0_18 pz0_19 pz0_22 pz0_23 pz0_29)), (z 1, aI V 3075 f_16)] H ∧ va_D A [(z 0, .inr (10, mo z pz0_0 pz0_5 pz0_6 pz0_7 pz0_8 pz0_9 pz0_10 pz0_11 pz0_12 pz0_13 pz0_14 pz0_18 pz0_19 pz0_22 pz0_23 pz0_29)), (z 1, aI V 3075 f_16)] := ⟨_, rfl, upT (lo := 0) (hi := 4) (a := 46) (n := 4) tf_2 bx_12 (by decide) br_13 (by decide +kernel), hP, hD⟩
    replace hR := tb hR ef_16
    obtain ⟨x_17, ex_17⟩ : ∃ z9 : Int32, z9 = u_1 + 1 := ⟨_, rfl⟩
    have bx_17 : iv 1 4 x_17 := by rw [ex_17]; exact iv_add b_10 (iv_c (1 : Int32) (a := 1) (b := 1) (by decide)) (by decide)
    replace hR := tb hR ex_17
    refine lv_iinc (v := x_17) (lv' := [(2, .int x_17), (0, .ref (z 0)), (1, .int a1)]) hx hb dX10_isStand_26 hl (k := 0) rfl (by rw [ex_17]; rfl) (by decide) rfl (fun ls hl => ?_)
    refine lv_goto (tgt := 2) hx hb dX10_isStand_29 (by decide) ?_
    exact ihn_3 _ _ _ _ (by rw [en_3, ex_17]; exact mu_up b_10 (by decide)) ⟨x_17, f_16, (iv_w bx_17 (by decide)), tf_16, (RW_up inn_3_0 bx_12 (by decide) ef_16), (tbk hAn_3 hR), rfl, hP, hD, hS, lv_sub hl [0, 1, 2] rfl⟩
theorem dX10_goesNight_0 : decode cX10_goesNight 0 = .ok (.aload_n 0, 1) := by decide +kernel
theorem dX10_goesNight_1 : decode cX10_goesNight 1 = .ok (.aload_n 0, 1) := by decide +kernel
theorem dX10_goesNight_2 : decode cX10_goesNight 2 = .ok (.aload_n 0, 1) := by decide +kernel
theorem dX10_goesNight_3 : decode cX10_goesNight 3 = .ok (.invokevirtual 269, 3) := by decide +kernel
theorem dX10_goesNight_6 : decode cX10_goesNight 6 = .ok (.iload_n 1, 1) := by decide +kernel
theorem dX10_goesNight_7 : decode cX10_goesNight 7 = .ok (.aload_n 0, 1) := by decide +kernel
theorem dX10_goesNight_8 : decode cX10_goesNight 8 = .ok (.getfield 13, 3) := by decide +kernel
theorem dX10_goesNight_11 : decode cX10_goesNight 11 = .ok (.bipush 51, 2) := by decide +kernel
theorem dX10_goesNight_13 : decode cX10_goesNight 13 = .ok (.iaload, 1) := by decide +kernel
theorem dX10_goesNight_14 : decode cX10_goesNight 14 = .ok (.invokevirtual 272, 3) := by decide +kernel
theorem q_7_71 : Cond.code yX10_isStand prog_12_method_41_code 3 none ∈ gw := gw_7 (i := 71) (rfl) rfl
theorem q_7_70 : Cond.instanceMethod yX10_isStand ∈ gw := gw_7 (i := 70) (by decide +kernel) rfl
theorem q_s_89 : Cond.selects "BeaconDelayModel" yX10_isStand yX10_isStand ∈ gw := gw_s (i := 89) (by decide +kernel) rfl
theorem mt_X10_isStand : MtV yX10_isStand cX10_isStand 3 none 1 := ⟨⟨q_7_71, q_1_9, by decide +kernel, by decide +kernel, by decide +kernel⟩, q_7_70, q_s_89⟩
theorem q_7_68 : Cond.methodLink "BeaconDelayModel" 275 yX10_isStand ∈ gw := gw_7 (i := 68) (by decide +kernel) rfl
theorem dX10_goesNight_17 : decode cX10_goesNight 17 = .ok (.invokevirtual 275, 3) := by decide +kernel
theorem dX10_goesNight_20 : decode cX10_goesNight 20 = .ok (.aload_n 0, 1) := by decide +kernel
theorem dX10_goesNight_21 : decode cX10_goesNight 21 = .ok (.getfield 13, 3) := by decide +kernel
theorem dX10_goesNight_24 : decode cX10_goesNight 24 = .ok (.bipush 52, 2) := by decide +kernel
theorem dX10_goesNight_26 : decode cX10_goesNight 26 = .ok (.dup2, 1) := by decide +kernel
theorem dX10_goesNight_27 : decode cX10_goesNight 27 = .ok (.iaload, 1) := by decide +kernel
theorem dX10_goesNight_28 : decode cX10_goesNight 28 = .ok (.iconst 1, 1) := by decide +kernel
theorem dX10_goesNight_29 : decode cX10_goesNight 29 = .ok (.iadd, 1) := by decide +kernel
theorem dX10_goesNight_30 : decode cX10_goesNight 30 = .ok (.iastore, 1) := by decide +kernel
theorem dX10_goesNight_31 : decode cX10_goesNight 31 = .ok (.return_, 1) := by decide +kernel
set_option maxRecDepth 100000 in
noncomputable def F_k_X10_goesNight_0 (a1 : Int32) (fz15 : Nat → Int32) (fz16 : Nat → Int32) (fz1 : Nat → Int32) : (Nat → Int32) × (Nat → Int32) × (Nat → Int32) := bnd (F_k_X10_standNow_0 fz1 : Int32) fun (r_1 : Int32) => bnd (fz1 (51 : Int32).toNatClampNeg : Int32) fun (x_4 : Int32) => bnd (F_k_X10_nightTo_0 r_1 a1 x_4 fz15 fz16 fz1 : Int32 × (Nat → Int32) × (Nat → Int32)) fun (q_12 : Int32 × (Nat → Int32) × (Nat → Int32)) => bnd (q_12.1 : Int32) fun (r_5 : Int32) => bnd (q_12.2.1 : Nat → Int32) fun (f_6 : Nat → Int32) => bnd (q_12.2.2 : Nat → Int32) fun (f_7 : Nat → Int32) => bnd (F_k_X10_isStand_0 r_5 fz1 : Nat → Int32) fun (f_13 : Nat → Int32) => bnd (f_13 (52 : Int32).toNatClampNeg : Int32) fun (x_17 : Int32) => bnd (x_17 + (1 : Int32) : Int32) fun (x_18 : Int32) => bnd ((upd f_13 (52 : Int32).toNatClampNeg x_18) : Nat → Int32) fun (f_19 : Nat → Int32) => (f_6, f_7, f_19)
set_option maxHeartbeats 4000000 in
set_option maxRecDepth 100000 in
theorem k_X10_goesNight_0 (l : Launch) (V : GV) (z : Nat → Nat) (a1 : Int32) (fz15 : Nat → Int32) (fz16 : Nat → Int32) (pz0_0 : Int32) (pz0_5 : Int32) (pz0_6 : Int32) (pz0_7 : Int32) (pz0_8 : Int32) (pz0_9 : Int32) (pz0_10 : Int32) (pz0_11 : Int32) (pz0_12 : Int32) (pz0_13 : Int32) (pz0_14 : Int32) (pz0_18 : Int32) (pz0_19 : Int32) (pz0_22 : Int32) (pz0_23 : Int32) (pz0_29 : Int32) (fz1 : Nat → Int32) (ba1 : iv 0 3 a1) (tfz16 : ivT tW fz16) (bpz0_5 : iv 0 900 pz0_5) (bpz0_6 : iv 0 900 pz0_6) (bpz0_7 : iv 0 900 pz0_7) (bpz0_8 : iv 0 900 pz0_8) (bpz0_10 : iv 0 999 pz0_10) (bpz0_11 : iv 0 4 pz0_11) (bpz0_12 : iv 0 900 pz0_12) (bpz0_13 : iv 0 4 pz0_13) (bpz0_14 : iv (-1) 900 pz0_14) (bpz0_18 : iv 0 2 pz0_18) (bpz0_22 : iv 0 9999 pz0_22) (bpz0_29 : iv 0 10000 pz0_29) (tfz1 : ivT tA fz1) (hf0 : RW fz1) : Ct l V yX10_goesNight (.code yX10_goesNight cX10_goesNight 2 none) 5 [.ref (z 0), .int a1] [(z 15, aI V 900 fz15), (z 16, aI V 6 fz16), (z 0, .inr (10, mo z pz0_0 pz0_5 pz0_6 pz0_7 pz0_8 pz0_9 pz0_10 pz0_11 pz0_12 pz0_13 pz0_14 pz0_18 pz0_19 pz0_22 pz0_23 pz0_29)), (z 1, aI V 3075 fz1)] 0 0 (QV V (fun (w : va_W) => ∃ (g0 : Nat → Int32) (g1 : Nat → Int32) (g2 : Nat → Int32), (ivT tW g1) ∧ (ivT tA g2) ∧ (RW g2) ∧ g0 = (F_k_X10_goesNight_0 a1 fz15 fz16 fz1).1 ∧ g1 = (F_k_X10_goesNight_0 a1 fz15 fz16 fz1).2.1 ∧ g2 = (F_k_X10_goesNight_0 a1 fz15 fz16 fz1).2.2 ∧ w = [(z 15, aI V 900 g0), (z 16, aI V 6 g1), (z 0, .inr (10, mo z pz0_0 pz0_5 pz0_6 pz0_7 pz0_8 pz0_9 pz0_10 pz0_11 pz0_12 pz0_13 pz0_14 pz0_18 pz0_19 pz0_22 pz0_23 pz0_29)), (z 1, aI V 3075 g2)])) := by
  refine Ct.of (by decide) (Nat.le_of_ble_eq_true rfl) (fun p e s m below meth c A ls hx hb hr hml hown hlk hnm hg hP hK hD hE hA hS hl => ?_)
  have hl : lv_has ls 2 [(0, .ref (z 0)), (1, .int a1)] := hl
  obtain ⟨T0, hT0⟩ : ∃ T9, T9 = F_k_X10_goesNight_0 a1 fz15 fz16 fz1 := ⟨_, rfl⟩
  have hR := hT0.trans (F_k_X10_goesNight_0.eq_1 ..)
  refine lv_aload_n hx hb dX10_goesNight_0 rfl (lv_at hl 0 rfl) ?_
  refine lv_aload_n hx hb dX10_goesNight_1 rfl (lv_at hl 0 rfl) ?_
  refine lv_aload_n hx hb dX10_goesNight_2 rfl (lv_at hl 0 rfl) ?_
  refine jnI (wr := [(z 15, aI V 900 fz15), (z 16, aI V 6 fz16)]) (rnV (rest := [.ref (z 0), .ref (z 0)]) ⟨hx, hb, hml, hown, hg⟩ (k_X10_standNow_0 l V z pz0_0 pz0_5 pz0_6 pz0_7 pz0_8 pz0_9 pz0_10 pz0_11 pz0_12 pz0_13 pz0_14 pz0_18 pz0_19 pz0_22 pz0_23 pz0_29 fz1 bpz0_5 bpz0_6 bpz0_7 bpz0_8 bpz0_10 bpz0_11 bpz0_12 bpz0_13 bpz0_14 bpz0_18 bpz0_22 bpz0_29 tfz1) mt_X10_standNow q_7_11 ⟨Nat.le_of_ble_eq_true rfl, Nat.le_of_ble_eq_true rfl⟩ hK hP hD hS hA hE [2, 3] rfl rfl 2 rfl rfl rfl rfl hl.1 rfl (Nat.le_of_ble_eq_true rfl) dX10_goesNight_3 ⟨Nat.le_of_ble_eq_true rfl, Nat.le_of_ble_eq_true rfl⟩) hP hD hS hA [2, 3] [0, 1] rfl rfl rfl (by decide) (fun r_1 w H locs hw hP hD hS => ?_)
  obtain ⟨br_1, er_1, et_2, rfl⟩ := hw
  replace hR := tb hR et_2
  have hP : va_P V.1 vwCl [(z 15, aI V 900 fz15), (z 16, aI V 6 fz16), (z 0, .inr (10, mo z pz0_0 pz0_5 pz0_6 pz0_7 pz0_8 pz0_9 pz0_10 pz0_11 pz0_12 pz0_13 pz0_14 pz0_18 pz0_19 pz0_22 pz0_23 pz0_29)), (z 1, aI V 3075 fz1)] H := hP
  have hD := cpD hP hD
  refine lv_iload_n hx hb dX10_goesNight_6 rfl (lv_at hl 1 rfl) ?_
  refine lv_aload_n hx hb dX10_goesNight_7 rfl (lv_at hl 0 rfl) ?_
  refine va_get (ci := 10) (v := .ref (z 1)) (C := RX10) (T := TX10) (N := 40) hx hb hg inX10 hown hK hP 2 rfl rfl 1 (by decide) (hg _ q_5_225) (fun _ h9 => h9) rfl dX10_goesNight_8 ?_
  refine lv_bipush (v := 51) hx hb dX10_goesNight_11 (by decide) ?_
  refine va_iald hx hb hK hP 3 0 rfl rfl (vin (by decide +kernel)) dX10_goesNight_13 ?_
  refine lv_topi (fun x_4 ex_4 => ?_)
  have bx_4 : iv 0 9 x_4 := by rw [ex_4]; exact rdT (a := 51) (n := 1) tfz1 (iv_c (51 : Int32) (a := 51) (b := 51) (by decide)) (by decide) (by decide +kernel)
  replace hR := tb hR ex_4
  refine jnI (wr := []) (rnV (rest := [.ref (z 0)]) ⟨hx, hb, hml, hown, hg⟩ (k_X10_nightTo_0 l V z r_1 a1 x_4 fz15 fz16 pz0_0 pz0_5 pz0_6 pz0_7 pz0_8 pz0_9 pz0_10 pz0_11 pz0_12 pz0_13 pz0_14 pz0_18 pz0_19 pz0_22 pz0_23 pz0_29 fz1 br_1 tfz16 bpz0_5 bpz0_6 bpz0_7 bpz0_8 bpz0_10 bpz0_11 bpz0_12 bpz0_13 bpz0_14 bpz0_18 bpz0_22 bpz0_29 tfz1 hf0) mt_X10_nightTo q_7_18 ⟨Nat.le_of_ble_eq_true rfl, Nat.le_of_ble_eq_true rfl⟩ hK hP hD hS hA hE [0, 1, 2, 3] rfl rfl 2 rfl rfl rfl rfl hl.1 rfl (Nat.le_of_ble_eq_true rfl) dX10_goesNight_14 ⟨Nat.le_of_ble_eq_true rfl, Nat.le_of_ble_eq_true rfl⟩) hP hD hS hA [0, 1, 2, 3] [] rfl rfl rfl (by decide) (fun r_5 w H locs hw hP hD hS => ?_)
  obtain ⟨f_6, f_7, tf_7, br_5, g_8, et_9, et_10, et_11, rfl⟩ := hw
  replace hR := tb0 hR
  replace hR := tb hR et_9
  replace hR := tb hR et_10
  replace hR := tb hR et_11
  have hP : va_P V.1 vwCl [(z 15, aI V 900 f_6), (z 16, aI V 6 f_7), (z 0, .inr (10, mo z pz0_0 pz0_5 pz0_6 pz0_7 pz0_8 pz0_9 pz0_10 pz0_11 pz0_12 pz0_13 pz0_14 pz0_18 pz0_19 pz0_22 pz0_23 pz0_29)), (z 1, aI V 3075 fz1)] H := hP
  have hD := cpD hP hD
  refine jnV (wr := [(z 15, aI V 900 f_6), (z 16, aI V 6 f_7)]) (rnV (rest := []) ⟨hx, hb, hml, hown, hg⟩ (k_X10_isStand_0 l V z r_5 pz0_0 pz0_5 pz0_6 pz0_7 pz0_8 pz0_9 pz0_10 pz0_11 pz0_12 pz0_13 pz0_14 pz0_18 pz0_19 pz0_22 pz0_23 pz0_29 fz1 (iv_w br_5 (by decide)) bpz0_5 bpz0_6 bpz0_7 bpz0_8 bpz0_10 bpz0_11 bpz0_12 bpz0_13 bpz0_14 bpz0_18 bpz0_22 bpz0_29 tfz1 g_8) mt_X10_isStand q_7_68 ⟨Nat.le_of_ble_eq_true rfl, Nat.le_of_ble_eq_true rfl⟩ hK hP hD hS hA hE [2, 3] rfl rfl 2 rfl rfl rfl rfl hl.1 rfl (Nat.le_of_ble_eq_true rfl) dX10_goesNight_17 ⟨Nat.le_of_ble_eq_true rfl, Nat.le_of_ble_eq_true rfl⟩) hP hD hS hA [2, 3] [0, 1] rfl rfl rfl (by decide) (fun  w H locs hw hP hD hS => ?_)
  obtain ⟨f_13, tf_13, g_14, et_15, rfl⟩ := hw
  replace hR := tb hR et_15
  have hP : va_P V.1 vwCl [(z 15, aI V 900 f_6), (z 16, aI V 6 f_7), (z 0, .inr (10, mo z pz0_0 pz0_5 pz0_6 pz0_7 pz0_8 pz0_9 pz0_10 pz0_11 pz0_12 pz0_13 pz0_14 pz0_18 pz0_19 pz0_22 pz0_23 pz0_29)), (z 1, aI V 3075 f_13)] H := hP
  have hD := cpD hP hD
  refine lv_aload_n hx hb dX10_goesNight_20 rfl (lv_at hl 0 rfl) ?_
  refine va_get (ci := 10) (v := .ref (z 1)) (C := RX10) (T := TX10) (N := 40) hx hb hg inX10 hown hK hP 2 rfl rfl 1 (by decide) (hg _ q_5_225) (fun _ h9 => h9) rfl dX10_goesNight_21 ?_
  refine lv_bipush (v := 52) hx hb dX10_goesNight_24 (by decide) ?_
  refine lv_dup2_11 hx hb dX10_goesNight_26 rfl rfl ?_
  refine va_iald hx hb hK hP 3 0 rfl rfl (vin (by decide +kernel)) dX10_goesNight_27 ?_
  refine lv_topi (fun x_17 ex_17 => ?_)
  replace hR := tb hR ex_17
  refine lv_iconst (v := 1) hx hb dX10_goesNight_28 (by decide) ?_
  refine lv_iadd hx hb dX10_goesNight_29 ?_
  refine lv_topi (fun x_18 ex_18 => ?_)
  replace hR := tb hR ex_18
  refine va_iast hx hb hK hP hD hS 3 0 rfl rfl (vin (by decide +kernel)) dX10_goesNight_30 (fun H locs hP hD hS => ?_)
  obtain ⟨f_19, ef_19, tf_19, hP, hD⟩ : ∃ f_19 : Nat → Int32, f_19 = (upd f_13 (52 : Int32).toNatClampNeg x_18) ∧ (ivT tA f_19) ∧ va_P V.1 vwCl [(z 15, aI V 900 f_6), (z 16, aI V 6 f_7), (z 0, .inr (10, mo z pz0_0 pz0_5 pz0_6 pz0_7 pz0_8 pz0_9 pz0_10 pz0_11 pz0_12 pz0_13 pz0_14 pz0_18 pz0_19 pz0_22 pz0_23 pz0_29)), (z 1, aI V 3075 f_19)] H ∧ va_D A [(z 15, aI V 900 f_6), (z 16, aI V 6 f_7), (z 0, .inr (10, mo z pz0_0 pz0_5 pz0_6 pz0_7 pz0_8 pz0_9 pz0_10 pz0_11 pz0_12 pz0_13 pz0_14 pz0_18 pz0_19 pz0_22 pz0_23 pz0_29)), (z 1, aI V 3075 f_19)] := ⟨_, rfl, upT (lo := (-2147483648)) (hi := 2147483647) (a := 52) (n := 1) tf_13 (iv_c (52 : Int32) (a := 52) (b := 52) (by decide)) (by decide) (iv_top x_18) (by decide +kernel), hP, hD⟩
  replace hR := tb hR ef_19
  exact fiV hx hb hr hlk hK hP hD hS dX10_goesNight_31 (Nat.le_of_ble_eq_true rfl) (Nat.le_of_ble_eq_true rfl) (⟨f_6, f_7, f_19, tf_7, tf_19, (RW_up g_14 (iv_c (52 : Int32) (a := 52) (b := 52) (by decide)) (by decide) ef_19), (congrArg Prod.fst (hR.symm.trans hT0)), (congrArg Prod.fst (congrArg Prod.snd (hR.symm.trans hT0))), (congrArg Prod.snd (congrArg Prod.snd (hR.symm.trans hT0))), rfl⟩)
