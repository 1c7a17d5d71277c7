theorem dX10_adds_0 : decode cX10_adds 0 = .ok (.aload_n 0, 1) := by decide +kernel
theorem q_6_12 : Cond.fieldLink "BeaconDelayModel" 58 "BeaconDelayModel" "known" "[Z" ∈ gw := gw_6 (i := 12) (by decide +kernel) rfl
theorem dX10_adds_1 : decode cX10_adds 1 = .ok (.getfield 58, 3) := by decide +kernel
theorem dX10_adds_4 : decode cX10_adds 4 = .ok (.iload_n 1, 1) := by decide +kernel
theorem dX10_adds_5 : decode cX10_adds 5 = .ok (.baload, 1) := by decide +kernel
theorem dX10_adds_6 : decode cX10_adds 6 = .ok (.ifCond .eq 4, 3) := by decide +kernel
theorem dX10_adds_10 : decode cX10_adds 10 = .ok (.aload_n 0, 1) := by decide +kernel
theorem dX10_adds_11 : decode cX10_adds 11 = .ok (.getfield 58, 3) := by decide +kernel
theorem dX10_adds_14 : decode cX10_adds 14 = .ok (.iload_n 1, 1) := by decide +kernel
theorem dX10_adds_15 : decode cX10_adds 15 = .ok (.iconst 1, 1) := by decide +kernel
theorem dX10_adds_16 : decode cX10_adds 16 = .ok (.bastore, 1) := by decide +kernel
theorem dX10_adds_17 : decode cX10_adds 17 = .ok (.aload_n 0, 1) := by decide +kernel
theorem q_6_8 : Cond.fieldLink "BeaconDelayModel" 45 "BeaconDelayModel" "stand" "[I" ∈ gw := gw_6 (i := 8) (by decide +kernel) rfl
theorem dX10_adds_18 : decode cX10_adds 18 = .ok (.getfield 45, 3) := by decide +kernel
theorem dX10_adds_21 : decode cX10_adds 21 = .ok (.aload_n 0, 1) := by decide +kernel
theorem q_6_13 : Cond.fieldLink "BeaconDelayModel" 355 "BeaconDelayModel" "standMany" "I" ∈ gw := gw_6 (i := 13) (by decide +kernel) rfl
theorem dX10_adds_22 : decode cX10_adds 22 = .ok (.getfield 355, 3) := by decide +kernel
theorem dX10_adds_25 : decode cX10_adds 25 = .ok (.iload_n 1, 1) := by decide +kernel
theorem dX10_adds_26 : decode cX10_adds 26 = .ok (.iastore, 1) := by decide +kernel
theorem dX10_adds_27 : decode cX10_adds 27 = .ok (.aload_n 0, 1) := by decide +kernel
theorem dX10_adds_28 : decode cX10_adds 28 = .ok (.dup, 1) := by decide +kernel
theorem dX10_adds_29 : decode cX10_adds 29 = .ok (.getfield 355, 3) := by decide +kernel
theorem dX10_adds_32 : decode cX10_adds 32 = .ok (.iconst 1, 1) := by decide +kernel
theorem dX10_adds_33 : decode cX10_adds 33 = .ok (.iadd, 1) := by decide +kernel
theorem dX10_adds_34 : decode cX10_adds 34 = .ok (.putfield 355, 3) := by decide +kernel
theorem dX10_adds_37 : decode cX10_adds 37 = .ok (.return_, 1) := by decide +kernel
theorem dX10_adds_9 : decode cX10_adds 9 = .ok (.return_, 1) := by decide +kernel
set_option maxHeartbeats 4000000 in
set_option maxRecDepth 100000 in
theorem k_X10_adds_0 (l : Launch) (V : GV) (z : Nat → Nat) (a1 : Int32) (fz24 : Nat → Int32) (fz28 : Nat → Int32) (pz0_0 : Int32) (pz0_5 : Int32) (pz0_6 : Int32) (pz0_7 : Int32) (pz0_8 : Int32) (pz0_9 : Int32) (pz0_10 : Int32) (pz0_11 : Int32) (pz0_12 : Int32) (pz0_13 : Int32) (pz0_14 : Int32) (pz0_18 : Int32) (pz0_19 : Int32) (pz0_22 : Int32) (pz0_23 : Int32) (pz0_29 : Int32) (ba1 : iv 0 9999 a1) (tfz24 : ∀ j, iv 0 9999 (fz24 j)) (bpz0_5 : iv 0 900 pz0_5) (bpz0_6 : iv 0 900 pz0_6) (bpz0_7 : iv 0 900 pz0_7) (bpz0_8 : iv 0 900 pz0_8) (bpz0_10 : iv 0 999 pz0_10) (bpz0_11 : iv 0 4 pz0_11) (bpz0_12 : iv 0 900 pz0_12) (bpz0_13 : iv 0 4 pz0_13) (bpz0_14 : iv (-1) 900 pz0_14) (bpz0_18 : iv 0 2 pz0_18) (bpz0_22 : iv 0 9999 pz0_22) (bpz0_29 : iv 0 10000 pz0_29) (hf0 : FK pz0_29 fz28) (hf1 : KI pz0_29 fz24 fz28) : Ct l V yX10_adds (.code yX10_adds cX10_adds 2 none) 1 [.ref (z 0), .int a1] [(z 24, aI V 10000 fz24), (z 28, aZ V 10000 fz28), (z 0, .inr (10, mo z pz0_0 pz0_5 pz0_6 pz0_7 pz0_8 pz0_9 pz0_10 pz0_11 pz0_12 pz0_13 pz0_14 pz0_18 pz0_19 pz0_22 pz0_23 pz0_29))] 0 0 (QV V (fun (w : va_W) => ∃ (g0 : Nat → Int32) (g1 : Nat → Int32) (v2 : Int32), (∀ j, iv 0 9999 (g0 j)) ∧ iv 0 10000 v2 ∧ (FK v2 g1) ∧ (KI v2 g0 g1) ∧ ((pz0_29 : Int32).toInt ≤ (v2 : Int32).toInt) ∧ (preS pz0_29 fz24 g0) ∧ (inS v2 g0 (a1 : Int32).toNatClampNeg) ∧ w = [(z 24, aI V 10000 g0), (z 28, aZ V 10000 g1), (z 0, .inr (10, mo z pz0_0 pz0_5 pz0_6 pz0_7 pz0_8 pz0_9 pz0_10 pz0_11 pz0_12 pz0_13 pz0_14 pz0_18 pz0_19 pz0_22 pz0_23 v2))])) := by
  refine Ct.of (by decide) (Nat.le_of_ble_eq_true rfl) (fun p e s m below meth c A ls hx hb hr hml hown hlk hnm hg hP hK hD hE hA hS hl => ?_)
  have hl : lv_has ls 2 [(0, .ref (z 0)), (1, .int a1)] := hl
  refine lv_aload_n hx hb dX10_adds_0 rfl (lv_at hl 0 rfl) ?_
  refine va_get (ci := 10) (v := .ref (z 28)) (C := RX10) (T := TX10) (N := 40) hx hb hg inX10 hown hK hP 2 rfl rfl 28 (by decide) (hg _ q_6_12) (fun _ h9 => h9) rfl dX10_adds_1 ?_
  refine lv_iload_n hx hb dX10_adds_4 rfl (lv_at hl 1 rfl) ?_
  refine va_zald hx hb hK hP 1 3 rfl rfl (iv_in ba1 (by decide)) dX10_adds_5 ?_
  refine lv_topi (fun x_1 ex_1 => ?_)
  refine lv_if_eq (tgt := 10) hx hb dX10_adds_6 (by decide) (fun c_2 => ?_) (fun c_2 => ?_)
  · have b_3 : iv 0 0 x_1 := iv_q c_2 (iv_c (0 : Int32) (a := 0) (b := 0) (by decide))
    have b_4 : iv 0 9999 pz0_29 := by have q9 := FK_lt hf0 (by have q9 := ba1; have q8 := clampNat q9.1; unfold iv at q9; omega) (ex_1.symm.trans c_2); have q8 := bpz0_29; unfold iv at *; omega
    refine lv_aload_n hx hb dX10_adds_10 rfl (lv_at hl 0 rfl) ?_
    refine va_get (ci := 10) (v := .ref (z 28)) (C := RX10) (T := TX10) (N := 40) hx hb hg inX10 hown hK hP 2 rfl rfl 28 (by decide) (hg _ q_6_12) (fun _ h9 => h9) rfl dX10_adds_11 ?_
    refine lv_iload_n hx hb dX10_adds_14 rfl (lv_at hl 1 rfl) ?_
    refine lv_iconst (v := 1) hx hb dX10_adds_15 (by decide) ?_
    refine va_zast hx hb hK hP hD hS 1 3 rfl rfl (iv_in ba1 (by decide)) dX10_adds_16 (fun H locs hP hD hS => ?_)
    obtain ⟨f_5, ef_5, hP, hD⟩ : ∃ f_5 : Nat → Int32, f_5 = (upd fz28 (a1 : Int32).toNatClampNeg (vp_nar .boolean 1)) ∧ va_P V.1 vwCl [(z 24, aI V 10000 fz24), (z 28, aZ V 10000 f_5), (z 0, .inr (10, mo z pz0_0 pz0_5 pz0_6 pz0_7 pz0_8 pz0_9 pz0_10 pz0_11 pz0_12 pz0_13 pz0_14 pz0_18 pz0_19 pz0_22 pz0_23 pz0_29))] H ∧ va_D A [(z 24, aI V 10000 fz24), (z 28, aZ V 10000 f_5), (z 0, .inr (10, mo z pz0_0 pz0_5 pz0_6 pz0_7 pz0_8 pz0_9 pz0_10 pz0_11 pz0_12 pz0_13 pz0_14 pz0_18 pz0_19 pz0_22 pz0_23 pz0_29))] := ⟨_, rfl, hP, hD⟩
    refine lv_aload_n hx hb dX10_adds_17 rfl (lv_at hl 0 rfl) ?_
    refine va_get (ci := 10) (v := .ref (z 24)) (C := RX10) (T := TX10) (N := 40) hx hb hg inX10 hown hK hP 2 rfl rfl 24 (by decide) (hg _ q_6_8) (fun _ h9 => h9) rfl dX10_adds_18 ?_
    refine lv_aload_n hx hb dX10_adds_21 rfl (lv_at hl 0 rfl) ?_
    refine va_get (ci := 10) (v := .int pz0_29) (C := RX10) (T := TX10) (N := 40) hx hb hg inX10 hown hK hP 2 rfl rfl 29 (by decide) (hg _ q_6_13) (fun _ h9 => h9) rfl dX10_adds_22 ?_
    refine lv_iload_n hx hb dX10_adds_25 rfl (lv_at hl 1 rfl) ?_
    refine va_iast hx hb hK hP hD hS 0 0 rfl rfl (iv_in b_4 (by decide)) dX10_adds_26 (fun H locs hP hD hS => ?_)
    obtain ⟨f_6, ef_6, tf_6, hP, hD⟩ : ∃ f_6 : Nat → Int32, f_6 = (upd fz24 (pz0_29 : Int32).toNatClampNeg a1) ∧ (∀ j, iv 0 9999 (f_6 j)) ∧ va_P V.1 vwCl [(z 24, aI V 10000 f_6), (z 28, aZ V 10000 f_5), (z 0, .inr (10, mo z pz0_0 pz0_5 pz0_6 pz0_7 pz0_8 pz0_9 pz0_10 pz0_11 pz0_12 pz0_13 pz0_14 pz0_18 pz0_19 pz0_22 pz0_23 pz0_29))] H ∧ va_D A [(z 24, aI V 10000 f_6), (z 28, aZ V 10000 f_5), (z 0, .inr (10, mo z pz0_0 pz0_5 pz0_6 pz0_7 pz0_8 pz0_9 pz0_10 pz0_11 pz0_12 pz0_13 pz0_14 pz0_18 pz0_19 pz0_22 pz0_23 pz0_29))] := ⟨_, rfl, ivU tfz24 _ ba1, hP, hD⟩
    refine lv_aload_n hx hb dX10_adds_27 rfl (lv_at hl 0 rfl) ?_
    refine lv_dup hx hb dX10_adds_28 rfl ?_
    refine va_get (ci := 10) (v := .int pz0_29) (C := RX10) (T := TX10) (N := 40) hx hb hg inX10 hown hK hP 2 rfl rfl 29 (by decide) (hg _ q_6_13) (fun _ h9 => h9) rfl dX10_adds_29 ?_
    refine lv_iconst (v := 1) hx hb dX10_adds_32 (by decide) ?_
    refine lv_iadd hx hb dX10_adds_33 ?_
    refine lv_topi (fun x_7 ex_7 => ?_)
    have bx_7 : iv 1 10000 x_7 := by rw [ex_7]; exact iv_add b_4 (iv_c (1 : Int32) (a := 1) (b := 1) (by decide)) (by decide)
    refine va_put (ci := 10) (v := .int x_7) (ty := .int) (C := RX10) (T := TX10) (N := 40) hx hb hg inX10 tyX10 tyX10_ok nmX10 hown hK hP hD hS 2 rfl rfl 29 (by decide) (hg _ q_6_13) (fun _ h9 => h9) rfl (by decide +kernel) rfl rfl (Nat.le_of_ble_eq_true rfl) dX10_adds_34 (fun H locs hP hD hS => ?_)
    have hP : va_P V.1 vwCl [(z 24, aI V 10000 f_6), (z 28, aZ V 10000 f_5), (z 0, .inr (10, mo z pz0_0 pz0_5 pz0_6 pz0_7 pz0_8 pz0_9 pz0_10 pz0_11 pz0_12 pz0_13 pz0_14 pz0_18 pz0_19 pz0_22 pz0_23 x_7))] H := hP
    have hD : va_D A [(z 24, aI V 10000 f_6), (z 28, aZ V 10000 f_5), (z 0, .inr (10, mo z pz0_0 pz0_5 pz0_6 pz0_7 pz0_8 pz0_9 pz0_10 pz0_11 pz0_12 pz0_13 pz0_14 pz0_18 pz0_19 pz0_22 pz0_23 x_7))] := hD
    exact fiV hx hb hr hlk hK hP hD hS dX10_adds_37 (Nat.le_of_ble_eq_true rfl) (Nat.le_of_ble_eq_true rfl) (⟨f_6, f_5, x_7, tf_6, (iv_w bx_7 (by decide)), (FK_s hf0 (by have q9 := ba1; have q8 := clampNat q9.1; unfold iv at q9; omega) (ex_1.symm.trans c_2) (by decide) ef_5 (inc_toInt ex_7 b_4 (by decide))), (KI_s hf1 b_4 (by decide) (inc_toInt ex_7 b_4 (by decide)) ef_6 ef_5), (by have q9 := (inc_toInt ex_7 b_4 (by decide)); omega), (preS_s b_4 (by decide) ef_6), (inS_s b_4 (by decide) (inc_toInt ex_7 b_4 (by decide)) ef_6), rfl⟩)
  · exact fiV hx hb hr hlk hK hP hD hS dX10_adds_9 (Nat.le_of_ble_eq_true rfl) (Nat.le_of_ble_eq_true rfl) (⟨fz24, fz28, pz0_29, tfz24, bpz0_29, hf0, hf1, (Int.le_refl _), preS_r, (hf1 _ (by have q9 := ba1; have q8 := clampNat q9.1; unfold iv at q9; omega) (fun q9 => c_2 (ex_1.trans q9))), rfl⟩)
theorem dX10_laysStands_0 : decode cX10_laysStands 0 = .ok (.iconst 0, 1) := by decide +kernel
theorem dX10_laysStands_1 : decode cX10_laysStands 1 = .ok (.istore_n 1, 1) := by decide +kernel
theorem dX10_laysStands_2 : decode cX10_laysStands 2 = .ok (.iload_n 1, 1) := by decide +kernel
theorem dX10_laysStands_3 : decode cX10_laysStands 3 = .ok (.sipush 10000, 3) := by decide +kernel
theorem dX10_laysStands_6 : decode cX10_laysStands 6 = .ok (.if_icmp .ge 16, 3) := by decide +kernel
theorem dX10_laysStands_22 : decode cX10_laysStands 22 = .ok (.aload_n 0, 1) := by decide +kernel
theorem dX10_laysStands_23 : decode cX10_laysStands 23 = .ok (.iconst 0, 1) := by decide +kernel
theorem dX10_laysStands_24 : decode cX10_laysStands 24 = .ok (.putfield 355, 3) := by decide +kernel
theorem dX10_laysStands_27 : decode cX10_laysStands 27 = .ok (.aload_n 0, 1) := by decide +kernel
theorem dX10_laysStands_28 : decode cX10_laysStands 28 = .ok (.aload_n 0, 1) := by decide +kernel
theorem dX10_laysStands_29 : decode cX10_laysStands 29 = .ok (.invokevirtual 269, 3) := by decide +kernel
theorem q_7_201 : Cond.code yX10_adds prog_12_method_82_code 2 none ∈ gw := gw_7 (i := 201) (rfl) rfl
theorem q_7_200 : Cond.instanceMethod yX10_adds ∈ gw := gw_7 (i := 200) (by decide +kernel) rfl
theorem q_s_106 : Cond.selects "BeaconDelayModel" yX10_adds yX10_adds ∈ gw := gw_s (i := 106) (by decide +kernel) rfl
theorem mt_X10_adds : MtV yX10_adds cX10_adds 2 none 1 := ⟨⟨q_7_201, q_1_9, by decide +kernel, by decide +kernel, by decide +kernel⟩, q_7_200, q_s_106⟩
theorem q_7_198 : Cond.methodLink "BeaconDelayModel" 358 yX10_adds ∈ gw := gw_7 (i := 198) (by decide +kernel) rfl
theorem dX10_laysStands_32 : decode cX10_laysStands 32 = .ok (.invokevirtual 358, 3) := by decide +kernel
theorem dX10_laysStands_35 : decode cX10_laysStands 35 = .ok (.iconst 0, 1) := by decide +kernel
theorem dX10_laysStands_36 : decode cX10_laysStands 36 = .ok (.istore_n 1, 1) := by decide +kernel
theorem dX10_laysStands_37 : decode cX10_laysStands 37 = .ok (.iload_n 1, 1) := by decide +kernel
theorem dX10_laysStands_38 : decode cX10_laysStands 38 = .ok (.aload_n 0, 1) := by decide +kernel
theorem dX10_laysStands_39 : decode cX10_laysStands 39 = .ok (.getfield 355, 3) := by decide +kernel
theorem dX10_laysStands_42 : decode cX10_laysStands 42 = .ok (.if_icmp .ge 80, 3) := by decide +kernel
theorem dX10_laysStands_122 : decode cX10_laysStands 122 = .ok (.return_, 1) := by decide +kernel
theorem dX10_laysStands_45 : decode cX10_laysStands 45 = .ok (.iconst 0, 1) := by decide +kernel
theorem dX10_laysStands_46 : decode cX10_laysStands 46 = .ok (.istore_n 2, 1) := by decide +kernel
theorem dX10_laysStands_47 : decode cX10_laysStands 47 = .ok (.iload_n 2, 1) := by decide +kernel
theorem dX10_laysStands_48 : decode cX10_laysStands 48 = .ok (.iconst 4, 1) := by decide +kernel
theorem dX10_laysStands_49 : decode cX10_laysStands 49 = .ok (.if_icmp .ge 67, 3) := by decide +kernel
theorem dX10_laysStands_116 : decode cX10_laysStands 116 = .ok (.iinc 1 1, 3) := by decide +kernel
theorem dX10_laysStands_119 : decode cX10_laysStands 119 = .ok (.goto (-82), 3) := by decide +kernel
theorem dX10_laysStands_52 : decode cX10_laysStands 52 = .ok (.aload_n 0, 1) := by decide +kernel
theorem dX10_laysStands_53 : decode cX10_laysStands 53 = .ok (.iload_n 2, 1) := by decide +kernel
theorem dX10_laysStands_54 : decode cX10_laysStands 54 = .ok (.i2l, 1) := by decide +kernel
theorem dX10_laysStands_55 : decode cX10_laysStands 55 = .ok (.invokevirtual 266, 3) := by decide +kernel
theorem dX10_laysStands_58 : decode cX10_laysStands 58 = .ok (.ifCond .eq 24, 3) := by decide +kernel
theorem dX10_laysStands_82 : decode cX10_laysStands 82 = .ok (.iconst (-1), 1) := by decide +kernel
theorem dX10_laysStands_83 : decode cX10_laysStands 83 = .ok (.istore_n 3, 1) := by decide +kernel
theorem dX10_laysStands_84 : decode cX10_laysStands 84 = .ok (.aload_n 0, 1) := by decide +kernel
theorem q_6_9 : Cond.fieldLink "BeaconDelayModel" 49 "BeaconDelayModel" "then" "[I" ∈ gw := gw_6 (i := 9) (by decide +kernel) rfl
theorem dX10_laysStands_85 : decode cX10_laysStands 85 = .ok (.getfield 49, 3) := by decide +kernel
theorem dX10_laysStands_88 : decode cX10_laysStands 88 = .ok (.iconst 4, 1) := by decide +kernel
theorem dX10_laysStands_89 : decode cX10_laysStands 89 = .ok (.aload_n 0, 1) := by decide +kernel
theorem dX10_laysStands_90 : decode cX10_laysStands 90 = .ok (.getfield 45, 3) := by decide +kernel
theorem dX10_laysStands_93 : decode cX10_laysStands 93 = .ok (.iload_n 1, 1) := by decide +kernel
theorem dX10_laysStands_94 : decode cX10_laysStands 94 = .ok (.iaload, 1) := by decide +kernel
theorem dX10_laysStands_95 : decode cX10_laysStands 95 = .ok (.imul, 1) := by decide +kernel
theorem dX10_laysStands_96 : decode cX10_laysStands 96 = .ok (.iload_n 2, 1) := by decide +kernel
theorem dX10_laysStands_97 : decode cX10_laysStands 97 = .ok (.iadd, 1) := by decide +kernel
theorem dX10_laysStands_98 : decode cX10_laysStands 98 = .ok (.iload_n 3, 1) := by decide +kernel
theorem dX10_laysStands_99 : decode cX10_laysStands 99 = .ok (.iastore, 1) := by decide +kernel
theorem dX10_laysStands_100 : decode cX10_laysStands 100 = .ok (.iload_n 3, 1) := by decide +kernel
theorem dX10_laysStands_101 : decode cX10_laysStands 101 = .ok (.iconst (-1), 1) := by decide +kernel
theorem dX10_laysStands_102 : decode cX10_laysStands 102 = .ok (.if_icmp .eq 8, 3) := by decide +kernel
theorem dX10_laysStands_110 : decode cX10_laysStands 110 = .ok (.iinc 2 1, 3) := by decide +kernel
theorem dX10_laysStands_113 : decode cX10_laysStands 113 = .ok (.goto (-66), 3) := by decide +kernel
theorem dX10_laysStands_61 : decode cX10_laysStands 61 = .ok (.aload_n 0, 1) := by decide +kernel
theorem dX10_laysStands_62 : decode cX10_laysStands 62 = .ok (.aload_n 0, 1) := by decide +kernel
theorem dX10_laysStands_63 : decode cX10_laysStands 63 = .ok (.getfield 45, 3) := by decide +kernel
theorem dX10_laysStands_66 : decode cX10_laysStands 66 = .ok (.iload_n 1, 1) := by decide +kernel
theorem dX10_laysStands_67 : decode cX10_laysStands 67 = .ok (.iaload, 1) := by decide +kernel
theorem dX10_laysStands_68 : decode cX10_laysStands 68 = .ok (.iload_n 2, 1) := by decide +kernel
theorem dX10_laysStands_69 : decode cX10_laysStands 69 = .ok (.aload_n 0, 1) := by decide +kernel
theorem dX10_laysStands_70 : decode cX10_laysStands 70 = .ok (.getfield 13, 3) := by decide +kernel
theorem dX10_laysStands_73 : decode cX10_laysStands 73 = .ok (.bipush 51, 2) := by decide +kernel
theorem dX10_laysStands_75 : decode cX10_laysStands 75 = .ok (.iaload, 1) := by decide +kernel
theorem dX10_laysStands_76 : decode cX10_laysStands 76 = .ok (.invokevirtual 272, 3) := by decide +kernel
theorem dX10_laysStands_79 : decode cX10_laysStands 79 = .ok (.goto 4, 3) := by decide +kernel
theorem dX10_laysStands_105 : decode cX10_laysStands 105 = .ok (.aload_n 0, 1) := by decide +kernel
theorem dX10_laysStands_106 : decode cX10_laysStands 106 = .ok (.iload_n 3, 1) := by decide +kernel
theorem dX10_laysStands_107 : decode cX10_laysStands 107 = .ok (.invokevirtual 358, 3) := by decide +kernel
theorem dX10_laysStands_9 : decode cX10_laysStands 9 = .ok (.aload_n 0, 1) := by decide +kernel
theorem dX10_laysStands_10 : decode cX10_laysStands 10 = .ok (.getfield 58, 3) := by decide +kernel
theorem dX10_laysStands_13 : decode cX10_laysStands 13 = .ok (.iload_n 1, 1) := by decide +kernel
theorem dX10_laysStands_14 : decode cX10_laysStands 14 = .ok (.iconst 0, 1) := by decide +kernel
theorem dX10_laysStands_15 : decode cX10_laysStands 15 = .ok (.bastore, 1) := by decide +kernel
theorem dX10_laysStands_16 : decode cX10_laysStands 16 = .ok (.iinc 1 1, 3) := by decide +kernel
theorem dX10_laysStands_19 : decode cX10_laysStands 19 = .ok (.goto (-17), 3) := by decide +kernel
set_option maxHeartbeats 4000000 in
set_option maxRecDepth 100000 in
theorem k_X10_laysStands_0 (l : Launch) (V : GV) (z : Nat → Nat) (fz15 : Nat → Int32) (fz16 : Nat → Int32) (fz24 : Nat → Int32) (fz25 : Nat → Int32) (fz28 : Nat → Int32) (pz0_0 : Int32) (pz0_5 : Int32) (pz0_6 : Int32) (pz0_7 : Int32) (pz0_8 : Int32) (pz0_9 : Int32) (pz0_10 : Int32) (pz0_11 : Int32) (pz0_12 : Int32) (pz0_13 : Int32) (pz0_14 : Int32) (pz0_18 : Int32) (pz0_19 : Int32) (pz0_22 : Int32) (pz0_23 : Int32) (pz0_29 : Int32) (fz1 : Nat → Int32) (tfz16 : ivT tW fz16) (tfz24 : ∀ j, iv 0 9999 (fz24 j)) (tfz25 : ∀ j, iv (-1) 9999 (fz25 j)) (bpz0_5 : iv 0 900 pz0_5) (bpz0_6 : iv 0 900 pz0_6) (bpz0_7 : iv 0 900 pz0_7) (bpz0_8 : iv 0 900 pz0_8) (bpz0_10 : iv 0 999 pz0_10) (bpz0_11 : iv 0 4 pz0_11) (bpz0_12 : iv 0 900 pz0_12) (bpz0_13 : iv 0 4 pz0_13) (bpz0_14 : iv (-1) 900 pz0_14) (bpz0_18 : iv 0 2 pz0_18) (bpz0_22 : iv 0 9999 pz0_22) (bpz0_29 : iv 0 10000 pz0_29) (tfz1 : ivT tA fz1) (hf0 : RW fz1) : Ct l V yX10_laysStands (.code yX10_laysStands cX10_laysStands 4 none) 5 [.ref (z 0)] [(z 15, aI V 900 fz15), (z 16, aI V 6 fz16), (z 24, aI V 10000 fz24), (z 25, aI V 40000 fz25), (z 28, aZ V 10000 fz28), (z 0, .inr (10, mo z pz0_0 pz0_5 pz0_6 pz0_7 pz0_8 pz0_9 pz0_10 pz0_11 pz0_12 pz0_13 pz0_14 pz0_18 pz0_19 pz0_22 pz0_23 pz0_29)), (z 1, aI V 3075 fz1)] 0 0 (QV V (fun (w : va_W) => ∃ (g0 : Nat → Int32) (g1 : Nat → Int32) (g2 : Nat → Int32) (g3 : Nat → Int32) (g4 : Nat → Int32) (v5 : Int32), (ivT tW g1) ∧ (∀ j, iv 0 9999 (g2 j)) ∧ (∀ j, iv (-1) 9999 (g3 j)) ∧ iv 0 10000 v5 ∧ (RW fz1) ∧ (SL v5 g2 g3) ∧ (inS v5 g2 (snF fz1).toNatClampNeg) ∧ w = [(z 15, aI V 900 g0), (z 16, aI V 6 g1), (z 24, aI V 10000 g2), (z 25, aI V 40000 g3), (z 28, aZ V 10000 g4), (z 0, .inr (10, mo z pz0_0 pz0_5 pz0_6 pz0_7 pz0_8 pz0_9 pz0_10 pz0_11 pz0_12 pz0_13 pz0_14 pz0_18 pz0_19 pz0_22 pz0_23 v5)), (z 1, aI V 3075 fz1)])) := by
  refine Ct.of (by decide) (Nat.le_of_ble_eq_true rfl) (fun p e s m below meth c A ls hx hb hr hml hown hlk hnm hg hP hK hD hE hA hS hl => ?_)
  have hl : lv_has ls 4 [(0, .ref (z 0))] := hl
  refine lv_iconst (v := 0) hx hb dX10_laysStands_0 (by decide) ?_
  refine lv_istore_n (lv' := [(1, .int 0), (0, .ref (z 0))]) hx hb dX10_laysStands_1 rfl hl (by decide) rfl (fun ls hl => ?_)
  refine loopF (X := fun (n_3 : Nat) (H : Heap) (locs : List Loc) (ls : Array Slot) => ∃ (u_1 : Int32) (f_2 : Nat → Int32), (iv 0 10000 u_1) ∧ (∀ j : Nat, (j : Int) < (u_1 : Int32).toInt → f_2 j = 0) ∧ n_3 = (2147483647 - (u_1 : Int32).toInt).toNat ∧ va_P V.1 vwCl [(z 15, aI V 900 fz15), (z 16, aI V 6 fz16), (z 24, aI V 10000 fz24), (z 25, aI V 40000 fz25), (z 28, aZ V 10000 f_2), (z 0, .inr (10, mo z pz0_0 pz0_5 pz0_6 pz0_7 pz0_8 pz0_9 pz0_10 pz0_11 pz0_12 pz0_13 pz0_14 pz0_18 pz0_19 pz0_22 pz0_23 pz0_29)), (z 1, aI V 3075 fz1)] H ∧ va_D A [(z 15, aI V 900 fz15), (z 16, aI V 6 fz16), (z 24, aI V 10000 fz24), (z 25, aI V 40000 fz25), (z 28, aZ V 10000 f_2), (z 0, .inr (10, mo z pz0_0 pz0_5 pz0_6 pz0_7 pz0_8 pz0_9 pz0_10 pz0_11 pz0_12 pz0_13 pz0_14 pz0_18 pz0_19 pz0_22 pz0_23 pz0_29)), (z 1, aI V 3075 fz1)] ∧ va_S A s.heap H locs ∧ lv_has ls 4 [(1, .int u_1), (0, .ref (z 0))]) (g := fun ls => F0 m 2 ls []) (fun n_3 H locs ls hX ihn_3 => ?_) _ ⟨0, fz28, (iv_c (0 : Int32) (by decide)), (fun j hj => absurd hj (by have h9 : (0 : Int32).toInt = 0 := (by decide); omega)), rfl, hP, hD, hS, lv_sub hl [0, 1] rfl⟩
  obtain ⟨u_1, f_2, bu_1, inn_3_0, en_3, hP, hD, hS, hl⟩ := hX
  refine lv_iload_n hx hb dX10_laysStands_2 rfl (lv_at hl 0 rfl) ?_
  refine lv_sipush (v := 10000) hx hb dX10_laysStands_3 (by decide) ?_
  refine lv_icmp_ge (tgt := 22) hx hb dX10_laysStands_6 (by decide) (fun c_4 => ?_) (fun c_4 => ?_)
  · have b_5 : iv 10000 10000 u_1 := iv_e2 c_4 (iv_c (10000 : Int32) (a := 10000) (b := 10000) (by decide)) bu_1 (by decide)
    refine lv_aload_n hx hb dX10_laysStands_22 rfl (lv_at hl 1 rfl) ?_
    refine lv_iconst (v := 0) hx hb dX10_laysStands_23 (by decide) ?_
    refine va_put (ci := 10) (v := .int 0) (ty := .int) (C := RX10) (T := TX10) (N := 40) hx hb hg inX10 tyX10 tyX10_ok nmX10 hown hK hP hD hS 5 rfl rfl 29 (by decide) (hg _ q_6_13) (fun _ h9 => h9) rfl (by decide +kernel) rfl rfl (Nat.le_of_ble_eq_true rfl) dX10_laysStands_24 (fun H locs hP hD hS => ?_)
    have hP : va_P V.1 vwCl [(z 15, aI V 900 fz15), (z 16, aI V 6 fz16), (z 24, aI V 10000 fz24), (z 25, aI V 40000 fz25), (z 28, aZ V 10000 f_2), (z 0, .inr (10, mo z pz0_0 pz0_5 pz0_6 pz0_7 pz0_8 pz0_9 pz0_10 pz0_11 pz0_12 pz0_13 pz0_14 pz0_18 pz0_19 pz0_22 pz0_23 0)), (z 1, aI V 3075 fz1)] H := hP
    have hD : va_D A [(z 15, aI V 900 fz15), (z 16, aI V 6 fz16), (z 24, aI V 10000 fz24), (z 25, aI V 40000 fz25), (z 28, aZ V 10000 f_2), (z 0, .inr (10, mo z pz0_0 pz0_5 pz0_6 pz0_7 pz0_8 pz0_9 pz0_10 pz0_11 pz0_12 pz0_13 pz0_14 pz0_18 pz0_19 pz0_22 pz0_23 0)), (z 1, aI V 3075 fz1)] := hD
    refine lv_aload_n hx hb dX10_laysStands_27 rfl (lv_at hl 1 rfl) ?_
    refine lv_aload_n hx hb dX10_laysStands_28 rfl (lv_at hl 1 rfl) ?_
    refine jnI (wr := [(z 15, aI V 900 fz15), (z 16, aI V 6 fz16), (z 24, aI V 10000 fz24), (z 25, aI V 40000 fz25), (z 28, aZ V 10000 f_2)]) (rnV (rest := [.ref (z 0)]) ⟨hx, hb, hml, hown, hg⟩ (k_X10_standNow_0 l V z pz0_0 pz0_5 pz0_6 pz0_7 pz0_8 pz0_9 pz0_10 pz0_11 pz0_12 pz0_13 pz0_14 pz0_18 pz0_19 pz0_22 pz0_23 0 fz1 bpz0_5 bpz0_6 bpz0_7 bpz0_8 bpz0_10 bpz0_11 bpz0_12 bpz0_13 bpz0_14 bpz0_18 bpz0_22 (iv_c (0 : Int32) (by decide)) tfz1) mt_X10_standNow q_7_11 ⟨Nat.le_of_ble_eq_true rfl, Nat.le_of_ble_eq_true rfl⟩ hK hP hD hS hA hE [5, 6] rfl rfl 5 rfl rfl rfl rfl hl.1 rfl (Nat.le_of_ble_eq_true rfl) dX10_laysStands_29 ⟨Nat.le_of_ble_eq_true rfl, Nat.le_of_ble_eq_true rfl⟩) hP hD hS hA [5, 6] [0, 1, 2, 3, 4] rfl rfl rfl (by decide) (fun r_6 w H locs hw hP hD hS => ?_)
    obtain ⟨br_6, er_6, rfl⟩ := hw
    have hP : va_P V.1 vwCl [(z 15, aI V 900 fz15), (z 16, aI V 6 fz16), (z 24, aI V 10000 fz24), (z 25, aI V 40000 fz25), (z 28, aZ V 10000 f_2), (z 0, .inr (10, mo z pz0_0 pz0_5 pz0_6 pz0_7 pz0_8 pz0_9 pz0_10 pz0_11 pz0_12 pz0_13 pz0_14 pz0_18 pz0_19 pz0_22 pz0_23 0)), (z 1, aI V 3075 fz1)] H := hP
    have hD : va_D A [(z 15, aI V 900 fz15), (z 16, aI V 6 fz16), (z 24, aI V 10000 fz24), (z 25, aI V 40000 fz25), (z 28, aZ V 10000 f_2), (z 0, .inr (10, mo z pz0_0 pz0_5 pz0_6 pz0_7 pz0_8 pz0_9 pz0_10 pz0_11 pz0_12 pz0_13 pz0_14 pz0_18 pz0_19 pz0_22 pz0_23 0)), (z 1, aI V 3075 fz1)] := hD
    refine jnV (wr := [(z 15, aI V 900 fz15), (z 16, aI V 6 fz16), (z 25, aI V 40000 fz25), (z 1, aI V 3075 fz1)]) (rnV (rest := []) ⟨hx, hb, hml, hown, hg⟩ (k_X10_adds_0 l V z r_6 fz24 f_2 pz0_0 pz0_5 pz0_6 pz0_7 pz0_8 pz0_9 pz0_10 pz0_11 pz0_12 pz0_13 pz0_14 pz0_18 pz0_19 pz0_22 pz0_23 0 br_6 tfz24 bpz0_5 bpz0_6 bpz0_7 bpz0_8 bpz0_10 bpz0_11 bpz0_12 bpz0_13 bpz0_14 bpz0_18 bpz0_22 (iv_c (0 : Int32) (by decide)) (FK_0 (by decide)) (KI_0 inn_3_0 (Int32.not_lt.mpr c_4))) mt_X10_adds q_7_198 ⟨Nat.le_of_ble_eq_true rfl, Nat.le_of_ble_eq_true rfl⟩ hK hP hD hS hA hE [2, 4, 5] rfl rfl 5 rfl rfl rfl rfl hl.1 rfl (Nat.le_of_ble_eq_true rfl) dX10_laysStands_32 ⟨Nat.le_of_ble_eq_true rfl, Nat.le_of_ble_eq_true rfl⟩) hP hD hS hA [2, 4, 5] [0, 1, 3, 6] rfl rfl rfl (by decide) (fun  w H locs hw hP hD hS => ?_)
    obtain ⟨f_7, f_8, v_9, tf_7, bv_9, g_10, g_11, g_12, g_13, g_14, rfl⟩ := hw
    have hP : va_P V.1 vwCl [(z 15, aI V 900 fz15), (z 16, aI V 6 fz16), (z 25, aI V 40000 fz25), (z 1, aI V 3075 fz1), (z 24, aI V 10000 f_7), (z 28, aZ V 10000 f_8), (z 0, .inr (10, mo z pz0_0 pz0_5 pz0_6 pz0_7 pz0_8 pz0_9 pz0_10 pz0_11 pz0_12 pz0_13 pz0_14 pz0_18 pz0_19 pz0_22 pz0_23 v_9))] H := hP
    have hD : va_D A [(z 15, aI V 900 fz15), (z 16, aI V 6 fz16), (z 25, aI V 40000 fz25), (z 1, aI V 3075 fz1), (z 24, aI V 10000 f_7), (z 28, aZ V 10000 f_8), (z 0, .inr (10, mo z pz0_0 pz0_5 pz0_6 pz0_7 pz0_8 pz0_9 pz0_10 pz0_11 pz0_12 pz0_13 pz0_14 pz0_18 pz0_19 pz0_22 pz0_23 v_9))] := hD
    refine lv_iconst (v := 0) hx hb dX10_laysStands_35 (by decide) ?_
    refine lv_istore_n (lv' := [(1, .int 0), (0, .ref (z 0))]) hx hb dX10_laysStands_36 rfl hl (by decide) rfl (fun ls hl => ?_)
    refine loopF (X := fun (n_22 : Nat) (H : Heap) (locs : List Loc) (ls : Array Slot) => ∃ (u_15 : Int32) (f_16 : Nat → Int32) (f_17 : Nat → Int32) (f_18 : Nat → Int32) (f_19 : Nat → Int32) (f_20 : Nat → Int32) (u_21 : Int32), (iv 0 10000 u_15) ∧ (ivT tW f_17) ∧ (∀ j, iv (-1) 9999 (f_18 j)) ∧ (∀ j, iv 0 9999 (f_19 j)) ∧ (iv 0 10000 u_21) ∧ (CL u_21 f_19 f_18 (u_15).toNatClampNeg ((0 : Int32)).toNatClampNeg) ∧ (inS u_21 f_19 (snF fz1).toNatClampNeg) ∧ (RW fz1) ∧ (FK u_21 f_20) ∧ (KI u_21 f_19 f_20) ∧ n_22 = (2147483647 - (u_15 : Int32).toInt).toNat ∧ va_P V.1 vwCl [(z 15, aI V 900 f_16), (z 16, aI V 6 f_17), (z 25, aI V 40000 f_18), (z 1, aI V 3075 fz1), (z 24, aI V 10000 f_19), (z 28, aZ V 10000 f_20), (z 0, .inr (10, mo z pz0_0 pz0_5 pz0_6 pz0_7 pz0_8 pz0_9 pz0_10 pz0_11 pz0_12 pz0_13 pz0_14 pz0_18 pz0_19 pz0_22 pz0_23 u_21))] H ∧ va_D A [(z 15, aI V 900 f_16), (z 16, aI V 6 f_17), (z 25, aI V 40000 f_18), (z 1, aI V 3075 fz1), (z 24, aI V 10000 f_19), (z 28, aZ V 10000 f_20), (z 0, .inr (10, mo z pz0_0 pz0_5 pz0_6 pz0_7 pz0_8 pz0_9 pz0_10 pz0_11 pz0_12 pz0_13 pz0_14 pz0_18 pz0_19 pz0_22 pz0_23 u_21))] ∧ va_S A s.heap H locs ∧ lv_has ls 4 [(1, .int u_15), (0, .ref (z 0))]) (g := fun ls => F0 m 37 ls []) (fun n_22 H locs ls hX ihn_22 => ?_) _ ⟨0, fz15, fz16, fz25, f_7, f_8, v_9, (iv_c (0 : Int32) (by decide)), tfz16, tfz25, tf_7, bv_9, (show CL _ _ _ (0 : Int32).toNatClampNeg (0 : Int32).toNatClampNeg from (by rw [(by decide : (0 : Int32).toNatClampNeg = 0)]; exact CL_0)), (by have q9 := g_14; rw [er_6] at q9; exact q9), hf0, g_10, g_11, rfl, hP, hD, hS, lv_sub hl [0, 1] rfl⟩
    obtain ⟨u_15, f_16, f_17, f_18, f_19, f_20, u_21, bu_15, tf_17, tf_18, tf_19, bu_21, inn_22_0, inn_22_1, inn_22_2, inn_22_3, inn_22_4, en_22, hP, hD, hS, hl⟩ := hX
    refine lv_iload_n hx hb dX10_laysStands_37 rfl (lv_at hl 0 rfl) ?_
    refine lv_aload_n hx hb dX10_laysStands_38 rfl (lv_at hl 1 rfl) ?_
    refine va_get (ci := 10) (v := .int u_21) (C := RX10) (T := TX10) (N := 40) hx hb hg inX10 hown hK hP 6 rfl rfl 29 (by decide) (hg _ q_6_13) (fun _ h9 => h9) rfl dX10_laysStands_39 ?_
    refine lv_icmp_ge (tgt := 122) hx hb dX10_laysStands_42 (by decide) (fun c_23 => ?_) (fun c_23 => ?_)
    · have hP := subP (ws' := [(z 15, aI V 900 f_16), (z 16, aI V 6 f_17), (z 24, aI V 10000 f_19), (z 25, aI V 40000 f_18), (z 28, aZ V 10000 f_20), (z 0, .inr (10, mo z pz0_0 pz0_5 pz0_6 pz0_7 pz0_8 pz0_9 pz0_10 pz0_11 pz0_12 pz0_13 pz0_14 pz0_18 pz0_19 pz0_22 pz0_23 u_21)), (z 1, aI V 3075 fz1)]) hP [0, 1, 4, 2, 5, 6, 3] rfl
      have hD := hD.sub (ws' := [(z 15, aI V 900 f_16), (z 16, aI V 6 f_17), (z 24, aI V 10000 f_19), (z 25, aI V 40000 f_18), (z 28, aZ V 10000 f_20), (z 0, .inr (10, mo z pz0_0 pz0_5 pz0_6 pz0_7 pz0_8 pz0_9 pz0_10 pz0_11 pz0_12 pz0_13 pz0_14 pz0_18 pz0_19 pz0_22 pz0_23 u_21)), (z 1, aI V 3075 fz1)]) [0, 1, 4, 2, 5, 6, 3] rfl rfl
      exact fiV hx hb hr hlk hK hP hD hS dX10_laysStands_122 (Nat.le_of_ble_eq_true rfl) (Nat.le_of_ble_eq_true rfl) (⟨f_16, f_17, f_19, f_18, f_20, u_21, tf_17, tf_19, tf_18, bu_21, inn_22_2, (SL_of (d := (0 : Int32)) inn_22_0 (Int32.not_lt.mpr c_23) bu_15 (by decide)), inn_22_1, rfl⟩)
    · have b_24 : iv 0 9999 u_15 := iv_l1 (Int32.not_le.mp c_23) bu_15 bu_21 (by decide)
      have b_25 : iv 1 10000 u_21 := iv_l2 (Int32.not_le.mp c_23) bu_15 bu_21 (by decide)
      refine lv_iconst (v := 0) hx hb dX10_laysStands_45 (by decide) ?_
      refine lv_istore_n (lv' := [(2, .int 0), (1, .int u_15), (0, .ref (z 0))]) hx hb dX10_laysStands_46 rfl hl (by decide) rfl (fun ls hl => ?_)
      refine loopF (X := fun (n_33 : Nat) (H : Heap) (locs : List Loc) (ls : Array Slot) => ∃ (u_26 : Int32) (f_27 : Nat → Int32) (f_28 : Nat → Int32) (f_29 : Nat → Int32) (f_30 : Nat → Int32) (f_31 : Nat → Int32) (u_32 : Int32), (iv 0 4 u_26) ∧ (ivT tW f_28) ∧ (∀ j, iv (-1) 9999 (f_29 j)) ∧ (∀ j, iv 0 9999 (f_30 j)) ∧ (iv 0 10000 u_32) ∧ (CL u_32 f_30 f_29 (u_15).toNatClampNeg (u_26).toNatClampNeg) ∧ (inS u_32 f_30 (snF fz1).toNatClampNeg) ∧ ((u_15 : Int32).toInt < (u_32 : Int32).toInt) ∧ (RW fz1) ∧ (FK u_32 f_31) ∧ (KI u_32 f_30 f_31) ∧ n_33 = (2147483647 - (u_26 : Int32).toInt).toNat ∧ va_P V.1 vwCl [(z 15, aI V 900 f_27), (z 16, aI V 6 f_28), (z 25, aI V 40000 f_29), (z 1, aI V 3075 fz1), (z 24, aI V 10000 f_30), (z 28, aZ V 10000 f_31), (z 0, .inr (10, mo z pz0_0 pz0_5 pz0_6 pz0_7 pz0_8 pz0_9 pz0_10 pz0_11 pz0_12 pz0_13 pz0_14 pz0_18 pz0_19 pz0_22 pz0_23 u_32))] H ∧ va_D A [(z 15, aI V 900 f_27), (z 16, aI V 6 f_28), (z 25, aI V 40000 f_29), (z 1, aI V 3075 fz1), (z 24, aI V 10000 f_30), (z 28, aZ V 10000 f_31), (z 0, .inr (10, mo z pz0_0 pz0_5 pz0_6 pz0_7 pz0_8 pz0_9 pz0_10 pz0_11 pz0_12 pz0_13 pz0_14 pz0_18 pz0_19 pz0_22 pz0_23 u_32))] ∧ va_S A s.heap H locs ∧ lv_has ls 4 [(2, .int u_26), (1, .int u_15), (0, .ref (z 0))]) (g := fun ls => F0 m 47 ls []) (fun n_33 H locs ls hX ihn_33 => ?_) _ ⟨0, f_16, f_17, f_18, f_19, f_20, u_21, (iv_c (0 : Int32) (by decide)), tf_17, tf_18, tf_19, (iv_w b_25 (by decide)), inn_22_0, inn_22_1, (Int32.lt_iff_toInt_lt.mp (Int32.not_le.mp c_23)), inn_22_2, inn_22_3, inn_22_4, rfl, hP, hD, hS, lv_sub hl [0, 1, 2] rfl⟩
      obtain ⟨u_26, f_27, f_28, f_29, f_30, f_31, u_32, bu_26, tf_28, tf_29, tf_30, bu_32, inn_33_0, inn_33_1, inn_33_2, inn_33_3, inn_33_4, inn_33_5, en_33, hP, hD, hS, hl⟩ := hX
      refine lv_iload_n hx hb dX10_laysStands_47 rfl (lv_at hl 0 rfl) ?_
      refine lv_iconst (v := 4) hx hb dX10_laysStands_48 (by decide) ?_
      refine lv_icmp_ge (tgt := 116) hx hb dX10_laysStands_49 (by decide) (fun c_34 => ?_) (fun c_34 => ?_)
      · have b_35 : iv 4 4 u_26 := iv_e2 c_34 (iv_c (4 : Int32) (a := 4) (b := 4) (by decide)) bu_26 (by decide)
        obtain ⟨x_36, ex_36⟩ : ∃ z9 : Int32, z9 = u_15 + 1 := ⟨_, rfl⟩
        have bx_36 : iv 1 10000 x_36 := by rw [ex_36]; exact iv_add b_24 (iv_c (1 : Int32) (a := 1) (b := 1) (by decide)) (by decide)
        refine lv_iinc (v := x_36) (lv' := [(1, .int x_36), (2, .int u_26), (0, .ref (z 0))]) hx hb dX10_laysStands_116 hl (k := 1) rfl (by rw [ex_36]; rfl) (by decide) rfl (fun ls hl => ?_)
        refine lv_goto (tgt := 37) hx hb dX10_laysStands_119 (by decide) ?_
        exact ihn_22 _ _ _ _ (by rw [en_22, ex_36]; exact mu_up b_24 (by decide)) ⟨x_36, f_27, f_28, f_29, f_30, f_31, u_32, (iv_w bx_36 (by decide)), tf_28, tf_29, tf_30, bu_32, (by have q8 := inc_toInt ex_36 b_24 (by decide); have q7 := clampNat (x := u_15) (by have q9 := b_24; unfold iv at q9; omega); have q6 := clampNat (x := x_36) (by have q9 := bx_36; unfold iv at q9; omega); have q5 := (Int32.not_lt.mpr c_34); rw [Int32.lt_iff_toInt_lt, (by decide : (4 : Int32).toInt = 4)] at q5; have q4 := clampNat (x := u_26) (by have q9 := b_35; unfold iv at q9; omega); rw [show (x_36).toNatClampNeg = (u_15).toNatClampNeg + 1 by omega, (by decide : (0 : Int32).toNatClampNeg = 0)]; exact CL_n inn_33_0 (by omega)), inn_33_1, inn_33_3, inn_33_4, inn_33_5, rfl, hP, hD, hS, lv_sub hl [0, 2] rfl⟩
      · have b_37 : iv 0 3 u_26 := iv_l1 (Int32.not_le.mp c_34) bu_26 (iv_c (4 : Int32) (a := 4) (b := 4) (by decide)) (by decide)
        refine lv_aload_n hx hb dX10_laysStands_52 rfl (lv_at hl 2 rfl) ?_
        refine lv_iload_n hx hb dX10_laysStands_53 rfl (lv_at hl 0 rfl) ?_
        refine lv_i2l hx hb dX10_laysStands_54 rfl ?_
        refine lv_topl (fun j_38 ej_38 => ?_)
        have bj_38 : ivL 0 3 j_38 := by rw [ej_38]; exact ivL_of b_37
        refine jnI (wr := [(z 15, aI V 900 f_27), (z 16, aI V 6 f_28), (z 25, aI V 40000 f_29), (z 24, aI V 10000 f_30), (z 28, aZ V 10000 f_31)]) (rnV (rest := []) ⟨hx, hb, hml, hown, hg⟩ (k_X10_isNight_0 l V z j_38 pz0_0 pz0_5 pz0_6 pz0_7 pz0_8 pz0_9 pz0_10 pz0_11 pz0_12 pz0_13 pz0_14 pz0_18 pz0_19 pz0_22 pz0_23 u_32 fz1 bpz0_5 bpz0_6 bpz0_7 bpz0_8 bpz0_10 bpz0_11 bpz0_12 bpz0_13 bpz0_14 bpz0_18 bpz0_22 bu_32 tfz1) mt_X10_isNight q_7_7 ⟨Nat.le_of_ble_eq_true rfl, Nat.le_of_ble_eq_true rfl⟩ hK hP hD hS hA hE [6, 3] rfl rfl 6 rfl rfl rfl rfl hl.1 rfl (Nat.le_of_ble_eq_true rfl) dX10_laysStands_55 ⟨Nat.le_of_ble_eq_true rfl, Nat.le_of_ble_eq_true rfl⟩) hP hD hS hA [6, 3] [0, 1, 2, 4, 5] rfl rfl rfl (by decide) (fun r_39 w H locs hw hP hD hS => ?_)
        obtain ⟨br_39, g_40, rfl⟩ := hw
        have hP : va_P V.1 vwCl [(z 15, aI V 900 f_27), (z 16, aI V 6 f_28), (z 25, aI V 40000 f_29), (z 24, aI V 10000 f_30), (z 28, aZ V 10000 f_31), (z 0, .inr (10, mo z pz0_0 pz0_5 pz0_6 pz0_7 pz0_8 pz0_9 pz0_10 pz0_11 pz0_12 pz0_13 pz0_14 pz0_18 pz0_19 pz0_22 pz0_23 u_32)), (z 1, aI V 3075 fz1)] H := hP
        have hD : va_D A [(z 15, aI V 900 f_27), (z 16, aI V 6 f_28), (z 25, aI V 40000 f_29), (z 24, aI V 10000 f_30), (z 28, aZ V 10000 f_31), (z 0, .inr (10, mo z pz0_0 pz0_5 pz0_6 pz0_7 pz0_8 pz0_9 pz0_10 pz0_11 pz0_12 pz0_13 pz0_14 pz0_18 pz0_19 pz0_22 pz0_23 u_32)), (z 1, aI V 3075 fz1)] := hD
        refine lv_if_eq (tgt := 82) hx hb dX10_laysStands_58 (by decide) (fun c_41 => ?_) (fun c_41 => ?_)
        · have b_42 : iv 0 0 r_39 := iv_q c_41 (iv_c (0 : Int32) (a := 0) (b := 0) (by decide))
          refine lv_iconst (v := (-1)) hx hb dX10_laysStands_82 (by decide) ?_
          refine lv_istore_n (lv' := [(3, .int (-1)), (2, .int u_26), (1, .int u_15), (0, .ref (z 0))]) hx hb dX10_laysStands_83 rfl hl (by decide) rfl (fun ls hl => ?_)
          refine lv_aload_n hx hb dX10_laysStands_84 rfl (lv_at hl 3 rfl) ?_
          refine va_get (ci := 10) (v := .ref (z 25)) (C := RX10) (T := TX10) (N := 40) hx hb hg inX10 hown hK hP 5 rfl rfl 25 (by decide) (hg _ q_6_9) (fun _ h9 => h9) rfl dX10_laysStands_85 ?_
          refine lv_iconst (v := 4) hx hb dX10_laysStands_88 (by decide) ?_
          refine lv_aload_n hx hb dX10_laysStands_89 rfl (lv_at hl 3 rfl) ?_
          refine va_get (ci := 10) (v := .ref (z 24)) (C := RX10) (T := TX10) (N := 40) hx hb hg inX10 hown hK hP 5 rfl rfl 24 (by decide) (hg _ q_6_8) (fun _ h9 => h9) rfl dX10_laysStands_90 ?_
          refine lv_iload_n hx hb dX10_laysStands_93 rfl (lv_at hl 2 rfl) ?_
          refine va_iald hx hb hK hP 3 0 rfl rfl (iv_in b_24 (by decide)) dX10_laysStands_94 ?_
          refine lv_topi (fun x_43 ex_43 => ?_)
          have bx_43 : iv 0 9999 x_43 := by rw [ex_43]; exact tf_30 _
          refine lv_imul hx hb dX10_laysStands_95 ?_
          refine lv_topi (fun x_44 ex_44 => ?_)
          have bx_44 : iv 0 39996 x_44 := by rw [ex_44]; exact iv_cmul (iv_c (4 : Int32) (a := 4) (b := 4) (by decide)) bx_43 (by decide)
          refine lv_iload_n hx hb dX10_laysStands_96 rfl (lv_at hl 1 rfl) ?_
          refine lv_iadd hx hb dX10_laysStands_97 ?_
          refine lv_topi (fun x_45 ex_45 => ?_)
          have bx_45 : iv 0 39999 x_45 := by rw [ex_45]; exact iv_add bx_44 b_37 (by decide)
          refine lv_iload_n hx hb dX10_laysStands_98 rfl (lv_at hl 0 rfl) ?_
          refine va_iast hx hb hK hP hD hS 2 0 rfl rfl (iv_in bx_45 (by decide)) dX10_laysStands_99 (fun H locs hP hD hS => ?_)
          obtain ⟨f_46, ef_46, tf_46, hP, hD⟩ : ∃ f_46 : Nat → Int32, f_46 = (upd f_29 (x_45 : Int32).toNatClampNeg (-1)) ∧ (∀ j, iv (-1) 9999 (f_46 j)) ∧ va_P V.1 vwCl [(z 15, aI V 900 f_27), (z 16, aI V 6 f_28), (z 25, aI V 40000 f_46), (z 24, aI V 10000 f_30), (z 28, aZ V 10000 f_31), (z 0, .inr (10, mo z pz0_0 pz0_5 pz0_6 pz0_7 pz0_8 pz0_9 pz0_10 pz0_11 pz0_12 pz0_13 pz0_14 pz0_18 pz0_19 pz0_22 pz0_23 u_32)), (z 1, aI V 3075 fz1)] H ∧ va_D A [(z 15, aI V 900 f_27), (z 16, aI V 6 f_28), (z 25, aI V 40000 f_46), (z 24, aI V 10000 f_30), (z 28, aZ V 10000 f_31), (z 0, .inr (10, mo z pz0_0 pz0_5 pz0_6 pz0_7 pz0_8 pz0_9 pz0_10 pz0_11 pz0_12 pz0_13 pz0_14 pz0_18 pz0_19 pz0_22 pz0_23 u_32)), (z 1, aI V 3075 fz1)] := ⟨_, rfl, ivU tf_29 _ (iv_c ((-1) : Int32) (by decide)), hP, hD⟩
          refine lv_iload_n hx hb dX10_laysStands_100 rfl (lv_at hl 0 rfl) ?_
          refine lv_iconst (v := (-1)) hx hb dX10_laysStands_101 (by decide) ?_
          refine lv_icmp_eq (tgt := 110) hx hb dX10_laysStands_102 (by decide) (fun _ => ?_) (fun c_48 => absurd c_48 (by decide))
          obtain ⟨x_49, ex_49⟩ : ∃ z9 : Int32, z9 = u_26 + 1 := ⟨_, rfl⟩
          have bx_49 : iv 1 4 x_49 := by rw [ex_49]; exact iv_add b_37 (iv_c (1 : Int32) (a := 1) (b := 1) (by decide)) (by decide)
          refine lv_iinc (v := x_49) (lv' := [(2, .int x_49), (3, .int (-1)), (1, .int u_15), (0, .ref (z 0))]) hx hb dX10_laysStands_110 hl (k := 1) rfl (by rw [ex_49]; rfl) (by decide) rfl (fun ls hl => ?_)
          refine lv_goto (tgt := 47) hx hb dX10_laysStands_113 (by decide) ?_
          have hP := subP (ws' := [(z 15, aI V 900 f_27), (z 16, aI V 6 f_28), (z 25, aI V 40000 f_46), (z 1, aI V 3075 fz1), (z 24, aI V 10000 f_30), (z 28, aZ V 10000 f_31), (z 0, .inr (10, mo z pz0_0 pz0_5 pz0_6 pz0_7 pz0_8 pz0_9 pz0_10 pz0_11 pz0_12 pz0_13 pz0_14 pz0_18 pz0_19 pz0_22 pz0_23 u_32))]) hP [0, 1, 2, 6, 3, 4, 5] rfl
          have hD := hD.sub (ws' := [(z 15, aI V 900 f_27), (z 16, aI V 6 f_28), (z 25, aI V 40000 f_46), (z 1, aI V 3075 fz1), (z 24, aI V 10000 f_30), (z 28, aZ V 10000 f_31), (z 0, .inr (10, mo z pz0_0 pz0_5 pz0_6 pz0_7 pz0_8 pz0_9 pz0_10 pz0_11 pz0_12 pz0_13 pz0_14 pz0_18 pz0_19 pz0_22 pz0_23 u_32))]) [0, 1, 2, 6, 3, 4, 5] rfl rfl
          exact ihn_33 _ _ _ _ (by rw [en_33, ex_49]; exact mu_up b_37 (by decide)) ⟨x_49, f_27, f_28, f_46, f_30, f_31, u_32, (iv_w bx_49 (by decide)), tf_28, tf_46, tf_30, bu_32, (by rw [show (x_49).toNatClampNeg = (u_26).toNatClampNeg + 1 from (by have q8 := inc_toInt ex_49 b_37 (by decide); have q7 := clampNat (x := u_26) (by have q9 := b_37; unfold iv at q9; omega); have q6 := clampNat (x := x_49) (by have q9 := bx_49; unfold iv at q9; omega); omega)]; exact (CL_s inn_33_0 ef_46 (show (x_45 : Int32).toNatClampNeg = 4 * (f_30 (u_15).toNatClampNeg).toNatClampNeg + (u_26).toNatClampNeg from (by have q1 := toInt_mulC (k := 4) ex_44 bx_43 (by decide) (by decide); have q2 := toInt_add ex_45 bx_44 b_37 (by decide); have q3 := clampNat (x := x_45) (by have q9 := bx_45; unfold iv at q9; omega); have q4 := clampNat (x := x_43) (by have q9 := bx_43; unfold iv at q9; omega); have q5 := clampNat (x := u_26) (by have q9 := b_37; unfold iv at q9; omega); rw [← ex_43]; omega)) (Or.inl rfl))), inn_33_1, inn_33_2, inn_33_3, inn_33_4, inn_33_5, rfl, hP, hD, hS, lv_sub hl [0, 2, 3] rfl⟩
        · have b_50 : iv 1 1 r_39 := iv_n0 c_41 br_39 (iv_c (0 : Int32) (a := 0) (b := 0) (by decide)) (by decide)
          refine lv_aload_n hx hb dX10_laysStands_61 rfl (lv_at hl 2 rfl) ?_
          refine lv_aload_n hx hb dX10_laysStands_62 rfl (lv_at hl 2 rfl) ?_
          refine va_get (ci := 10) (v := .ref (z 24)) (C := RX10) (T := TX10) (N := 40) hx hb hg inX10 hown hK hP 5 rfl rfl 24 (by decide) (hg _ q_6_8) (fun _ h9 => h9) rfl dX10_laysStands_63 ?_
          refine lv_iload_n hx hb dX10_laysStands_66 rfl (lv_at hl 1 rfl) ?_
          refine va_iald hx hb hK hP 3 0 rfl rfl (iv_in b_24 (by decide)) dX10_laysStands_67 ?_
          refine lv_topi (fun x_51 ex_51 => ?_)
          have bx_51 : iv 0 9999 x_51 := by rw [ex_51]; exact tf_30 _
          refine lv_iload_n hx hb dX10_laysStands_68 rfl (lv_at hl 0 rfl) ?_
          refine lv_aload_n hx hb dX10_laysStands_69 rfl (lv_at hl 2 rfl) ?_
          refine va_get (ci := 10) (v := .ref (z 1)) (C := RX10) (T := TX10) (N := 40) hx hb hg inX10 hown hK hP 5 rfl rfl 1 (by decide) (hg _ q_5_225) (fun _ h9 => h9) rfl dX10_laysStands_70 ?_
          refine lv_bipush (v := 51) hx hb dX10_laysStands_73 (by decide) ?_
          refine va_iald hx hb hK hP 6 0 rfl rfl (vin (by decide +kernel)) dX10_laysStands_75 ?_
          refine lv_topi (fun x_52 ex_52 => ?_)
          have bx_52 : iv 0 9 x_52 := by rw [ex_52]; exact rdT (a := 51) (n := 1) tfz1 (iv_c (51 : Int32) (a := 51) (b := 51) (by decide)) (by decide) (by decide +kernel)
          refine jnI (wr := [(z 25, aI V 40000 f_29), (z 24, aI V 10000 f_30), (z 28, aZ V 10000 f_31)]) (rnV (rest := []) ⟨hx, hb, hml, hown, hg⟩ (k_X10_nightTo_0 l V z x_51 u_26 x_52 f_27 f_28 pz0_0 pz0_5 pz0_6 pz0_7 pz0_8 pz0_9 pz0_10 pz0_11 pz0_12 pz0_13 pz0_14 pz0_18 pz0_19 pz0_22 pz0_23 u_32 fz1 bx_51 tf_28 bpz0_5 bpz0_6 bpz0_7 bpz0_8 bpz0_10 bpz0_11 bpz0_12 bpz0_13 bpz0_14 bpz0_18 bpz0_22 bu_32 tfz1 inn_33_3) mt_X10_nightTo q_7_18 ⟨Nat.le_of_ble_eq_true rfl, Nat.le_of_ble_eq_true rfl⟩ hK hP hD hS hA hE [0, 1, 5, 6] rfl rfl 5 rfl rfl rfl rfl hl.1 rfl (Nat.le_of_ble_eq_true rfl) dX10_laysStands_76 ⟨Nat.le_of_ble_eq_true rfl, Nat.le_of_ble_eq_true rfl⟩) hP hD hS hA [0, 1, 5, 6] [2, 3, 4] rfl rfl rfl (by decide) (fun r_53 w H locs hw hP hD hS => ?_)
          obtain ⟨f_54, f_55, tf_55, br_53, g_56, rfl⟩ := hw
          have hP : va_P V.1 vwCl [(z 25, aI V 40000 f_29), (z 24, aI V 10000 f_30), (z 28, aZ V 10000 f_31), (z 15, aI V 900 f_54), (z 16, aI V 6 f_55), (z 0, .inr (10, mo z pz0_0 pz0_5 pz0_6 pz0_7 pz0_8 pz0_9 pz0_10 pz0_11 pz0_12 pz0_13 pz0_14 pz0_18 pz0_19 pz0_22 pz0_23 u_32)), (z 1, aI V 3075 fz1)] H := hP
          have hD : va_D A [(z 25, aI V 40000 f_29), (z 24, aI V 10000 f_30), (z 28, aZ V 10000 f_31), (z 15, aI V 900 f_54), (z 16, aI V 6 f_55), (z 0, .inr (10, mo z pz0_0 pz0_5 pz0_6 pz0_7 pz0_8 pz0_9 pz0_10 pz0_11 pz0_12 pz0_13 pz0_14 pz0_18 pz0_19 pz0_22 pz0_23 u_32)), (z 1, aI V 3075 fz1)] := hD
          refine lv_goto (tgt := 83) hx hb dX10_laysStands_79 (by decide) ?_
          refine lv_istore_n (lv' := [(3, .int r_53), (2, .int u_26), (1, .int u_15), (0, .ref (z 0))]) hx hb dX10_laysStands_83 rfl hl (by decide) rfl (fun ls hl => ?_)
          refine lv_aload_n hx hb dX10_laysStands_84 rfl (lv_at hl 3 rfl) ?_
          refine va_get (ci := 10) (v := .ref (z 25)) (C := RX10) (T := TX10) (N := 40) hx hb hg inX10 hown hK hP 5 rfl rfl 25 (by decide) (hg _ q_6_9) (fun _ h9 => h9) rfl dX10_laysStands_85 ?_
          refine lv_iconst (v := 4) hx hb dX10_laysStands_88 (by decide) ?_
          refine lv_aload_n hx hb dX10_laysStands_89 rfl (lv_at hl 3 rfl) ?_
          refine va_get (ci := 10) (v := .ref (z 24)) (C := RX10) (T := TX10) (N := 40) hx hb hg inX10 hown hK hP 5 rfl rfl 24 (by decide) (hg _ q_6_8) (fun _ h9 => h9) rfl dX10_laysStands_90 ?_
          refine lv_iload_n hx hb dX10_laysStands_93 rfl (lv_at hl 2 rfl) ?_
          refine va_iald hx hb hK hP 1 0 rfl rfl (iv_in b_24 (by decide)) dX10_laysStands_94 ?_
          refine tpi (y := x_51) ex_51.symm ?_
          refine lv_imul hx hb dX10_laysStands_95 ?_
          refine lv_topi (fun x_57 ex_57 => ?_)
          have bx_57 : iv 0 39996 x_57 := by rw [ex_57]; exact iv_cmul (iv_c (4 : Int32) (a := 4) (b := 4) (by decide)) bx_51 (by decide)
          refine lv_iload_n hx hb dX10_laysStands_96 rfl (lv_at hl 1 rfl) ?_
          refine lv_iadd hx hb dX10_laysStands_97 ?_
          refine lv_topi (fun x_58 ex_58 => ?_)
          have bx_58 : iv 0 39999 x_58 := by rw [ex_58]; exact iv_add bx_57 b_37 (by decide)
          refine lv_iload_n hx hb dX10_laysStands_98 rfl (lv_at hl 0 rfl) ?_
          refine va_iast hx hb hK hP hD hS 0 0 rfl rfl (iv_in bx_58 (by decide)) dX10_laysStands_99 (fun H locs hP hD hS => ?_)
          obtain ⟨f_59, ef_59, tf_59, hP, hD⟩ : ∃ f_59 : Nat → Int32, f_59 = (upd f_29 (x_58 : Int32).toNatClampNeg r_53) ∧ (∀ j, iv (-1) 9999 (f_59 j)) ∧ va_P V.1 vwCl [(z 25, aI V 40000 f_59), (z 24, aI V 10000 f_30), (z 28, aZ V 10000 f_31), (z 15, aI V 900 f_54), (z 16, aI V 6 f_55), (z 0, .inr (10, mo z pz0_0 pz0_5 pz0_6 pz0_7 pz0_8 pz0_9 pz0_10 pz0_11 pz0_12 pz0_13 pz0_14 pz0_18 pz0_19 pz0_22 pz0_23 u_32)), (z 1, aI V 3075 fz1)] H ∧ va_D A [(z 25, aI V 40000 f_59), (z 24, aI V 10000 f_30), (z 28, aZ V 10000 f_31), (z 15, aI V 900 f_54), (z 16, aI V 6 f_55), (z 0, .inr (10, mo z pz0_0 pz0_5 pz0_6 pz0_7 pz0_8 pz0_9 pz0_10 pz0_11 pz0_12 pz0_13 pz0_14 pz0_18 pz0_19 pz0_22 pz0_23 u_32)), (z 1, aI V 3075 fz1)] := ⟨_, rfl, ivU tf_29 _ (iv_w br_53 (by decide)), hP, hD⟩
          refine lv_iload_n hx hb dX10_laysStands_100 rfl (lv_at hl 0 rfl) ?_
          refine lv_iconst (v := (-1)) hx hb dX10_laysStands_101 (by decide) ?_
          refine lv_icmp_eq (tgt := 110) hx hb dX10_laysStands_102 (by decide) (fun c_60 => absurd c_60 (iv_ne br_53 (iv_c ((-1) : Int32) (a := (-1)) (b := (-1)) (by decide)) (by decide))) (fun _ => ?_)
          refine lv_aload_n hx hb dX10_laysStands_105 rfl (lv_at hl 3 rfl) ?_
          refine lv_iload_n hx hb dX10_laysStands_106 rfl (lv_at hl 0 rfl) ?_
          refine jnV (wr := [(z 25, aI V 40000 f_59), (z 15, aI V 900 f_54), (z 16, aI V 6 f_55), (z 1, aI V 3075 fz1)]) (rnV (rest := []) ⟨hx, hb, hml, hown, hg⟩ (k_X10_adds_0 l V z r_53 f_30 f_31 pz0_0 pz0_5 pz0_6 pz0_7 pz0_8 pz0_9 pz0_10 pz0_11 pz0_12 pz0_13 pz0_14 pz0_18 pz0_19 pz0_22 pz0_23 u_32 (iv_w br_53 (by decide)) tf_30 bpz0_5 bpz0_6 bpz0_7 bpz0_8 bpz0_10 bpz0_11 bpz0_12 bpz0_13 bpz0_14 bpz0_18 bpz0_22 bu_32 inn_33_4 inn_33_5) mt_X10_adds q_7_198 ⟨Nat.le_of_ble_eq_true rfl, Nat.le_of_ble_eq_true rfl⟩ hK hP hD hS hA hE [1, 2, 5] rfl rfl 5 rfl rfl rfl rfl hl.1 rfl (Nat.le_of_ble_eq_true rfl) dX10_laysStands_107 ⟨Nat.le_of_ble_eq_true rfl, Nat.le_of_ble_eq_true rfl⟩) hP hD hS hA [1, 2, 5] [0, 3, 4, 6] rfl rfl rfl (by decide) (fun  w H locs hw hP hD hS => ?_)
          obtain ⟨f_61, f_62, v_63, tf_61, bv_63, g_64, g_65, g_66, g_67, g_68, rfl⟩ := hw
          have hP : va_P V.1 vwCl [(z 25, aI V 40000 f_59), (z 15, aI V 900 f_54), (z 16, aI V 6 f_55), (z 1, aI V 3075 fz1), (z 24, aI V 10000 f_61), (z 28, aZ V 10000 f_62), (z 0, .inr (10, mo z pz0_0 pz0_5 pz0_6 pz0_7 pz0_8 pz0_9 pz0_10 pz0_11 pz0_12 pz0_13 pz0_14 pz0_18 pz0_19 pz0_22 pz0_23 v_63))] H := hP
          have hD : va_D A [(z 25, aI V 40000 f_59), (z 15, aI V 900 f_54), (z 16, aI V 6 f_55), (z 1, aI V 3075 fz1), (z 24, aI V 10000 f_61), (z 28, aZ V 10000 f_62), (z 0, .inr (10, mo z pz0_0 pz0_5 pz0_6 pz0_7 pz0_8 pz0_9 pz0_10 pz0_11 pz0_12 pz0_13 pz0_14 pz0_18 pz0_19 pz0_22 pz0_23 v_63))] := hD
          obtain ⟨x_69, ex_69⟩ : ∃ z9 : Int32, z9 = u_26 + 1 := ⟨_, rfl⟩
          have bx_69 : iv 1 4 x_69 := by rw [ex_69]; exact iv_add b_37 (iv_c (1 : Int32) (a := 1) (b := 1) (by decide)) (by decide)
          refine lv_iinc (v := x_69) (lv' := [(2, .int x_69), (3, .int r_53), (1, .int u_15), (0, .ref (z 0))]) hx hb dX10_laysStands_110 hl (k := 1) rfl (by rw [ex_69]; rfl) (by decide) rfl (fun ls hl => ?_)
          refine lv_goto (tgt := 47) hx hb dX10_laysStands_113 (by decide) ?_
          have hP := subP (ws' := [(z 15, aI V 900 f_54), (z 16, aI V 6 f_55), (z 25, aI V 40000 f_59), (z 1, aI V 3075 fz1), (z 24, aI V 10000 f_61), (z 28, aZ V 10000 f_62), (z 0, .inr (10, mo z pz0_0 pz0_5 pz0_6 pz0_7 pz0_8 pz0_9 pz0_10 pz0_11 pz0_12 pz0_13 pz0_14 pz0_18 pz0_19 pz0_22 pz0_23 v_63))]) hP [1, 2, 0, 3, 4, 5, 6] rfl
          have hD := hD.sub (ws' := [(z 15, aI V 900 f_54), (z 16, aI V 6 f_55), (z 25, aI V 40000 f_59), (z 1, aI V 3075 fz1), (z 24, aI V 10000 f_61), (z 28, aZ V 10000 f_62), (z 0, .inr (10, mo z pz0_0 pz0_5 pz0_6 pz0_7 pz0_8 pz0_9 pz0_10 pz0_11 pz0_12 pz0_13 pz0_14 pz0_18 pz0_19 pz0_22 pz0_23 v_63))]) [1, 2, 0, 3, 4, 5, 6] rfl rfl
          exact ihn_33 _ _ _ _ (by rw [en_33, ex_69]; exact mu_up b_37 (by decide)) ⟨x_69, f_54, f_55, f_59, f_61, f_62, v_63, (iv_w bx_69 (by decide)), tf_55, tf_59, tf_61, bv_63, (by rw [show (x_69).toNatClampNeg = (u_26).toNatClampNeg + 1 from (by have q8 := inc_toInt ex_69 b_37 (by decide); have q7 := clampNat (x := u_26) (by have q9 := b_37; unfold iv at q9; omega); have q6 := clampNat (x := x_69) (by have q9 := bx_69; unfold iv at q9; omega); omega)]; exact (CL_s (CL_m inn_33_0 (by have q9 := inn_33_2; have q8 := clampNat (x := u_15) (by have q7 := b_24; unfold iv at q7; omega); omega) g_66 g_67) ef_59 (show (x_58 : Int32).toNatClampNeg = 4 * (f_61 (u_15).toNatClampNeg).toNatClampNeg + (u_26).toNatClampNeg from (by rw [g_67 _ (by have q9 := inn_33_2; have q8 := clampNat (x := u_15) (by have q7 := b_24; unfold iv at q7; omega); omega)]; exact (show (x_58 : Int32).toNatClampNeg = 4 * (f_30 (u_15).toNatClampNeg).toNatClampNeg + (u_26).toNatClampNeg from (by have q1 := toInt_mulC (k := 4) ex_57 bx_51 (by decide) (by decide); have q2 := toInt_add ex_58 bx_57 b_37 (by decide); have q3 := clampNat (x := x_58) (by have q9 := bx_58; unfold iv at q9; omega); have q4 := clampNat (x := x_51) (by have q9 := bx_51; unfold iv at q9; omega); have q5 := clampNat (x := u_26) (by have q9 := b_37; unfold iv at q9; omega); rw [← ex_51]; omega)))) (Or.inr g_68))), (inS_m inn_33_1 g_66 g_67), (Int.lt_of_lt_of_le inn_33_2 g_66), g_56, g_64, g_65, rfl, hP, hD, hS, lv_sub hl [0, 2, 3] rfl⟩
  · have b_70 : iv 0 9999 u_1 := iv_l1 (Int32.not_le.mp c_4) bu_1 (iv_c (10000 : Int32) (a := 10000) (b := 10000) (by decide)) (by decide)
    refine lv_aload_n hx hb dX10_laysStands_9 rfl (lv_at hl 1 rfl) ?_
    refine va_get (ci := 10) (v := .ref (z 28)) (C := RX10) (T := TX10) (N := 40) hx hb hg inX10 hown hK hP 5 rfl rfl 28 (by decide) (hg _ q_6_12) (fun _ h9 => h9) rfl dX10_laysStands_10 ?_
    refine lv_iload_n hx hb dX10_laysStands_13 rfl (lv_at hl 0 rfl) ?_
    refine lv_iconst (v := 0) hx hb dX10_laysStands_14 (by decide) ?_
    refine va_zast hx hb hK hP hD hS 4 3 rfl rfl (iv_in b_70 (by decide)) dX10_laysStands_15 (fun H locs hP hD hS => ?_)
    obtain ⟨f_71, ef_71, hP, hD⟩ : ∃ f_71 : Nat → Int32, f_71 = (upd f_2 (u_1 : Int32).toNatClampNeg (vp_nar .boolean 0)) ∧ va_P V.1 vwCl [(z 15, aI V 900 fz15), (z 16, aI V 6 fz16), (z 24, aI V 10000 fz24), (z 25, aI V 40000 fz25), (z 28, aZ V 10000 f_71), (z 0, .inr (10, mo z pz0_0 pz0_5 pz0_6 pz0_7 pz0_8 pz0_9 pz0_10 pz0_11 pz0_12 pz0_13 pz0_14 pz0_18 pz0_19 pz0_22 pz0_23 pz0_29)), (z 1, aI V 3075 fz1)] H ∧ va_D A [(z 15, aI V 900 fz15), (z 16, aI V 6 fz16), (z 24, aI V 10000 fz24), (z 25, aI V 40000 fz25), (z 28, aZ V 10000 f_71), (z 0, .inr (10, mo z pz0_0 pz0_5 pz0_6 pz0_7 pz0_8 pz0_9 pz0_10 pz0_11 pz0_12 pz0_13 pz0_14 pz0_18 pz0_19 pz0_22 pz0_23 pz0_29)), (z 1, aI V 3075 fz1)] := ⟨_, rfl, hP, hD⟩
    obtain ⟨x_72, ex_72⟩ : ∃ z9 : Int32, z9 = u_1 + 1 := ⟨_, rfl⟩
    have bx_72 : iv 1 10000 x_72 := by rw [ex_72]; exact iv_add b_70 (iv_c (1 : Int32) (a := 1) (b := 1) (by decide)) (by decide)
    refine lv_iinc (v := x_72) (lv' := [(1, .int x_72), (0, .ref (z 0))]) hx hb dX10_laysStands_16 hl (k := 0) rfl (by rw [ex_72]; rfl) (by decide) rfl (fun ls hl => ?_)
    refine lv_goto (tgt := 2) hx hb dX10_laysStands_19 (by decide) ?_
    exact ihn_3 _ _ _ _ (by rw [en_3, ex_72]; exact mu_up b_70 (by decide)) ⟨x_72, f_71, (iv_w bx_72 (by decide)), (FL_s inn_3_0 b_70 (by decide) ef_71 ex_72), rfl, hP, hD, hS, lv_sub hl [0, 1] rfl⟩
theorem dX10_farBy_0 : decode cX10_farBy 0 = .ok (.aload_n 0, 1) := by decide +kernel
theorem dX10_farBy_1 : decode cX10_farBy 1 = .ok (.getfield 49, 3) := by decide +kernel
theorem dX10_farBy_4 : decode cX10_farBy 4 = .ok (.iconst 4, 1) := by decide +kernel
theorem dX10_farBy_5 : decode cX10_farBy 5 = .ok (.iload_n 1, 1) := by decide +kernel
theorem dX10_farBy_6 : decode cX10_farBy 6 = .ok (.imul, 1) := by decide +kernel
theorem dX10_farBy_7 : decode cX10_farBy 7 = .ok (.iload_n 2, 1) := by decide +kernel
theorem dX10_farBy_8 : decode cX10_farBy 8 = .ok (.iadd, 1) := by decide +kernel
theorem dX10_farBy_9 : decode cX10_farBy 9 = .ok (.iaload, 1) := by decide +kernel
theorem dX10_farBy_10 : decode cX10_farBy 10 = .ok (.istore_n 3, 1) := by decide +kernel
theorem dX10_farBy_11 : decode cX10_farBy 11 = .ok (.iload_n 3, 1) := by decide +kernel
theorem dX10_farBy_12 : decode cX10_farBy 12 = .ok (.iconst (-1), 1) := by decide +kernel
theorem dX10_farBy_13 : decode cX10_farBy 13 = .ok (.if_icmp .eq 15, 3) := by decide +kernel
theorem q_7_202 : Cond.constant "BeaconDelayModel" 361 (268435456 : Int32) ∈ gw := gw_7 (i := 202) (by decide +kernel) rfl
theorem dX10_farBy_28 : decode cX10_farBy 28 = .ok (.ldc_w 361, 3) := by decide +kernel
theorem dX10_farBy_31 : decode cX10_farBy 31 = .ok (.goto 11, 3) := by decide +kernel
theorem dX10_farBy_42 : decode cX10_farBy 42 = .ok (.ireturn, 1) := by decide +kernel
theorem dX10_farBy_16 : decode cX10_farBy 16 = .ok (.aload_n 0, 1) := by decide +kernel
theorem q_6_10 : Cond.fieldLink "BeaconDelayModel" 52 "BeaconDelayModel" "far" "[I" ∈ gw := gw_6 (i := 10) (by decide +kernel) rfl
theorem dX10_farBy_17 : decode cX10_farBy 17 = .ok (.getfield 52, 3) := by decide +kernel
theorem dX10_farBy_20 : decode cX10_farBy 20 = .ok (.iload_n 3, 1) := by decide +kernel
theorem dX10_farBy_21 : decode cX10_farBy 21 = .ok (.iaload, 1) := by decide +kernel
theorem dX10_farBy_22 : decode cX10_farBy 22 = .ok (.ldc_w 361, 3) := by decide +kernel
theorem dX10_farBy_25 : decode cX10_farBy 25 = .ok (.if_icmp .ne 9, 3) := by decide +kernel
theorem dX10_farBy_34 : decode cX10_farBy 34 = .ok (.aload_n 0, 1) := by decide +kernel
theorem dX10_farBy_35 : decode cX10_farBy 35 = .ok (.getfield 52, 3) := by decide +kernel
theorem dX10_farBy_38 : decode cX10_farBy 38 = .ok (.iload_n 3, 1) := by decide +kernel
theorem dX10_farBy_39 : decode cX10_farBy 39 = .ok (.iaload, 1) := by decide +kernel
theorem dX10_farBy_40 : decode cX10_farBy 40 = .ok (.iconst 1, 1) := by decide +kernel
theorem dX10_farBy_41 : decode cX10_farBy 41 = .ok (.iadd, 1) := by decide +kernel
set_option maxHeartbeats 4000000 in
set_option maxRecDepth 100000 in
theorem k_X10_farBy_0 (l : Launch) (V : GV) (z : Nat → Nat) (a1 : Int32) (a2 : Int32) (fz26 : Nat → Int32) (fz25 : Nat → Int32) (pz0_0 : Int32) (pz0_5 : Int32) (pz0_6 : Int32) (pz0_7 : Int32) (pz0_8 : Int32) (pz0_9 : Int32) (pz0_10 : Int32) (pz0_11 : Int32) (pz0_12 : Int32) (pz0_13 : Int32) (pz0_14 : Int32) (pz0_18 : Int32) (pz0_19 : Int32) (pz0_22 : Int32) (pz0_23 : Int32) (pz0_29 : Int32) (ba1 : iv 0 9999 a1) (ba2 : iv 0 3 a2) (tfz26 : ∀ j, iv 0 268435456 (fz26 j)) (tfz25 : ∀ j, iv (-1) 9999 (fz25 j)) (bpz0_5 : iv 0 900 pz0_5) (bpz0_6 : iv 0 900 pz0_6) (bpz0_7 : iv 0 900 pz0_7) (bpz0_8 : iv 0 900 pz0_8) (bpz0_10 : iv 0 999 pz0_10) (bpz0_11 : iv 0 4 pz0_11) (bpz0_12 : iv 0 900 pz0_12) (bpz0_13 : iv 0 4 pz0_13) (bpz0_14 : iv (-1) 900 pz0_14) (bpz0_18 : iv 0 2 pz0_18) (bpz0_22 : iv 0 9999 pz0_22) (bpz0_29 : iv 0 10000 pz0_29) : Ct l V yX10_farBy (.code yX10_farBy cX10_farBy 4 (some .int)) 1 [.ref (z 0), .int a1, .int a2] [(z 26, aI V 10000 fz26), (z 25, aI V 40000 fz25), (z 0, .inr (10, mo z pz0_0 pz0_5 pz0_6 pz0_7 pz0_8 pz0_9 pz0_10 pz0_11 pz0_12 pz0_13 pz0_14 pz0_18 pz0_19 pz0_22 pz0_23 pz0_29))] 0 0 (QI V (fun (r : Int32) (w : va_W) => iv 1 268435456 r ∧ r = fN fz25 fz26 (a1 : Int32).toNatClampNeg (a2 : Int32).toNatClampNeg ∧ w = [(z 26, aI V 10000 fz26), (z 25, aI V 40000 fz25), (z 0, .inr (10, mo z pz0_0 pz0_5 pz0_6 pz0_7 pz0_8 pz0_9 pz0_10 pz0_11 pz0_12 pz0_13 pz0_14 pz0_18 pz0_19 pz0_22 pz0_23 pz0_29))])) := by
  refine Ct.of (by decide) (Nat.le_of_ble_eq_true rfl) (fun p e s m below meth c A ls hx hb hr hml hown hlk hnm hg hP hK hD hE hA hS hl => ?_)
  have hl : lv_has ls 4 [(0, .ref (z 0)), (1, .int a1), (2, .int a2)] := hl
  refine lv_aload_n hx hb dX10_farBy_0 rfl (lv_at hl 0 rfl) ?_
  refine va_get (ci := 10) (v := .ref (z 25)) (C := RX10) (T := TX10) (N := 40) hx hb hg inX10 hown hK hP 2 rfl rfl 25 (by decide) (hg _ q_6_9) (fun _ h9 => h9) rfl dX10_farBy_1 ?_
  refine lv_iconst (v := 4) hx hb dX10_farBy_4 (by decide) ?_
  refine lv_iload_n hx hb dX10_farBy_5 rfl (lv_at hl 1 rfl) ?_
  refine lv_imul hx hb dX10_farBy_6 ?_
  refine lv_topi (fun x_1 ex_1 => ?_)
  have bx_1 : iv 0 39996 x_1 := by rw [ex_1]; exact iv_cmul (iv_c (4 : Int32) (a := 4) (b := 4) (by decide)) ba1 (by decide)
  refine lv_iload_n hx hb dX10_farBy_7 rfl (lv_at hl 2 rfl) ?_
  refine lv_iadd hx hb dX10_farBy_8 ?_
  refine lv_topi (fun x_2 ex_2 => ?_)
  have bx_2 : iv 0 39999 x_2 := by rw [ex_2]; exact iv_add bx_1 ba2 (by decide)
  refine va_iald hx hb hK hP 1 0 rfl rfl (iv_in bx_2 (by decide)) dX10_farBy_9 ?_
  refine lv_topi (fun x_3 ex_3 => ?_)
  have bx_3 : iv (-1) 9999 x_3 := by rw [ex_3]; exact tfz25 _
  refine lv_istore_n (lv' := [(3, .int x_3), (0, .ref (z 0)), (1, .int a1), (2, .int a2)]) hx hb dX10_farBy_10 rfl hl (by decide) rfl (fun ls hl => ?_)
  refine lv_iload_n hx hb dX10_farBy_11 rfl (lv_at hl 0 rfl) ?_
  refine lv_iconst (v := (-1)) hx hb dX10_farBy_12 (by decide) ?_
  refine lv_icmp_eq (tgt := 28) hx hb dX10_farBy_13 (by decide) (fun c_4 => ?_) (fun c_4 => ?_)
  · have b_5 : iv (-1) (-1) x_3 := iv_q c_4 (iv_c ((-1) : Int32) (a := (-1)) (b := (-1)) (by decide))
    refine lv_ldcw (v := 268435456) hx hb hown (hg _ q_7_202) dX10_farBy_28 ?_
    refine lv_goto (tgt := 42) hx hb dX10_farBy_31 (by decide) ?_
    exact fiI hx hb hr hlk hK hP hD hS dX10_farBy_42 (Nat.le_of_ble_eq_true rfl) (Nat.le_of_ble_eq_true rfl) (⟨(iv_c (268435456 : Int32) (by decide)), (fN_a ba1 ba2 (by decide) ex_1 ex_2 ex_3 c_4), rfl⟩)
  · have b_6 : iv 0 9999 x_3 := iv_n0 c_4 bx_3 (iv_c ((-1) : Int32) (a := (-1)) (b := (-1)) (by decide)) (by decide)
    refine lv_aload_n hx hb dX10_farBy_16 rfl (lv_at hl 1 rfl) ?_
    refine va_get (ci := 10) (v := .ref (z 26)) (C := RX10) (T := TX10) (N := 40) hx hb hg inX10 hown hK hP 2 rfl rfl 26 (by decide) (hg _ q_6_10) (fun _ h9 => h9) rfl dX10_farBy_17 ?_
    refine lv_iload_n hx hb dX10_farBy_20 rfl (lv_at hl 0 rfl) ?_
    refine va_iald hx hb hK hP 0 0 rfl rfl (iv_in b_6 (by decide)) dX10_farBy_21 ?_
    refine lv_topi (fun x_7 ex_7 => ?_)
    have bx_7 : iv 0 268435456 x_7 := by rw [ex_7]; exact tfz26 _
    refine lv_ldcw (v := 268435456) hx hb hown (hg _ q_7_202) dX10_farBy_22 ?_
    refine lv_icmp_ne (tgt := 34) hx hb dX10_farBy_25 (by decide) (fun c_8 => ?_) (fun c_8 => ?_)
    · have b_9 : iv 0 268435455 x_7 := iv_n1 c_8 bx_7 (iv_c (268435456 : Int32) (a := 268435456) (b := 268435456) (by decide)) (by decide)
      refine lv_aload_n hx hb dX10_farBy_34 rfl (lv_at hl 1 rfl) ?_
      refine va_get (ci := 10) (v := .ref (z 26)) (C := RX10) (T := TX10) (N := 40) hx hb hg inX10 hown hK hP 2 rfl rfl 26 (by decide) (hg _ q_6_10) (fun _ h9 => h9) rfl dX10_farBy_35 ?_
      refine lv_iload_n hx hb dX10_farBy_38 rfl (lv_at hl 0 rfl) ?_
      refine va_iald hx hb hK hP 0 0 rfl rfl (iv_in b_6 (by decide)) dX10_farBy_39 ?_
      refine tpi (y := x_7) ex_7.symm ?_
      refine lv_iconst (v := 1) hx hb dX10_farBy_40 (by decide) ?_
      refine lv_iadd hx hb dX10_farBy_41 ?_
      refine lv_topi (fun x_10 ex_10 => ?_)
      have bx_10 : iv 1 268435456 x_10 := by rw [ex_10]; exact iv_add b_9 (iv_c (1 : Int32) (a := 1) (b := 1) (by decide)) (by decide)
      exact fiI hx hb hr hlk hK hP hD hS dX10_farBy_42 (Nat.le_of_ble_eq_true rfl) (Nat.le_of_ble_eq_true rfl) (⟨bx_10, (fN_c ba1 ba2 (by decide) ex_1 ex_2 ex_3 ex_7 c_4 c_8 ex_10), rfl⟩)
    · have b_11 : iv 268435456 268435456 x_7 := iv_q c_8 (iv_c (268435456 : Int32) (a := 268435456) (b := 268435456) (by decide))
      refine lv_ldcw (v := 268435456) hx hb hown (hg _ q_7_202) dX10_farBy_28 ?_
      refine lv_goto (tgt := 42) hx hb dX10_farBy_31 (by decide) ?_
      exact fiI hx hb hr hlk hK hP hD hS dX10_farBy_42 (Nat.le_of_ble_eq_true rfl) (Nat.le_of_ble_eq_true rfl) (⟨(iv_c (268435456 : Int32) (by decide)), (fN_b ba1 ba2 (by decide) ex_1 ex_2 ex_3 ex_7 c_8), rfl⟩)
theorem dX10_laysFar_0 : decode cX10_laysFar 0 = .ok (.aload_n 0, 1) := by decide +kernel
theorem q_7_197 : Cond.code yX10_laysStands prog_12_method_83_code 4 none ∈ gw := gw_7 (i := 197) (rfl) rfl
theorem q_7_196 : Cond.instanceMethod yX10_laysStands ∈ gw := gw_7 (i := 196) (by decide +kernel) rfl
theorem q_s_105 : Cond.selects "BeaconDelayModel" yX10_laysStands yX10_laysStands ∈ gw := gw_s (i := 105) (by decide +kernel) rfl
theorem mt_X10_laysStands : MtV yX10_laysStands cX10_laysStands 4 none 0 := ⟨⟨q_7_197, q_1_9, by decide +kernel, by decide +kernel, by decide +kernel⟩, q_7_196, q_s_105⟩
theorem q_7_194 : Cond.methodLink "BeaconDelayModel" 362 yX10_laysStands ∈ gw := gw_7 (i := 194) (by decide +kernel) rfl
theorem dX10_laysFar_1 : decode cX10_laysFar 1 = .ok (.invokevirtual 362, 3) := by decide +kernel
theorem dX10_laysFar_4 : decode cX10_laysFar 4 = .ok (.iconst 0, 1) := by decide +kernel
theorem dX10_laysFar_5 : decode cX10_laysFar 5 = .ok (.istore_n 3, 1) := by decide +kernel
theorem dX10_laysFar_6 : decode cX10_laysFar 6 = .ok (.iload_n 3, 1) := by decide +kernel
theorem dX10_laysFar_7 : decode cX10_laysFar 7 = .ok (.aload_n 0, 1) := by decide +kernel
theorem dX10_laysFar_8 : decode cX10_laysFar 8 = .ok (.getfield 355, 3) := by decide +kernel
theorem dX10_laysFar_11 : decode cX10_laysFar 11 = .ok (.if_icmp .ge 41, 3) := by decide +kernel
theorem dX10_laysFar_52 : decode cX10_laysFar 52 = .ok (.iconst 1, 1) := by decide +kernel
theorem dX10_laysFar_53 : decode cX10_laysFar 53 = .ok (.istore_n 3, 1) := by decide +kernel
theorem dX10_laysFar_54 : decode cX10_laysFar 54 = .ok (.iload_n 3, 1) := by decide +kernel
theorem dX10_laysFar_55 : decode cX10_laysFar 55 = .ok (.ifCond .eq 115, 3) := by decide +kernel
theorem dX10_laysFar_170 : decode cX10_laysFar 170 = .ok (.aload_n 0, 1) := by decide +kernel
theorem dX10_laysFar_171 : decode cX10_laysFar 171 = .ok (.getfield 52, 3) := by decide +kernel
theorem dX10_laysFar_174 : decode cX10_laysFar 174 = .ok (.aload_n 0, 1) := by decide +kernel
theorem dX10_laysFar_175 : decode cX10_laysFar 175 = .ok (.invokevirtual 269, 3) := by decide +kernel
theorem dX10_laysFar_178 : decode cX10_laysFar 178 = .ok (.iaload, 1) := by decide +kernel
theorem dX10_laysFar_179 : decode cX10_laysFar 179 = .ok (.ireturn, 1) := by decide +kernel
theorem dX10_laysFar_58 : decode cX10_laysFar 58 = .ok (.iconst 0, 1) := by decide +kernel
theorem dX10_laysFar_59 : decode cX10_laysFar 59 = .ok (.istore_n 3, 1) := by decide +kernel
theorem dX10_laysFar_60 : decode cX10_laysFar 60 = .ok (.aload_n 0, 1) := by decide +kernel
theorem dX10_laysFar_61 : decode cX10_laysFar 61 = .ok (.getfield 355, 3) := by decide +kernel
theorem dX10_laysFar_64 : decode cX10_laysFar 64 = .ok (.iconst 1, 1) := by decide +kernel
theorem dX10_laysFar_65 : decode cX10_laysFar 65 = .ok (.isub, 1) := by decide +kernel
theorem dX10_laysFar_66 : decode cX10_laysFar 66 = .ok (.istore 4, 2) := by decide +kernel
theorem dX10_laysFar_68 : decode cX10_laysFar 68 = .ok (.iload 4, 2) := by decide +kernel
theorem dX10_laysFar_70 : decode cX10_laysFar 70 = .ok (.ifCond .lt 97, 3) := by decide +kernel
theorem dX10_laysFar_167 : decode cX10_laysFar 167 = .ok (.goto (-113), 3) := by decide +kernel
theorem dX10_laysFar_73 : decode cX10_laysFar 73 = .ok (.iconst 0, 1) := by decide +kernel
theorem dX10_laysFar_74 : decode cX10_laysFar 74 = .ok (.istore 5, 2) := by decide +kernel
theorem dX10_laysFar_76 : decode cX10_laysFar 76 = .ok (.iload 5, 2) := by decide +kernel
theorem dX10_laysFar_78 : decode cX10_laysFar 78 = .ok (.iconst 4, 1) := by decide +kernel
theorem dX10_laysFar_79 : decode cX10_laysFar 79 = .ok (.if_icmp .ge 82, 3) := by decide +kernel
theorem dX10_laysFar_161 : decode cX10_laysFar 161 = .ok (.iinc 4 (-1), 3) := by decide +kernel
theorem dX10_laysFar_164 : decode cX10_laysFar 164 = .ok (.goto (-96), 3) := by decide +kernel
theorem dX10_laysFar_82 : decode cX10_laysFar 82 = .ok (.aload_n 0, 1) := by decide +kernel
theorem dX10_laysFar_83 : decode cX10_laysFar 83 = .ok (.getfield 52, 3) := by decide +kernel
theorem dX10_laysFar_86 : decode cX10_laysFar 86 = .ok (.aload_n 0, 1) := by decide +kernel
theorem dX10_laysFar_87 : decode cX10_laysFar 87 = .ok (.getfield 45, 3) := by decide +kernel
theorem dX10_laysFar_90 : decode cX10_laysFar 90 = .ok (.iload 4, 2) := by decide +kernel
theorem dX10_laysFar_92 : decode cX10_laysFar 92 = .ok (.iaload, 1) := by decide +kernel
theorem dX10_laysFar_93 : decode cX10_laysFar 93 = .ok (.iaload, 1) := by decide +kernel
theorem dX10_laysFar_94 : decode cX10_laysFar 94 = .ok (.ifCond .le 67, 3) := by decide +kernel
theorem dX10_laysFar_97 : decode cX10_laysFar 97 = .ok (.aload_n 0, 1) := by decide +kernel
theorem dX10_laysFar_98 : decode cX10_laysFar 98 = .ok (.aload_n 0, 1) := by decide +kernel
theorem dX10_laysFar_99 : decode cX10_laysFar 99 = .ok (.getfield 45, 3) := by decide +kernel
theorem dX10_laysFar_102 : decode cX10_laysFar 102 = .ok (.iload 4, 2) := by decide +kernel
theorem dX10_laysFar_104 : decode cX10_laysFar 104 = .ok (.iaload, 1) := by decide +kernel
theorem dX10_laysFar_105 : decode cX10_laysFar 105 = .ok (.iload 5, 2) := by decide +kernel
theorem q_7_206 : Cond.code yX10_farBy prog_12_method_84_code 4 (some FieldType.int) ∈ gw := gw_7 (i := 206) (rfl) rfl
theorem q_7_205 : Cond.instanceMethod yX10_farBy ∈ gw := gw_7 (i := 205) (by decide +kernel) rfl
theorem q_s_107 : Cond.selects "BeaconDelayModel" yX10_farBy yX10_farBy ∈ gw := gw_s (i := 107) (by decide +kernel) rfl
theorem mt_X10_farBy : MtV yX10_farBy cX10_farBy 4 (some .int) 2 := ⟨⟨q_7_206, q_1_9, by decide +kernel, by decide +kernel, by decide +kernel⟩, q_7_205, q_s_107⟩
theorem q_7_203 : Cond.methodLink "BeaconDelayModel" 365 yX10_farBy ∈ gw := gw_7 (i := 203) (by decide +kernel) rfl
theorem dX10_laysFar_107 : decode cX10_laysFar 107 = .ok (.invokevirtual 365, 3) := by decide +kernel
theorem dX10_laysFar_110 : decode cX10_laysFar 110 = .ok (.aload_n 0, 1) := by decide +kernel
theorem dX10_laysFar_111 : decode cX10_laysFar 111 = .ok (.getfield 52, 3) := by decide +kernel
theorem dX10_laysFar_114 : decode cX10_laysFar 114 = .ok (.aload_n 0, 1) := by decide +kernel
theorem dX10_laysFar_115 : decode cX10_laysFar 115 = .ok (.getfield 45, 3) := by decide +kernel
theorem dX10_laysFar_118 : decode cX10_laysFar 118 = .ok (.iload 4, 2) := by decide +kernel
theorem dX10_laysFar_120 : decode cX10_laysFar 120 = .ok (.iaload, 1) := by decide +kernel
theorem dX10_laysFar_121 : decode cX10_laysFar 121 = .ok (.iaload, 1) := by decide +kernel
theorem dX10_laysFar_122 : decode cX10_laysFar 122 = .ok (.if_icmp .lt 6, 3) := by decide +kernel
theorem dX10_laysFar_128 : decode cX10_laysFar 128 = .ok (.aload_n 0, 1) := by decide +kernel
theorem dX10_laysFar_129 : decode cX10_laysFar 129 = .ok (.getfield 52, 3) := by decide +kernel
theorem dX10_laysFar_132 : decode cX10_laysFar 132 = .ok (.aload_n 0, 1) := by decide +kernel
theorem dX10_laysFar_133 : decode cX10_laysFar 133 = .ok (.getfield 45, 3) := by decide +kernel
theorem dX10_laysFar_136 : decode cX10_laysFar 136 = .ok (.iload 4, 2) := by decide +kernel
theorem dX10_laysFar_138 : decode cX10_laysFar 138 = .ok (.iaload, 1) := by decide +kernel
theorem dX10_laysFar_139 : decode cX10_laysFar 139 = .ok (.aload_n 0, 1) := by decide +kernel
theorem dX10_laysFar_140 : decode cX10_laysFar 140 = .ok (.aload_n 0, 1) := by decide +kernel
theorem dX10_laysFar_141 : decode cX10_laysFar 141 = .ok (.getfield 45, 3) := by decide +kernel
theorem dX10_laysFar_144 : decode cX10_laysFar 144 = .ok (.iload 4, 2) := by decide +kernel
theorem dX10_laysFar_146 : decode cX10_laysFar 146 = .ok (.iaload, 1) := by decide +kernel
theorem dX10_laysFar_147 : decode cX10_laysFar 147 = .ok (.iload 5, 2) := by decide +kernel
theorem dX10_laysFar_149 : decode cX10_laysFar 149 = .ok (.invokevirtual 365, 3) := by decide +kernel
theorem dX10_laysFar_152 : decode cX10_laysFar 152 = .ok (.iastore, 1) := by decide +kernel
theorem dX10_laysFar_153 : decode cX10_laysFar 153 = .ok (.iconst 1, 1) := by decide +kernel
theorem dX10_laysFar_154 : decode cX10_laysFar 154 = .ok (.istore_n 3, 1) := by decide +kernel
theorem dX10_laysFar_155 : decode cX10_laysFar 155 = .ok (.iinc 5 1, 3) := by decide +kernel
theorem dX10_laysFar_158 : decode cX10_laysFar 158 = .ok (.goto (-82), 3) := by decide +kernel
theorem dX10_laysFar_125 : decode cX10_laysFar 125 = .ok (.goto 30, 3) := by decide +kernel
theorem dX10_laysFar_14 : decode cX10_laysFar 14 = .ok (.aload_n 0, 1) := by decide +kernel
theorem dX10_laysFar_15 : decode cX10_laysFar 15 = .ok (.getfield 52, 3) := by decide +kernel
theorem dX10_laysFar_18 : decode cX10_laysFar 18 = .ok (.aload_n 0, 1) := by decide +kernel
theorem dX10_laysFar_19 : decode cX10_laysFar 19 = .ok (.getfield 45, 3) := by decide +kernel
theorem dX10_laysFar_22 : decode cX10_laysFar 22 = .ok (.iload_n 3, 1) := by decide +kernel
theorem dX10_laysFar_23 : decode cX10_laysFar 23 = .ok (.iaload, 1) := by decide +kernel
theorem dX10_laysFar_24 : decode cX10_laysFar 24 = .ok (.aload_n 0, 1) := by decide +kernel
theorem dX10_laysFar_25 : decode cX10_laysFar 25 = .ok (.getfield 45, 3) := by decide +kernel
theorem dX10_laysFar_28 : decode cX10_laysFar 28 = .ok (.iload_n 3, 1) := by decide +kernel
theorem dX10_laysFar_29 : decode cX10_laysFar 29 = .ok (.iaload, 1) := by decide +kernel
theorem dX10_laysFar_30 : decode cX10_laysFar 30 = .ok (.iload_n 1, 1) := by decide +kernel
theorem dX10_laysFar_31 : decode cX10_laysFar 31 = .ok (.invokestatic 231, 3) := by decide +kernel
theorem dX10_laysFar_34 : decode cX10_laysFar 34 = .ok (.iload_n 2, 1) := by decide +kernel
theorem dX10_laysFar_35 : decode cX10_laysFar 35 = .ok (.if_icmp .ne 7, 3) := by decide +kernel
theorem dX10_laysFar_42 : decode cX10_laysFar 42 = .ok (.ldc_w 361, 3) := by decide +kernel
theorem dX10_laysFar_45 : decode cX10_laysFar 45 = .ok (.iastore, 1) := by decide +kernel
theorem dX10_laysFar_46 : decode cX10_laysFar 46 = .ok (.iinc 3 1, 3) := by decide +kernel
theorem dX10_laysFar_49 : decode cX10_laysFar 49 = .ok (.goto (-43), 3) := by decide +kernel
theorem dX10_laysFar_38 : decode cX10_laysFar 38 = .ok (.iconst 0, 1) := by decide +kernel
theorem dX10_laysFar_39 : decode cX10_laysFar 39 = .ok (.goto 6, 3) := by decide +kernel
set_option maxHeartbeats 4000000 in
set_option maxRecDepth 100000 in
theorem k_X10_laysFar_0 (l : Launch) (V : GV) (z : Nat → Nat) (a1 : Int32) (a2 : Int32) (fz15 : Nat → Int32) (fz16 : Nat → Int32) (fz24 : Nat → Int32) (fz25 : Nat → Int32) (fz26 : Nat → Int32) (fz28 : Nat → Int32) (pz0_0 : Int32) (pz0_5 : Int32) (pz0_6 : Int32) (pz0_7 : Int32) (pz0_8 : Int32) (pz0_9 : Int32) (pz0_10 : Int32) (pz0_11 : Int32) (pz0_12 : Int32) (pz0_13 : Int32) (pz0_14 : Int32) (pz0_18 : Int32) (pz0_19 : Int32) (pz0_22 : Int32) (pz0_23 : Int32) (pz0_29 : Int32) (fz1 : Nat → Int32) (ba1 : iv 0 3 a1) (tfz16 : ivT tW fz16) (tfz24 : ∀ j, iv 0 9999 (fz24 j)) (tfz25 : ∀ j, iv (-1) 9999 (fz25 j)) (tfz26 : ∀ j, iv 0 268435456 (fz26 j)) (bpz0_5 : iv 0 900 pz0_5) (bpz0_6 : iv 0 900 pz0_6) (bpz0_7 : iv 0 900 pz0_7) (bpz0_8 : iv 0 900 pz0_8) (bpz0_10 : iv 0 999 pz0_10) (bpz0_11 : iv 0 4 pz0_11) (bpz0_12 : iv 0 900 pz0_12) (bpz0_13 : iv 0 4 pz0_13) (bpz0_14 : iv (-1) 900 pz0_14) (bpz0_18 : iv 0 2 pz0_18) (bpz0_22 : iv 0 9999 pz0_22) (bpz0_29 : iv 0 10000 pz0_29) (tfz1 : ivT tA fz1) (hf0 : RW fz1) : Ct l V yX10_laysFar (.code yX10_laysFar cX10_laysFar 6 (some .int)) 6 [.ref (z 0), .int a1, .int a2] [(z 15, aI V 900 fz15), (z 16, aI V 6 fz16), (z 24, aI V 10000 fz24), (z 25, aI V 40000 fz25), (z 26, aI V 10000 fz26), (z 28, aZ V 10000 fz28), (z 0, .inr (10, mo z pz0_0 pz0_5 pz0_6 pz0_7 pz0_8 pz0_9 pz0_10 pz0_11 pz0_12 pz0_13 pz0_14 pz0_18 pz0_19 pz0_22 pz0_23 pz0_29)), (z 1, aI V 3075 fz1)] 0 0 (QI V (fun (r : Int32) (w : va_W) => ∃ (g0 : Nat → Int32) (g1 : Nat → Int32) (g2 : Nat → Int32) (g3 : Nat → Int32) (g4 : Nat → Int32) (g5 : Nat → Int32) (v6 : Int32), (ivT tW g1) ∧ (∀ j, iv 0 9999 (g2 j)) ∧ (∀ j, iv (-1) 9999 (g3 j)) ∧ (∀ j, iv 0 268435456 (g4 j)) ∧ iv 0 10000 v6 ∧ iv 0 268435456 r ∧ (RW fz1) ∧ (SL v6 g2 g3) ∧ (inS v6 g2 (snF fz1).toNatClampNeg) ∧ (FI1 v6 g2 g3 g4) ∧ (FI2 v6 g2 g3 g4) ∧ w = [(z 15, aI V 900 g0), (z 16, aI V 6 g1), (z 24, aI V 10000 g2), (z 25, aI V 40000 g3), (z 26, aI V 10000 g4), (z 28, aZ V 10000 g5), (z 0, .inr (10, mo z pz0_0 pz0_5 pz0_6 pz0_7 pz0_8 pz0_9 pz0_10 pz0_11 pz0_12 pz0_13 pz0_14 pz0_18 pz0_19 pz0_22 pz0_23 v6)), (z 1, aI V 3075 fz1)])) := by
  refine Ct.of (by decide) (Nat.le_of_ble_eq_true rfl) (fun p e s m below meth c A ls hx hb hr hml hown hlk hnm hg hP hK hD hE hA hS hl => ?_)
  have hl : lv_has ls 6 [(0, .ref (z 0)), (1, .int a1), (2, .int a2)] := hl
  refine lv_aload_n hx hb dX10_laysFar_0 rfl (lv_at hl 0 rfl) ?_
  refine jnV (wr := [(z 26, aI V 10000 fz26)]) (rnV (rest := []) ⟨hx, hb, hml, hown, hg⟩ (k_X10_laysStands_0 l V z fz15 fz16 fz24 fz25 fz28 pz0_0 pz0_5 pz0_6 pz0_7 pz0_8 pz0_9 pz0_10 pz0_11 pz0_12 pz0_13 pz0_14 pz0_18 pz0_19 pz0_22 pz0_23 pz0_29 fz1 tfz16 tfz24 tfz25 bpz0_5 bpz0_6 bpz0_7 bpz0_8 bpz0_10 bpz0_11 bpz0_12 bpz0_13 bpz0_14 bpz0_18 bpz0_22 bpz0_29 tfz1 hf0) mt_X10_laysStands q_7_194 ⟨Nat.le_of_ble_eq_true rfl, Nat.le_of_ble_eq_true rfl⟩ hK hP hD hS hA hE [0, 1, 2, 3, 5, 6, 7] rfl rfl 6 rfl rfl rfl rfl hl.1 rfl (Nat.le_of_ble_eq_true rfl) dX10_laysFar_1 ⟨Nat.le_of_ble_eq_true rfl, Nat.le_of_ble_eq_true rfl⟩) hP hD hS hA [0, 1, 2, 3, 5, 6, 7] [4] rfl rfl rfl (by decide) (fun  w H locs hw hP hD hS => ?_)
  obtain ⟨f_1, f_2, f_3, f_4, f_5, v_6, tf_2, tf_3, tf_4, bv_6, g_7, g_8, g_9, rfl⟩ := hw
  have hP : va_P V.1 vwCl [(z 26, aI V 10000 fz26), (z 15, aI V 900 f_1), (z 16, aI V 6 f_2), (z 24, aI V 10000 f_3), (z 25, aI V 40000 f_4), (z 28, aZ V 10000 f_5), (z 0, .inr (10, mo z pz0_0 pz0_5 pz0_6 pz0_7 pz0_8 pz0_9 pz0_10 pz0_11 pz0_12 pz0_13 pz0_14 pz0_18 pz0_19 pz0_22 pz0_23 v_6)), (z 1, aI V 3075 fz1)] H := hP
  have hD : va_D A [(z 26, aI V 10000 fz26), (z 15, aI V 900 f_1), (z 16, aI V 6 f_2), (z 24, aI V 10000 f_3), (z 25, aI V 40000 f_4), (z 28, aZ V 10000 f_5), (z 0, .inr (10, mo z pz0_0 pz0_5 pz0_6 pz0_7 pz0_8 pz0_9 pz0_10 pz0_11 pz0_12 pz0_13 pz0_14 pz0_18 pz0_19 pz0_22 pz0_23 v_6)), (z 1, aI V 3075 fz1)] := hD
  refine lv_iconst (v := 0) hx hb dX10_laysFar_4 (by decide) ?_
  refine lv_istore_n (lv' := [(3, .int 0), (0, .ref (z 0)), (1, .int a1), (2, .int a2)]) hx hb dX10_laysFar_5 rfl hl (by decide) rfl (fun ls hl => ?_)
  refine loopF (X := fun (n_12 : Nat) (H : Heap) (locs : List Loc) (ls : Array Slot) => ∃ (u_10 : Int32) (f_11 : Nat → Int32), (iv 0 10000 u_10) ∧ (∀ j, iv 0 268435456 (f_11 j)) ∧ (ini v_6 u_10 f_3 f_11) ∧ (RW fz1) ∧ n_12 = (2147483647 - (u_10 : Int32).toInt).toNat ∧ va_P V.1 vwCl [(z 26, aI V 10000 f_11), (z 15, aI V 900 f_1), (z 16, aI V 6 f_2), (z 24, aI V 10000 f_3), (z 25, aI V 40000 f_4), (z 28, aZ V 10000 f_5), (z 0, .inr (10, mo z pz0_0 pz0_5 pz0_6 pz0_7 pz0_8 pz0_9 pz0_10 pz0_11 pz0_12 pz0_13 pz0_14 pz0_18 pz0_19 pz0_22 pz0_23 v_6)), (z 1, aI V 3075 fz1)] H ∧ va_D A [(z 26, aI V 10000 f_11), (z 15, aI V 900 f_1), (z 16, aI V 6 f_2), (z 24, aI V 10000 f_3), (z 25, aI V 40000 f_4), (z 28, aZ V 10000 f_5), (z 0, .inr (10, mo z pz0_0 pz0_5 pz0_6 pz0_7 pz0_8 pz0_9 pz0_10 pz0_11 pz0_12 pz0_13 pz0_14 pz0_18 pz0_19 pz0_22 pz0_23 v_6)), (z 1, aI V 3075 fz1)] ∧ va_S A s.heap H locs ∧ lv_has ls 6 [(3, .int u_10), (0, .ref (z 0)), (1, .int a1), (2, .int a2)]) (g := fun ls => F0 m 6 ls []) (fun n_12 H locs ls hX ihn_12 => ?_) _ ⟨0, fz26, (iv_c (0 : Int32) (by decide)), tfz26, (ini_0 (by decide)), g_7, rfl, hP, hD, hS, lv_sub hl [0, 1, 2, 3] rfl⟩
  obtain ⟨u_10, f_11, bu_10, tf_11, inn_12_0, inn_12_1, en_12, hP, hD, hS, hl⟩ := hX
  refine lv_iload_n hx hb dX10_laysFar_6 rfl (lv_at hl 0 rfl) ?_
  refine lv_aload_n hx hb dX10_laysFar_7 rfl (lv_at hl 1 rfl) ?_
  refine va_get (ci := 10) (v := .int v_6) (C := RX10) (T := TX10) (N := 40) hx hb hg inX10 hown hK hP 6 rfl rfl 29 (by decide) (hg _ q_6_13) (fun _ h9 => h9) rfl dX10_laysFar_8 ?_
  refine lv_icmp_ge (tgt := 52) hx hb dX10_laysFar_11 (by decide) (fun c_13 => ?_) (fun c_13 => ?_)
  · refine lv_iconst (v := 1) hx hb dX10_laysFar_52 (by decide) ?_
    refine lv_istore_n (lv' := [(3, .int 1), (0, .ref (z 0)), (1, .int a1), (2, .int a2)]) hx hb dX10_laysFar_53 rfl hl (by decide) rfl (fun ls hl => ?_)
    refine loopF (X := fun (n_16 : Nat) (H : Heap) (locs : List Loc) (ls : Array Slot) => ∃ (u_14 : Int32) (f_15 : Nat → Int32), (iv 0 1 u_14) ∧ (∀ j, iv 0 268435456 (f_15 j)) ∧ (FI1 v_6 f_3 f_4 f_15) ∧ (u_14 = 0 → FI2 v_6 f_3 f_4 f_15) ∧ (RW fz1) ∧ n_16 = 2 * sm f_15 10000 + (u_14).toNatClampNeg ∧ va_P V.1 vwCl [(z 26, aI V 10000 f_15), (z 15, aI V 900 f_1), (z 16, aI V 6 f_2), (z 24, aI V 10000 f_3), (z 25, aI V 40000 f_4), (z 28, aZ V 10000 f_5), (z 0, .inr (10, mo z pz0_0 pz0_5 pz0_6 pz0_7 pz0_8 pz0_9 pz0_10 pz0_11 pz0_12 pz0_13 pz0_14 pz0_18 pz0_19 pz0_22 pz0_23 v_6)), (z 1, aI V 3075 fz1)] H ∧ va_D A [(z 26, aI V 10000 f_15), (z 15, aI V 900 f_1), (z 16, aI V 6 f_2), (z 24, aI V 10000 f_3), (z 25, aI V 40000 f_4), (z 28, aZ V 10000 f_5), (z 0, .inr (10, mo z pz0_0 pz0_5 pz0_6 pz0_7 pz0_8 pz0_9 pz0_10 pz0_11 pz0_12 pz0_13 pz0_14 pz0_18 pz0_19 pz0_22 pz0_23 v_6)), (z 1, aI V 3075 fz1)] ∧ va_S A s.heap H locs ∧ lv_has ls 6 [(3, .int u_14), (0, .ref (z 0)), (1, .int a1), (2, .int a2)]) (g := fun ls => F0 m 54 ls []) (fun n_16 H locs ls hX ihn_16 => ?_) _ ⟨1, f_11, (iv_c (1 : Int32) (by decide)), tf_11, (FI1_0 inn_12_0 (Int32.not_lt.mpr c_13)), (fun q9 => absurd q9 (by decide)), inn_12_1, rfl, hP, hD, hS, lv_sub hl [0, 1, 2, 3] rfl⟩
    obtain ⟨u_14, f_15, bu_14, tf_15, inn_16_0, inn_16_1, inn_16_2, en_16, hP, hD, hS, hl⟩ := hX
    refine lv_iload_n hx hb dX10_laysFar_54 rfl (lv_at hl 0 rfl) ?_
    refine lv_if_eq (tgt := 170) hx hb dX10_laysFar_55 (by decide) (fun c_17 => ?_) (fun c_17 => ?_)
    · have b_18 : iv 0 0 u_14 := iv_q c_17 (iv_c (0 : Int32) (a := 0) (b := 0) (by decide))
      refine lv_aload_n hx hb dX10_laysFar_170 rfl (lv_at hl 1 rfl) ?_
      refine va_get (ci := 10) (v := .ref (z 26)) (C := RX10) (T := TX10) (N := 40) hx hb hg inX10 hown hK hP 6 rfl rfl 26 (by decide) (hg _ q_6_10) (fun _ h9 => h9) rfl dX10_laysFar_171 ?_
      refine lv_aload_n hx hb dX10_laysFar_174 rfl (lv_at hl 1 rfl) ?_
      refine jnI (wr := [(z 26, aI V 10000 f_15), (z 15, aI V 900 f_1), (z 16, aI V 6 f_2), (z 24, aI V 10000 f_3), (z 25, aI V 40000 f_4), (z 28, aZ V 10000 f_5)]) (rnV (rest := [.ref (z 26)]) ⟨hx, hb, hml, hown, hg⟩ (k_X10_standNow_0 l V z pz0_0 pz0_5 pz0_6 pz0_7 pz0_8 pz0_9 pz0_10 pz0_11 pz0_12 pz0_13 pz0_14 pz0_18 pz0_19 pz0_22 pz0_23 v_6 fz1 bpz0_5 bpz0_6 bpz0_7 bpz0_8 bpz0_10 bpz0_11 bpz0_12 bpz0_13 bpz0_14 bpz0_18 bpz0_22 bv_6 tfz1) mt_X10_standNow q_7_11 ⟨Nat.le_of_ble_eq_true rfl, Nat.le_of_ble_eq_true rfl⟩ hK hP hD hS hA hE [6, 7] rfl rfl 6 rfl rfl rfl rfl hl.1 rfl (Nat.le_of_ble_eq_true rfl) dX10_laysFar_175 ⟨Nat.le_of_ble_eq_true rfl, Nat.le_of_ble_eq_true rfl⟩) hP hD hS hA [6, 7] [0, 1, 2, 3, 4, 5] rfl rfl rfl (by decide) (fun r_19 w H locs hw hP hD hS => ?_)
      obtain ⟨br_19, er_19, rfl⟩ := hw
      have hP : va_P V.1 vwCl [(z 26, aI V 10000 f_15), (z 15, aI V 900 f_1), (z 16, aI V 6 f_2), (z 24, aI V 10000 f_3), (z 25, aI V 40000 f_4), (z 28, aZ V 10000 f_5), (z 0, .inr (10, mo z pz0_0 pz0_5 pz0_6 pz0_7 pz0_8 pz0_9 pz0_10 pz0_11 pz0_12 pz0_13 pz0_14 pz0_18 pz0_19 pz0_22 pz0_23 v_6)), (z 1, aI V 3075 fz1)] H := hP
      have hD : va_D A [(z 26, aI V 10000 f_15), (z 15, aI V 900 f_1), (z 16, aI V 6 f_2), (z 24, aI V 10000 f_3), (z 25, aI V 40000 f_4), (z 28, aZ V 10000 f_5), (z 0, .inr (10, mo z pz0_0 pz0_5 pz0_6 pz0_7 pz0_8 pz0_9 pz0_10 pz0_11 pz0_12 pz0_13 pz0_14 pz0_18 pz0_19 pz0_22 pz0_23 v_6)), (z 1, aI V 3075 fz1)] := hD
      refine va_iald hx hb hK hP 0 0 rfl rfl (iv_in br_19 (by decide)) dX10_laysFar_178 ?_
      refine lv_topi (fun x_20 ex_20 => ?_)
      have bx_20 : iv 0 268435456 x_20 := by rw [ex_20]; exact tf_15 _
      have hP := subP (ws' := [(z 15, aI V 900 f_1), (z 16, aI V 6 f_2), (z 24, aI V 10000 f_3), (z 25, aI V 40000 f_4), (z 26, aI V 10000 f_15), (z 28, aZ V 10000 f_5), (z 0, .inr (10, mo z pz0_0 pz0_5 pz0_6 pz0_7 pz0_8 pz0_9 pz0_10 pz0_11 pz0_12 pz0_13 pz0_14 pz0_18 pz0_19 pz0_22 pz0_23 v_6)), (z 1, aI V 3075 fz1)]) hP [1, 2, 3, 4, 0, 5, 6, 7] rfl
      have hD := hD.sub (ws' := [(z 15, aI V 900 f_1), (z 16, aI V 6 f_2), (z 24, aI V 10000 f_3), (z 25, aI V 40000 f_4), (z 26, aI V 10000 f_15), (z 28, aZ V 10000 f_5), (z 0, .inr (10, mo z pz0_0 pz0_5 pz0_6 pz0_7 pz0_8 pz0_9 pz0_10 pz0_11 pz0_12 pz0_13 pz0_14 pz0_18 pz0_19 pz0_22 pz0_23 v_6)), (z 1, aI V 3075 fz1)]) [1, 2, 3, 4, 0, 5, 6, 7] rfl rfl
      exact fiI hx hb hr hlk hK hP hD hS dX10_laysFar_179 (Nat.le_of_ble_eq_true rfl) (Nat.le_of_ble_eq_true rfl) (⟨f_1, f_2, f_3, f_4, f_15, f_5, v_6, tf_2, tf_3, tf_4, tf_15, bv_6, bx_20, inn_16_2, g_8, g_9, inn_16_0, (inn_16_1 c_17), rfl⟩)
    · have b_21 : iv 1 1 u_14 := iv_n0 c_17 bu_14 (iv_c (0 : Int32) (a := 0) (b := 0) (by decide)) (by decide)
      refine lv_iconst (v := 0) hx hb dX10_laysFar_58 (by decide) ?_
      refine lv_istore_n (lv' := [(3, .int 0), (0, .ref (z 0)), (1, .int a1), (2, .int a2)]) hx hb dX10_laysFar_59 rfl hl (by decide) rfl (fun ls hl => ?_)
      refine lv_aload_n hx hb dX10_laysFar_60 rfl (lv_at hl 1 rfl) ?_
      refine va_get (ci := 10) (v := .int v_6) (C := RX10) (T := TX10) (N := 40) hx hb hg inX10 hown hK hP 6 rfl rfl 29 (by decide) (hg _ q_6_13) (fun _ h9 => h9) rfl dX10_laysFar_61 ?_
      refine lv_iconst (v := 1) hx hb dX10_laysFar_64 (by decide) ?_
      refine lv_isub hx hb dX10_laysFar_65 ?_
      refine lv_topi (fun x_22 ex_22 => ?_)
      have bx_22 : iv (-1) 9999 x_22 := by rw [ex_22]; exact iv_sub bv_6 (iv_c (1 : Int32) (a := 1) (b := 1) (by decide)) (by decide)
      refine lv_istore (lv' := [(4, .int x_22), (3, .int 0), (0, .ref (z 0)), (1, .int a1), (2, .int a2)]) hx hb dX10_laysFar_66 hl (by decide) rfl (fun ls hl => ?_)
      refine loopF (X := fun (n_26 : Nat) (H : Heap) (locs : List Loc) (ls : Array Slot) => ∃ (u_23 : Int32) (u_24 : Int32) (f_25 : Nat → Int32), (iv (-1) 9999 u_23) ∧ (iv 0 1 u_24) ∧ (∀ j, iv 0 268435456 (f_25 j)) ∧ (FI1 v_6 f_3 f_4 f_25) ∧ (u_24 = 0 → F2k v_6 u_23 f_3 f_4 f_25) ∧ (SD (sm f_25 10000) (sm f_15 10000) u_24) ∧ (RW fz1) ∧ n_26 = ((u_23 : Int32).toInt + 2147483648).toNat ∧ va_P V.1 vwCl [(z 26, aI V 10000 f_25), (z 15, aI V 900 f_1), (z 16, aI V 6 f_2), (z 24, aI V 10000 f_3), (z 25, aI V 40000 f_4), (z 28, aZ V 10000 f_5), (z 0, .inr (10, mo z pz0_0 pz0_5 pz0_6 pz0_7 pz0_8 pz0_9 pz0_10 pz0_11 pz0_12 pz0_13 pz0_14 pz0_18 pz0_19 pz0_22 pz0_23 v_6)), (z 1, aI V 3075 fz1)] H ∧ va_D A [(z 26, aI V 10000 f_25), (z 15, aI V 900 f_1), (z 16, aI V 6 f_2), (z 24, aI V 10000 f_3), (z 25, aI V 40000 f_4), (z 28, aZ V 10000 f_5), (z 0, .inr (10, mo z pz0_0 pz0_5 pz0_6 pz0_7 pz0_8 pz0_9 pz0_10 pz0_11 pz0_12 pz0_13 pz0_14 pz0_18 pz0_19 pz0_22 pz0_23 v_6)), (z 1, aI V 3075 fz1)] ∧ va_S A s.heap H locs ∧ lv_has ls 6 [(4, .int u_23), (3, .int u_24), (0, .ref (z 0)), (1, .int a1), (2, .int a2)]) (g := fun ls => F0 m 68 ls []) (fun n_26 H locs ls hX ihn_26 => ?_) _ ⟨x_22, 0, f_15, bx_22, (iv_c (0 : Int32) (by decide)), tf_15, inn_16_0, (F2k_0 ex_22 bv_6 (by decide)), (SD_0 rfl), inn_16_2, rfl, hP, hD, hS, lv_sub hl [0, 1, 2, 3, 4] rfl⟩
      obtain ⟨u_23, u_24, f_25, bu_23, bu_24, tf_25, inn_26_0, inn_26_1, inn_26_2, inn_26_3, en_26, hP, hD, hS, hl⟩ := hX
      refine lv_iload hx hb dX10_laysFar_68 (lv_at hl 0 rfl) ?_
      refine lv_if_lt (tgt := 167) hx hb dX10_laysFar_70 (by decide) (fun c_27 => ?_) (fun c_27 => ?_)
      · have b_28 : iv (-1) (-1) u_23 := iv_l1 c_27 bu_23 (iv_c (0 : Int32) (a := 0) (b := 0) (by decide)) (by decide)
        refine lv_goto (tgt := 54) hx hb dX10_laysFar_167 (by decide) ?_
        exact ihn_16 _ _ _ _ (by rw [en_16]; exact mu_more b_21 (by decide) bu_24 (by decide) inn_26_2) ⟨u_24, f_25, bu_24, tf_25, inn_26_0, (FI2_of inn_26_1 c_27), inn_26_3, rfl, hP, hD, hS, lv_sub hl [1, 2, 3, 4] rfl⟩
      · have b_29 : iv 0 9999 u_23 := iv_e2 (Int32.not_lt.mp c_27) (iv_c (0 : Int32) (a := 0) (b := 0) (by decide)) bu_23 (by decide)
        refine lv_iconst (v := 0) hx hb dX10_laysFar_73 (by decide) ?_
        refine lv_istore (lv' := [(5, .int 0), (4, .int u_23), (3, .int u_24), (0, .ref (z 0)), (1, .int a1), (2, .int a2)]) hx hb dX10_laysFar_74 hl (by decide) rfl (fun ls hl => ?_)
        refine loopF (X := fun (n_33 : Nat) (H : Heap) (locs : List Loc) (ls : Array Slot) => ∃ (u_30 : Int32) (u_31 : Int32) (f_32 : Nat → Int32), (iv 0 4 u_30) ∧ (iv 0 1 u_31) ∧ (∀ j, iv 0 268435456 (f_32 j)) ∧ (FI1 v_6 f_3 f_4 f_32) ∧ (u_31 = 0 → F2k v_6 u_23 f_3 f_4 f_32) ∧ (SD (sm f_32 10000) (sm f_15 10000) u_31) ∧ (u_31 = 0 → F2d u_23 u_30 f_3 f_4 f_32) ∧ (RW fz1) ∧ n_33 = (2147483647 - (u_30 : Int32).toInt).toNat ∧ va_P V.1 vwCl [(z 26, aI V 10000 f_32), (z 15, aI V 900 f_1), (z 16, aI V 6 f_2), (z 24, aI V 10000 f_3), (z 25, aI V 40000 f_4), (z 28, aZ V 10000 f_5), (z 0, .inr (10, mo z pz0_0 pz0_5 pz0_6 pz0_7 pz0_8 pz0_9 pz0_10 pz0_11 pz0_12 pz0_13 pz0_14 pz0_18 pz0_19 pz0_22 pz0_23 v_6)), (z 1, aI V 3075 fz1)] H ∧ va_D A [(z 26, aI V 10000 f_32), (z 15, aI V 900 f_1), (z 16, aI V 6 f_2), (z 24, aI V 10000 f_3), (z 25, aI V 40000 f_4), (z 28, aZ V 10000 f_5), (z 0, .inr (10, mo z pz0_0 pz0_5 pz0_6 pz0_7 pz0_8 pz0_9 pz0_10 pz0_11 pz0_12 pz0_13 pz0_14 pz0_18 pz0_19 pz0_22 pz0_23 v_6)), (z 1, aI V 3075 fz1)] ∧ va_S A s.heap H locs ∧ lv_has ls 6 [(5, .int u_30), (4, .int u_23), (3, .int u_31), (0, .ref (z 0)), (1, .int a1), (2, .int a2)]) (g := fun ls => F0 m 76 ls []) (fun n_33 H locs ls hX ihn_33 => ?_) _ ⟨0, u_24, f_25, (iv_c (0 : Int32) (by decide)), bu_24, tf_25, inn_26_0, inn_26_1, inn_26_2, (F2d_0 (by decide)), inn_26_3, rfl, hP, hD, hS, lv_sub hl [0, 1, 2, 3, 4, 5] rfl⟩
        obtain ⟨u_30, u_31, f_32, bu_30, bu_31, tf_32, inn_33_0, inn_33_1, inn_33_2, inn_33_3, inn_33_4, en_33, hP, hD, hS, hl⟩ := hX
        refine lv_iload hx hb dX10_laysFar_76 (lv_at hl 0 rfl) ?_
        refine lv_iconst (v := 4) hx hb dX10_laysFar_78 (by decide) ?_
        refine lv_icmp_ge (tgt := 161) hx hb dX10_laysFar_79 (by decide) (fun c_34 => ?_) (fun c_34 => ?_)
        · have b_35 : iv 4 4 u_30 := iv_e2 c_34 (iv_c (4 : Int32) (a := 4) (b := 4) (by decide)) bu_30 (by decide)
          obtain ⟨x_36, ex_36⟩ : ∃ z9 : Int32, z9 = u_23 + (-1) := ⟨_, rfl⟩
          have bx_36 : iv (-1) 9998 x_36 := by rw [ex_36]; exact iv_add b_29 (iv_c ((-1) : Int32) (a := (-1)) (b := (-1)) (by decide)) (by decide)
          refine lv_iinc (v := x_36) (lv' := [(4, .int x_36), (5, .int u_30), (3, .int u_31), (0, .ref (z 0)), (1, .int a1), (2, .int a2)]) hx hb dX10_laysFar_161 hl (k := 1) rfl (by rw [ex_36]; rfl) (by decide) rfl (fun ls hl => ?_)
          refine lv_goto (tgt := 68) hx hb dX10_laysFar_164 (by decide) ?_
          exact ihn_26 _ _ _ _ (by rw [en_26, ex_36]; exact mu_dn b_29 (by decide)) ⟨x_36, u_31, f_32, (iv_w bx_36 (by decide)), bu_31, tf_32, inn_33_0, (F2k_s (d := 0) inn_33_1 (g4 inn_33_3 (Int32.not_lt.mpr c_34)) b_29 (by decide) ex_36), inn_33_2, inn_33_4, rfl, hP, hD, hS, lv_sub hl [0, 2, 3, 4, 5] rfl⟩
        · have b_37 : iv 0 3 u_30 := iv_l1 (Int32.not_le.mp c_34) bu_30 (iv_c (4 : Int32) (a := 4) (b := 4) (by decide)) (by decide)
          refine lv_aload_n hx hb dX10_laysFar_82 rfl (lv_at hl 3 rfl) ?_
          refine va_get (ci := 10) (v := .ref (z 26)) (C := RX10) (T := TX10) (N := 40) hx hb hg inX10 hown hK hP 6 rfl rfl 26 (by decide) (hg _ q_6_10) (fun _ h9 => h9) rfl dX10_laysFar_83 ?_
          refine lv_aload_n hx hb dX10_laysFar_86 rfl (lv_at hl 3 rfl) ?_
          refine va_get (ci := 10) (v := .ref (z 24)) (C := RX10) (T := TX10) (N := 40) hx hb hg inX10 hown hK hP 6 rfl rfl 24 (by decide) (hg _ q_6_8) (fun _ h9 => h9) rfl dX10_laysFar_87 ?_
          refine lv_iload hx hb dX10_laysFar_90 (lv_at hl 1 rfl) ?_
          refine va_iald hx hb hK hP 3 0 rfl rfl (iv_in b_29 (by decide)) dX10_laysFar_92 ?_
          refine lv_topi (fun x_38 ex_38 => ?_)
          have bx_38 : iv 0 9999 x_38 := by rw [ex_38]; exact tf_3 _
          refine va_iald hx hb hK hP 0 0 rfl rfl (iv_in bx_38 (by decide)) dX10_laysFar_93 ?_
          refine lv_topi (fun x_39 ex_39 => ?_)
          have bx_39 : iv 0 268435456 x_39 := by rw [ex_39]; exact tf_32 _
          refine lv_if_le (tgt := 161) hx hb dX10_laysFar_94 (by decide) (fun c_40 => ?_) (fun c_40 => ?_)
          · have b_41 : iv 0 0 x_39 := iv_e1 c_40 bx_39 (iv_c (0 : Int32) (a := 0) (b := 0) (by decide)) (by decide)
            obtain ⟨x_42, ex_42⟩ : ∃ z9 : Int32, z9 = u_23 + (-1) := ⟨_, rfl⟩
            have bx_42 : iv (-1) 9998 x_42 := by rw [ex_42]; exact iv_add b_29 (iv_c ((-1) : Int32) (a := (-1)) (b := (-1)) (by decide)) (by decide)
            refine lv_iinc (v := x_42) (lv' := [(4, .int x_42), (5, .int u_30), (3, .int u_31), (0, .ref (z 0)), (1, .int a1), (2, .int a2)]) hx hb dX10_laysFar_161 hl (k := 1) rfl (by rw [ex_42]; rfl) (by decide) rfl (fun ls hl => ?_)
            refine lv_goto (tgt := 68) hx hb dX10_laysFar_164 (by decide) ?_
            exact ihn_26 _ _ _ _ (by rw [en_26, ex_42]; exact mu_dn b_29 (by decide)) ⟨x_42, u_31, f_32, (iv_w bx_42 (by decide)), bu_31, tf_32, inn_33_0, (F2k_s (d := 0) inn_33_1 (g0 ex_38 ex_39 c_40) b_29 (by decide) ex_42), inn_33_2, inn_33_4, rfl, hP, hD, hS, lv_sub hl [0, 2, 3, 4, 5] rfl⟩
          · have b_43 : iv 1 268435456 x_39 := iv_l2 (Int32.not_le.mp c_40) (iv_c (0 : Int32) (a := 0) (b := 0) (by decide)) bx_39 (by decide)
            refine lv_aload_n hx hb dX10_laysFar_97 rfl (lv_at hl 3 rfl) ?_
            refine lv_aload_n hx hb dX10_laysFar_98 rfl (lv_at hl 3 rfl) ?_
            refine va_get (ci := 10) (v := .ref (z 24)) (C := RX10) (T := TX10) (N := 40) hx hb hg inX10 hown hK hP 6 rfl rfl 24 (by decide) (hg _ q_6_8) (fun _ h9 => h9) rfl dX10_laysFar_99 ?_
            refine lv_iload hx hb dX10_laysFar_102 (lv_at hl 1 rfl) ?_
            refine va_iald hx hb hK hP 3 0 rfl rfl (iv_in b_29 (by decide)) dX10_laysFar_104 ?_
            refine tpi (y := x_38) ex_38.symm ?_
            refine lv_iload hx hb dX10_laysFar_105 (lv_at hl 0 rfl) ?_
            refine jnI (wr := [(z 15, aI V 900 f_1), (z 16, aI V 6 f_2), (z 24, aI V 10000 f_3), (z 28, aZ V 10000 f_5), (z 1, aI V 3075 fz1)]) (rnV (rest := []) ⟨hx, hb, hml, hown, hg⟩ (k_X10_farBy_0 l V z x_38 u_30 f_32 f_4 pz0_0 pz0_5 pz0_6 pz0_7 pz0_8 pz0_9 pz0_10 pz0_11 pz0_12 pz0_13 pz0_14 pz0_18 pz0_19 pz0_22 pz0_23 v_6 bx_38 b_37 tf_32 tf_4 bpz0_5 bpz0_6 bpz0_7 bpz0_8 bpz0_10 bpz0_11 bpz0_12 bpz0_13 bpz0_14 bpz0_18 bpz0_22 bv_6) mt_X10_farBy q_7_203 ⟨Nat.le_of_ble_eq_true rfl, Nat.le_of_ble_eq_true rfl⟩ hK hP hD hS hA hE [0, 4, 6] rfl rfl 6 rfl rfl rfl rfl hl.1 rfl (Nat.le_of_ble_eq_true rfl) dX10_laysFar_107 ⟨Nat.le_of_ble_eq_true rfl, Nat.le_of_ble_eq_true rfl⟩) hP hD hS hA [0, 4, 6] [1, 2, 3, 5, 7] rfl rfl rfl (by decide) (fun r_44 w H locs hw hP hD hS => ?_)
            obtain ⟨br_44, er_44, rfl⟩ := hw
            have hP : va_P V.1 vwCl [(z 15, aI V 900 f_1), (z 16, aI V 6 f_2), (z 24, aI V 10000 f_3), (z 28, aZ V 10000 f_5), (z 1, aI V 3075 fz1), (z 26, aI V 10000 f_32), (z 25, aI V 40000 f_4), (z 0, .inr (10, mo z pz0_0 pz0_5 pz0_6 pz0_7 pz0_8 pz0_9 pz0_10 pz0_11 pz0_12 pz0_13 pz0_14 pz0_18 pz0_19 pz0_22 pz0_23 v_6))] H := hP
            have hD : va_D A [(z 15, aI V 900 f_1), (z 16, aI V 6 f_2), (z 24, aI V 10000 f_3), (z 28, aZ V 10000 f_5), (z 1, aI V 3075 fz1), (z 26, aI V 10000 f_32), (z 25, aI V 40000 f_4), (z 0, .inr (10, mo z pz0_0 pz0_5 pz0_6 pz0_7 pz0_8 pz0_9 pz0_10 pz0_11 pz0_12 pz0_13 pz0_14 pz0_18 pz0_19 pz0_22 pz0_23 v_6))] := hD
            refine lv_aload_n hx hb dX10_laysFar_110 rfl (lv_at hl 3 rfl) ?_
            refine va_get (ci := 10) (v := .ref (z 26)) (C := RX10) (T := TX10) (N := 40) hx hb hg inX10 hown hK hP 7 rfl rfl 26 (by decide) (hg _ q_6_10) (fun _ h9 => h9) rfl dX10_laysFar_111 ?_
            refine lv_aload_n hx hb dX10_laysFar_114 rfl (lv_at hl 3 rfl) ?_
            refine va_get (ci := 10) (v := .ref (z 24)) (C := RX10) (T := TX10) (N := 40) hx hb hg inX10 hown hK hP 7 rfl rfl 24 (by decide) (hg _ q_6_8) (fun _ h9 => h9) rfl dX10_laysFar_115 ?_
            refine lv_iload hx hb dX10_laysFar_118 (lv_at hl 1 rfl) ?_
            refine va_iald hx hb hK hP 2 0 rfl rfl (iv_in b_29 (by decide)) dX10_laysFar_120 ?_
            refine tpi (y := x_38) ex_38.symm ?_
            refine va_iald hx hb hK hP 5 0 rfl rfl (iv_in bx_38 (by decide)) dX10_laysFar_121 ?_
            refine tpi (y := x_39) ex_39.symm ?_
            refine lv_icmp_lt (tgt := 128) hx hb dX10_laysFar_122 (by decide) (fun c_45 => ?_) (fun c_45 => ?_)
            · have b_46 : iv 1 268435455 r_44 := iv_l1 c_45 br_44 b_43 (by decide)
              have b_47 : iv 2 268435456 x_39 := iv_l2 c_45 br_44 b_43 (by decide)
              refine lv_aload_n hx hb dX10_laysFar_128 rfl (lv_at hl 3 rfl) ?_
              refine va_get (ci := 10) (v := .ref (z 26)) (C := RX10) (T := TX10) (N := 40) hx hb hg inX10 hown hK hP 7 rfl rfl 26 (by decide) (hg _ q_6_10) (fun _ h9 => h9) rfl dX10_laysFar_129 ?_
              refine lv_aload_n hx hb dX10_laysFar_132 rfl (lv_at hl 3 rfl) ?_
              refine va_get (ci := 10) (v := .ref (z 24)) (C := RX10) (T := TX10) (N := 40) hx hb hg inX10 hown hK hP 7 rfl rfl 24 (by decide) (hg _ q_6_8) (fun _ h9 => h9) rfl dX10_laysFar_133 ?_
              refine lv_iload hx hb dX10_laysFar_136 (lv_at hl 1 rfl) ?_
              refine va_iald hx hb hK hP 2 0 rfl rfl (iv_in b_29 (by decide)) dX10_laysFar_138 ?_
              refine tpi (y := x_38) ex_38.symm ?_
              refine lv_aload_n hx hb dX10_laysFar_139 rfl (lv_at hl 3 rfl) ?_
              refine lv_aload_n hx hb dX10_laysFar_140 rfl (lv_at hl 3 rfl) ?_
              refine va_get (ci := 10) (v := .ref (z 24)) (C := RX10) (T := TX10) (N := 40) hx hb hg inX10 hown hK hP 7 rfl rfl 24 (by decide) (hg _ q_6_8) (fun _ h9 => h9) rfl dX10_laysFar_141 ?_
              refine lv_iload hx hb dX10_laysFar_144 (lv_at hl 1 rfl) ?_
              refine va_iald hx hb hK hP 2 0 rfl rfl (iv_in b_29 (by decide)) dX10_laysFar_146 ?_
              refine tpi (y := x_38) ex_38.symm ?_
              refine lv_iload hx hb dX10_laysFar_147 (lv_at hl 0 rfl) ?_
              refine jnI (wr := [(z 15, aI V 900 f_1), (z 16, aI V 6 f_2), (z 24, aI V 10000 f_3), (z 28, aZ V 10000 f_5), (z 1, aI V 3075 fz1)]) (rnV (rest := [.int x_38, .ref (z 26)]) ⟨hx, hb, hml, hown, hg⟩ (k_X10_farBy_0 l V z x_38 u_30 f_32 f_4 pz0_0 pz0_5 pz0_6 pz0_7 pz0_8 pz0_9 pz0_10 pz0_11 pz0_12 pz0_13 pz0_14 pz0_18 pz0_19 pz0_22 pz0_23 v_6 bx_38 b_37 tf_32 tf_4 bpz0_5 bpz0_6 bpz0_7 bpz0_8 bpz0_10 bpz0_11 bpz0_12 bpz0_13 bpz0_14 bpz0_18 bpz0_22 bv_6) mt_X10_farBy q_7_203 ⟨Nat.le_of_ble_eq_true rfl, Nat.le_of_ble_eq_true rfl⟩ hK hP hD hS hA hE [5, 6, 7] rfl rfl 7 rfl rfl rfl rfl hl.1 rfl (Nat.le_of_ble_eq_true rfl) dX10_laysFar_149 ⟨Nat.le_of_ble_eq_true rfl, Nat.le_of_ble_eq_true rfl⟩) hP hD hS hA [5, 6, 7] [0, 1, 2, 3, 4] rfl rfl rfl (by decide) (fun r_48 w H locs hw hP hD hS => ?_)
              obtain ⟨br_48, er_48, rfl⟩ := hw
              have e9_r_48 : r_48 = r_44 := er_48.trans er_44.symm
              rw [e9_r_48]
              have hP : va_P V.1 vwCl [(z 15, aI V 900 f_1), (z 16, aI V 6 f_2), (z 24, aI V 10000 f_3), (z 28, aZ V 10000 f_5), (z 1, aI V 3075 fz1), (z 26, aI V 10000 f_32), (z 25, aI V 40000 f_4), (z 0, .inr (10, mo z pz0_0 pz0_5 pz0_6 pz0_7 pz0_8 pz0_9 pz0_10 pz0_11 pz0_12 pz0_13 pz0_14 pz0_18 pz0_19 pz0_22 pz0_23 v_6))] H := hP
              have hD : va_D A [(z 15, aI V 900 f_1), (z 16, aI V 6 f_2), (z 24, aI V 10000 f_3), (z 28, aZ V 10000 f_5), (z 1, aI V 3075 fz1), (z 26, aI V 10000 f_32), (z 25, aI V 40000 f_4), (z 0, .inr (10, mo z pz0_0 pz0_5 pz0_6 pz0_7 pz0_8 pz0_9 pz0_10 pz0_11 pz0_12 pz0_13 pz0_14 pz0_18 pz0_19 pz0_22 pz0_23 v_6))] := hD
              refine va_iast hx hb hK hP hD hS 5 0 rfl rfl (iv_in bx_38 (by decide)) dX10_laysFar_152 (fun H locs hP hD hS => ?_)
              obtain ⟨f_49, ef_49, tf_49, hP, hD⟩ : ∃ f_49 : Nat → Int32, f_49 = (upd f_32 (x_38 : Int32).toNatClampNeg r_44) ∧ (∀ j, iv 0 268435456 (f_49 j)) ∧ va_P V.1 vwCl [(z 15, aI V 900 f_1), (z 16, aI V 6 f_2), (z 24, aI V 10000 f_3), (z 28, aZ V 10000 f_5), (z 1, aI V 3075 fz1), (z 26, aI V 10000 f_49), (z 25, aI V 40000 f_4), (z 0, .inr (10, mo z pz0_0 pz0_5 pz0_6 pz0_7 pz0_8 pz0_9 pz0_10 pz0_11 pz0_12 pz0_13 pz0_14 pz0_18 pz0_19 pz0_22 pz0_23 v_6))] H ∧ va_D A [(z 15, aI V 900 f_1), (z 16, aI V 6 f_2), (z 24, aI V 10000 f_3), (z 28, aZ V 10000 f_5), (z 1, aI V 3075 fz1), (z 26, aI V 10000 f_49), (z 25, aI V 40000 f_4), (z 0, .inr (10, mo z pz0_0 pz0_5 pz0_6 pz0_7 pz0_8 pz0_9 pz0_10 pz0_11 pz0_12 pz0_13 pz0_14 pz0_18 pz0_19 pz0_22 pz0_23 v_6))] := ⟨_, rfl, ivU tf_32 _ (iv_w b_46 (by decide)), hP, hD⟩
              refine lv_iconst (v := 1) hx hb dX10_laysFar_153 (by decide) ?_
              refine lv_istore_n (lv' := [(3, .int 1), (5, .int u_30), (4, .int u_23), (0, .ref (z 0)), (1, .int a1), (2, .int a2)]) hx hb dX10_laysFar_154 rfl hl (by decide) rfl (fun ls hl => ?_)
              obtain ⟨x_50, ex_50⟩ : ∃ z9 : Int32, z9 = u_30 + 1 := ⟨_, rfl⟩
              have bx_50 : iv 1 4 x_50 := by rw [ex_50]; exact iv_add b_37 (iv_c (1 : Int32) (a := 1) (b := 1) (by decide)) (by decide)
              refine lv_iinc (v := x_50) (lv' := [(5, .int x_50), (3, .int 1), (4, .int u_23), (0, .ref (z 0)), (1, .int a1), (2, .int a2)]) hx hb dX10_laysFar_155 hl (k := 1) rfl (by rw [ex_50]; rfl) (by decide) rfl (fun ls hl => ?_)
              refine lv_goto (tgt := 76) hx hb dX10_laysFar_158 (by decide) ?_
              have hP := subP (ws' := [(z 26, aI V 10000 f_49), (z 15, aI V 900 f_1), (z 16, aI V 6 f_2), (z 24, aI V 10000 f_3), (z 25, aI V 40000 f_4), (z 28, aZ V 10000 f_5), (z 0, .inr (10, mo z pz0_0 pz0_5 pz0_6 pz0_7 pz0_8 pz0_9 pz0_10 pz0_11 pz0_12 pz0_13 pz0_14 pz0_18 pz0_19 pz0_22 pz0_23 v_6)), (z 1, aI V 3075 fz1)]) hP [5, 0, 1, 2, 6, 3, 7, 4] rfl
              have hD := hD.sub (ws' := [(z 26, aI V 10000 f_49), (z 15, aI V 900 f_1), (z 16, aI V 6 f_2), (z 24, aI V 10000 f_3), (z 25, aI V 40000 f_4), (z 28, aZ V 10000 f_5), (z 0, .inr (10, mo z pz0_0 pz0_5 pz0_6 pz0_7 pz0_8 pz0_9 pz0_10 pz0_11 pz0_12 pz0_13 pz0_14 pz0_18 pz0_19 pz0_22 pz0_23 v_6)), (z 1, aI V 3075 fz1)]) [5, 0, 1, 2, 6, 3, 7, 4] rfl rfl
              exact ihn_33 _ _ _ _ (by rw [en_33, ex_50]; exact mu_up b_37 (by decide)) ⟨x_50, 1, f_49, (iv_w bx_50 (by decide)), (iv_c (1 : Int32) (by decide)), tf_49, (FI1_s inn_33_0 tf_32 ex_38 ef_49 ex_39 er_44 (by have q9 := b_37; have q8 := clampNat (x := u_30) (by unfold iv at q9; omega); unfold iv at q9; omega) c_45), (fun q9 => absurd q9 (by decide)), (SD_1 inn_33_2 (sm_lt ef_49 bx_38 (by decide) ex_39 b_47 b_46 (by decide) c_45)), (fun q9 => absurd q9 (by decide)), inn_33_4, rfl, hP, hD, hS, lv_sub hl [0, 2, 1, 3, 4, 5] rfl⟩
            · refine lv_goto (tgt := 155) hx hb dX10_laysFar_125 (by decide) ?_
              obtain ⟨x_51, ex_51⟩ : ∃ z9 : Int32, z9 = u_30 + 1 := ⟨_, rfl⟩
              have bx_51 : iv 1 4 x_51 := by rw [ex_51]; exact iv_add b_37 (iv_c (1 : Int32) (a := 1) (b := 1) (by decide)) (by decide)
              refine lv_iinc (v := x_51) (lv' := [(5, .int x_51), (4, .int u_23), (3, .int u_31), (0, .ref (z 0)), (1, .int a1), (2, .int a2)]) hx hb dX10_laysFar_155 hl (k := 0) rfl (by rw [ex_51]; rfl) (by decide) rfl (fun ls hl => ?_)
              refine lv_goto (tgt := 76) hx hb dX10_laysFar_158 (by decide) ?_
              have hP := subP (ws' := [(z 26, aI V 10000 f_32), (z 15, aI V 900 f_1), (z 16, aI V 6 f_2), (z 24, aI V 10000 f_3), (z 25, aI V 40000 f_4), (z 28, aZ V 10000 f_5), (z 0, .inr (10, mo z pz0_0 pz0_5 pz0_6 pz0_7 pz0_8 pz0_9 pz0_10 pz0_11 pz0_12 pz0_13 pz0_14 pz0_18 pz0_19 pz0_22 pz0_23 v_6)), (z 1, aI V 3075 fz1)]) hP [5, 0, 1, 2, 6, 3, 7, 4] rfl
              have hD := hD.sub (ws' := [(z 26, aI V 10000 f_32), (z 15, aI V 900 f_1), (z 16, aI V 6 f_2), (z 24, aI V 10000 f_3), (z 25, aI V 40000 f_4), (z 28, aZ V 10000 f_5), (z 0, .inr (10, mo z pz0_0 pz0_5 pz0_6 pz0_7 pz0_8 pz0_9 pz0_10 pz0_11 pz0_12 pz0_13 pz0_14 pz0_18 pz0_19 pz0_22 pz0_23 v_6)), (z 1, aI V 3075 fz1)]) [5, 0, 1, 2, 6, 3, 7, 4] rfl rfl
              exact ihn_33 _ _ _ _ (by rw [en_33, ex_51]; exact mu_up b_37 (by decide)) ⟨x_51, u_31, f_32, (iv_w bx_51 (by decide)), bu_31, tf_32, inn_33_0, inn_33_1, inn_33_2, (F2d_s inn_33_3 ex_38 ex_39 er_44 c_45 b_37 (by decide) ex_51), inn_33_4, rfl, hP, hD, hS, lv_sub hl [0, 1, 2, 3, 4, 5] rfl⟩
  · have b_52 : iv 0 9999 u_10 := iv_l1 (Int32.not_le.mp c_13) bu_10 bv_6 (by decide)
    have b_53 : iv 1 10000 v_6 := iv_l2 (Int32.not_le.mp c_13) bu_10 bv_6 (by decide)
    refine lv_aload_n hx hb dX10_laysFar_14 rfl (lv_at hl 1 rfl) ?_
    refine va_get (ci := 10) (v := .ref (z 26)) (C := RX10) (T := TX10) (N := 40) hx hb hg inX10 hown hK hP 6 rfl rfl 26 (by decide) (hg _ q_6_10) (fun _ h9 => h9) rfl dX10_laysFar_15 ?_
    refine lv_aload_n hx hb dX10_laysFar_18 rfl (lv_at hl 1 rfl) ?_
    refine va_get (ci := 10) (v := .ref (z 24)) (C := RX10) (T := TX10) (N := 40) hx hb hg inX10 hown hK hP 6 rfl rfl 24 (by decide) (hg _ q_6_8) (fun _ h9 => h9) rfl dX10_laysFar_19 ?_
    refine lv_iload_n hx hb dX10_laysFar_22 rfl (lv_at hl 0 rfl) ?_
    refine va_iald hx hb hK hP 3 0 rfl rfl (iv_in b_52 (by decide)) dX10_laysFar_23 ?_
    refine lv_topi (fun x_54 ex_54 => ?_)
    have bx_54 : iv 0 9999 x_54 := by rw [ex_54]; exact tf_3 _
    refine lv_aload_n hx hb dX10_laysFar_24 rfl (lv_at hl 1 rfl) ?_
    refine va_get (ci := 10) (v := .ref (z 24)) (C := RX10) (T := TX10) (N := 40) hx hb hg inX10 hown hK hP 6 rfl rfl 24 (by decide) (hg _ q_6_8) (fun _ h9 => h9) rfl dX10_laysFar_25 ?_
    refine lv_iload_n hx hb dX10_laysFar_28 rfl (lv_at hl 0 rfl) ?_
    refine va_iald hx hb hK hP 3 0 rfl rfl (iv_in b_52 (by decide)) dX10_laysFar_29 ?_
    refine tpi (y := x_54) ex_54.symm ?_
    refine lv_iload_n hx hb dX10_laysFar_30 rfl (lv_at hl 2 rfl) ?_
    refine jnI (wr := [(z 26, aI V 10000 f_11), (z 15, aI V 900 f_1), (z 16, aI V 6 f_2), (z 24, aI V 10000 f_3), (z 25, aI V 40000 f_4), (z 28, aZ V 10000 f_5), (z 0, .inr (10, mo z pz0_0 pz0_5 pz0_6 pz0_7 pz0_8 pz0_9 pz0_10 pz0_11 pz0_12 pz0_13 pz0_14 pz0_18 pz0_19 pz0_22 pz0_23 v_6)), (z 1, aI V 3075 fz1)]) (rnS (rest := [.int x_54, .ref (z 26)]) ⟨hx, hb, hml, hown, hg⟩ (k_X10_stackIn_0 l V x_54 a1 bx_54 ba1) mt_X10_stackIn q_7_26 ⟨Nat.le_of_ble_eq_true rfl, Nat.le_of_ble_eq_true rfl⟩ hK hP hD hS hA hE [] rfl rfl rfl hl.1 rfl (Nat.le_of_ble_eq_true rfl) dX10_laysFar_31 ⟨Nat.le_of_ble_eq_true rfl, Nat.le_of_ble_eq_true rfl⟩) hP hD hS hA [] [0, 1, 2, 3, 4, 5, 6, 7] rfl rfl rfl (by decide) (fun r_55 w H locs hw hP hD hS => ?_)
    obtain ⟨br_55, er_55, rfl⟩ := hw
    have hP : va_P V.1 vwCl [(z 26, aI V 10000 f_11), (z 15, aI V 900 f_1), (z 16, aI V 6 f_2), (z 24, aI V 10000 f_3), (z 25, aI V 40000 f_4), (z 28, aZ V 10000 f_5), (z 0, .inr (10, mo z pz0_0 pz0_5 pz0_6 pz0_7 pz0_8 pz0_9 pz0_10 pz0_11 pz0_12 pz0_13 pz0_14 pz0_18 pz0_19 pz0_22 pz0_23 v_6)), (z 1, aI V 3075 fz1)] H := hP
    have hD : va_D A [(z 26, aI V 10000 f_11), (z 15, aI V 900 f_1), (z 16, aI V 6 f_2), (z 24, aI V 10000 f_3), (z 25, aI V 40000 f_4), (z 28, aZ V 10000 f_5), (z 0, .inr (10, mo z pz0_0 pz0_5 pz0_6 pz0_7 pz0_8 pz0_9 pz0_10 pz0_11 pz0_12 pz0_13 pz0_14 pz0_18 pz0_19 pz0_22 pz0_23 v_6)), (z 1, aI V 3075 fz1)] := hD
    refine lv_iload_n hx hb dX10_laysFar_34 rfl (lv_at hl 3 rfl) ?_
    refine lv_icmp_ne (tgt := 42) hx hb dX10_laysFar_35 (by decide) (fun c_56 => ?_) (fun c_56 => ?_)
    · refine lv_ldcw (v := 268435456) hx hb hown (hg _ q_7_202) dX10_laysFar_42 ?_
      refine va_iast hx hb hK hP hD hS 0 0 rfl rfl (iv_in bx_54 (by decide)) dX10_laysFar_45 (fun H locs hP hD hS => ?_)
      obtain ⟨f_57, ef_57, tf_57, hP, hD⟩ : ∃ f_57 : Nat → Int32, f_57 = (upd f_11 (x_54 : Int32).toNatClampNeg 268435456) ∧ (∀ j, iv 0 268435456 (f_57 j)) ∧ va_P V.1 vwCl [(z 26, aI V 10000 f_57), (z 15, aI V 900 f_1), (z 16, aI V 6 f_2), (z 24, aI V 10000 f_3), (z 25, aI V 40000 f_4), (z 28, aZ V 10000 f_5), (z 0, .inr (10, mo z pz0_0 pz0_5 pz0_6 pz0_7 pz0_8 pz0_9 pz0_10 pz0_11 pz0_12 pz0_13 pz0_14 pz0_18 pz0_19 pz0_22 pz0_23 v_6)), (z 1, aI V 3075 fz1)] H ∧ va_D A [(z 26, aI V 10000 f_57), (z 15, aI V 900 f_1), (z 16, aI V 6 f_2), (z 24, aI V 10000 f_3), (z 25, aI V 40000 f_4), (z 28, aZ V 10000 f_5), (z 0, .inr (10, mo z pz0_0 pz0_5 pz0_6 pz0_7 pz0_8 pz0_9 pz0_10 pz0_11 pz0_12 pz0_13 pz0_14 pz0_18 pz0_19 pz0_22 pz0_23 v_6)), (z 1, aI V 3075 fz1)] := ⟨_, rfl, ivU tf_11 _ (iv_c (268435456 : Int32) (by decide)), hP, hD⟩
      obtain ⟨x_58, ex_58⟩ : ∃ z9 : Int32, z9 = u_10 + 1 := ⟨_, rfl⟩
      have bx_58 : iv 1 10000 x_58 := by rw [ex_58]; exact iv_add b_52 (iv_c (1 : Int32) (a := 1) (b := 1) (by decide)) (by decide)
      refine lv_iinc (v := x_58) (lv' := [(3, .int x_58), (0, .ref (z 0)), (1, .int a1), (2, .int a2)]) hx hb dX10_laysFar_46 hl (k := 0) rfl (by rw [ex_58]; rfl) (by decide) rfl (fun ls hl => ?_)
      refine lv_goto (tgt := 6) hx hb dX10_laysFar_49 (by decide) ?_
      exact ihn_12 _ _ _ _ (by rw [en_12, ex_58]; exact mu_up b_52 (by decide)) ⟨x_58, f_57, (iv_w bx_58 (by decide)), tf_57, (ini_s inn_12_0 b_52 (by decide) ex_58 ex_54 ef_57 (Or.inr rfl)), inn_12_1, rfl, hP, hD, hS, lv_sub hl [0, 1, 2, 3] rfl⟩
    · have b_59 : iv 0 4 a2 := iv_q c_56.symm br_55
      refine lv_iconst (v := 0) hx hb dX10_laysFar_38 (by decide) ?_
      refine lv_goto (tgt := 45) hx hb dX10_laysFar_39 (by decide) ?_
      refine va_iast hx hb hK hP hD hS 0 0 rfl rfl (iv_in bx_54 (by decide)) dX10_laysFar_45 (fun H locs hP hD hS => ?_)
      obtain ⟨f_60, ef_60, tf_60, hP, hD⟩ : ∃ f_60 : Nat → Int32, f_60 = (upd f_11 (x_54 : Int32).toNatClampNeg 0) ∧ (∀ j, iv 0 268435456 (f_60 j)) ∧ va_P V.1 vwCl [(z 26, aI V 10000 f_60), (z 15, aI V 900 f_1), (z 16, aI V 6 f_2), (z 24, aI V 10000 f_3), (z 25, aI V 40000 f_4), (z 28, aZ V 10000 f_5), (z 0, .inr (10, mo z pz0_0 pz0_5 pz0_6 pz0_7 pz0_8 pz0_9 pz0_10 pz0_11 pz0_12 pz0_13 pz0_14 pz0_18 pz0_19 pz0_22 pz0_23 v_6)), (z 1, aI V 3075 fz1)] H ∧ va_D A [(z 26, aI V 10000 f_60), (z 15, aI V 900 f_1), (z 16, aI V 6 f_2), (z 24, aI V 10000 f_3), (z 25, aI V 40000 f_4), (z 28, aZ V 10000 f_5), (z 0, .inr (10, mo z pz0_0 pz0_5 pz0_6 pz0_7 pz0_8 pz0_9 pz0_10 pz0_11 pz0_12 pz0_13 pz0_14 pz0_18 pz0_19 pz0_22 pz0_23 v_6)), (z 1, aI V 3075 fz1)] := ⟨_, rfl, ivU tf_11 _ (iv_c (0 : Int32) (by decide)), hP, hD⟩
      obtain ⟨x_61, ex_61⟩ : ∃ z9 : Int32, z9 = u_10 + 1 := ⟨_, rfl⟩
      have bx_61 : iv 1 10000 x_61 := by rw [ex_61]; exact iv_add b_52 (iv_c (1 : Int32) (a := 1) (b := 1) (by decide)) (by decide)
      refine lv_iinc (v := x_61) (lv' := [(3, .int x_61), (0, .ref (z 0)), (1, .int a1), (2, .int a2)]) hx hb dX10_laysFar_46 hl (k := 0) rfl (by rw [ex_61]; rfl) (by decide) rfl (fun ls hl => ?_)
      refine lv_goto (tgt := 6) hx hb dX10_laysFar_49 (by decide) ?_
      exact ihn_12 _ _ _ _ (by rw [en_12, ex_61]; exact mu_up b_52 (by decide)) ⟨x_61, f_60, (iv_w bx_61 (by decide)), tf_60, (ini_s inn_12_0 b_52 (by decide) ex_61 ex_54 ef_60 (Or.inl rfl)), inn_12_1, rfl, hP, hD, hS, lv_sub hl [0, 1, 2, 3] rfl⟩
theorem dX10_toldFar_0 : decode cX10_toldFar 0 = .ok (.iload_n 0, 1) := by decide +kernel
theorem dX10_toldFar_1 : decode cX10_toldFar 1 = .ok (.ldc_w 361, 3) := by decide +kernel
theorem dX10_toldFar_4 : decode cX10_toldFar 4 = .ok (.if_icmp .ne 7, 3) := by decide +kernel
theorem dX10_toldFar_11 : decode cX10_toldFar 11 = .ok (.iload_n 0, 1) := by decide +kernel
theorem dX10_toldFar_12 : decode cX10_toldFar 12 = .ok (.ireturn, 1) := by decide +kernel
theorem dX10_toldFar_7 : decode cX10_toldFar 7 = .ok (.iconst (-1), 1) := by decide +kernel
theorem dX10_toldFar_8 : decode cX10_toldFar 8 = .ok (.goto 4, 3) := by decide +kernel
set_option maxHeartbeats 4000000 in
set_option maxRecDepth 100000 in
theorem k_X10_toldFar_0 (l : Launch) (V : GV) (a0 : Int32) : Ct l V yX10_toldFar (.code yX10_toldFar cX10_toldFar 1 (some .int)) 1 [.int a0] [] 0 0 (QI V (fun (r : Int32) (w : va_W) => w = [])) := by
  refine Ct.of (by decide) (Nat.le_of_ble_eq_true rfl) (fun p e s m below meth c A ls hx hb hr hml hown hlk hnm hg hP hK hD hE hA hS hl => ?_)
  have hl : lv_has ls 1 [(0, .int a0)] := hl
  refine lv_iload_n hx hb dX10_toldFar_0 rfl (lv_at hl 0 rfl) ?_
  refine lv_ldcw (v := 268435456) hx hb hown (hg _ q_7_202) dX10_toldFar_1 ?_
  refine lv_icmp_ne (tgt := 11) hx hb dX10_toldFar_4 (by decide) (fun c_1 => ?_) (fun c_1 => ?_)
  · refine lv_iload_n hx hb dX10_toldFar_11 rfl (lv_at hl 0 rfl) ?_
    exact fiI hx hb hr hlk hK hP hD hS dX10_toldFar_12 (Nat.le_of_ble_eq_true rfl) (Nat.le_of_ble_eq_true rfl) (rfl)
  · have b_2 : iv 268435456 268435456 a0 := iv_q c_1 (iv_c (268435456 : Int32) (a := 268435456) (b := 268435456) (by decide))
    refine lv_iconst (v := (-1)) hx hb dX10_toldFar_7 (by decide) ?_
    refine lv_goto (tgt := 12) hx hb dX10_toldFar_8 (by decide) ?_
    exact fiI hx hb hr hlk hK hP hD hS dX10_toldFar_12 (Nat.le_of_ble_eq_true rfl) (Nat.le_of_ble_eq_true rfl) (rfl)
theorem dX10_soonest_0 : decode cX10_soonest 0 = .ok (.aload_n 0, 1) := by decide +kernel
theorem dX10_soonest_1 : decode cX10_soonest 1 = .ok (.iconst 0, 1) := by decide +kernel
theorem dX10_soonest_2 : decode cX10_soonest 2 = .ok (.putfield 1, 3) := by decide +kernel
theorem dX10_soonest_5 : decode cX10_soonest 5 = .ok (.aload_n 0, 1) := by decide +kernel
theorem dX10_soonest_6 : decode cX10_soonest 6 = .ok (.iload_n 1, 1) := by decide +kernel
theorem dX10_soonest_7 : decode cX10_soonest 7 = .ok (.iload_n 2, 1) := by decide +kernel
theorem q_7_185 : Cond.code yX10_noHigh prog_12_method_88_code 3 (some FieldType.int) ∈ gw := gw_7 (i := 185) (rfl) rfl
theorem q_7_184 : Cond.instanceMethod yX10_noHigh ∈ gw := gw_7 (i := 184) (by decide +kernel) rfl
theorem q_s_103 : Cond.selects "BeaconDelayModel" yX10_noHigh yX10_noHigh ∈ gw := gw_s (i := 103) (by decide +kernel) rfl
theorem mt_X10_noHigh : MtV yX10_noHigh cX10_noHigh 3 (some .int) 2 := ⟨⟨q_7_185, q_1_9, by decide +kernel, by decide +kernel, by decide +kernel⟩, q_7_184, q_s_103⟩
theorem q_7_182 : Cond.methodLink "BeaconDelayModel" 373 yX10_noHigh ∈ gw := gw_7 (i := 182) (by decide +kernel) rfl
theorem dX10_soonest_8 : decode cX10_soonest 8 = .ok (.invokevirtual 373, 3) := by decide +kernel
theorem dX10_soonest_11 : decode cX10_soonest 11 = .ok (.istore_n 3, 1) := by decide +kernel
theorem dX10_soonest_12 : decode cX10_soonest 12 = .ok (.iload_n 3, 1) := by decide +kernel
theorem dX10_soonest_13 : decode cX10_soonest 13 = .ok (.ifCond .eq 7, 3) := by decide +kernel
theorem dX10_soonest_20 : decode cX10_soonest 20 = .ok (.aload_n 0, 1) := by decide +kernel
theorem dX10_soonest_21 : decode cX10_soonest 21 = .ok (.iload_n 1, 1) := by decide +kernel
theorem dX10_soonest_22 : decode cX10_soonest 22 = .ok (.iload_n 2, 1) := by decide +kernel
theorem q_7_193 : Cond.code yX10_laysFar prog_12_method_85_code 6 (some FieldType.int) ∈ gw := gw_7 (i := 193) (rfl) rfl
theorem q_7_192 : Cond.instanceMethod yX10_laysFar ∈ gw := gw_7 (i := 192) (by decide +kernel) rfl
theorem q_s_104 : Cond.selects "BeaconDelayModel" yX10_laysFar yX10_laysFar ∈ gw := gw_s (i := 104) (by decide +kernel) rfl
theorem mt_X10_laysFar : MtV yX10_laysFar cX10_laysFar 6 (some .int) 2 := ⟨⟨q_7_193, q_1_9, by decide +kernel, by decide +kernel, by decide +kernel⟩, q_7_192, q_s_104⟩
theorem q_7_190 : Cond.methodLink "BeaconDelayModel" 376 yX10_laysFar ∈ gw := gw_7 (i := 190) (by decide +kernel) rfl
theorem dX10_soonest_23 : decode cX10_soonest 23 = .ok (.invokevirtual 376, 3) := by decide +kernel
theorem q_7_209 : Cond.code yX10_toldFar prog_12_method_86_code 1 (some FieldType.int) ∈ gw := gw_7 (i := 209) (rfl) rfl
theorem q_7_208 : Cond.static yX10_toldFar ∈ gw := gw_7 (i := 208) (by decide +kernel) rfl
theorem mt_X10_toldFar : MtS yX10_toldFar cX10_toldFar 1 (some .int) 1 := ⟨⟨q_7_209, q_1_9, by decide +kernel, by decide +kernel, by decide +kernel⟩, q_7_208⟩
theorem q_7_207 : Cond.methodLink "BeaconDelayModel" 379 yX10_toldFar ∈ gw := gw_7 (i := 207) (by decide +kernel) rfl
theorem dX10_soonest_26 : decode cX10_soonest 26 = .ok (.invokestatic 379, 3) := by decide +kernel
theorem dX10_soonest_29 : decode cX10_soonest 29 = .ok (.ireturn, 1) := by decide +kernel
theorem dX10_soonest_16 : decode cX10_soonest 16 = .ok (.iload_n 3, 1) := by decide +kernel
theorem dX10_soonest_17 : decode cX10_soonest 17 = .ok (.goto 12, 3) := by decide +kernel
set_option maxHeartbeats 4000000 in
set_option maxRecDepth 100000 in
theorem k_X10_soonest_0 (l : Launch) (V : GV) (z : Nat → Nat) (a1 : Int32) (a2 : Int32) (pz0_0 : Int32) (pz0_5 : Int32) (pz0_6 : Int32) (pz0_7 : Int32) (pz0_8 : Int32) (pz0_9 : Int32) (pz0_10 : Int32) (pz0_11 : Int32) (pz0_12 : Int32) (pz0_13 : Int32) (pz0_14 : Int32) (pz0_18 : Int32) (pz0_19 : Int32) (pz0_22 : Int32) (pz0_23 : Int32) (pz0_29 : Int32) (fz1 : Nat → Int32) (fz15 : Nat → Int32) (fz16 : Nat → Int32) (fz24 : Nat → Int32) (fz25 : Nat → Int32) (fz26 : Nat → Int32) (fz28 : Nat → Int32) (bpz0_5 : iv 0 900 pz0_5) (bpz0_6 : iv 0 900 pz0_6) (bpz0_7 : iv 0 900 pz0_7) (bpz0_8 : iv 0 900 pz0_8) (bpz0_10 : iv 0 999 pz0_10) (bpz0_11 : iv 0 4 pz0_11) (bpz0_12 : iv 0 900 pz0_12) (bpz0_13 : iv 0 4 pz0_13) (bpz0_14 : iv (-1) 900 pz0_14) (bpz0_18 : iv 0 2 pz0_18) (bpz0_22 : iv 0 9999 pz0_22) (bpz0_29 : iv 0 10000 pz0_29) (tfz1 : ivT tA fz1) (tfz16 : ivT tW fz16) (tfz24 : ∀ j, iv 0 9999 (fz24 j)) (tfz25 : ∀ j, iv (-1) 9999 (fz25 j)) (tfz26 : ∀ j, iv 0 268435456 (fz26 j)) (hf0 : RW fz1) : Ct l V yX10_soonest (.code yX10_soonest cX10_soonest 4 (some .int)) 7 [.ref (z 0), .int a1, .int a2] [(z 0, .inr (10, mo z pz0_0 pz0_5 pz0_6 pz0_7 pz0_8 pz0_9 pz0_10 pz0_11 pz0_12 pz0_13 pz0_14 pz0_18 pz0_19 pz0_22 pz0_23 pz0_29)), (z 1, aI V 3075 fz1), (z 15, aI V 900 fz15), (z 16, aI V 6 fz16), (z 24, aI V 10000 fz24), (z 25, aI V 40000 fz25), (z 26, aI V 10000 fz26), (z 28, aZ V 10000 fz28)] 0 0 (QI V (fun (r : Int32) (w : va_W) => ∃ (v0 : Int32) (v1 : Int32) (g2 : Nat → Int32) (g3 : Nat → Int32) (g4 : Nat → Int32) (g5 : Nat → Int32) (g6 : Nat → Int32) (g7 : Nat → Int32), iv 0 10000 v1 ∧ (ivT tW g3) ∧ (∀ j, iv 0 9999 (g4 j)) ∧ (∀ j, iv (-1) 9999 (g5 j)) ∧ (∀ j, iv 0 268435456 (g6 j)) ∧ (RW fz1) ∧ w = [(z 0, .inr (10, mo z v0 pz0_5 pz0_6 pz0_7 pz0_8 pz0_9 pz0_10 pz0_11 pz0_12 pz0_13 pz0_14 pz0_18 pz0_19 pz0_22 pz0_23 v1)), (z 1, aI V 3075 fz1), (z 15, aI V 900 g2), (z 16, aI V 6 g3), (z 24, aI V 10000 g4), (z 25, aI V 40000 g5), (z 26, aI V 10000 g6), (z 28, aZ V 10000 g7)])) := by
  refine Ct.of (by decide) (Nat.le_of_ble_eq_true rfl) (fun p e s m below meth c A ls hx hb hr hml hown hlk hnm hg hP hK hD hE hA hS hl => ?_)
  have hl : lv_has ls 4 [(0, .ref (z 0)), (1, .int a1), (2, .int a2)] := hl
  refine lv_aload_n hx hb dX10_soonest_0 rfl (lv_at hl 0 rfl) ?_
  refine lv_iconst (v := 0) hx hb dX10_soonest_1 (by decide) ?_
  refine va_put (ci := 10) (v := .int 0) (ty := .int) (C := RX10) (T := TX10) (N := 40) hx hb hg inX10 tyX10 tyX10_ok nmX10 hown hK hP hD hS 0 rfl rfl 0 (by decide) (hg _ q_5_224) (fun _ h9 => h9) rfl (by decide +kernel) rfl rfl (Nat.le_of_ble_eq_true rfl) dX10_soonest_2 (fun H locs hP hD hS => ?_)
  have hP : va_P V.1 vwCl [(z 0, .inr (10, mo z 0 pz0_5 pz0_6 pz0_7 pz0_8 pz0_9 pz0_10 pz0_11 pz0_12 pz0_13 pz0_14 pz0_18 pz0_19 pz0_22 pz0_23 pz0_29)), (z 1, aI V 3075 fz1), (z 15, aI V 900 fz15), (z 16, aI V 6 fz16), (z 24, aI V 10000 fz24), (z 25, aI V 40000 fz25), (z 26, aI V 10000 fz26), (z 28, aZ V 10000 fz28)] H := hP
  have hD : va_D A [(z 0, .inr (10, mo z 0 pz0_5 pz0_6 pz0_7 pz0_8 pz0_9 pz0_10 pz0_11 pz0_12 pz0_13 pz0_14 pz0_18 pz0_19 pz0_22 pz0_23 pz0_29)), (z 1, aI V 3075 fz1), (z 15, aI V 900 fz15), (z 16, aI V 6 fz16), (z 24, aI V 10000 fz24), (z 25, aI V 40000 fz25), (z 26, aI V 10000 fz26), (z 28, aZ V 10000 fz28)] := hD
  refine lv_aload_n hx hb dX10_soonest_5 rfl (lv_at hl 0 rfl) ?_
  refine lv_iload_n hx hb dX10_soonest_6 rfl (lv_at hl 1 rfl) ?_
  refine lv_iload_n hx hb dX10_soonest_7 rfl (lv_at hl 2 rfl) ?_
  refine jnI (wr := [(z 15, aI V 900 fz15), (z 16, aI V 6 fz16), (z 24, aI V 10000 fz24), (z 25, aI V 40000 fz25), (z 26, aI V 10000 fz26), (z 28, aZ V 10000 fz28)]) (rnV (rest := []) ⟨hx, hb, hml, hown, hg⟩ (k_X10_noHigh_0 l V z a1 a2 0 pz0_5 pz0_6 pz0_7 pz0_8 pz0_9 pz0_10 pz0_11 pz0_12 pz0_13 pz0_14 pz0_18 pz0_19 pz0_22 pz0_23 pz0_29 fz1 bpz0_5 bpz0_6 bpz0_7 bpz0_8 bpz0_10 bpz0_11 bpz0_12 bpz0_13 bpz0_14 bpz0_18 bpz0_22 bpz0_29 tfz1) mt_X10_noHigh q_7_182 ⟨Nat.le_of_ble_eq_true rfl, Nat.le_of_ble_eq_true rfl⟩ hK hP hD hS hA hE [0, 1] rfl rfl 0 rfl rfl rfl rfl hl.1 rfl (Nat.le_of_ble_eq_true rfl) dX10_soonest_8 ⟨Nat.le_of_ble_eq_true rfl, Nat.le_of_ble_eq_true rfl⟩) hP hD hS hA [0, 1] [2, 3, 4, 5, 6, 7] rfl rfl rfl (by decide) (fun r_1 w H locs hw hP hD hS => ?_)
  obtain ⟨br_1, g_2, g_3, rfl⟩ := hw
  have hP : va_P V.1 vwCl [(z 15, aI V 900 fz15), (z 16, aI V 6 fz16), (z 24, aI V 10000 fz24), (z 25, aI V 40000 fz25), (z 26, aI V 10000 fz26), (z 28, aZ V 10000 fz28), (z 0, .inr (10, mo z 0 pz0_5 pz0_6 pz0_7 pz0_8 pz0_9 pz0_10 pz0_11 pz0_12 pz0_13 pz0_14 pz0_18 pz0_19 pz0_22 pz0_23 pz0_29)), (z 1, aI V 3075 fz1)] H := hP
  have hD : va_D A [(z 15, aI V 900 fz15), (z 16, aI V 6 fz16), (z 24, aI V 10000 fz24), (z 25, aI V 40000 fz25), (z 26, aI V 10000 fz26), (z 28, aZ V 10000 fz28), (z 0, .inr (10, mo z 0 pz0_5 pz0_6 pz0_7 pz0_8 pz0_9 pz0_10 pz0_11 pz0_12 pz0_13 pz0_14 pz0_18 pz0_19 pz0_22 pz0_23 pz0_29)), (z 1, aI V 3075 fz1)] := hD
  refine lv_istore_n (lv' := [(3, .int r_1), (0, .ref (z 0)), (1, .int a1), (2, .int a2)]) hx hb dX10_soonest_11 rfl hl (by decide) rfl (fun ls hl => ?_)
  refine lv_iload_n hx hb dX10_soonest_12 rfl (lv_at hl 0 rfl) ?_
  refine lv_if_eq (tgt := 20) hx hb dX10_soonest_13 (by decide) (fun c_4 => ?_) (fun c_4 => ?_)
  · have b_5 : iv 0 0 r_1 := iv_q c_4 (iv_c (0 : Int32) (a := 0) (b := 0) (by decide))
    have b_6 : iv 0 3 a1 := iv_cap (g_2 (iv_eqp b_5 (iv_c (0 : Int32) (by decide)))) (iv_top a1) (by decide)
    have b_7 : iv 0 4 a2 := iv_cap (g_3 (iv_eqp b_5 (iv_c (0 : Int32) (by decide)))) (iv_top a2) (by decide)
    refine lv_aload_n hx hb dX10_soonest_20 rfl (lv_at hl 1 rfl) ?_
    refine lv_iload_n hx hb dX10_soonest_21 rfl (lv_at hl 2 rfl) ?_
    refine lv_iload_n hx hb dX10_soonest_22 rfl (lv_at hl 3 rfl) ?_
    refine jnI (wr := []) (rnV (rest := []) ⟨hx, hb, hml, hown, hg⟩ (k_X10_laysFar_0 l V z a1 a2 fz15 fz16 fz24 fz25 fz26 fz28 0 pz0_5 pz0_6 pz0_7 pz0_8 pz0_9 pz0_10 pz0_11 pz0_12 pz0_13 pz0_14 pz0_18 pz0_19 pz0_22 pz0_23 pz0_29 fz1 b_6 tfz16 tfz24 tfz25 tfz26 bpz0_5 bpz0_6 bpz0_7 bpz0_8 bpz0_10 bpz0_11 bpz0_12 bpz0_13 bpz0_14 bpz0_18 bpz0_22 bpz0_29 tfz1 hf0) mt_X10_laysFar q_7_190 ⟨Nat.le_of_ble_eq_true rfl, Nat.le_of_ble_eq_true rfl⟩ hK hP hD hS hA hE [0, 1, 2, 3, 4, 5, 6, 7] rfl rfl 6 rfl rfl rfl rfl hl.1 rfl (Nat.le_of_ble_eq_true rfl) dX10_soonest_23 ⟨Nat.le_of_ble_eq_true rfl, Nat.le_of_ble_eq_true rfl⟩) hP hD hS hA [0, 1, 2, 3, 4, 5, 6, 7] [] rfl rfl rfl (by decide) (fun r_8 w H locs hw hP hD hS => ?_)
    obtain ⟨f_9, f_10, f_11, f_12, f_13, f_14, v_15, tf_10, tf_11, tf_12, tf_13, bv_15, br_8, g_16, g_17, g_18, g_19, g_20, rfl⟩ := hw
    have hP : va_P V.1 vwCl [(z 15, aI V 900 f_9), (z 16, aI V 6 f_10), (z 24, aI V 10000 f_11), (z 25, aI V 40000 f_12), (z 26, aI V 10000 f_13), (z 28, aZ V 10000 f_14), (z 0, .inr (10, mo z 0 pz0_5 pz0_6 pz0_7 pz0_8 pz0_9 pz0_10 pz0_11 pz0_12 pz0_13 pz0_14 pz0_18 pz0_19 pz0_22 pz0_23 v_15)), (z 1, aI V 3075 fz1)] H := hP
    have hD : va_D A [(z 15, aI V 900 f_9), (z 16, aI V 6 f_10), (z 24, aI V 10000 f_11), (z 25, aI V 40000 f_12), (z 26, aI V 10000 f_13), (z 28, aZ V 10000 f_14), (z 0, .inr (10, mo z 0 pz0_5 pz0_6 pz0_7 pz0_8 pz0_9 pz0_10 pz0_11 pz0_12 pz0_13 pz0_14 pz0_18 pz0_19 pz0_22 pz0_23 v_15)), (z 1, aI V 3075 fz1)] := hD
    refine jnI (wr := [(z 15, aI V 900 f_9), (z 16, aI V 6 f_10), (z 24, aI V 10000 f_11), (z 25, aI V 40000 f_12), (z 26, aI V 10000 f_13), (z 28, aZ V 10000 f_14), (z 0, .inr (10, mo z 0 pz0_5 pz0_6 pz0_7 pz0_8 pz0_9 pz0_10 pz0_11 pz0_12 pz0_13 pz0_14 pz0_18 pz0_19 pz0_22 pz0_23 v_15)), (z 1, aI V 3075 fz1)]) (rnS (rest := []) ⟨hx, hb, hml, hown, hg⟩ (k_X10_toldFar_0 l V r_8) mt_X10_toldFar q_7_207 ⟨Nat.le_of_ble_eq_true rfl, Nat.le_of_ble_eq_true rfl⟩ hK hP hD hS hA hE [] rfl rfl rfl hl.1 rfl (Nat.le_of_ble_eq_true rfl) dX10_soonest_26 ⟨Nat.le_of_ble_eq_true rfl, Nat.le_of_ble_eq_true rfl⟩) hP hD hS hA [] [0, 1, 2, 3, 4, 5, 6, 7] rfl rfl rfl (by decide) (fun r_21 w H locs hw hP hD hS => ?_)
    subst hw
    have hP : va_P V.1 vwCl [(z 15, aI V 900 f_9), (z 16, aI V 6 f_10), (z 24, aI V 10000 f_11), (z 25, aI V 40000 f_12), (z 26, aI V 10000 f_13), (z 28, aZ V 10000 f_14), (z 0, .inr (10, mo z 0 pz0_5 pz0_6 pz0_7 pz0_8 pz0_9 pz0_10 pz0_11 pz0_12 pz0_13 pz0_14 pz0_18 pz0_19 pz0_22 pz0_23 v_15)), (z 1, aI V 3075 fz1)] H := hP
    have hD : va_D A [(z 15, aI V 900 f_9), (z 16, aI V 6 f_10), (z 24, aI V 10000 f_11), (z 25, aI V 40000 f_12), (z 26, aI V 10000 f_13), (z 28, aZ V 10000 f_14), (z 0, .inr (10, mo z 0 pz0_5 pz0_6 pz0_7 pz0_8 pz0_9 pz0_10 pz0_11 pz0_12 pz0_13 pz0_14 pz0_18 pz0_19 pz0_22 pz0_23 v_15)), (z 1, aI V 3075 fz1)] := hD
    have hP := subP (ws' := [(z 0, .inr (10, mo z 0 pz0_5 pz0_6 pz0_7 pz0_8 pz0_9 pz0_10 pz0_11 pz0_12 pz0_13 pz0_14 pz0_18 pz0_19 pz0_22 pz0_23 v_15)), (z 1, aI V 3075 fz1), (z 15, aI V 900 f_9), (z 16, aI V 6 f_10), (z 24, aI V 10000 f_11), (z 25, aI V 40000 f_12), (z 26, aI V 10000 f_13), (z 28, aZ V 10000 f_14)]) hP [6, 7, 0, 1, 2, 3, 4, 5] rfl
    have hD := hD.sub (ws' := [(z 0, .inr (10, mo z 0 pz0_5 pz0_6 pz0_7 pz0_8 pz0_9 pz0_10 pz0_11 pz0_12 pz0_13 pz0_14 pz0_18 pz0_19 pz0_22 pz0_23 v_15)), (z 1, aI V 3075 fz1), (z 15, aI V 900 f_9), (z 16, aI V 6 f_10), (z 24, aI V 10000 f_11), (z 25, aI V 40000 f_12), (z 26, aI V 10000 f_13), (z 28, aZ V 10000 f_14)]) [6, 7, 0, 1, 2, 3, 4, 5] rfl rfl
    exact fiI hx hb hr hlk hK hP hD hS dX10_soonest_29 (Nat.le_of_ble_eq_true rfl) (Nat.le_of_ble_eq_true rfl) (⟨0, v_15, f_9, f_10, f_11, f_12, f_13, f_14, bv_15, tf_10, tf_11, tf_12, tf_13, g_16, rfl⟩)
  · have b_22 : iv (-3) (-1) r_1 := iv_n1 c_4 br_1 (iv_c (0 : Int32) (a := 0) (b := 0) (by decide)) (by decide)
    refine lv_iload_n hx hb dX10_soonest_16 rfl (lv_at hl 0 rfl) ?_
    refine lv_goto (tgt := 29) hx hb dX10_soonest_17 (by decide) ?_
    have hP := subP (ws' := [(z 0, .inr (10, mo z 0 pz0_5 pz0_6 pz0_7 pz0_8 pz0_9 pz0_10 pz0_11 pz0_12 pz0_13 pz0_14 pz0_18 pz0_19 pz0_22 pz0_23 pz0_29)), (z 1, aI V 3075 fz1), (z 15, aI V 900 fz15), (z 16, aI V 6 fz16), (z 24, aI V 10000 fz24), (z 25, aI V 40000 fz25), (z 26, aI V 10000 fz26), (z 28, aZ V 10000 fz28)]) hP [6, 7, 0, 1, 2, 3, 4, 5] rfl
    have hD := hD.sub (ws' := [(z 0, .inr (10, mo z 0 pz0_5 pz0_6 pz0_7 pz0_8 pz0_9 pz0_10 pz0_11 pz0_12 pz0_13 pz0_14 pz0_18 pz0_19 pz0_22 pz0_23 pz0_29)), (z 1, aI V 3075 fz1), (z 15, aI V 900 fz15), (z 16, aI V 6 fz16), (z 24, aI V 10000 fz24), (z 25, aI V 40000 fz25), (z 26, aI V 10000 fz26), (z 28, aZ V 10000 fz28)]) [6, 7, 0, 1, 2, 3, 4, 5] rfl rfl
    exact fiI hx hb hr hlk hK hP hD hS dX10_soonest_29 (Nat.le_of_ble_eq_true rfl) (Nat.le_of_ble_eq_true rfl) (⟨0, pz0_29, fz15, fz16, fz24, fz25, fz26, fz28, bpz0_29, tfz16, tfz24, tfz25, tfz26, hf0, rfl⟩)
theorem dX10_way_0 : decode cX10_way 0 = .ok (.aload_n 0, 1) := by decide +kernel
theorem dX10_way_1 : decode cX10_way 1 = .ok (.iconst 0, 1) := by decide +kernel
theorem dX10_way_2 : decode cX10_way 2 = .ok (.putfield 1, 3) := by decide +kernel
theorem dX10_way_5 : decode cX10_way 5 = .ok (.aload_n 0, 1) := by decide +kernel
theorem dX10_way_6 : decode cX10_way 6 = .ok (.iload_n 1, 1) := by decide +kernel
theorem dX10_way_7 : decode cX10_way 7 = .ok (.iload_n 2, 1) := by decide +kernel
theorem dX10_way_8 : decode cX10_way 8 = .ok (.invokevirtual 373, 3) := by decide +kernel
theorem dX10_way_11 : decode cX10_way 11 = .ok (.istore 4, 2) := by decide +kernel
theorem dX10_way_13 : decode cX10_way 13 = .ok (.iload 4, 2) := by decide +kernel
theorem dX10_way_15 : decode cX10_way 15 = .ok (.ifCond .eq 6, 3) := by decide +kernel
theorem dX10_way_21 : decode cX10_way 21 = .ok (.iload_n 3, 1) := by decide +kernel
theorem dX10_way_22 : decode cX10_way 22 = .ok (.ifCond .ge 6, 3) := by decide +kernel
theorem dX10_way_28 : decode cX10_way 28 = .ok (.aload_n 0, 1) := by decide +kernel
theorem dX10_way_29 : decode cX10_way 29 = .ok (.iload_n 1, 1) := by decide +kernel
theorem dX10_way_30 : decode cX10_way 30 = .ok (.iload_n 2, 1) := by decide +kernel
theorem dX10_way_31 : decode cX10_way 31 = .ok (.invokevirtual 376, 3) := by decide +kernel
theorem dX10_way_34 : decode cX10_way 34 = .ok (.pop, 1) := by decide +kernel
theorem dX10_way_35 : decode cX10_way 35 = .ok (.aload_n 0, 1) := by decide +kernel
theorem dX10_way_36 : decode cX10_way 36 = .ok (.invokevirtual 269, 3) := by decide +kernel
theorem dX10_way_39 : decode cX10_way 39 = .ok (.istore 5, 2) := by decide +kernel
theorem dX10_way_41 : decode cX10_way 41 = .ok (.iconst 0, 1) := by decide +kernel
theorem dX10_way_42 : decode cX10_way 42 = .ok (.istore 6, 2) := by decide +kernel
theorem dX10_way_44 : decode cX10_way 44 = .ok (.aload_n 0, 1) := by decide +kernel
theorem dX10_way_45 : decode cX10_way 45 = .ok (.getfield 52, 3) := by decide +kernel
theorem dX10_way_48 : decode cX10_way 48 = .ok (.iload 5, 2) := by decide +kernel
theorem dX10_way_50 : decode cX10_way 50 = .ok (.iaload, 1) := by decide +kernel
theorem dX10_way_51 : decode cX10_way 51 = .ok (.ifCond .le 72, 3) := by decide +kernel
theorem dX10_way_123 : decode cX10_way 123 = .ok (.iconst (-1), 1) := by decide +kernel
theorem dX10_way_124 : decode cX10_way 124 = .ok (.ireturn, 1) := by decide +kernel
theorem dX10_way_54 : decode cX10_way 54 = .ok (.aload_n 0, 1) := by decide +kernel
theorem dX10_way_55 : decode cX10_way 55 = .ok (.getfield 52, 3) := by decide +kernel
theorem dX10_way_58 : decode cX10_way 58 = .ok (.iload 5, 2) := by decide +kernel
theorem dX10_way_60 : decode cX10_way 60 = .ok (.iaload, 1) := by decide +kernel
theorem dX10_way_61 : decode cX10_way 61 = .ok (.ldc_w 361, 3) := by decide +kernel
theorem dX10_way_64 : decode cX10_way 64 = .ok (.if_icmp .ge 59, 3) := by decide +kernel
theorem dX10_way_67 : decode cX10_way 67 = .ok (.iconst 0, 1) := by decide +kernel
theorem dX10_way_68 : decode cX10_way 68 = .ok (.istore 7, 2) := by decide +kernel
theorem dX10_way_70 : decode cX10_way 70 = .ok (.aload_n 0, 1) := by decide +kernel
theorem dX10_way_71 : decode cX10_way 71 = .ok (.iload 5, 2) := by decide +kernel
theorem dX10_way_73 : decode cX10_way 73 = .ok (.iload 7, 2) := by decide +kernel
theorem dX10_way_75 : decode cX10_way 75 = .ok (.invokevirtual 365, 3) := by decide +kernel
theorem dX10_way_78 : decode cX10_way 78 = .ok (.aload_n 0, 1) := by decide +kernel
theorem dX10_way_79 : decode cX10_way 79 = .ok (.getfield 52, 3) := by decide +kernel
theorem dX10_way_82 : decode cX10_way 82 = .ok (.iload 5, 2) := by decide +kernel
theorem dX10_way_84 : decode cX10_way 84 = .ok (.iaload, 1) := by decide +kernel
theorem dX10_way_85 : decode cX10_way 85 = .ok (.if_icmp .eq 9, 3) := by decide +kernel
theorem dX10_way_94 : decode cX10_way 94 = .ok (.iload 6, 2) := by decide +kernel
theorem dX10_way_96 : decode cX10_way 96 = .ok (.iload_n 3, 1) := by decide +kernel
theorem dX10_way_97 : decode cX10_way 97 = .ok (.if_icmp .ne 6, 3) := by decide +kernel
theorem dX10_way_103 : decode cX10_way 103 = .ok (.aload_n 0, 1) := by decide +kernel
theorem dX10_way_104 : decode cX10_way 104 = .ok (.getfield 49, 3) := by decide +kernel
theorem dX10_way_107 : decode cX10_way 107 = .ok (.iconst 4, 1) := by decide +kernel
theorem dX10_way_108 : decode cX10_way 108 = .ok (.iload 5, 2) := by decide +kernel
theorem dX10_way_110 : decode cX10_way 110 = .ok (.imul, 1) := by decide +kernel
theorem dX10_way_111 : decode cX10_way 111 = .ok (.iload 7, 2) := by decide +kernel
theorem dX10_way_113 : decode cX10_way 113 = .ok (.iadd, 1) := by decide +kernel
theorem dX10_way_114 : decode cX10_way 114 = .ok (.iaload, 1) := by decide +kernel
theorem dX10_way_115 : decode cX10_way 115 = .ok (.istore 5, 2) := by decide +kernel
theorem dX10_way_117 : decode cX10_way 117 = .ok (.iinc 6 1, 3) := by decide +kernel
theorem dX10_way_120 : decode cX10_way 120 = .ok (.goto (-76), 3) := by decide +kernel
theorem dX10_way_100 : decode cX10_way 100 = .ok (.iload 7, 2) := by decide +kernel
theorem dX10_way_102 : decode cX10_way 102 = .ok (.ireturn, 1) := by decide +kernel
theorem dX10_way_88 : decode cX10_way 88 = .ok (.iinc 7 1, 3) := by decide +kernel
theorem dX10_way_91 : decode cX10_way 91 = .ok (.goto (-21), 3) := by decide +kernel
theorem dX10_way_25 : decode cX10_way 25 = .ok (.bipush (-3), 2) := by decide +kernel
theorem dX10_way_27 : decode cX10_way 27 = .ok (.ireturn, 1) := by decide +kernel
theorem dX10_way_18 : decode cX10_way 18 = .ok (.iload 4, 2) := by decide +kernel
theorem dX10_way_20 : decode cX10_way 20 = .ok (.ireturn, 1) := by decide +kernel
set_option maxHeartbeats 4000000 in
set_option maxRecDepth 100000 in
theorem k_X10_way_0 (l : Launch) (V : GV) (z : Nat → Nat) (a1 : Int32) (a2 : Int32) (a3 : Int32) (pz0_0 : Int32) (pz0_5 : Int32) (pz0_6 : Int32) (pz0_7 : Int32) (pz0_8 : Int32) (pz0_9 : Int32) (pz0_10 : Int32) (pz0_11 : Int32) (pz0_12 : Int32) (pz0_13 : Int32) (pz0_14 : Int32) (pz0_18 : Int32) (pz0_19 : Int32) (pz0_22 : Int32) (pz0_23 : Int32) (pz0_29 : Int32) (fz1 : Nat → Int32) (fz15 : Nat → Int32) (fz16 : Nat → Int32) (fz24 : Nat → Int32) (fz25 : Nat → Int32) (fz26 : Nat → Int32) (fz28 : Nat → Int32) (bpz0_5 : iv 0 900 pz0_5) (bpz0_6 : iv 0 900 pz0_6) (bpz0_7 : iv 0 900 pz0_7) (bpz0_8 : iv 0 900 pz0_8) (bpz0_10 : iv 0 999 pz0_10) (bpz0_11 : iv 0 4 pz0_11) (bpz0_12 : iv 0 900 pz0_12) (bpz0_13 : iv 0 4 pz0_13) (bpz0_14 : iv (-1) 900 pz0_14) (bpz0_18 : iv 0 2 pz0_18) (bpz0_22 : iv 0 9999 pz0_22) (bpz0_29 : iv 0 10000 pz0_29) (tfz1 : ivT tA fz1) (tfz16 : ivT tW fz16) (tfz24 : ∀ j, iv 0 9999 (fz24 j)) (tfz25 : ∀ j, iv (-1) 9999 (fz25 j)) (tfz26 : ∀ j, iv 0 268435456 (fz26 j)) (hf0 : RW fz1) : Ct l V yX10_way (.code yX10_way cX10_way 8 (some .int)) 7 [.ref (z 0), .int a1, .int a2, .int a3] [(z 0, .inr (10, mo z pz0_0 pz0_5 pz0_6 pz0_7 pz0_8 pz0_9 pz0_10 pz0_11 pz0_12 pz0_13 pz0_14 pz0_18 pz0_19 pz0_22 pz0_23 pz0_29)), (z 1, aI V 3075 fz1), (z 15, aI V 900 fz15), (z 16, aI V 6 fz16), (z 24, aI V 10000 fz24), (z 25, aI V 40000 fz25), (z 26, aI V 10000 fz26), (z 28, aZ V 10000 fz28)] 0 0 (QI V (fun (r : Int32) (w : va_W) => ∃ (v0 : Int32) (v1 : Int32) (g2 : Nat → Int32) (g3 : Nat → Int32) (g4 : Nat → Int32) (g5 : Nat → Int32) (g6 : Nat → Int32) (g7 : Nat → Int32), iv 0 10000 v1 ∧ (ivT tW g3) ∧ (∀ j, iv 0 9999 (g4 j)) ∧ (∀ j, iv (-1) 9999 (g5 j)) ∧ (∀ j, iv 0 268435456 (g6 j)) ∧ iv (-3) 3 r ∧ (RW fz1) ∧ w = [(z 0, .inr (10, mo z v0 pz0_5 pz0_6 pz0_7 pz0_8 pz0_9 pz0_10 pz0_11 pz0_12 pz0_13 pz0_14 pz0_18 pz0_19 pz0_22 pz0_23 v1)), (z 1, aI V 3075 fz1), (z 15, aI V 900 g2), (z 16, aI V 6 g3), (z 24, aI V 10000 g4), (z 25, aI V 40000 g5), (z 26, aI V 10000 g6), (z 28, aZ V 10000 g7)])) := by
  refine Ct.of (by decide) (Nat.le_of_ble_eq_true rfl) (fun p e s m below meth c A ls hx hb hr hml hown hlk hnm hg hP hK hD hE hA hS hl => ?_)
  have hl : lv_has ls 8 [(0, .ref (z 0)), (1, .int a1), (2, .int a2), (3, .int a3)] := hl
  refine lv_aload_n hx hb dX10_way_0 rfl (lv_at hl 0 rfl) ?_
  refine lv_iconst (v := 0) hx hb dX10_way_1 (by decide) ?_
  refine va_put (ci := 10) (v := .int 0) (ty := .int) (C := RX10) (T := TX10) (N := 40) hx hb hg inX10 tyX10 tyX10_ok nmX10 hown hK hP hD hS 0 rfl rfl 0 (by decide) (hg _ q_5_224) (fun _ h9 => h9) rfl (by decide +kernel) rfl rfl (Nat.le_of_ble_eq_true rfl) dX10_way_2 (fun H locs hP hD hS => ?_)
  have hP : va_P V.1 vwCl [(z 0, .inr (10, mo z 0 pz0_5 pz0_6 pz0_7 pz0_8 pz0_9 pz0_10 pz0_11 pz0_12 pz0_13 pz0_14 pz0_18 pz0_19 pz0_22 pz0_23 pz0_29)), (z 1, aI V 3075 fz1), (z 15, aI V 900 fz15), (z 16, aI V 6 fz16), (z 24, aI V 10000 fz24), (z 25, aI V 40000 fz25), (z 26, aI V 10000 fz26), (z 28, aZ V 10000 fz28)] H := hP
  have hD : va_D A [(z 0, .inr (10, mo z 0 pz0_5 pz0_6 pz0_7 pz0_8 pz0_9 pz0_10 pz0_11 pz0_12 pz0_13 pz0_14 pz0_18 pz0_19 pz0_22 pz0_23 pz0_29)), (z 1, aI V 3075 fz1), (z 15, aI V 900 fz15), (z 16, aI V 6 fz16), (z 24, aI V 10000 fz24), (z 25, aI V 40000 fz25), (z 26, aI V 10000 fz26), (z 28, aZ V 10000 fz28)] := hD
  refine lv_aload_n hx hb dX10_way_5 rfl (lv_at hl 0 rfl) ?_
  refine lv_iload_n hx hb dX10_way_6 rfl (lv_at hl 1 rfl) ?_
  refine lv_iload_n hx hb dX10_way_7 rfl (lv_at hl 2 rfl) ?_
  refine jnI (wr := [(z 15, aI V 900 fz15), (z 16, aI V 6 fz16), (z 24, aI V 10000 fz24), (z 25, aI V 40000 fz25), (z 26, aI V 10000 fz26), (z 28, aZ V 10000 fz28)]) (rnV (rest := []) ⟨hx, hb, hml, hown, hg⟩ (k_X10_noHigh_0 l V z a1 a2 0 pz0_5 pz0_6 pz0_7 pz0_8 pz0_9 pz0_10 pz0_11 pz0_12 pz0_13 pz0_14 pz0_18 pz0_19 pz0_22 pz0_23 pz0_29 fz1 bpz0_5 bpz0_6 bpz0_7 bpz0_8 bpz0_10 bpz0_11 bpz0_12 bpz0_13 bpz0_14 bpz0_18 bpz0_22 bpz0_29 tfz1) mt_X10_noHigh q_7_182 ⟨Nat.le_of_ble_eq_true rfl, Nat.le_of_ble_eq_true rfl⟩ hK hP hD hS hA hE [0, 1] rfl rfl 0 rfl rfl rfl rfl hl.1 rfl (Nat.le_of_ble_eq_true rfl) dX10_way_8 ⟨Nat.le_of_ble_eq_true rfl, Nat.le_of_ble_eq_true rfl⟩) hP hD hS hA [0, 1] [2, 3, 4, 5, 6, 7] rfl rfl rfl (by decide) (fun r_1 w H locs hw hP hD hS => ?_)
  obtain ⟨br_1, g_2, g_3, rfl⟩ := hw
  have hP : va_P V.1 vwCl [(z 15, aI V 900 fz15), (z 16, aI V 6 fz16), (z 24, aI V 10000 fz24), (z 25, aI V 40000 fz25), (z 26, aI V 10000 fz26), (z 28, aZ V 10000 fz28), (z 0, .inr (10, mo z 0 pz0_5 pz0_6 pz0_7 pz0_8 pz0_9 pz0_10 pz0_11 pz0_12 pz0_13 pz0_14 pz0_18 pz0_19 pz0_22 pz0_23 pz0_29)), (z 1, aI V 3075 fz1)] H := hP
  have hD : va_D A [(z 15, aI V 900 fz15), (z 16, aI V 6 fz16), (z 24, aI V 10000 fz24), (z 25, aI V 40000 fz25), (z 26, aI V 10000 fz26), (z 28, aZ V 10000 fz28), (z 0, .inr (10, mo z 0 pz0_5 pz0_6 pz0_7 pz0_8 pz0_9 pz0_10 pz0_11 pz0_12 pz0_13 pz0_14 pz0_18 pz0_19 pz0_22 pz0_23 pz0_29)), (z 1, aI V 3075 fz1)] := hD
  refine lv_istore (lv' := [(4, .int r_1), (0, .ref (z 0)), (1, .int a1), (2, .int a2), (3, .int a3)]) hx hb dX10_way_11 hl (by decide) rfl (fun ls hl => ?_)
  refine lv_iload hx hb dX10_way_13 (lv_at hl 0 rfl) ?_
  refine lv_if_eq (tgt := 21) hx hb dX10_way_15 (by decide) (fun c_4 => ?_) (fun c_4 => ?_)
  · have b_5 : iv 0 0 r_1 := iv_q c_4 (iv_c (0 : Int32) (a := 0) (b := 0) (by decide))
    have b_6 : iv 0 3 a1 := iv_cap (g_2 (iv_eqp b_5 (iv_c (0 : Int32) (by decide)))) (iv_top a1) (by decide)
    have b_7 : iv 0 4 a2 := iv_cap (g_3 (iv_eqp b_5 (iv_c (0 : Int32) (by decide)))) (iv_top a2) (by decide)
    refine lv_iload_n hx hb dX10_way_21 rfl (lv_at hl 4 rfl) ?_
    refine lv_if_ge (tgt := 28) hx hb dX10_way_22 (by decide) (fun c_8 => ?_) (fun c_8 => ?_)
    · have b_9 : iv 0 2147483647 a3 := iv_e2 c_8 (iv_c (0 : Int32) (a := 0) (b := 0) (by decide)) (iv_top a3) (by decide)
      refine lv_aload_n hx hb dX10_way_28 rfl (lv_at hl 1 rfl) ?_
      refine lv_iload_n hx hb dX10_way_29 rfl (lv_at hl 2 rfl) ?_
      refine lv_iload_n hx hb dX10_way_30 rfl (lv_at hl 3 rfl) ?_
      refine jnI (wr := []) (rnV (rest := []) ⟨hx, hb, hml, hown, hg⟩ (k_X10_laysFar_0 l V z a1 a2 fz15 fz16 fz24 fz25 fz26 fz28 0 pz0_5 pz0_6 pz0_7 pz0_8 pz0_9 pz0_10 pz0_11 pz0_12 pz0_13 pz0_14 pz0_18 pz0_19 pz0_22 pz0_23 pz0_29 fz1 b_6 tfz16 tfz24 tfz25 tfz26 bpz0_5 bpz0_6 bpz0_7 bpz0_8 bpz0_10 bpz0_11 bpz0_12 bpz0_13 bpz0_14 bpz0_18 bpz0_22 bpz0_29 tfz1 hf0) mt_X10_laysFar q_7_190 ⟨Nat.le_of_ble_eq_true rfl, Nat.le_of_ble_eq_true rfl⟩ hK hP hD hS hA hE [0, 1, 2, 3, 4, 5, 6, 7] rfl rfl 6 rfl rfl rfl rfl hl.1 rfl (Nat.le_of_ble_eq_true rfl) dX10_way_31 ⟨Nat.le_of_ble_eq_true rfl, Nat.le_of_ble_eq_true rfl⟩) hP hD hS hA [0, 1, 2, 3, 4, 5, 6, 7] [] rfl rfl rfl (by decide) (fun r_10 w H locs hw hP hD hS => ?_)
      obtain ⟨f_11, f_12, f_13, f_14, f_15, f_16, v_17, tf_12, tf_13, tf_14, tf_15, bv_17, br_10, g_18, g_19, g_20, g_21, g_22, rfl⟩ := hw
      have hP : va_P V.1 vwCl [(z 15, aI V 900 f_11), (z 16, aI V 6 f_12), (z 24, aI V 10000 f_13), (z 25, aI V 40000 f_14), (z 26, aI V 10000 f_15), (z 28, aZ V 10000 f_16), (z 0, .inr (10, mo z 0 pz0_5 pz0_6 pz0_7 pz0_8 pz0_9 pz0_10 pz0_11 pz0_12 pz0_13 pz0_14 pz0_18 pz0_19 pz0_22 pz0_23 v_17)), (z 1, aI V 3075 fz1)] H := hP
      have hD : va_D A [(z 15, aI V 900 f_11), (z 16, aI V 6 f_12), (z 24, aI V 10000 f_13), (z 25, aI V 40000 f_14), (z 26, aI V 10000 f_15), (z 28, aZ V 10000 f_16), (z 0, .inr (10, mo z 0 pz0_5 pz0_6 pz0_7 pz0_8 pz0_9 pz0_10 pz0_11 pz0_12 pz0_13 pz0_14 pz0_18 pz0_19 pz0_22 pz0_23 v_17)), (z 1, aI V 3075 fz1)] := hD
      refine lv_pop hx hb dX10_way_34 rfl ?_
      refine lv_aload_n hx hb dX10_way_35 rfl (lv_at hl 1 rfl) ?_
      refine jnI (wr := [(z 15, aI V 900 f_11), (z 16, aI V 6 f_12), (z 24, aI V 10000 f_13), (z 25, aI V 40000 f_14), (z 26, aI V 10000 f_15), (z 28, aZ V 10000 f_16)]) (rnV (rest := []) ⟨hx, hb, hml, hown, hg⟩ (k_X10_standNow_0 l V z 0 pz0_5 pz0_6 pz0_7 pz0_8 pz0_9 pz0_10 pz0_11 pz0_12 pz0_13 pz0_14 pz0_18 pz0_19 pz0_22 pz0_23 v_17 fz1 bpz0_5 bpz0_6 bpz0_7 bpz0_8 bpz0_10 bpz0_11 bpz0_12 bpz0_13 bpz0_14 bpz0_18 bpz0_22 bv_17 tfz1) mt_X10_standNow q_7_11 ⟨Nat.le_of_ble_eq_true rfl, Nat.le_of_ble_eq_true rfl⟩ hK hP hD hS hA hE [6, 7] rfl rfl 6 rfl rfl rfl rfl hl.1 rfl (Nat.le_of_ble_eq_true rfl) dX10_way_36 ⟨Nat.le_of_ble_eq_true rfl, Nat.le_of_ble_eq_true rfl⟩) hP hD hS hA [6, 7] [0, 1, 2, 3, 4, 5] rfl rfl rfl (by decide) (fun r_23 w H locs hw hP hD hS => ?_)
      obtain ⟨br_23, er_23, rfl⟩ := hw
      have hP : va_P V.1 vwCl [(z 15, aI V 900 f_11), (z 16, aI V 6 f_12), (z 24, aI V 10000 f_13), (z 25, aI V 40000 f_14), (z 26, aI V 10000 f_15), (z 28, aZ V 10000 f_16), (z 0, .inr (10, mo z 0 pz0_5 pz0_6 pz0_7 pz0_8 pz0_9 pz0_10 pz0_11 pz0_12 pz0_13 pz0_14 pz0_18 pz0_19 pz0_22 pz0_23 v_17)), (z 1, aI V 3075 fz1)] H := hP
      have hD : va_D A [(z 15, aI V 900 f_11), (z 16, aI V 6 f_12), (z 24, aI V 10000 f_13), (z 25, aI V 40000 f_14), (z 26, aI V 10000 f_15), (z 28, aZ V 10000 f_16), (z 0, .inr (10, mo z 0 pz0_5 pz0_6 pz0_7 pz0_8 pz0_9 pz0_10 pz0_11 pz0_12 pz0_13 pz0_14 pz0_18 pz0_19 pz0_22 pz0_23 v_17)), (z 1, aI V 3075 fz1)] := hD
      refine lv_istore (lv' := [(5, .int r_23), (4, .int r_1), (0, .ref (z 0)), (1, .int a1), (2, .int a2), (3, .int a3)]) hx hb dX10_way_39 hl (by decide) rfl (fun ls hl => ?_)
      refine lv_iconst (v := 0) hx hb dX10_way_41 (by decide) ?_
      refine lv_istore (lv' := [(6, .int 0), (5, .int r_23), (4, .int r_1), (0, .ref (z 0)), (1, .int a1), (2, .int a2), (3, .int a3)]) hx hb dX10_way_42 hl (by decide) rfl (fun ls hl => ?_)
      refine loopF (X := fun (n_26 : Nat) (H : Heap) (locs : List Loc) (ls : Array Slot) => ∃ (u_24 : Int32) (u_25 : Int32), (iv 0 9999 u_25) ∧ (inS v_17 f_13 (u_25 : Int32).toNatClampNeg) ∧ (RW fz1) ∧ n_26 = (f_15 (u_25 : Int32).toNatClampNeg).toNatClampNeg ∧ va_P V.1 vwCl [(z 15, aI V 900 f_11), (z 16, aI V 6 f_12), (z 24, aI V 10000 f_13), (z 25, aI V 40000 f_14), (z 26, aI V 10000 f_15), (z 28, aZ V 10000 f_16), (z 0, .inr (10, mo z 0 pz0_5 pz0_6 pz0_7 pz0_8 pz0_9 pz0_10 pz0_11 pz0_12 pz0_13 pz0_14 pz0_18 pz0_19 pz0_22 pz0_23 v_17)), (z 1, aI V 3075 fz1)] H ∧ va_D A [(z 15, aI V 900 f_11), (z 16, aI V 6 f_12), (z 24, aI V 10000 f_13), (z 25, aI V 40000 f_14), (z 26, aI V 10000 f_15), (z 28, aZ V 10000 f_16), (z 0, .inr (10, mo z 0 pz0_5 pz0_6 pz0_7 pz0_8 pz0_9 pz0_10 pz0_11 pz0_12 pz0_13 pz0_14 pz0_18 pz0_19 pz0_22 pz0_23 v_17)), (z 1, aI V 3075 fz1)] ∧ va_S A s.heap H locs ∧ lv_has ls 8 [(6, .int u_24), (5, .int u_25), (4, .int r_1), (0, .ref (z 0)), (1, .int a1), (2, .int a2), (3, .int a3)]) (g := fun ls => F0 m 44 ls []) (fun n_26 H locs ls hX ihn_26 => ?_) _ ⟨0, r_23, br_23, (by rw [er_23]; exact g_20), g_18, rfl, hP, hD, hS, lv_sub hl [0, 1, 2, 3, 4, 5, 6] rfl⟩
      obtain ⟨u_24, u_25, bu_25, inn_26_0, inn_26_1, en_26, hP, hD, hS, hl⟩ := hX
      refine lv_aload_n hx hb dX10_way_44 rfl (lv_at hl 3 rfl) ?_
      refine va_get (ci := 10) (v := .ref (z 26)) (C := RX10) (T := TX10) (N := 40) hx hb hg inX10 hown hK hP 6 rfl rfl 26 (by decide) (hg _ q_6_10) (fun _ h9 => h9) rfl dX10_way_45 ?_
      refine lv_iload hx hb dX10_way_48 (lv_at hl 1 rfl) ?_
      refine va_iald hx hb hK hP 4 0 rfl rfl (iv_in bu_25 (by decide)) dX10_way_50 ?_
      refine lv_topi (fun x_27 ex_27 => ?_)
      have bx_27 : iv 0 268435456 x_27 := by rw [ex_27]; exact tf_15 _
      refine lv_if_le (tgt := 123) hx hb dX10_way_51 (by decide) (fun c_28 => ?_) (fun c_28 => ?_)
      · have b_29 : iv 0 0 x_27 := iv_e1 c_28 bx_27 (iv_c (0 : Int32) (a := 0) (b := 0) (by decide)) (by decide)
        refine lv_iconst (v := (-1)) hx hb dX10_way_123 (by decide) ?_
        have hP := subP (ws' := [(z 0, .inr (10, mo z 0 pz0_5 pz0_6 pz0_7 pz0_8 pz0_9 pz0_10 pz0_11 pz0_12 pz0_13 pz0_14 pz0_18 pz0_19 pz0_22 pz0_23 v_17)), (z 1, aI V 3075 fz1), (z 15, aI V 900 f_11), (z 16, aI V 6 f_12), (z 24, aI V 10000 f_13), (z 25, aI V 40000 f_14), (z 26, aI V 10000 f_15), (z 28, aZ V 10000 f_16)]) hP [6, 7, 0, 1, 2, 3, 4, 5] rfl
        have hD := hD.sub (ws' := [(z 0, .inr (10, mo z 0 pz0_5 pz0_6 pz0_7 pz0_8 pz0_9 pz0_10 pz0_11 pz0_12 pz0_13 pz0_14 pz0_18 pz0_19 pz0_22 pz0_23 v_17)), (z 1, aI V 3075 fz1), (z 15, aI V 900 f_11), (z 16, aI V 6 f_12), (z 24, aI V 10000 f_13), (z 25, aI V 40000 f_14), (z 26, aI V 10000 f_15), (z 28, aZ V 10000 f_16)]) [6, 7, 0, 1, 2, 3, 4, 5] rfl rfl
        exact fiI hx hb hr hlk hK hP hD hS dX10_way_124 (Nat.le_of_ble_eq_true rfl) (Nat.le_of_ble_eq_true rfl) (⟨0, v_17, f_11, f_12, f_13, f_14, f_15, f_16, bv_17, tf_12, tf_13, tf_14, tf_15, (iv_c ((-1) : Int32) (by decide)), inn_26_1, rfl⟩)
      · have b_30 : iv 1 268435456 x_27 := iv_l2 (Int32.not_le.mp c_28) (iv_c (0 : Int32) (a := 0) (b := 0) (by decide)) bx_27 (by decide)
        refine lv_aload_n hx hb dX10_way_54 rfl (lv_at hl 3 rfl) ?_
        refine va_get (ci := 10) (v := .ref (z 26)) (C := RX10) (T := TX10) (N := 40) hx hb hg inX10 hown hK hP 6 rfl rfl 26 (by decide) (hg _ q_6_10) (fun _ h9 => h9) rfl dX10_way_55 ?_
        refine lv_iload hx hb dX10_way_58 (lv_at hl 1 rfl) ?_
        refine va_iald hx hb hK hP 4 0 rfl rfl (iv_in bu_25 (by decide)) dX10_way_60 ?_
        refine tpi (y := x_27) ex_27.symm ?_
        refine lv_ldcw (v := 268435456) hx hb hown (hg _ q_7_202) dX10_way_61 ?_
        refine lv_icmp_ge (tgt := 123) hx hb dX10_way_64 (by decide) (fun c_31 => ?_) (fun c_31 => ?_)
        · have b_32 : iv 268435456 268435456 x_27 := iv_e2 c_31 (iv_c (268435456 : Int32) (a := 268435456) (b := 268435456) (by decide)) b_30 (by decide)
          refine lv_iconst (v := (-1)) hx hb dX10_way_123 (by decide) ?_
          have hP := subP (ws' := [(z 0, .inr (10, mo z 0 pz0_5 pz0_6 pz0_7 pz0_8 pz0_9 pz0_10 pz0_11 pz0_12 pz0_13 pz0_14 pz0_18 pz0_19 pz0_22 pz0_23 v_17)), (z 1, aI V 3075 fz1), (z 15, aI V 900 f_11), (z 16, aI V 6 f_12), (z 24, aI V 10000 f_13), (z 25, aI V 40000 f_14), (z 26, aI V 10000 f_15), (z 28, aZ V 10000 f_16)]) hP [6, 7, 0, 1, 2, 3, 4, 5] rfl
          have hD := hD.sub (ws' := [(z 0, .inr (10, mo z 0 pz0_5 pz0_6 pz0_7 pz0_8 pz0_9 pz0_10 pz0_11 pz0_12 pz0_13 pz0_14 pz0_18 pz0_19 pz0_22 pz0_23 v_17)), (z 1, aI V 3075 fz1), (z 15, aI V 900 f_11), (z 16, aI V 6 f_12), (z 24, aI V 10000 f_13), (z 25, aI V 40000 f_14), (z 26, aI V 10000 f_15), (z 28, aZ V 10000 f_16)]) [6, 7, 0, 1, 2, 3, 4, 5] rfl rfl
          exact fiI hx hb hr hlk hK hP hD hS dX10_way_124 (Nat.le_of_ble_eq_true rfl) (Nat.le_of_ble_eq_true rfl) (⟨0, v_17, f_11, f_12, f_13, f_14, f_15, f_16, bv_17, tf_12, tf_13, tf_14, tf_15, (iv_c ((-1) : Int32) (by decide)), inn_26_1, rfl⟩)
        · have b_33 : iv 1 268435455 x_27 := iv_l1 (Int32.not_le.mp c_31) b_30 (iv_c (268435456 : Int32) (a := 268435456) (b := 268435456) (by decide)) (by decide)
          refine lv_iconst (v := 0) hx hb dX10_way_67 (by decide) ?_
          refine lv_istore (lv' := [(7, .int 0), (6, .int u_24), (5, .int u_25), (4, .int r_1), (0, .ref (z 0)), (1, .int a1), (2, .int a2), (3, .int a3)]) hx hb dX10_way_68 hl (by decide) rfl (fun ls hl => ?_)
          refine loopF (X := fun (n_35 : Nat) (H : Heap) (locs : List Loc) (ls : Array Slot) => ∃ (u_34 : Int32), (iv 0 3 u_34) ∧ (WD u_34 x_27 f_14 f_15 (u_25 : Int32).toNatClampNeg) ∧ (RW fz1) ∧ n_35 = (2147483647 - (u_34 : Int32).toInt).toNat ∧ va_P V.1 vwCl [(z 15, aI V 900 f_11), (z 16, aI V 6 f_12), (z 24, aI V 10000 f_13), (z 25, aI V 40000 f_14), (z 26, aI V 10000 f_15), (z 28, aZ V 10000 f_16), (z 0, .inr (10, mo z 0 pz0_5 pz0_6 pz0_7 pz0_8 pz0_9 pz0_10 pz0_11 pz0_12 pz0_13 pz0_14 pz0_18 pz0_19 pz0_22 pz0_23 v_17)), (z 1, aI V 3075 fz1)] H ∧ va_D A [(z 15, aI V 900 f_11), (z 16, aI V 6 f_12), (z 24, aI V 10000 f_13), (z 25, aI V 40000 f_14), (z 26, aI V 10000 f_15), (z 28, aZ V 10000 f_16), (z 0, .inr (10, mo z 0 pz0_5 pz0_6 pz0_7 pz0_8 pz0_9 pz0_10 pz0_11 pz0_12 pz0_13 pz0_14 pz0_18 pz0_19 pz0_22 pz0_23 v_17)), (z 1, aI V 3075 fz1)] ∧ va_S A s.heap H locs ∧ lv_has ls 8 [(7, .int u_34), (6, .int u_24), (5, .int u_25), (4, .int r_1), (0, .ref (z 0)), (1, .int a1), (2, .int a2), (3, .int a3)]) (g := fun ls => F0 m 70 ls []) (fun n_35 H locs ls hX ihn_35 => ?_) _ ⟨0, (iv_c (0 : Int32) (by decide)), (by obtain ⟨j9, h9, e9⟩ := way_ex g_21 g_22 tf_15 inn_26_0 ex_27 (Int32.not_le.mp c_28) (Int32.not_le.mp c_31); exact ⟨j9, by have z9 : (0 : Int32).toInt = 0 := (by decide); omega, h9, e9⟩), inn_26_1, rfl, hP, hD, hS, lv_sub hl [0, 1, 2, 3, 4, 5, 6, 7] rfl⟩
          obtain ⟨u_34, bu_34, inn_35_0, inn_35_1, en_35, hP, hD, hS, hl⟩ := hX
          refine lv_aload_n hx hb dX10_way_70 rfl (lv_at hl 4 rfl) ?_
          refine lv_iload hx hb dX10_way_71 (lv_at hl 2 rfl) ?_
          refine lv_iload hx hb dX10_way_73 (lv_at hl 0 rfl) ?_
          refine jnI (wr := [(z 15, aI V 900 f_11), (z 16, aI V 6 f_12), (z 24, aI V 10000 f_13), (z 28, aZ V 10000 f_16), (z 1, aI V 3075 fz1)]) (rnV (rest := []) ⟨hx, hb, hml, hown, hg⟩ (k_X10_farBy_0 l V z u_25 u_34 f_15 f_14 0 pz0_5 pz0_6 pz0_7 pz0_8 pz0_9 pz0_10 pz0_11 pz0_12 pz0_13 pz0_14 pz0_18 pz0_19 pz0_22 pz0_23 v_17 bu_25 bu_34 tf_15 tf_14 bpz0_5 bpz0_6 bpz0_7 bpz0_8 bpz0_10 bpz0_11 bpz0_12 bpz0_13 bpz0_14 bpz0_18 bpz0_22 bv_17) mt_X10_farBy q_7_203 ⟨Nat.le_of_ble_eq_true rfl, Nat.le_of_ble_eq_true rfl⟩ hK hP hD hS hA hE [4, 3, 6] rfl rfl 6 rfl rfl rfl rfl hl.1 rfl (Nat.le_of_ble_eq_true rfl) dX10_way_75 ⟨Nat.le_of_ble_eq_true rfl, Nat.le_of_ble_eq_true rfl⟩) hP hD hS hA [4, 3, 6] [0, 1, 2, 5, 7] rfl rfl rfl (by decide) (fun r_36 w H locs hw hP hD hS => ?_)
          obtain ⟨br_36, er_36, rfl⟩ := hw
          have hP : va_P V.1 vwCl [(z 15, aI V 900 f_11), (z 16, aI V 6 f_12), (z 24, aI V 10000 f_13), (z 28, aZ V 10000 f_16), (z 1, aI V 3075 fz1), (z 26, aI V 10000 f_15), (z 25, aI V 40000 f_14), (z 0, .inr (10, mo z 0 pz0_5 pz0_6 pz0_7 pz0_8 pz0_9 pz0_10 pz0_11 pz0_12 pz0_13 pz0_14 pz0_18 pz0_19 pz0_22 pz0_23 v_17))] H := hP
          have hD : va_D A [(z 15, aI V 900 f_11), (z 16, aI V 6 f_12), (z 24, aI V 10000 f_13), (z 28, aZ V 10000 f_16), (z 1, aI V 3075 fz1), (z 26, aI V 10000 f_15), (z 25, aI V 40000 f_14), (z 0, .inr (10, mo z 0 pz0_5 pz0_6 pz0_7 pz0_8 pz0_9 pz0_10 pz0_11 pz0_12 pz0_13 pz0_14 pz0_18 pz0_19 pz0_22 pz0_23 v_17))] := hD
          refine lv_aload_n hx hb dX10_way_78 rfl (lv_at hl 4 rfl) ?_
          refine va_get (ci := 10) (v := .ref (z 26)) (C := RX10) (T := TX10) (N := 40) hx hb hg inX10 hown hK hP 7 rfl rfl 26 (by decide) (hg _ q_6_10) (fun _ h9 => h9) rfl dX10_way_79 ?_
          refine lv_iload hx hb dX10_way_82 (lv_at hl 2 rfl) ?_
          refine va_iald hx hb hK hP 5 0 rfl rfl (iv_in bu_25 (by decide)) dX10_way_84 ?_
          refine tpi (y := x_27) ex_27.symm ?_
          refine lv_icmp_eq (tgt := 94) hx hb dX10_way_85 (by decide) (fun c_37 => ?_) (fun c_37 => ?_)
          · have b_38 : iv 1 268435455 r_36 := iv_q c_37 b_33
            refine lv_iload hx hb dX10_way_94 (lv_at hl 1 rfl) ?_
            refine lv_iload_n hx hb dX10_way_96 rfl (lv_at hl 7 rfl) ?_
            refine lv_icmp_ne (tgt := 103) hx hb dX10_way_97 (by decide) (fun c_39 => ?_) (fun c_39 => ?_)
            · refine lv_aload_n hx hb dX10_way_103 rfl (lv_at hl 4 rfl) ?_
              refine va_get (ci := 10) (v := .ref (z 25)) (C := RX10) (T := TX10) (N := 40) hx hb hg inX10 hown hK hP 7 rfl rfl 25 (by decide) (hg _ q_6_9) (fun _ h9 => h9) rfl dX10_way_104 ?_
              refine lv_iconst (v := 4) hx hb dX10_way_107 (by decide) ?_
              refine lv_iload hx hb dX10_way_108 (lv_at hl 2 rfl) ?_
              refine lv_imul hx hb dX10_way_110 ?_
              refine lv_topi (fun x_40 ex_40 => ?_)
              have bx_40 : iv 0 39996 x_40 := by rw [ex_40]; exact iv_cmul (iv_c (4 : Int32) (a := 4) (b := 4) (by decide)) bu_25 (by decide)
              refine lv_iload hx hb dX10_way_111 (lv_at hl 0 rfl) ?_
              refine lv_iadd hx hb dX10_way_113 ?_
              refine lv_topi (fun x_41 ex_41 => ?_)
              have bx_41 : iv 0 39999 x_41 := by rw [ex_41]; exact iv_add bx_40 bu_34 (by decide)
              refine va_iald hx hb hK hP 6 0 rfl rfl (iv_in bx_41 (by decide)) dX10_way_114 ?_
              refine lv_topi (fun x_42 ex_42 => ?_)
              have bx_42 : iv (-1) 9999 x_42 := by rw [ex_42]; exact tf_14 _
              have b_43 : iv 0 9999 x_42 := iv_n0 (way_to g_19 inn_26_0 tf_15 (by rw [c_37]; exact (Int32.not_le.mp c_31)) er_36 bu_25 bu_34 (by decide) ex_40 ex_41 ex_42).1 bx_42 (iv_c (-1 : Int32) (a := -1) (b := -1) (by decide)) (by decide)
              refine lv_istore (lv' := [(5, .int x_42), (7, .int u_34), (6, .int u_24), (4, .int r_1), (0, .ref (z 0)), (1, .int a1), (2, .int a2), (3, .int a3)]) hx hb dX10_way_115 hl (by decide) rfl (fun ls hl => ?_)
              obtain ⟨x_44, ex_44⟩ : ∃ z9 : Int32, z9 = u_24 + 1 := ⟨_, rfl⟩
              refine lv_iinc (v := x_44) (lv' := [(6, .int x_44), (5, .int x_42), (7, .int u_34), (4, .int r_1), (0, .ref (z 0)), (1, .int a1), (2, .int a2), (3, .int a3)]) hx hb dX10_way_117 hl (k := 2) rfl (by rw [ex_44]; rfl) (by decide) rfl (fun ls hl => ?_)
              refine lv_goto (tgt := 44) hx hb dX10_way_120 (by decide) ?_
              have hP := subP (ws' := [(z 15, aI V 900 f_11), (z 16, aI V 6 f_12), (z 24, aI V 10000 f_13), (z 25, aI V 40000 f_14), (z 26, aI V 10000 f_15), (z 28, aZ V 10000 f_16), (z 0, .inr (10, mo z 0 pz0_5 pz0_6 pz0_7 pz0_8 pz0_9 pz0_10 pz0_11 pz0_12 pz0_13 pz0_14 pz0_18 pz0_19 pz0_22 pz0_23 v_17)), (z 1, aI V 3075 fz1)]) hP [0, 1, 2, 6, 5, 3, 7, 4] rfl
              have hD := hD.sub (ws' := [(z 15, aI V 900 f_11), (z 16, aI V 6 f_12), (z 24, aI V 10000 f_13), (z 25, aI V 40000 f_14), (z 26, aI V 10000 f_15), (z 28, aZ V 10000 f_16), (z 0, .inr (10, mo z 0 pz0_5 pz0_6 pz0_7 pz0_8 pz0_9 pz0_10 pz0_11 pz0_12 pz0_13 pz0_14 pz0_18 pz0_19 pz0_22 pz0_23 v_17)), (z 1, aI V 3075 fz1)]) [0, 1, 2, 6, 5, 3, 7, 4] rfl rfl
              exact ihn_26 _ _ _ _ (by rw [en_26]; have q9 := (way_to g_19 inn_26_0 tf_15 (by rw [c_37]; exact (Int32.not_le.mp c_31)) er_36 bu_25 bu_34 (by decide) ex_40 ex_41 ex_42).2.2; have q8 := tf_15 (x_42 : Int32).toNatClampNeg; rw [c_37] at q9; have q7 := clampNat (x := f_15 (x_42 : Int32).toNatClampNeg) q8.1; have q6 := clampNat (x := x_27) (by have q5 := b_33; unfold iv at q5; omega); rw [← ex_27]; omega) ⟨x_44, x_42, b_43, (way_to g_19 inn_26_0 tf_15 (by rw [c_37]; exact (Int32.not_le.mp c_31)) er_36 bu_25 bu_34 (by decide) ex_40 ex_41 ex_42).2.1, inn_35_1, rfl, hP, hD, hS, lv_sub hl [0, 1, 3, 4, 5, 6, 7] rfl⟩
            · have b_45 : iv 0 2147483647 u_24 := iv_q c_39 b_9
              refine lv_iload hx hb dX10_way_100 (lv_at hl 0 rfl) ?_
              have hP := subP (ws' := [(z 0, .inr (10, mo z 0 pz0_5 pz0_6 pz0_7 pz0_8 pz0_9 pz0_10 pz0_11 pz0_12 pz0_13 pz0_14 pz0_18 pz0_19 pz0_22 pz0_23 v_17)), (z 1, aI V 3075 fz1), (z 15, aI V 900 f_11), (z 16, aI V 6 f_12), (z 24, aI V 10000 f_13), (z 25, aI V 40000 f_14), (z 26, aI V 10000 f_15), (z 28, aZ V 10000 f_16)]) hP [7, 4, 0, 1, 2, 6, 5, 3] rfl
              have hD := hD.sub (ws' := [(z 0, .inr (10, mo z 0 pz0_5 pz0_6 pz0_7 pz0_8 pz0_9 pz0_10 pz0_11 pz0_12 pz0_13 pz0_14 pz0_18 pz0_19 pz0_22 pz0_23 v_17)), (z 1, aI V 3075 fz1), (z 15, aI V 900 f_11), (z 16, aI V 6 f_12), (z 24, aI V 10000 f_13), (z 25, aI V 40000 f_14), (z 26, aI V 10000 f_15), (z 28, aZ V 10000 f_16)]) [7, 4, 0, 1, 2, 6, 5, 3] rfl rfl
              exact fiI hx hb hr hlk hK hP hD hS dX10_way_102 (Nat.le_of_ble_eq_true rfl) (Nat.le_of_ble_eq_true rfl) (⟨0, v_17, f_11, f_12, f_13, f_14, f_15, f_16, bv_17, tf_12, tf_13, tf_14, tf_15, (iv_w bu_34 (by decide)), inn_35_1, rfl⟩)
          · have b_46 : iv 0 2 u_34 := WD_b inn_35_0 er_36 c_37 bu_34 (by decide)
            obtain ⟨x_47, ex_47⟩ : ∃ z9 : Int32, z9 = u_34 + 1 := ⟨_, rfl⟩
            have bx_47 : iv 1 3 x_47 := by rw [ex_47]; exact iv_add b_46 (iv_c (1 : Int32) (a := 1) (b := 1) (by decide)) (by decide)
            refine lv_iinc (v := x_47) (lv' := [(7, .int x_47), (6, .int u_24), (5, .int u_25), (4, .int r_1), (0, .ref (z 0)), (1, .int a1), (2, .int a2), (3, .int a3)]) hx hb dX10_way_88 hl (k := 0) rfl (by rw [ex_47]; rfl) (by decide) rfl (fun ls hl => ?_)
            refine lv_goto (tgt := 70) hx hb dX10_way_91 (by decide) ?_
            have hP := subP (ws' := [(z 15, aI V 900 f_11), (z 16, aI V 6 f_12), (z 24, aI V 10000 f_13), (z 25, aI V 40000 f_14), (z 26, aI V 10000 f_15), (z 28, aZ V 10000 f_16), (z 0, .inr (10, mo z 0 pz0_5 pz0_6 pz0_7 pz0_8 pz0_9 pz0_10 pz0_11 pz0_12 pz0_13 pz0_14 pz0_18 pz0_19 pz0_22 pz0_23 v_17)), (z 1, aI V 3075 fz1)]) hP [0, 1, 2, 6, 5, 3, 7, 4] rfl
            have hD := hD.sub (ws' := [(z 15, aI V 900 f_11), (z 16, aI V 6 f_12), (z 24, aI V 10000 f_13), (z 25, aI V 40000 f_14), (z 26, aI V 10000 f_15), (z 28, aZ V 10000 f_16), (z 0, .inr (10, mo z 0 pz0_5 pz0_6 pz0_7 pz0_8 pz0_9 pz0_10 pz0_11 pz0_12 pz0_13 pz0_14 pz0_18 pz0_19 pz0_22 pz0_23 v_17)), (z 1, aI V 3075 fz1)]) [0, 1, 2, 6, 5, 3, 7, 4] rfl rfl
            exact ihn_35 _ _ _ _ (by rw [en_35, ex_47]; exact mu_up b_46 (by decide)) ⟨x_47, (iv_w bx_47 (by decide)), (WD_s inn_35_0 er_36 c_37 b_46 (by decide) ex_47), inn_35_1, rfl, hP, hD, hS, lv_sub hl [0, 1, 2, 3, 4, 5, 6, 7] rfl⟩
    · have b_48 : iv (-2147483648) (-1) a3 := iv_l1 (Int32.not_le.mp c_8) (iv_top a3) (iv_c (0 : Int32) (a := 0) (b := 0) (by decide)) (by decide)
      refine lv_bipush (v := (-3)) hx hb dX10_way_25 (by decide) ?_
      have hP := subP (ws' := [(z 0, .inr (10, mo z 0 pz0_5 pz0_6 pz0_7 pz0_8 pz0_9 pz0_10 pz0_11 pz0_12 pz0_13 pz0_14 pz0_18 pz0_19 pz0_22 pz0_23 pz0_29)), (z 1, aI V 3075 fz1), (z 15, aI V 900 fz15), (z 16, aI V 6 fz16), (z 24, aI V 10000 fz24), (z 25, aI V 40000 fz25), (z 26, aI V 10000 fz26), (z 28, aZ V 10000 fz28)]) hP [6, 7, 0, 1, 2, 3, 4, 5] rfl
      have hD := hD.sub (ws' := [(z 0, .inr (10, mo z 0 pz0_5 pz0_6 pz0_7 pz0_8 pz0_9 pz0_10 pz0_11 pz0_12 pz0_13 pz0_14 pz0_18 pz0_19 pz0_22 pz0_23 pz0_29)), (z 1, aI V 3075 fz1), (z 15, aI V 900 fz15), (z 16, aI V 6 fz16), (z 24, aI V 10000 fz24), (z 25, aI V 40000 fz25), (z 26, aI V 10000 fz26), (z 28, aZ V 10000 fz28)]) [6, 7, 0, 1, 2, 3, 4, 5] rfl rfl
      exact fiI hx hb hr hlk hK hP hD hS dX10_way_27 (Nat.le_of_ble_eq_true rfl) (Nat.le_of_ble_eq_true rfl) (⟨0, pz0_29, fz15, fz16, fz24, fz25, fz26, fz28, bpz0_29, tfz16, tfz24, tfz25, tfz26, (iv_c ((-3) : Int32) (by decide)), hf0, rfl⟩)
  · have b_49 : iv (-3) (-1) r_1 := iv_n1 c_4 br_1 (iv_c (0 : Int32) (a := 0) (b := 0) (by decide)) (by decide)
    refine lv_iload hx hb dX10_way_18 (lv_at hl 0 rfl) ?_
    have hP := subP (ws' := [(z 0, .inr (10, mo z 0 pz0_5 pz0_6 pz0_7 pz0_8 pz0_9 pz0_10 pz0_11 pz0_12 pz0_13 pz0_14 pz0_18 pz0_19 pz0_22 pz0_23 pz0_29)), (z 1, aI V 3075 fz1), (z 15, aI V 900 fz15), (z 16, aI V 6 fz16), (z 24, aI V 10000 fz24), (z 25, aI V 40000 fz25), (z 26, aI V 10000 fz26), (z 28, aZ V 10000 fz28)]) hP [6, 7, 0, 1, 2, 3, 4, 5] rfl
    have hD := hD.sub (ws' := [(z 0, .inr (10, mo z 0 pz0_5 pz0_6 pz0_7 pz0_8 pz0_9 pz0_10 pz0_11 pz0_12 pz0_13 pz0_14 pz0_18 pz0_19 pz0_22 pz0_23 pz0_29)), (z 1, aI V 3075 fz1), (z 15, aI V 900 fz15), (z 16, aI V 6 fz16), (z 24, aI V 10000 fz24), (z 25, aI V 40000 fz25), (z 26, aI V 10000 fz26), (z 28, aZ V 10000 fz28)]) [6, 7, 0, 1, 2, 3, 4, 5] rfl rfl
    exact fiI hx hb hr hlk hK hP hD hS dX10_way_20 (Nat.le_of_ble_eq_true rfl) (Nat.le_of_ble_eq_true rfl) (⟨0, pz0_29, fz15, fz16, fz24, fz25, fz26, fz28, bpz0_29, tfz16, tfz24, tfz25, tfz26, (iv_w b_49 (by decide)), hf0, rfl⟩)
theorem dX10_beginsMany_0 : decode cX10_beginsMany 0 = .ok (.iconst 0, 1) := by decide +kernel
theorem dX10_beginsMany_1 : decode cX10_beginsMany 1 = .ok (.istore_n 1, 1) := by decide +kernel
theorem dX10_beginsMany_2 : decode cX10_beginsMany 2 = .ok (.iload_n 1, 1) := by decide +kernel
theorem dX10_beginsMany_3 : decode cX10_beginsMany 3 = .ok (.sipush 10000, 3) := by decide +kernel
theorem dX10_beginsMany_6 : decode cX10_beginsMany 6 = .ok (.if_icmp .ge 35, 3) := by decide +kernel
theorem dX10_beginsMany_41 : decode cX10_beginsMany 41 = .ok (.return_, 1) := by decide +kernel
theorem dX10_beginsMany_9 : decode cX10_beginsMany 9 = .ok (.aload_n 0, 1) := by decide +kernel
theorem q_6_14 : Cond.fieldLink "BeaconDelayModel" 61 "BeaconDelayModel" "many" "[J" ∈ gw := gw_6 (i := 14) (by decide +kernel) rfl
theorem dX10_beginsMany_10 : decode cX10_beginsMany 10 = .ok (.getfield 61, 3) := by decide +kernel
theorem dX10_beginsMany_13 : decode cX10_beginsMany 13 = .ok (.iload_n 1, 1) := by decide +kernel
theorem dX10_beginsMany_14 : decode cX10_beginsMany 14 = .ok (.iload_n 1, 1) := by decide +kernel
theorem dX10_beginsMany_15 : decode cX10_beginsMany 15 = .ok (.aload_n 0, 1) := by decide +kernel
theorem dX10_beginsMany_16 : decode cX10_beginsMany 16 = .ok (.invokevirtual 269, 3) := by decide +kernel
theorem dX10_beginsMany_19 : decode cX10_beginsMany 19 = .ok (.if_icmp .ne 7, 3) := by decide +kernel
theorem dX10_beginsMany_26 : decode cX10_beginsMany 26 = .ok (.lconst 0, 1) := by decide +kernel
theorem dX10_beginsMany_27 : decode cX10_beginsMany 27 = .ok (.lastore, 1) := by decide +kernel
theorem dX10_beginsMany_28 : decode cX10_beginsMany 28 = .ok (.aload_n 0, 1) := by decide +kernel
theorem q_6_15 : Cond.fieldLink "BeaconDelayModel" 65 "BeaconDelayModel" "manyThen" "[J" ∈ gw := gw_6 (i := 15) (by decide +kernel) rfl
theorem dX10_beginsMany_29 : decode cX10_beginsMany 29 = .ok (.getfield 65, 3) := by decide +kernel
theorem dX10_beginsMany_32 : decode cX10_beginsMany 32 = .ok (.iload_n 1, 1) := by decide +kernel
theorem dX10_beginsMany_33 : decode cX10_beginsMany 33 = .ok (.lconst 0, 1) := by decide +kernel
theorem dX10_beginsMany_34 : decode cX10_beginsMany 34 = .ok (.lastore, 1) := by decide +kernel
theorem dX10_beginsMany_35 : decode cX10_beginsMany 35 = .ok (.iinc 1 1, 3) := by decide +kernel
theorem dX10_beginsMany_38 : decode cX10_beginsMany 38 = .ok (.goto (-36), 3) := by decide +kernel
theorem dX10_beginsMany_22 : decode cX10_beginsMany 22 = .ok (.lconst 1, 1) := by decide +kernel
theorem dX10_beginsMany_23 : decode cX10_beginsMany 23 = .ok (.goto 4, 3) := by decide +kernel
set_option maxHeartbeats 4000000 in
set_option maxRecDepth 100000 in
theorem k_X10_beginsMany_0 (l : Launch) (V : GV) (z : Nat → Nat) (fz30 : Nat → Int64) (fz31 : Nat → Int64) (pz0_0 : Int32) (pz0_5 : Int32) (pz0_6 : Int32) (pz0_7 : Int32) (pz0_8 : Int32) (pz0_9 : Int32) (pz0_10 : Int32) (pz0_11 : Int32) (pz0_12 : Int32) (pz0_13 : Int32) (pz0_14 : Int32) (pz0_18 : Int32) (pz0_19 : Int32) (pz0_22 : Int32) (pz0_23 : Int32) (pz0_29 : Int32) (fz1 : Nat → Int32) (bpz0_5 : iv 0 900 pz0_5) (bpz0_6 : iv 0 900 pz0_6) (bpz0_7 : iv 0 900 pz0_7) (bpz0_8 : iv 0 900 pz0_8) (bpz0_10 : iv 0 999 pz0_10) (bpz0_11 : iv 0 4 pz0_11) (bpz0_12 : iv 0 900 pz0_12) (bpz0_13 : iv 0 4 pz0_13) (bpz0_14 : iv (-1) 900 pz0_14) (bpz0_18 : iv 0 2 pz0_18) (bpz0_22 : iv 0 9999 pz0_22) (bpz0_29 : iv 0 10000 pz0_29) (tfz1 : ivT tA fz1) : Ct l V yX10_beginsMany (.code yX10_beginsMany cX10_beginsMany 2 none) 3 [.ref (z 0)] [(z 30, aJ V 10000 fz30), (z 31, aJ V 10000 fz31), (z 0, .inr (10, mo z pz0_0 pz0_5 pz0_6 pz0_7 pz0_8 pz0_9 pz0_10 pz0_11 pz0_12 pz0_13 pz0_14 pz0_18 pz0_19 pz0_22 pz0_23 pz0_29)), (z 1, aI V 3075 fz1)] 0 0 (QV V (fun (w : va_W) => ∃ (g0 : Nat → Int64) (g1 : Nat → Int64), w = [(z 30, aJ V 10000 g0), (z 31, aJ V 10000 g1), (z 0, .inr (10, mo z pz0_0 pz0_5 pz0_6 pz0_7 pz0_8 pz0_9 pz0_10 pz0_11 pz0_12 pz0_13 pz0_14 pz0_18 pz0_19 pz0_22 pz0_23 pz0_29)), (z 1, aI V 3075 fz1)])) := by
  refine Ct.of (by decide) (Nat.le_of_ble_eq_true rfl) (fun p e s m below meth c A ls hx hb hr hml hown hlk hnm hg hP hK hD hE hA hS hl => ?_)
  have hl : lv_has ls 2 [(0, .ref (z 0))] := hl
  refine lv_iconst (v := 0) hx hb dX10_beginsMany_0 (by decide) ?_
  refine lv_istore_n (lv' := [(1, .int 0), (0, .ref (z 0))]) hx hb dX10_beginsMany_1 rfl hl (by decide) rfl (fun ls hl => ?_)
  refine loopF (X := fun (n_4 : Nat) (H : Heap) (locs : List Loc) (ls : Array Slot) => ∃ (u_1 : Int32) (f_2 : Nat → Int64) (f_3 : Nat → Int64), (iv 0 2147483647 u_1) ∧ n_4 = (2147483647 - (u_1 : Int32).toInt).toNat ∧ va_P V.1 vwCl [(z 30, aJ V 10000 f_2), (z 31, aJ V 10000 f_3), (z 0, .inr (10, mo z pz0_0 pz0_5 pz0_6 pz0_7 pz0_8 pz0_9 pz0_10 pz0_11 pz0_12 pz0_13 pz0_14 pz0_18 pz0_19 pz0_22 pz0_23 pz0_29)), (z 1, aI V 3075 fz1)] H ∧ va_D A [(z 30, aJ V 10000 f_2), (z 31, aJ V 10000 f_3), (z 0, .inr (10, mo z pz0_0 pz0_5 pz0_6 pz0_7 pz0_8 pz0_9 pz0_10 pz0_11 pz0_12 pz0_13 pz0_14 pz0_18 pz0_19 pz0_22 pz0_23 pz0_29)), (z 1, aI V 3075 fz1)] ∧ va_S A s.heap H locs ∧ lv_has ls 2 [(1, .int u_1), (0, .ref (z 0))]) (g := fun ls => F0 m 2 ls []) (fun n_4 H locs ls hX ihn_4 => ?_) _ ⟨0, fz30, fz31, (iv_c (0 : Int32) (by decide)), rfl, hP, hD, hS, lv_sub hl [0, 1] rfl⟩
  obtain ⟨u_1, f_2, f_3, bu_1, en_4, hP, hD, hS, hl⟩ := hX
  refine lv_iload_n hx hb dX10_beginsMany_2 rfl (lv_at hl 0 rfl) ?_
  refine lv_sipush (v := 10000) hx hb dX10_beginsMany_3 (by decide) ?_
  refine lv_icmp_ge (tgt := 41) hx hb dX10_beginsMany_6 (by decide) (fun c_5 => ?_) (fun c_5 => ?_)
  · have b_6 : iv 10000 2147483647 u_1 := iv_e2 c_5 (iv_c (10000 : Int32) (a := 10000) (b := 10000) (by decide)) bu_1 (by decide)
    exact fiV hx hb hr hlk hK hP hD hS dX10_beginsMany_41 (Nat.le_of_ble_eq_true rfl) (Nat.le_of_ble_eq_true rfl) (⟨f_2, f_3, rfl⟩)
  · have b_7 : iv 0 9999 u_1 := iv_l1 (Int32.not_le.mp c_5) bu_1 (iv_c (10000 : Int32) (a := 10000) (b := 10000) (by decide)) (by decide)
    refine lv_aload_n hx hb dX10_beginsMany_9 rfl (lv_at hl 1 rfl) ?_
    refine va_get (ci := 10) (v := .ref (z 30)) (C := RX10) (T := TX10) (N := 40) hx hb hg inX10 hown hK hP 2 rfl rfl 30 (by decide) (hg _ q_6_14) (fun _ h9 => h9) rfl dX10_beginsMany_10 ?_
    refine lv_iload_n hx hb dX10_beginsMany_13 rfl (lv_at hl 0 rfl) ?_
    refine lv_iload_n hx hb dX10_beginsMany_14 rfl (lv_at hl 0 rfl) ?_
    refine lv_aload_n hx hb dX10_beginsMany_15 rfl (lv_at hl 1 rfl) ?_
    refine jnI (wr := [(z 30, aJ V 10000 f_2), (z 31, aJ V 10000 f_3)]) (rnV (rest := [.int u_1, .int u_1, .ref (z 30)]) ⟨hx, hb, hml, hown, hg⟩ (k_X10_standNow_0 l V z pz0_0 pz0_5 pz0_6 pz0_7 pz0_8 pz0_9 pz0_10 pz0_11 pz0_12 pz0_13 pz0_14 pz0_18 pz0_19 pz0_22 pz0_23 pz0_29 fz1 bpz0_5 bpz0_6 bpz0_7 bpz0_8 bpz0_10 bpz0_11 bpz0_12 bpz0_13 bpz0_14 bpz0_18 bpz0_22 bpz0_29 tfz1) mt_X10_standNow q_7_11 ⟨Nat.le_of_ble_eq_true rfl, Nat.le_of_ble_eq_true rfl⟩ hK hP hD hS hA hE [2, 3] rfl rfl 2 rfl rfl rfl rfl hl.1 rfl (Nat.le_of_ble_eq_true rfl) dX10_beginsMany_16 ⟨Nat.le_of_ble_eq_true rfl, Nat.le_of_ble_eq_true rfl⟩) hP hD hS hA [2, 3] [0, 1] rfl rfl rfl (by decide) (fun r_8 w H locs hw hP hD hS => ?_)
    obtain ⟨br_8, er_8, rfl⟩ := hw
    have hP : va_P V.1 vwCl [(z 30, aJ V 10000 f_2), (z 31, aJ V 10000 f_3), (z 0, .inr (10, mo z pz0_0 pz0_5 pz0_6 pz0_7 pz0_8 pz0_9 pz0_10 pz0_11 pz0_12 pz0_13 pz0_14 pz0_18 pz0_19 pz0_22 pz0_23 pz0_29)), (z 1, aI V 3075 fz1)] H := hP
    have hD : va_D A [(z 30, aJ V 10000 f_2), (z 31, aJ V 10000 f_3), (z 0, .inr (10, mo z pz0_0 pz0_5 pz0_6 pz0_7 pz0_8 pz0_9 pz0_10 pz0_11 pz0_12 pz0_13 pz0_14 pz0_18 pz0_19 pz0_22 pz0_23 pz0_29)), (z 1, aI V 3075 fz1)] := hD
    refine lv_icmp_ne (tgt := 26) hx hb dX10_beginsMany_19 (by decide) (fun c_9 => ?_) (fun c_9 => ?_)
    · refine lv_lconst (v := 0) hx hb dX10_beginsMany_26 (by decide) ?_
      refine va_last hx hb hK hP hD hS 0 2 rfl rfl (iv_in b_7 (by decide)) dX10_beginsMany_27 (fun H locs hP hD hS => ?_)
      obtain ⟨f_10, hP, hD⟩ : ∃ f_10 : Nat → Int64, va_P V.1 vwCl [(z 30, aJ V 10000 f_10), (z 31, aJ V 10000 f_3), (z 0, .inr (10, mo z pz0_0 pz0_5 pz0_6 pz0_7 pz0_8 pz0_9 pz0_10 pz0_11 pz0_12 pz0_13 pz0_14 pz0_18 pz0_19 pz0_22 pz0_23 pz0_29)), (z 1, aI V 3075 fz1)] H ∧ va_D A [(z 30, aJ V 10000 f_10), (z 31, aJ V 10000 f_3), (z 0, .inr (10, mo z pz0_0 pz0_5 pz0_6 pz0_7 pz0_8 pz0_9 pz0_10 pz0_11 pz0_12 pz0_13 pz0_14 pz0_18 pz0_19 pz0_22 pz0_23 pz0_29)), (z 1, aI V 3075 fz1)] := ⟨_, hP, hD⟩
      refine lv_aload_n hx hb dX10_beginsMany_28 rfl (lv_at hl 1 rfl) ?_
      refine va_get (ci := 10) (v := .ref (z 31)) (C := RX10) (T := TX10) (N := 40) hx hb hg inX10 hown hK hP 2 rfl rfl 31 (by decide) (hg _ q_6_15) (fun _ h9 => h9) rfl dX10_beginsMany_29 ?_
      refine lv_iload_n hx hb dX10_beginsMany_32 rfl (lv_at hl 0 rfl) ?_
      refine lv_lconst (v := 0) hx hb dX10_beginsMany_33 (by decide) ?_
      refine va_last hx hb hK hP hD hS 1 2 rfl rfl (iv_in b_7 (by decide)) dX10_beginsMany_34 (fun H locs hP hD hS => ?_)
      obtain ⟨f_11, hP, hD⟩ : ∃ f_11 : Nat → Int64, va_P V.1 vwCl [(z 30, aJ V 10000 f_10), (z 31, aJ V 10000 f_11), (z 0, .inr (10, mo z pz0_0 pz0_5 pz0_6 pz0_7 pz0_8 pz0_9 pz0_10 pz0_11 pz0_12 pz0_13 pz0_14 pz0_18 pz0_19 pz0_22 pz0_23 pz0_29)), (z 1, aI V 3075 fz1)] H ∧ va_D A [(z 30, aJ V 10000 f_10), (z 31, aJ V 10000 f_11), (z 0, .inr (10, mo z pz0_0 pz0_5 pz0_6 pz0_7 pz0_8 pz0_9 pz0_10 pz0_11 pz0_12 pz0_13 pz0_14 pz0_18 pz0_19 pz0_22 pz0_23 pz0_29)), (z 1, aI V 3075 fz1)] := ⟨_, hP, hD⟩
      obtain ⟨x_12, ex_12⟩ : ∃ z9 : Int32, z9 = u_1 + 1 := ⟨_, rfl⟩
      have bx_12 : iv 1 10000 x_12 := by rw [ex_12]; exact iv_add b_7 (iv_c (1 : Int32) (a := 1) (b := 1) (by decide)) (by decide)
      refine lv_iinc (v := x_12) (lv' := [(1, .int x_12), (0, .ref (z 0))]) hx hb dX10_beginsMany_35 hl (k := 0) rfl (by rw [ex_12]; rfl) (by decide) rfl (fun ls hl => ?_)
      refine lv_goto (tgt := 2) hx hb dX10_beginsMany_38 (by decide) ?_
      exact ihn_4 _ _ _ _ (by rw [en_4, ex_12]; exact mu_up b_7 (by decide)) ⟨x_12, f_10, f_11, (iv_w bx_12 (by decide)), rfl, hP, hD, hS, lv_sub hl [0, 1] rfl⟩
    · refine lv_lconst (v := 1) hx hb dX10_beginsMany_22 (by decide) ?_
      refine lv_goto (tgt := 27) hx hb dX10_beginsMany_23 (by decide) ?_
      refine va_last hx hb hK hP hD hS 0 2 rfl rfl (iv_in b_7 (by decide)) dX10_beginsMany_27 (fun H locs hP hD hS => ?_)
      obtain ⟨f_13, hP, hD⟩ : ∃ f_13 : Nat → Int64, va_P V.1 vwCl [(z 30, aJ V 10000 f_13), (z 31, aJ V 10000 f_3), (z 0, .inr (10, mo z pz0_0 pz0_5 pz0_6 pz0_7 pz0_8 pz0_9 pz0_10 pz0_11 pz0_12 pz0_13 pz0_14 pz0_18 pz0_19 pz0_22 pz0_23 pz0_29)), (z 1, aI V 3075 fz1)] H ∧ va_D A [(z 30, aJ V 10000 f_13), (z 31, aJ V 10000 f_3), (z 0, .inr (10, mo z pz0_0 pz0_5 pz0_6 pz0_7 pz0_8 pz0_9 pz0_10 pz0_11 pz0_12 pz0_13 pz0_14 pz0_18 pz0_19 pz0_22 pz0_23 pz0_29)), (z 1, aI V 3075 fz1)] := ⟨_, hP, hD⟩
      refine lv_aload_n hx hb dX10_beginsMany_28 rfl (lv_at hl 1 rfl) ?_
      refine va_get (ci := 10) (v := .ref (z 31)) (C := RX10) (T := TX10) (N := 40) hx hb hg inX10 hown hK hP 2 rfl rfl 31 (by decide) (hg _ q_6_15) (fun _ h9 => h9) rfl dX10_beginsMany_29 ?_
      refine lv_iload_n hx hb dX10_beginsMany_32 rfl (lv_at hl 0 rfl) ?_
      refine lv_lconst (v := 0) hx hb dX10_beginsMany_33 (by decide) ?_
      refine va_last hx hb hK hP hD hS 1 2 rfl rfl (iv_in b_7 (by decide)) dX10_beginsMany_34 (fun H locs hP hD hS => ?_)
      obtain ⟨f_14, hP, hD⟩ : ∃ f_14 : Nat → Int64, va_P V.1 vwCl [(z 30, aJ V 10000 f_13), (z 31, aJ V 10000 f_14), (z 0, .inr (10, mo z pz0_0 pz0_5 pz0_6 pz0_7 pz0_8 pz0_9 pz0_10 pz0_11 pz0_12 pz0_13 pz0_14 pz0_18 pz0_19 pz0_22 pz0_23 pz0_29)), (z 1, aI V 3075 fz1)] H ∧ va_D A [(z 30, aJ V 10000 f_13), (z 31, aJ V 10000 f_14), (z 0, .inr (10, mo z pz0_0 pz0_5 pz0_6 pz0_7 pz0_8 pz0_9 pz0_10 pz0_11 pz0_12 pz0_13 pz0_14 pz0_18 pz0_19 pz0_22 pz0_23 pz0_29)), (z 1, aI V 3075 fz1)] := ⟨_, hP, hD⟩
      obtain ⟨x_15, ex_15⟩ : ∃ z9 : Int32, z9 = u_1 + 1 := ⟨_, rfl⟩
      have bx_15 : iv 1 10000 x_15 := by rw [ex_15]; exact iv_add b_7 (iv_c (1 : Int32) (a := 1) (b := 1) (by decide)) (by decide)
      refine lv_iinc (v := x_15) (lv' := [(1, .int x_15), (0, .ref (z 0))]) hx hb dX10_beginsMany_35 hl (k := 0) rfl (by rw [ex_15]; rfl) (by decide) rfl (fun ls hl => ?_)
      refine lv_goto (tgt := 2) hx hb dX10_beginsMany_38 (by decide) ?_
      exact ihn_4 _ _ _ _ (by rw [en_4, ex_15]; exact mu_up b_7 (by decide)) ⟨x_15, f_13, f_14, (iv_w bx_15 (by decide)), rfl, hP, hD, hS, lv_sub hl [0, 1] rfl⟩
theorem dX10_isThen_0 : decode cX10_isThen 0 = .ok (.iconst 0, 1) := by decide +kernel
theorem dX10_isThen_1 : decode cX10_isThen 1 = .ok (.istore_n 1, 1) := by decide +kernel
theorem dX10_isThen_2 : decode cX10_isThen 2 = .ok (.iload_n 1, 1) := by decide +kernel
theorem dX10_isThen_3 : decode cX10_isThen 3 = .ok (.sipush 10000, 3) := by decide +kernel
theorem dX10_isThen_6 : decode cX10_isThen 6 = .ok (.if_icmp .ge 28, 3) := by decide +kernel
theorem dX10_isThen_34 : decode cX10_isThen 34 = .ok (.return_, 1) := by decide +kernel
theorem dX10_isThen_9 : decode cX10_isThen 9 = .ok (.aload_n 0, 1) := by decide +kernel
theorem dX10_isThen_10 : decode cX10_isThen 10 = .ok (.getfield 61, 3) := by decide +kernel
theorem dX10_isThen_13 : decode cX10_isThen 13 = .ok (.iload_n 1, 1) := by decide +kernel
theorem dX10_isThen_14 : decode cX10_isThen 14 = .ok (.aload_n 0, 1) := by decide +kernel
theorem dX10_isThen_15 : decode cX10_isThen 15 = .ok (.getfield 65, 3) := by decide +kernel
theorem dX10_isThen_18 : decode cX10_isThen 18 = .ok (.iload_n 1, 1) := by decide +kernel
theorem dX10_isThen_19 : decode cX10_isThen 19 = .ok (.laload, 1) := by decide +kernel
theorem dX10_isThen_20 : decode cX10_isThen 20 = .ok (.lastore, 1) := by decide +kernel
theorem dX10_isThen_21 : decode cX10_isThen 21 = .ok (.aload_n 0, 1) := by decide +kernel
theorem dX10_isThen_22 : decode cX10_isThen 22 = .ok (.getfield 65, 3) := by decide +kernel
theorem dX10_isThen_25 : decode cX10_isThen 25 = .ok (.iload_n 1, 1) := by decide +kernel
theorem dX10_isThen_26 : decode cX10_isThen 26 = .ok (.lconst 0, 1) := by decide +kernel
theorem dX10_isThen_27 : decode cX10_isThen 27 = .ok (.lastore, 1) := by decide +kernel
theorem dX10_isThen_28 : decode cX10_isThen 28 = .ok (.iinc 1 1, 3) := by decide +kernel
theorem dX10_isThen_31 : decode cX10_isThen 31 = .ok (.goto (-29), 3) := by decide +kernel
set_option maxHeartbeats 4000000 in
set_option maxRecDepth 100000 in
theorem k_X10_isThen_0 (l : Launch) (V : GV) (z : Nat → Nat) (fz30 : Nat → Int64) (fz31 : Nat → Int64) (pz0_0 : Int32) (pz0_5 : Int32) (pz0_6 : Int32) (pz0_7 : Int32) (pz0_8 : Int32) (pz0_9 : Int32) (pz0_10 : Int32) (pz0_11 : Int32) (pz0_12 : Int32) (pz0_13 : Int32) (pz0_14 : Int32) (pz0_18 : Int32) (pz0_19 : Int32) (pz0_22 : Int32) (pz0_23 : Int32) (pz0_29 : Int32) (bpz0_5 : iv 0 900 pz0_5) (bpz0_6 : iv 0 900 pz0_6) (bpz0_7 : iv 0 900 pz0_7) (bpz0_8 : iv 0 900 pz0_8) (bpz0_10 : iv 0 999 pz0_10) (bpz0_11 : iv 0 4 pz0_11) (bpz0_12 : iv 0 900 pz0_12) (bpz0_13 : iv 0 4 pz0_13) (bpz0_14 : iv (-1) 900 pz0_14) (bpz0_18 : iv 0 2 pz0_18) (bpz0_22 : iv 0 9999 pz0_22) (bpz0_29 : iv 0 10000 pz0_29) : Ct l V yX10_isThen (.code yX10_isThen cX10_isThen 2 none) 1 [.ref (z 0)] [(z 30, aJ V 10000 fz30), (z 31, aJ V 10000 fz31), (z 0, .inr (10, mo z pz0_0 pz0_5 pz0_6 pz0_7 pz0_8 pz0_9 pz0_10 pz0_11 pz0_12 pz0_13 pz0_14 pz0_18 pz0_19 pz0_22 pz0_23 pz0_29))] 0 0 (QV V (fun (w : va_W) => ∃ (g0 : Nat → Int64) (g1 : Nat → Int64), w = [(z 30, aJ V 10000 g0), (z 31, aJ V 10000 g1), (z 0, .inr (10, mo z pz0_0 pz0_5 pz0_6 pz0_7 pz0_8 pz0_9 pz0_10 pz0_11 pz0_12 pz0_13 pz0_14 pz0_18 pz0_19 pz0_22 pz0_23 pz0_29))])) := by
  refine Ct.of (by decide) (Nat.le_of_ble_eq_true rfl) (fun p e s m below meth c A ls hx hb hr hml hown hlk hnm hg hP hK hD hE hA hS hl => ?_)
  have hl : lv_has ls 2 [(0, .ref (z 0))] := hl
  refine lv_iconst (v := 0) hx hb dX10_isThen_0 (by decide) ?_
  refine lv_istore_n (lv' := [(1, .int 0), (0, .ref (z 0))]) hx hb dX10_isThen_1 rfl hl (by decide) rfl (fun ls hl => ?_)
  refine loopF (X := fun (n_4 : Nat) (H : Heap) (locs : List Loc) (ls : Array Slot) => ∃ (u_1 : Int32) (f_2 : Nat → Int64) (f_3 : Nat → Int64), (iv 0 2147483647 u_1) ∧ n_4 = (2147483647 - (u_1 : Int32).toInt).toNat ∧ va_P V.1 vwCl [(z 30, aJ V 10000 f_2), (z 31, aJ V 10000 f_3), (z 0, .inr (10, mo z pz0_0 pz0_5 pz0_6 pz0_7 pz0_8 pz0_9 pz0_10 pz0_11 pz0_12 pz0_13 pz0_14 pz0_18 pz0_19 pz0_22 pz0_23 pz0_29))] H ∧ va_D A [(z 30, aJ V 10000 f_2), (z 31, aJ V 10000 f_3), (z 0, .inr (10, mo z pz0_0 pz0_5 pz0_6 pz0_7 pz0_8 pz0_9 pz0_10 pz0_11 pz0_12 pz0_13 pz0_14 pz0_18 pz0_19 pz0_22 pz0_23 pz0_29))] ∧ va_S A s.heap H locs ∧ lv_has ls 2 [(1, .int u_1), (0, .ref (z 0))]) (g := fun ls => F0 m 2 ls []) (fun n_4 H locs ls hX ihn_4 => ?_) _ ⟨0, fz30, fz31, (iv_c (0 : Int32) (by decide)), rfl, hP, hD, hS, lv_sub hl [0, 1] rfl⟩
  obtain ⟨u_1, f_2, f_3, bu_1, en_4, hP, hD, hS, hl⟩ := hX
  refine lv_iload_n hx hb dX10_isThen_2 rfl (lv_at hl 0 rfl) ?_
  refine lv_sipush (v := 10000) hx hb dX10_isThen_3 (by decide) ?_
  refine lv_icmp_ge (tgt := 34) hx hb dX10_isThen_6 (by decide) (fun c_5 => ?_) (fun c_5 => ?_)
  · have b_6 : iv 10000 2147483647 u_1 := iv_e2 c_5 (iv_c (10000 : Int32) (a := 10000) (b := 10000) (by decide)) bu_1 (by decide)
    exact fiV hx hb hr hlk hK hP hD hS dX10_isThen_34 (Nat.le_of_ble_eq_true rfl) (Nat.le_of_ble_eq_true rfl) (⟨f_2, f_3, rfl⟩)
  · have b_7 : iv 0 9999 u_1 := iv_l1 (Int32.not_le.mp c_5) bu_1 (iv_c (10000 : Int32) (a := 10000) (b := 10000) (by decide)) (by decide)
    refine lv_aload_n hx hb dX10_isThen_9 rfl (lv_at hl 1 rfl) ?_
    refine va_get (ci := 10) (v := .ref (z 30)) (C := RX10) (T := TX10) (N := 40) hx hb hg inX10 hown hK hP 2 rfl rfl 30 (by decide) (hg _ q_6_14) (fun _ h9 => h9) rfl dX10_isThen_10 ?_
    refine lv_iload_n hx hb dX10_isThen_13 rfl (lv_at hl 0 rfl) ?_
    refine lv_aload_n hx hb dX10_isThen_14 rfl (lv_at hl 1 rfl) ?_
    refine va_get (ci := 10) (v := .ref (z 31)) (C := RX10) (T := TX10) (N := 40) hx hb hg inX10 hown hK hP 2 rfl rfl 31 (by decide) (hg _ q_6_15) (fun _ h9 => h9) rfl dX10_isThen_15 ?_
    refine lv_iload_n hx hb dX10_isThen_18 rfl (lv_at hl 0 rfl) ?_
    refine va_lald hx hb hK hP 1 2 rfl rfl (iv_in b_7 (by decide)) dX10_isThen_19 ?_
    refine lv_topl (fun j_8 ej_8 => ?_)
    refine va_last hx hb hK hP hD hS 0 2 rfl rfl (iv_in b_7 (by decide)) dX10_isThen_20 (fun H locs hP hD hS => ?_)
    obtain ⟨f_9, hP, hD⟩ : ∃ f_9 : Nat → Int64, va_P V.1 vwCl [(z 30, aJ V 10000 f_9), (z 31, aJ V 10000 f_3), (z 0, .inr (10, mo z pz0_0 pz0_5 pz0_6 pz0_7 pz0_8 pz0_9 pz0_10 pz0_11 pz0_12 pz0_13 pz0_14 pz0_18 pz0_19 pz0_22 pz0_23 pz0_29))] H ∧ va_D A [(z 30, aJ V 10000 f_9), (z 31, aJ V 10000 f_3), (z 0, .inr (10, mo z pz0_0 pz0_5 pz0_6 pz0_7 pz0_8 pz0_9 pz0_10 pz0_11 pz0_12 pz0_13 pz0_14 pz0_18 pz0_19 pz0_22 pz0_23 pz0_29))] := ⟨_, hP, hD⟩
    refine lv_aload_n hx hb dX10_isThen_21 rfl (lv_at hl 1 rfl) ?_
    refine va_get (ci := 10) (v := .ref (z 31)) (C := RX10) (T := TX10) (N := 40) hx hb hg inX10 hown hK hP 2 rfl rfl 31 (by decide) (hg _ q_6_15) (fun _ h9 => h9) rfl dX10_isThen_22 ?_
    refine lv_iload_n hx hb dX10_isThen_25 rfl (lv_at hl 0 rfl) ?_
    refine lv_lconst (v := 0) hx hb dX10_isThen_26 (by decide) ?_
    refine va_last hx hb hK hP hD hS 1 2 rfl rfl (iv_in b_7 (by decide)) dX10_isThen_27 (fun H locs hP hD hS => ?_)
    obtain ⟨f_10, hP, hD⟩ : ∃ f_10 : Nat → Int64, va_P V.1 vwCl [(z 30, aJ V 10000 f_9), (z 31, aJ V 10000 f_10), (z 0, .inr (10, mo z pz0_0 pz0_5 pz0_6 pz0_7 pz0_8 pz0_9 pz0_10 pz0_11 pz0_12 pz0_13 pz0_14 pz0_18 pz0_19 pz0_22 pz0_23 pz0_29))] H ∧ va_D A [(z 30, aJ V 10000 f_9), (z 31, aJ V 10000 f_10), (z 0, .inr (10, mo z pz0_0 pz0_5 pz0_6 pz0_7 pz0_8 pz0_9 pz0_10 pz0_11 pz0_12 pz0_13 pz0_14 pz0_18 pz0_19 pz0_22 pz0_23 pz0_29))] := ⟨_, hP, hD⟩
    obtain ⟨x_11, ex_11⟩ : ∃ z9 : Int32, z9 = u_1 + 1 := ⟨_, rfl⟩
    have bx_11 : iv 1 10000 x_11 := by rw [ex_11]; exact iv_add b_7 (iv_c (1 : Int32) (a := 1) (b := 1) (by decide)) (by decide)
    refine lv_iinc (v := x_11) (lv' := [(1, .int x_11), (0, .ref (z 0))]) hx hb dX10_isThen_28 hl (k := 0) rfl (by rw [ex_11]; rfl) (by decide) rfl (fun ls hl => ?_)
    refine lv_goto (tgt := 2) hx hb dX10_isThen_31 (by decide) ?_
    exact ihn_4 _ _ _ _ (by rw [en_4, ex_11]; exact mu_up b_7 (by decide)) ⟨x_11, f_9, f_10, (iv_w bx_11 (by decide)), rfl, hP, hD, hS, lv_sub hl [0, 1] rfl⟩
theorem dX10_goesMany_0 : decode cX10_goesMany 0 = .ok (.iconst 0, 1) := by decide +kernel
theorem dX10_goesMany_1 : decode cX10_goesMany 1 = .ok (.istore 5, 2) := by decide +kernel
theorem dX10_goesMany_3 : decode cX10_goesMany 3 = .ok (.iload 5, 2) := by decide +kernel
theorem dX10_goesMany_5 : decode cX10_goesMany 5 = .ok (.aload_n 0, 1) := by decide +kernel
theorem dX10_goesMany_6 : decode cX10_goesMany 6 = .ok (.getfield 355, 3) := by decide +kernel
theorem dX10_goesMany_9 : decode cX10_goesMany 9 = .ok (.if_icmp .ge 99, 3) := by decide +kernel
theorem dX10_goesMany_108 : decode cX10_goesMany 108 = .ok (.aload_n 0, 1) := by decide +kernel
theorem q_7_231 : Cond.code yX10_isThen prog_12_method_92_code 2 none ∈ gw := gw_7 (i := 231) (rfl) rfl
theorem q_7_230 : Cond.instanceMethod yX10_isThen ∈ gw := gw_7 (i := 230) (by decide +kernel) rfl
theorem q_s_110 : Cond.selects "BeaconDelayModel" yX10_isThen yX10_isThen ∈ gw := gw_s (i := 110) (by decide +kernel) rfl
theorem mt_X10_isThen : MtV yX10_isThen cX10_isThen 2 none 0 := ⟨⟨q_7_231, q_1_9, by decide +kernel, by decide +kernel, by decide +kernel⟩, q_7_230, q_s_110⟩
theorem q_7_228 : Cond.methodLink "BeaconDelayModel" 382 yX10_isThen ∈ gw := gw_7 (i := 228) (by decide +kernel) rfl
theorem dX10_goesMany_109 : decode cX10_goesMany 109 = .ok (.invokevirtual 382, 3) := by decide +kernel
theorem dX10_goesMany_112 : decode cX10_goesMany 112 = .ok (.return_, 1) := by decide +kernel
theorem dX10_goesMany_12 : decode cX10_goesMany 12 = .ok (.aload_n 0, 1) := by decide +kernel
theorem dX10_goesMany_13 : decode cX10_goesMany 13 = .ok (.getfield 45, 3) := by decide +kernel
theorem dX10_goesMany_16 : decode cX10_goesMany 16 = .ok (.iload 5, 2) := by decide +kernel
theorem dX10_goesMany_18 : decode cX10_goesMany 18 = .ok (.iaload, 1) := by decide +kernel
theorem dX10_goesMany_19 : decode cX10_goesMany 19 = .ok (.istore 6, 2) := by decide +kernel
theorem dX10_goesMany_21 : decode cX10_goesMany 21 = .ok (.iconst 0, 1) := by decide +kernel
theorem dX10_goesMany_22 : decode cX10_goesMany 22 = .ok (.istore 7, 2) := by decide +kernel
theorem dX10_goesMany_24 : decode cX10_goesMany 24 = .ok (.iload 7, 2) := by decide +kernel
theorem dX10_goesMany_26 : decode cX10_goesMany 26 = .ok (.iconst 4, 1) := by decide +kernel
theorem dX10_goesMany_27 : decode cX10_goesMany 27 = .ok (.if_icmp .ge 75, 3) := by decide +kernel
theorem dX10_goesMany_102 : decode cX10_goesMany 102 = .ok (.iinc 5 1, 3) := by decide +kernel
theorem dX10_goesMany_105 : decode cX10_goesMany 105 = .ok (.goto (-102), 3) := by decide +kernel
theorem dX10_goesMany_30 : decode cX10_goesMany 30 = .ok (.aload_n 0, 1) := by decide +kernel
theorem dX10_goesMany_31 : decode cX10_goesMany 31 = .ok (.getfield 61, 3) := by decide +kernel
theorem dX10_goesMany_34 : decode cX10_goesMany 34 = .ok (.iload 6, 2) := by decide +kernel
theorem dX10_goesMany_36 : decode cX10_goesMany 36 = .ok (.laload, 1) := by decide +kernel
theorem dX10_goesMany_37 : decode cX10_goesMany 37 = .ok (.lconst 0, 1) := by decide +kernel
theorem dX10_goesMany_38 : decode cX10_goesMany 38 = .ok (.lcmp, 1) := by decide +kernel
theorem dX10_goesMany_39 : decode cX10_goesMany 39 = .ok (.ifCond .le 63, 3) := by decide +kernel
theorem dX10_goesMany_42 : decode cX10_goesMany 42 = .ok (.aload_n 0, 1) := by decide +kernel
theorem dX10_goesMany_43 : decode cX10_goesMany 43 = .ok (.getfield 49, 3) := by decide +kernel
theorem dX10_goesMany_46 : decode cX10_goesMany 46 = .ok (.iconst 4, 1) := by decide +kernel
theorem dX10_goesMany_47 : decode cX10_goesMany 47 = .ok (.iload 6, 2) := by decide +kernel
theorem dX10_goesMany_49 : decode cX10_goesMany 49 = .ok (.imul, 1) := by decide +kernel
theorem dX10_goesMany_50 : decode cX10_goesMany 50 = .ok (.iload 7, 2) := by decide +kernel
theorem dX10_goesMany_52 : decode cX10_goesMany 52 = .ok (.iadd, 1) := by decide +kernel
theorem dX10_goesMany_53 : decode cX10_goesMany 53 = .ok (.iaload, 1) := by decide +kernel
theorem dX10_goesMany_54 : decode cX10_goesMany 54 = .ok (.iconst (-1), 1) := by decide +kernel
theorem dX10_goesMany_55 : decode cX10_goesMany 55 = .ok (.if_icmp .eq 41, 3) := by decide +kernel
theorem dX10_goesMany_96 : decode cX10_goesMany 96 = .ok (.iinc 7 1, 3) := by decide +kernel
theorem dX10_goesMany_99 : decode cX10_goesMany 99 = .ok (.goto (-75), 3) := by decide +kernel
theorem dX10_goesMany_58 : decode cX10_goesMany 58 = .ok (.aload_n 0, 1) := by decide +kernel
theorem dX10_goesMany_59 : decode cX10_goesMany 59 = .ok (.getfield 65, 3) := by decide +kernel
theorem dX10_goesMany_62 : decode cX10_goesMany 62 = .ok (.aload_n 0, 1) := by decide +kernel
theorem dX10_goesMany_63 : decode cX10_goesMany 63 = .ok (.getfield 49, 3) := by decide +kernel
theorem dX10_goesMany_66 : decode cX10_goesMany 66 = .ok (.iconst 4, 1) := by decide +kernel
theorem dX10_goesMany_67 : decode cX10_goesMany 67 = .ok (.iload 6, 2) := by decide +kernel
theorem dX10_goesMany_69 : decode cX10_goesMany 69 = .ok (.imul, 1) := by decide +kernel
theorem dX10_goesMany_70 : decode cX10_goesMany 70 = .ok (.iload 7, 2) := by decide +kernel
theorem dX10_goesMany_72 : decode cX10_goesMany 72 = .ok (.iadd, 1) := by decide +kernel
theorem dX10_goesMany_73 : decode cX10_goesMany 73 = .ok (.iaload, 1) := by decide +kernel
theorem dX10_goesMany_74 : decode cX10_goesMany 74 = .ok (.dup2, 1) := by decide +kernel
theorem dX10_goesMany_75 : decode cX10_goesMany 75 = .ok (.laload, 1) := by decide +kernel
theorem dX10_goesMany_76 : decode cX10_goesMany 76 = .ok (.aload_n 0, 1) := by decide +kernel
theorem dX10_goesMany_77 : decode cX10_goesMany 77 = .ok (.getfield 61, 3) := by decide +kernel
theorem dX10_goesMany_80 : decode cX10_goesMany 80 = .ok (.iload 6, 2) := by decide +kernel
theorem dX10_goesMany_82 : decode cX10_goesMany 82 = .ok (.laload, 1) := by decide +kernel
theorem dX10_goesMany_83 : decode cX10_goesMany 83 = .ok (.iload 7, 2) := by decide +kernel
theorem dX10_goesMany_85 : decode cX10_goesMany 85 = .ok (.ifCond .ne 7, 3) := by decide +kernel
theorem dX10_goesMany_92 : decode cX10_goesMany 92 = .ok (.lload_n 3, 1) := by decide +kernel
theorem dX10_goesMany_93 : decode cX10_goesMany 93 = .ok (.lmul, 1) := by decide +kernel
theorem dX10_goesMany_94 : decode cX10_goesMany 94 = .ok (.ladd, 1) := by decide +kernel
theorem dX10_goesMany_95 : decode cX10_goesMany 95 = .ok (.lastore, 1) := by decide +kernel
theorem dX10_goesMany_88 : decode cX10_goesMany 88 = .ok (.lload_n 1, 1) := by decide +kernel
theorem dX10_goesMany_89 : decode cX10_goesMany 89 = .ok (.goto 4, 3) := by decide +kernel
set_option maxHeartbeats 4000000 in
set_option maxRecDepth 100000 in
theorem k_X10_goesMany_0 (l : Launch) (V : GV) (z : Nat → Nat) (k1 : Int64) (k2 : Int64) (fz24 : Nat → Int32) (fz25 : Nat → Int32) (fz30 : Nat → Int64) (fz31 : Nat → Int64) (pz0_0 : Int32) (pz0_5 : Int32) (pz0_6 : Int32) (pz0_7 : Int32) (pz0_8 : Int32) (pz0_9 : Int32) (pz0_10 : Int32) (pz0_11 : Int32) (pz0_12 : Int32) (pz0_13 : Int32) (pz0_14 : Int32) (pz0_18 : Int32) (pz0_19 : Int32) (pz0_22 : Int32) (pz0_23 : Int32) (pz0_29 : Int32) (tfz24 : ∀ j, iv 0 9999 (fz24 j)) (tfz25 : ∀ j, iv (-1) 9999 (fz25 j)) (bpz0_5 : iv 0 900 pz0_5) (bpz0_6 : iv 0 900 pz0_6) (bpz0_7 : iv 0 900 pz0_7) (bpz0_8 : iv 0 900 pz0_8) (bpz0_10 : iv 0 999 pz0_10) (bpz0_11 : iv 0 4 pz0_11) (bpz0_12 : iv 0 900 pz0_12) (bpz0_13 : iv 0 4 pz0_13) (bpz0_14 : iv (-1) 900 pz0_14) (bpz0_18 : iv 0 2 pz0_18) (bpz0_22 : iv 0 9999 pz0_22) (bpz0_29 : iv 0 10000 pz0_29) : Ct l V yX10_goesMany (.code yX10_goesMany cX10_goesMany 8 none) 2 [.ref (z 0), .long k1, .long k2] [(z 24, aI V 10000 fz24), (z 25, aI V 40000 fz25), (z 30, aJ V 10000 fz30), (z 31, aJ V 10000 fz31), (z 0, .inr (10, mo z pz0_0 pz0_5 pz0_6 pz0_7 pz0_8 pz0_9 pz0_10 pz0_11 pz0_12 pz0_13 pz0_14 pz0_18 pz0_19 pz0_22 pz0_23 pz0_29))] 0 0 (QV V (fun (w : va_W) => ∃ (g0 : Nat → Int64) (g1 : Nat → Int64), w = [(z 24, aI V 10000 fz24), (z 25, aI V 40000 fz25), (z 30, aJ V 10000 g0), (z 31, aJ V 10000 g1), (z 0, .inr (10, mo z pz0_0 pz0_5 pz0_6 pz0_7 pz0_8 pz0_9 pz0_10 pz0_11 pz0_12 pz0_13 pz0_14 pz0_18 pz0_19 pz0_22 pz0_23 pz0_29))])) := by
  refine Ct.of (by decide) (Nat.le_of_ble_eq_true rfl) (fun p e s m below meth c A ls hx hb hr hml hown hlk hnm hg hP hK hD hE hA hS hl => ?_)
  have hl : lv_has ls 8 [(0, .ref (z 0)), (1, .long k1), (3, .long k2)] := hl
  refine lv_iconst (v := 0) hx hb dX10_goesMany_0 (by decide) ?_
  refine lv_istore (lv' := [(5, .int 0), (0, .ref (z 0)), (1, .long k1), (3, .long k2)]) hx hb dX10_goesMany_1 hl (by decide) rfl (fun ls hl => ?_)
  refine loopF (X := fun (n_3 : Nat) (H : Heap) (locs : List Loc) (ls : Array Slot) => ∃ (u_1 : Int32) (f_2 : Nat → Int64), (iv 0 2147483647 u_1) ∧ n_3 = (2147483647 - (u_1 : Int32).toInt).toNat ∧ va_P V.1 vwCl [(z 24, aI V 10000 fz24), (z 25, aI V 40000 fz25), (z 30, aJ V 10000 fz30), (z 31, aJ V 10000 f_2), (z 0, .inr (10, mo z pz0_0 pz0_5 pz0_6 pz0_7 pz0_8 pz0_9 pz0_10 pz0_11 pz0_12 pz0_13 pz0_14 pz0_18 pz0_19 pz0_22 pz0_23 pz0_29))] H ∧ va_D A [(z 24, aI V 10000 fz24), (z 25, aI V 40000 fz25), (z 30, aJ V 10000 fz30), (z 31, aJ V 10000 f_2), (z 0, .inr (10, mo z pz0_0 pz0_5 pz0_6 pz0_7 pz0_8 pz0_9 pz0_10 pz0_11 pz0_12 pz0_13 pz0_14 pz0_18 pz0_19 pz0_22 pz0_23 pz0_29))] ∧ va_S A s.heap H locs ∧ lv_has ls 8 [(5, .int u_1), (0, .ref (z 0)), (1, .long k1), (3, .long k2)]) (g := fun ls => F0 m 3 ls []) (fun n_3 H locs ls hX ihn_3 => ?_) _ ⟨0, fz31, (iv_c (0 : Int32) (by decide)), rfl, hP, hD, hS, lv_sub hl [0, 1, 2, 3] rfl⟩
  obtain ⟨u_1, f_2, bu_1, en_3, hP, hD, hS, hl⟩ := hX
  refine lv_iload hx hb dX10_goesMany_3 (lv_at hl 0 rfl) ?_
  refine lv_aload_n hx hb dX10_goesMany_5 rfl (lv_at hl 1 rfl) ?_
  refine va_get (ci := 10) (v := .int pz0_29) (C := RX10) (T := TX10) (N := 40) hx hb hg inX10 hown hK hP 4 rfl rfl 29 (by decide) (hg _ q_6_13) (fun _ h9 => h9) rfl dX10_goesMany_6 ?_
  refine lv_icmp_ge (tgt := 108) hx hb dX10_goesMany_9 (by decide) (fun c_4 => ?_) (fun c_4 => ?_)
  · refine lv_aload_n hx hb dX10_goesMany_108 rfl (lv_at hl 1 rfl) ?_
    refine jnV (wr := [(z 24, aI V 10000 fz24), (z 25, aI V 40000 fz25)]) (rnV (rest := []) ⟨hx, hb, hml, hown, hg⟩ (k_X10_isThen_0 l V z fz30 f_2 pz0_0 pz0_5 pz0_6 pz0_7 pz0_8 pz0_9 pz0_10 pz0_11 pz0_12 pz0_13 pz0_14 pz0_18 pz0_19 pz0_22 pz0_23 pz0_29 bpz0_5 bpz0_6 bpz0_7 bpz0_8 bpz0_10 bpz0_11 bpz0_12 bpz0_13 bpz0_14 bpz0_18 bpz0_22 bpz0_29) mt_X10_isThen q_7_228 ⟨Nat.le_of_ble_eq_true rfl, Nat.le_of_ble_eq_true rfl⟩ hK hP hD hS hA hE [2, 3, 4] rfl rfl 4 rfl rfl rfl rfl hl.1 rfl (Nat.le_of_ble_eq_true rfl) dX10_goesMany_109 ⟨Nat.le_of_ble_eq_true rfl, Nat.le_of_ble_eq_true rfl⟩) hP hD hS hA [2, 3, 4] [0, 1] rfl rfl rfl (by decide) (fun  w H locs hw hP hD hS => ?_)
    obtain ⟨f_5, f_6, rfl⟩ := hw
    have hP : va_P V.1 vwCl [(z 24, aI V 10000 fz24), (z 25, aI V 40000 fz25), (z 30, aJ V 10000 f_5), (z 31, aJ V 10000 f_6), (z 0, .inr (10, mo z pz0_0 pz0_5 pz0_6 pz0_7 pz0_8 pz0_9 pz0_10 pz0_11 pz0_12 pz0_13 pz0_14 pz0_18 pz0_19 pz0_22 pz0_23 pz0_29))] H := hP
    have hD : va_D A [(z 24, aI V 10000 fz24), (z 25, aI V 40000 fz25), (z 30, aJ V 10000 f_5), (z 31, aJ V 10000 f_6), (z 0, .inr (10, mo z pz0_0 pz0_5 pz0_6 pz0_7 pz0_8 pz0_9 pz0_10 pz0_11 pz0_12 pz0_13 pz0_14 pz0_18 pz0_19 pz0_22 pz0_23 pz0_29))] := hD
    exact fiV hx hb hr hlk hK hP hD hS dX10_goesMany_112 (Nat.le_of_ble_eq_true rfl) (Nat.le_of_ble_eq_true rfl) (⟨f_5, f_6, rfl⟩)
  · have b_7 : iv 0 9999 u_1 := iv_l1 (Int32.not_le.mp c_4) bu_1 bpz0_29 (by decide)
    have b_8 : iv 1 10000 pz0_29 := iv_l2 (Int32.not_le.mp c_4) bu_1 bpz0_29 (by decide)
    refine lv_aload_n hx hb dX10_goesMany_12 rfl (lv_at hl 1 rfl) ?_
    refine va_get (ci := 10) (v := .ref (z 24)) (C := RX10) (T := TX10) (N := 40) hx hb hg inX10 hown hK hP 4 rfl rfl 24 (by decide) (hg _ q_6_8) (fun _ h9 => h9) rfl dX10_goesMany_13 ?_
    refine lv_iload hx hb dX10_goesMany_16 (lv_at hl 0 rfl) ?_
    refine va_iald hx hb hK hP 0 0 rfl rfl (iv_in b_7 (by decide)) dX10_goesMany_18 ?_
    refine lv_topi (fun x_9 ex_9 => ?_)
    have bx_9 : iv 0 9999 x_9 := by rw [ex_9]; exact tfz24 _
    refine lv_istore (lv' := [(6, .int x_9), (5, .int u_1), (0, .ref (z 0)), (1, .long k1), (3, .long k2)]) hx hb dX10_goesMany_19 hl (by decide) rfl (fun ls hl => ?_)
    refine lv_iconst (v := 0) hx hb dX10_goesMany_21 (by decide) ?_
    refine lv_istore (lv' := [(7, .int 0), (6, .int x_9), (5, .int u_1), (0, .ref (z 0)), (1, .long k1), (3, .long k2)]) hx hb dX10_goesMany_22 hl (by decide) rfl (fun ls hl => ?_)
    refine loopF (X := fun (n_12 : Nat) (H : Heap) (locs : List Loc) (ls : Array Slot) => ∃ (u_10 : Int32) (f_11 : Nat → Int64), (iv 0 2147483647 u_10) ∧ n_12 = (2147483647 - (u_10 : Int32).toInt).toNat ∧ va_P V.1 vwCl [(z 24, aI V 10000 fz24), (z 25, aI V 40000 fz25), (z 30, aJ V 10000 fz30), (z 31, aJ V 10000 f_11), (z 0, .inr (10, mo z pz0_0 pz0_5 pz0_6 pz0_7 pz0_8 pz0_9 pz0_10 pz0_11 pz0_12 pz0_13 pz0_14 pz0_18 pz0_19 pz0_22 pz0_23 pz0_29))] H ∧ va_D A [(z 24, aI V 10000 fz24), (z 25, aI V 40000 fz25), (z 30, aJ V 10000 fz30), (z 31, aJ V 10000 f_11), (z 0, .inr (10, mo z pz0_0 pz0_5 pz0_6 pz0_7 pz0_8 pz0_9 pz0_10 pz0_11 pz0_12 pz0_13 pz0_14 pz0_18 pz0_19 pz0_22 pz0_23 pz0_29))] ∧ va_S A s.heap H locs ∧ lv_has ls 8 [(7, .int u_10), (6, .int x_9), (5, .int u_1), (0, .ref (z 0)), (1, .long k1), (3, .long k2)]) (g := fun ls => F0 m 24 ls []) (fun n_12 H locs ls hX ihn_12 => ?_) _ ⟨0, f_2, (iv_c (0 : Int32) (by decide)), rfl, hP, hD, hS, lv_sub hl [0, 1, 2, 3, 4, 5] rfl⟩
    obtain ⟨u_10, f_11, bu_10, en_12, hP, hD, hS, hl⟩ := hX
    refine lv_iload hx hb dX10_goesMany_24 (lv_at hl 0 rfl) ?_
    refine lv_iconst (v := 4) hx hb dX10_goesMany_26 (by decide) ?_
    refine lv_icmp_ge (tgt := 102) hx hb dX10_goesMany_27 (by decide) (fun c_13 => ?_) (fun c_13 => ?_)
    · have b_14 : iv 4 2147483647 u_10 := iv_e2 c_13 (iv_c (4 : Int32) (a := 4) (b := 4) (by decide)) bu_10 (by decide)
      obtain ⟨x_15, ex_15⟩ : ∃ z9 : Int32, z9 = u_1 + 1 := ⟨_, rfl⟩
      have bx_15 : iv 1 10000 x_15 := by rw [ex_15]; exact iv_add b_7 (iv_c (1 : Int32) (a := 1) (b := 1) (by decide)) (by decide)
      refine lv_iinc (v := x_15) (lv' := [(5, .int x_15), (7, .int u_10), (6, .int x_9), (0, .ref (z 0)), (1, .long k1), (3, .long k2)]) hx hb dX10_goesMany_102 hl (k := 2) rfl (by rw [ex_15]; rfl) (by decide) rfl (fun ls hl => ?_)
      refine lv_goto (tgt := 3) hx hb dX10_goesMany_105 (by decide) ?_
      exact ihn_3 _ _ _ _ (by rw [en_3, ex_15]; exact mu_up b_7 (by decide)) ⟨x_15, f_11, (iv_w bx_15 (by decide)), rfl, hP, hD, hS, lv_sub hl [0, 3, 4, 5] rfl⟩
    · have b_16 : iv 0 3 u_10 := iv_l1 (Int32.not_le.mp c_13) bu_10 (iv_c (4 : Int32) (a := 4) (b := 4) (by decide)) (by decide)
      refine lv_aload_n hx hb dX10_goesMany_30 rfl (lv_at hl 3 rfl) ?_
      refine va_get (ci := 10) (v := .ref (z 30)) (C := RX10) (T := TX10) (N := 40) hx hb hg inX10 hown hK hP 4 rfl rfl 30 (by decide) (hg _ q_6_14) (fun _ h9 => h9) rfl dX10_goesMany_31 ?_
      refine lv_iload hx hb dX10_goesMany_34 (lv_at hl 1 rfl) ?_
      refine va_lald hx hb hK hP 2 2 rfl rfl (iv_in bx_9 (by decide)) dX10_goesMany_36 ?_
      refine lv_topl (fun j_17 ej_17 => ?_)
      refine lv_lconst (v := 0) hx hb dX10_goesMany_37 (by decide) ?_
      refine W.lcmp hx hb dX10_goesMany_38 ?_
      refine lv_if_le (tgt := 102) hx hb dX10_goesMany_39 (by decide) (fun c_18 => ?_) (fun c_18 => ?_)
      · replace c_18 : j_17 ≤ (0 : Int64) := (lg_cmp_le _ _).mp c_18
        have b_19 : ivL (-9223372036854775808) 0 j_17 := ivL_e1 c_18 (ivL_top j_17) (ivL_c (0 : Int64) (a := 0) (b := 0) (by decide)) (by decide)
        obtain ⟨x_20, ex_20⟩ : ∃ z9 : Int32, z9 = u_1 + 1 := ⟨_, rfl⟩
        have bx_20 : iv 1 10000 x_20 := by rw [ex_20]; exact iv_add b_7 (iv_c (1 : Int32) (a := 1) (b := 1) (by decide)) (by decide)
        refine lv_iinc (v := x_20) (lv' := [(5, .int x_20), (7, .int u_10), (6, .int x_9), (0, .ref (z 0)), (1, .long k1), (3, .long k2)]) hx hb dX10_goesMany_102 hl (k := 2) rfl (by rw [ex_20]; rfl) (by decide) rfl (fun ls hl => ?_)
        refine lv_goto (tgt := 3) hx hb dX10_goesMany_105 (by decide) ?_
        exact ihn_3 _ _ _ _ (by rw [en_3, ex_20]; exact mu_up b_7 (by decide)) ⟨x_20, f_11, (iv_w bx_20 (by decide)), rfl, hP, hD, hS, lv_sub hl [0, 3, 4, 5] rfl⟩
      · replace c_18 : ¬ j_17 ≤ (0 : Int64) := fun z => c_18 ((lg_cmp_le _ _).mpr z)
        have b_21 : ivL 1 9223372036854775807 j_17 := ivL_l2 (Int64.not_le.mp c_18) (ivL_c (0 : Int64) (a := 0) (b := 0) (by decide)) (ivL_top j_17) (by decide)
        refine lv_aload_n hx hb dX10_goesMany_42 rfl (lv_at hl 3 rfl) ?_
        refine va_get (ci := 10) (v := .ref (z 25)) (C := RX10) (T := TX10) (N := 40) hx hb hg inX10 hown hK hP 4 rfl rfl 25 (by decide) (hg _ q_6_9) (fun _ h9 => h9) rfl dX10_goesMany_43 ?_
        refine lv_iconst (v := 4) hx hb dX10_goesMany_46 (by decide) ?_
        refine lv_iload hx hb dX10_goesMany_47 (lv_at hl 1 rfl) ?_
        refine lv_imul hx hb dX10_goesMany_49 ?_
        refine lv_topi (fun x_22 ex_22 => ?_)
        have bx_22 : iv 0 39996 x_22 := by rw [ex_22]; exact iv_cmul (iv_c (4 : Int32) (a := 4) (b := 4) (by decide)) bx_9 (by decide)
        refine lv_iload hx hb dX10_goesMany_50 (lv_at hl 0 rfl) ?_
        refine lv_iadd hx hb dX10_goesMany_52 ?_
        refine lv_topi (fun x_23 ex_23 => ?_)
        have bx_23 : iv 0 39999 x_23 := by rw [ex_23]; exact iv_add bx_22 b_16 (by decide)
        refine va_iald hx hb hK hP 1 0 rfl rfl (iv_in bx_23 (by decide)) dX10_goesMany_53 ?_
        refine lv_topi (fun x_24 ex_24 => ?_)
        have bx_24 : iv (-1) 9999 x_24 := by rw [ex_24]; exact tfz25 _
        refine lv_iconst (v := (-1)) hx hb dX10_goesMany_54 (by decide) ?_
        refine lv_icmp_eq (tgt := 96) hx hb dX10_goesMany_55 (by decide) (fun c_25 => ?_) (fun c_25 => ?_)
        · have b_26 : iv (-1) (-1) x_24 := iv_q c_25 (iv_c ((-1) : Int32) (a := (-1)) (b := (-1)) (by decide))
          obtain ⟨x_27, ex_27⟩ : ∃ z9 : Int32, z9 = u_10 + 1 := ⟨_, rfl⟩
          have bx_27 : iv 1 4 x_27 := by rw [ex_27]; exact iv_add b_16 (iv_c (1 : Int32) (a := 1) (b := 1) (by decide)) (by decide)
          refine lv_iinc (v := x_27) (lv' := [(7, .int x_27), (6, .int x_9), (5, .int u_1), (0, .ref (z 0)), (1, .long k1), (3, .long k2)]) hx hb dX10_goesMany_96 hl (k := 0) rfl (by rw [ex_27]; rfl) (by decide) rfl (fun ls hl => ?_)
          refine lv_goto (tgt := 24) hx hb dX10_goesMany_99 (by decide) ?_
          exact ihn_12 _ _ _ _ (by rw [en_12, ex_27]; exact mu_up b_16 (by decide)) ⟨x_27, f_11, (iv_w bx_27 (by decide)), rfl, hP, hD, hS, lv_sub hl [0, 1, 2, 3, 4, 5] rfl⟩
        · have b_28 : iv 0 9999 x_24 := iv_n0 c_25 bx_24 (iv_c ((-1) : Int32) (a := (-1)) (b := (-1)) (by decide)) (by decide)
          refine lv_aload_n hx hb dX10_goesMany_58 rfl (lv_at hl 3 rfl) ?_
          refine va_get (ci := 10) (v := .ref (z 31)) (C := RX10) (T := TX10) (N := 40) hx hb hg inX10 hown hK hP 4 rfl rfl 31 (by decide) (hg _ q_6_15) (fun _ h9 => h9) rfl dX10_goesMany_59 ?_
          refine lv_aload_n hx hb dX10_goesMany_62 rfl (lv_at hl 3 rfl) ?_
          refine va_get (ci := 10) (v := .ref (z 25)) (C := RX10) (T := TX10) (N := 40) hx hb hg inX10 hown hK hP 4 rfl rfl 25 (by decide) (hg _ q_6_9) (fun _ h9 => h9) rfl dX10_goesMany_63 ?_
          refine lv_iconst (v := 4) hx hb dX10_goesMany_66 (by decide) ?_
          refine lv_iload hx hb dX10_goesMany_67 (lv_at hl 1 rfl) ?_
          refine lv_imul hx hb dX10_goesMany_69 ?_
          refine tpi (y := x_22) ex_22.symm ?_
          refine lv_iload hx hb dX10_goesMany_70 (lv_at hl 0 rfl) ?_
          refine lv_iadd hx hb dX10_goesMany_72 ?_
          refine tpi (y := x_23) ex_23.symm ?_
          refine va_iald hx hb hK hP 1 0 rfl rfl (iv_in bx_23 (by decide)) dX10_goesMany_73 ?_
          refine tpi (y := x_24) ex_24.symm ?_
          refine lv_dup2_11 hx hb dX10_goesMany_74 rfl rfl ?_
          refine va_lald hx hb hK hP 3 2 rfl rfl (iv_in b_28 (by decide)) dX10_goesMany_75 ?_
          refine lv_topl (fun j_29 ej_29 => ?_)
          refine lv_aload_n hx hb dX10_goesMany_76 rfl (lv_at hl 3 rfl) ?_
          refine va_get (ci := 10) (v := .ref (z 30)) (C := RX10) (T := TX10) (N := 40) hx hb hg inX10 hown hK hP 4 rfl rfl 30 (by decide) (hg _ q_6_14) (fun _ h9 => h9) rfl dX10_goesMany_77 ?_
          refine lv_iload hx hb dX10_goesMany_80 (lv_at hl 1 rfl) ?_
          refine va_lald hx hb hK hP 2 2 rfl rfl (iv_in bx_9 (by decide)) dX10_goesMany_82 ?_
          refine lv_topl (fun j_30 ej_30 => ?_)
          refine lv_iload hx hb dX10_goesMany_83 (lv_at hl 0 rfl) ?_
          refine lv_if_ne (tgt := 92) hx hb dX10_goesMany_85 (by decide) (fun c_31 => ?_) (fun c_31 => ?_)
          · have b_32 : iv 1 3 u_10 := iv_n0 c_31 b_16 (iv_c (0 : Int32) (a := 0) (b := 0) (by decide)) (by decide)
            refine lv_lload_n hx hb dX10_goesMany_92 rfl (lv_at hl 5 rfl) ?_
            refine lv_lmul hx hb dX10_goesMany_93 ?_
            refine lv_topl (fun j_33 ej_33 => ?_)
            refine lv_ladd hx hb dX10_goesMany_94 ?_
            refine lv_topl (fun j_34 ej_34 => ?_)
            refine va_last hx hb hK hP hD hS 3 2 rfl rfl (iv_in b_28 (by decide)) dX10_goesMany_95 (fun H locs hP hD hS => ?_)
            obtain ⟨f_35, hP, hD⟩ : ∃ f_35 : Nat → Int64, va_P V.1 vwCl [(z 24, aI V 10000 fz24), (z 25, aI V 40000 fz25), (z 30, aJ V 10000 fz30), (z 31, aJ V 10000 f_35), (z 0, .inr (10, mo z pz0_0 pz0_5 pz0_6 pz0_7 pz0_8 pz0_9 pz0_10 pz0_11 pz0_12 pz0_13 pz0_14 pz0_18 pz0_19 pz0_22 pz0_23 pz0_29))] H ∧ va_D A [(z 24, aI V 10000 fz24), (z 25, aI V 40000 fz25), (z 30, aJ V 10000 fz30), (z 31, aJ V 10000 f_35), (z 0, .inr (10, mo z pz0_0 pz0_5 pz0_6 pz0_7 pz0_8 pz0_9 pz0_10 pz0_11 pz0_12 pz0_13 pz0_14 pz0_18 pz0_19 pz0_22 pz0_23 pz0_29))] := ⟨_, hP, hD⟩
            obtain ⟨x_36, ex_36⟩ : ∃ z9 : Int32, z9 = u_10 + 1 := ⟨_, rfl⟩
            have bx_36 : iv 2 4 x_36 := by rw [ex_36]; exact iv_add b_32 (iv_c (1 : Int32) (a := 1) (b := 1) (by decide)) (by decide)
            refine lv_iinc (v := x_36) (lv' := [(7, .int x_36), (6, .int x_9), (5, .int u_1), (0, .ref (z 0)), (1, .long k1), (3, .long k2)]) hx hb dX10_goesMany_96 hl (k := 0) rfl (by rw [ex_36]; rfl) (by decide) rfl (fun ls hl => ?_)
            refine lv_goto (tgt := 24) hx hb dX10_goesMany_99 (by decide) ?_
            exact ihn_12 _ _ _ _ (by rw [en_12, ex_36]; exact mu_up b_32 (by decide)) ⟨x_36, f_35, (iv_w bx_36 (by decide)), rfl, hP, hD, hS, lv_sub hl [0, 1, 2, 3, 4, 5] rfl⟩
          · have b_37 : iv 0 0 u_10 := iv_q c_31 (iv_c (0 : Int32) (a := 0) (b := 0) (by decide))
            refine lv_lload_n hx hb dX10_goesMany_88 rfl (lv_at hl 4 rfl) ?_
            refine lv_goto (tgt := 93) hx hb dX10_goesMany_89 (by decide) ?_
            refine lv_lmul hx hb dX10_goesMany_93 ?_
            refine lv_topl (fun j_38 ej_38 => ?_)
            refine lv_ladd hx hb dX10_goesMany_94 ?_
            refine lv_topl (fun j_39 ej_39 => ?_)
            refine va_last hx hb hK hP hD hS 3 2 rfl rfl (iv_in b_28 (by decide)) dX10_goesMany_95 (fun H locs hP hD hS => ?_)
            obtain ⟨f_40, hP, hD⟩ : ∃ f_40 : Nat → Int64, va_P V.1 vwCl [(z 24, aI V 10000 fz24), (z 25, aI V 40000 fz25), (z 30, aJ V 10000 fz30), (z 31, aJ V 10000 f_40), (z 0, .inr (10, mo z pz0_0 pz0_5 pz0_6 pz0_7 pz0_8 pz0_9 pz0_10 pz0_11 pz0_12 pz0_13 pz0_14 pz0_18 pz0_19 pz0_22 pz0_23 pz0_29))] H ∧ va_D A [(z 24, aI V 10000 fz24), (z 25, aI V 40000 fz25), (z 30, aJ V 10000 fz30), (z 31, aJ V 10000 f_40), (z 0, .inr (10, mo z pz0_0 pz0_5 pz0_6 pz0_7 pz0_8 pz0_9 pz0_10 pz0_11 pz0_12 pz0_13 pz0_14 pz0_18 pz0_19 pz0_22 pz0_23 pz0_29))] := ⟨_, hP, hD⟩
            obtain ⟨x_41, ex_41⟩ : ∃ z9 : Int32, z9 = u_10 + 1 := ⟨_, rfl⟩
            have bx_41 : iv 1 1 x_41 := by rw [ex_41]; exact iv_add b_37 (iv_c (1 : Int32) (a := 1) (b := 1) (by decide)) (by decide)
            refine lv_iinc (v := x_41) (lv' := [(7, .int x_41), (6, .int x_9), (5, .int u_1), (0, .ref (z 0)), (1, .long k1), (3, .long k2)]) hx hb dX10_goesMany_96 hl (k := 0) rfl (by rw [ex_41]; rfl) (by decide) rfl (fun ls hl => ?_)
            refine lv_goto (tgt := 24) hx hb dX10_goesMany_99 (by decide) ?_
            exact ihn_12 _ _ _ _ (by rw [en_12, ex_41]; exact mu_up b_37 (by decide)) ⟨x_41, f_40, (iv_w bx_41 (by decide)), rfl, hP, hD, hS, lv_sub hl [0, 1, 2, 3, 4, 5] rfl⟩
theorem dX10_rows_0 : decode cX10_rows 0 = .ok (.aload_n 0, 1) := by decide +kernel
theorem dX10_rows_1 : decode cX10_rows 1 = .ok (.iconst 0, 1) := by decide +kernel
theorem dX10_rows_2 : decode cX10_rows 2 = .ok (.putfield 1, 3) := by decide +kernel
theorem dX10_rows_5 : decode cX10_rows 5 = .ok (.aload_n 0, 1) := by decide +kernel
theorem dX10_rows_6 : decode cX10_rows 6 = .ok (.iload_n 1, 1) := by decide +kernel
theorem dX10_rows_7 : decode cX10_rows 7 = .ok (.iload_n 2, 1) := by decide +kernel
theorem dX10_rows_8 : decode cX10_rows 8 = .ok (.invokevirtual 373, 3) := by decide +kernel
theorem dX10_rows_11 : decode cX10_rows 11 = .ok (.istore 4, 2) := by decide +kernel
theorem dX10_rows_13 : decode cX10_rows 13 = .ok (.iload 4, 2) := by decide +kernel
theorem dX10_rows_15 : decode cX10_rows 15 = .ok (.ifCond .eq 7, 3) := by decide +kernel
theorem dX10_rows_22 : decode cX10_rows 22 = .ok (.iload_n 3, 1) := by decide +kernel
theorem dX10_rows_23 : decode cX10_rows 23 = .ok (.i2l, 1) := by decide +kernel
theorem dX10_rows_24 : decode cX10_rows 24 = .ok (.lconst 0, 1) := by decide +kernel
theorem q_7_218 : Cond.constantLong "BeaconDelayModel" 385 (12 : Int64) ∈ gw := gw_7 (i := 218) (by decide +kernel) rfl
theorem dX10_rows_25 : decode cX10_rows 25 = .ok (.ldc2_w 385, 3) := by decide +kernel
theorem dX10_rows_28 : decode cX10_rows 28 = .ok (.invokestatic 159, 3) := by decide +kernel
theorem dX10_rows_31 : decode cX10_rows 31 = .ok (.ifCond .ne 7, 3) := by decide +kernel
theorem dX10_rows_38 : decode cX10_rows 38 = .ok (.aload_n 0, 1) := by decide +kernel
theorem dX10_rows_39 : decode cX10_rows 39 = .ok (.invokevirtual 362, 3) := by decide +kernel
theorem dX10_rows_42 : decode cX10_rows 42 = .ok (.aload_n 0, 1) := by decide +kernel
theorem q_7_223 : Cond.code yX10_beginsMany prog_12_method_91_code 2 none ∈ gw := gw_7 (i := 223) (rfl) rfl
theorem q_7_222 : Cond.instanceMethod yX10_beginsMany ∈ gw := gw_7 (i := 222) (by decide +kernel) rfl
theorem q_s_108 : Cond.selects "BeaconDelayModel" yX10_beginsMany yX10_beginsMany ∈ gw := gw_s (i := 108) (by decide +kernel) rfl
theorem mt_X10_beginsMany : MtV yX10_beginsMany cX10_beginsMany 2 none 0 := ⟨⟨q_7_223, q_1_9, by decide +kernel, by decide +kernel, by decide +kernel⟩, q_7_222, q_s_108⟩
theorem q_7_220 : Cond.methodLink "BeaconDelayModel" 389 yX10_beginsMany ∈ gw := gw_7 (i := 220) (by decide +kernel) rfl
theorem dX10_rows_43 : decode cX10_rows 43 = .ok (.invokevirtual 389, 3) := by decide +kernel
theorem dX10_rows_46 : decode cX10_rows 46 = .ok (.iconst 0, 1) := by decide +kernel
theorem dX10_rows_47 : decode cX10_rows 47 = .ok (.istore 5, 2) := by decide +kernel
theorem dX10_rows_49 : decode cX10_rows 49 = .ok (.iload 5, 2) := by decide +kernel
theorem dX10_rows_51 : decode cX10_rows 51 = .ok (.iload_n 3, 1) := by decide +kernel
theorem dX10_rows_52 : decode cX10_rows 52 = .ok (.if_icmp .ge 15, 3) := by decide +kernel
theorem dX10_rows_67 : decode cX10_rows 67 = .ok (.lconst 0, 1) := by decide +kernel
theorem dX10_rows_68 : decode cX10_rows 68 = .ok (.lstore 5, 2) := by decide +kernel
theorem dX10_rows_70 : decode cX10_rows 70 = .ok (.iconst 0, 1) := by decide +kernel
theorem dX10_rows_71 : decode cX10_rows 71 = .ok (.istore 7, 2) := by decide +kernel
theorem dX10_rows_73 : decode cX10_rows 73 = .ok (.iload 7, 2) := by decide +kernel
theorem dX10_rows_75 : decode cX10_rows 75 = .ok (.aload_n 0, 1) := by decide +kernel
theorem dX10_rows_76 : decode cX10_rows 76 = .ok (.getfield 355, 3) := by decide +kernel
theorem dX10_rows_79 : decode cX10_rows 79 = .ok (.if_icmp .ge 45, 3) := by decide +kernel
theorem dX10_rows_124 : decode cX10_rows 124 = .ok (.lload 5, 2) := by decide +kernel
theorem dX10_rows_126 : decode cX10_rows 126 = .ok (.lreturn, 1) := by decide +kernel
theorem dX10_rows_82 : decode cX10_rows 82 = .ok (.lload 5, 2) := by decide +kernel
theorem dX10_rows_84 : decode cX10_rows 84 = .ok (.aload_n 0, 1) := by decide +kernel
theorem dX10_rows_85 : decode cX10_rows 85 = .ok (.getfield 45, 3) := by decide +kernel
theorem dX10_rows_88 : decode cX10_rows 88 = .ok (.iload 7, 2) := by decide +kernel
theorem dX10_rows_90 : decode cX10_rows 90 = .ok (.iaload, 1) := by decide +kernel
theorem dX10_rows_91 : decode cX10_rows 91 = .ok (.iload_n 1, 1) := by decide +kernel
theorem dX10_rows_92 : decode cX10_rows 92 = .ok (.invokestatic 231, 3) := by decide +kernel
theorem dX10_rows_95 : decode cX10_rows 95 = .ok (.iload_n 2, 1) := by decide +kernel
theorem dX10_rows_96 : decode cX10_rows 96 = .ok (.if_icmp .ne 18, 3) := by decide +kernel
theorem dX10_rows_114 : decode cX10_rows 114 = .ok (.lconst 0, 1) := by decide +kernel
theorem dX10_rows_115 : decode cX10_rows 115 = .ok (.ladd, 1) := by decide +kernel
theorem dX10_rows_116 : decode cX10_rows 116 = .ok (.lstore 5, 2) := by decide +kernel
theorem dX10_rows_118 : decode cX10_rows 118 = .ok (.iinc 7 1, 3) := by decide +kernel
theorem dX10_rows_121 : decode cX10_rows 121 = .ok (.goto (-48), 3) := by decide +kernel
theorem dX10_rows_99 : decode cX10_rows 99 = .ok (.aload_n 0, 1) := by decide +kernel
theorem dX10_rows_100 : decode cX10_rows 100 = .ok (.getfield 61, 3) := by decide +kernel
theorem dX10_rows_103 : decode cX10_rows 103 = .ok (.aload_n 0, 1) := by decide +kernel
theorem dX10_rows_104 : decode cX10_rows 104 = .ok (.getfield 45, 3) := by decide +kernel
theorem dX10_rows_107 : decode cX10_rows 107 = .ok (.iload 7, 2) := by decide +kernel
theorem dX10_rows_109 : decode cX10_rows 109 = .ok (.iaload, 1) := by decide +kernel
theorem dX10_rows_110 : decode cX10_rows 110 = .ok (.laload, 1) := by decide +kernel
theorem dX10_rows_111 : decode cX10_rows 111 = .ok (.goto 4, 3) := by decide +kernel
theorem dX10_rows_55 : decode cX10_rows 55 = .ok (.aload_n 0, 1) := by decide +kernel
theorem dX10_rows_56 : decode cX10_rows 56 = .ok (.lconst 1, 1) := by decide +kernel
theorem dX10_rows_57 : decode cX10_rows 57 = .ok (.lconst 1, 1) := by decide +kernel
theorem q_7_227 : Cond.code yX10_goesMany prog_12_method_93_code 8 none ∈ gw := gw_7 (i := 227) (rfl) rfl
theorem q_7_226 : Cond.instanceMethod yX10_goesMany ∈ gw := gw_7 (i := 226) (by decide +kernel) rfl
theorem q_s_109 : Cond.selects "BeaconDelayModel" yX10_goesMany yX10_goesMany ∈ gw := gw_s (i := 109) (by decide +kernel) rfl
theorem mt_X10_goesMany : MtV yX10_goesMany cX10_goesMany 8 none 2 := ⟨⟨q_7_227, q_1_9, by decide +kernel, by decide +kernel, by decide +kernel⟩, q_7_226, q_s_109⟩
theorem q_7_224 : Cond.methodLink "BeaconDelayModel" 392 yX10_goesMany ∈ gw := gw_7 (i := 224) (by decide +kernel) rfl
theorem dX10_rows_58 : decode cX10_rows 58 = .ok (.invokevirtual 392, 3) := by decide +kernel
theorem dX10_rows_61 : decode cX10_rows 61 = .ok (.iinc 5 1, 3) := by decide +kernel
theorem dX10_rows_64 : decode cX10_rows 64 = .ok (.goto (-15), 3) := by decide +kernel
theorem q_7_219 : Cond.constantLong "BeaconDelayModel" 387 (-3 : Int64) ∈ gw := gw_7 (i := 219) (by decide +kernel) rfl
theorem dX10_rows_34 : decode cX10_rows 34 = .ok (.ldc2_w 387, 3) := by decide +kernel
theorem dX10_rows_37 : decode cX10_rows 37 = .ok (.lreturn, 1) := by decide +kernel
theorem dX10_rows_18 : decode cX10_rows 18 = .ok (.iload 4, 2) := by decide +kernel
theorem dX10_rows_20 : decode cX10_rows 20 = .ok (.i2l, 1) := by decide +kernel
theorem dX10_rows_21 : decode cX10_rows 21 = .ok (.lreturn, 1) := by decide +kernel
set_option maxHeartbeats 4000000 in
set_option maxRecDepth 100000 in
theorem k_X10_rows_0 (l : Launch) (V : GV) (z : Nat → Nat) (a1 : Int32) (a2 : Int32) (a3 : Int32) (pz0_0 : Int32) (pz0_5 : Int32) (pz0_6 : Int32) (pz0_7 : Int32) (pz0_8 : Int32) (pz0_9 : Int32) (pz0_10 : Int32) (pz0_11 : Int32) (pz0_12 : Int32) (pz0_13 : Int32) (pz0_14 : Int32) (pz0_18 : Int32) (pz0_19 : Int32) (pz0_22 : Int32) (pz0_23 : Int32) (pz0_29 : Int32) (fz1 : Nat → Int32) (fz15 : Nat → Int32) (fz16 : Nat → Int32) (fz24 : Nat → Int32) (fz25 : Nat → Int32) (fz28 : Nat → Int32) (fz30 : Nat → Int64) (fz31 : Nat → Int64) (bpz0_5 : iv 0 900 pz0_5) (bpz0_6 : iv 0 900 pz0_6) (bpz0_7 : iv 0 900 pz0_7) (bpz0_8 : iv 0 900 pz0_8) (bpz0_10 : iv 0 999 pz0_10) (bpz0_11 : iv 0 4 pz0_11) (bpz0_12 : iv 0 900 pz0_12) (bpz0_13 : iv 0 4 pz0_13) (bpz0_14 : iv (-1) 900 pz0_14) (bpz0_18 : iv 0 2 pz0_18) (bpz0_22 : iv 0 9999 pz0_22) (bpz0_29 : iv 0 10000 pz0_29) (tfz1 : ivT tA fz1) (tfz16 : ivT tW fz16) (tfz24 : ∀ j, iv 0 9999 (fz24 j)) (tfz25 : ∀ j, iv (-1) 9999 (fz25 j)) (hf0 : RW fz1) : Ct l V yX10_rows (.code yX10_rows cX10_rows 8 (some .long)) 6 [.ref (z 0), .int a1, .int a2, .int a3] [(z 0, .inr (10, mo z pz0_0 pz0_5 pz0_6 pz0_7 pz0_8 pz0_9 pz0_10 pz0_11 pz0_12 pz0_13 pz0_14 pz0_18 pz0_19 pz0_22 pz0_23 pz0_29)), (z 1, aI V 3075 fz1), (z 15, aI V 900 fz15), (z 16, aI V 6 fz16), (z 24, aI V 10000 fz24), (z 25, aI V 40000 fz25), (z 28, aZ V 10000 fz28), (z 30, aJ V 10000 fz30), (z 31, aJ V 10000 fz31)] 0 0 (QL V (fun (r : Int64) (w : va_W) => ∃ (v0 : Int32) (v1 : Int32) (g2 : Nat → Int32) (g3 : Nat → Int32) (g4 : Nat → Int32) (g5 : Nat → Int32) (g6 : Nat → Int32) (g7 : Nat → Int64) (g8 : Nat → Int64), iv 0 10000 v1 ∧ (ivT tW g3) ∧ (∀ j, iv 0 9999 (g4 j)) ∧ (∀ j, iv (-1) 9999 (g5 j)) ∧ (RW fz1) ∧ w = [(z 0, .inr (10, mo z v0 pz0_5 pz0_6 pz0_7 pz0_8 pz0_9 pz0_10 pz0_11 pz0_12 pz0_13 pz0_14 pz0_18 pz0_19 pz0_22 pz0_23 v1)), (z 1, aI V 3075 fz1), (z 15, aI V 900 g2), (z 16, aI V 6 g3), (z 24, aI V 10000 g4), (z 25, aI V 40000 g5), (z 28, aZ V 10000 g6), (z 30, aJ V 10000 g7), (z 31, aJ V 10000 g8)])) := by
  refine Ct.of (by decide) (Nat.le_of_ble_eq_true rfl) (fun p e s m below meth c A ls hx hb hr hml hown hlk hnm hg hP hK hD hE hA hS hl => ?_)
  have hl : lv_has ls 8 [(0, .ref (z 0)), (1, .int a1), (2, .int a2), (3, .int a3)] := hl
  refine lv_aload_n hx hb dX10_rows_0 rfl (lv_at hl 0 rfl) ?_
  refine lv_iconst (v := 0) hx hb dX10_rows_1 (by decide) ?_
  refine va_put (ci := 10) (v := .int 0) (ty := .int) (C := RX10) (T := TX10) (N := 40) hx hb hg inX10 tyX10 tyX10_ok nmX10 hown hK hP hD hS 0 rfl rfl 0 (by decide) (hg _ q_5_224) (fun _ h9 => h9) rfl (by decide +kernel) rfl rfl (Nat.le_of_ble_eq_true rfl) dX10_rows_2 (fun H locs hP hD hS => ?_)
  have hP : va_P V.1 vwCl [(z 0, .inr (10, mo z 0 pz0_5 pz0_6 pz0_7 pz0_8 pz0_9 pz0_10 pz0_11 pz0_12 pz0_13 pz0_14 pz0_18 pz0_19 pz0_22 pz0_23 pz0_29)), (z 1, aI V 3075 fz1), (z 15, aI V 900 fz15), (z 16, aI V 6 fz16), (z 24, aI V 10000 fz24), (z 25, aI V 40000 fz25), (z 28, aZ V 10000 fz28), (z 30, aJ V 10000 fz30), (z 31, aJ V 10000 fz31)] H := hP
  have hD : va_D A [(z 0, .inr (10, mo z 0 pz0_5 pz0_6 pz0_7 pz0_8 pz0_9 pz0_10 pz0_11 pz0_12 pz0_13 pz0_14 pz0_18 pz0_19 pz0_22 pz0_23 pz0_29)), (z 1, aI V 3075 fz1), (z 15, aI V 900 fz15), (z 16, aI V 6 fz16), (z 24, aI V 10000 fz24), (z 25, aI V 40000 fz25), (z 28, aZ V 10000 fz28), (z 30, aJ V 10000 fz30), (z 31, aJ V 10000 fz31)] := hD
  refine lv_aload_n hx hb dX10_rows_5 rfl (lv_at hl 0 rfl) ?_
  refine lv_iload_n hx hb dX10_rows_6 rfl (lv_at hl 1 rfl) ?_
  refine lv_iload_n hx hb dX10_rows_7 rfl (lv_at hl 2 rfl) ?_
  refine jnI (wr := [(z 15, aI V 900 fz15), (z 16, aI V 6 fz16), (z 24, aI V 10000 fz24), (z 25, aI V 40000 fz25), (z 28, aZ V 10000 fz28), (z 30, aJ V 10000 fz30), (z 31, aJ V 10000 fz31)]) (rnV (rest := []) ⟨hx, hb, hml, hown, hg⟩ (k_X10_noHigh_0 l V z a1 a2 0 pz0_5 pz0_6 pz0_7 pz0_8 pz0_9 pz0_10 pz0_11 pz0_12 pz0_13 pz0_14 pz0_18 pz0_19 pz0_22 pz0_23 pz0_29 fz1 bpz0_5 bpz0_6 bpz0_7 bpz0_8 bpz0_10 bpz0_11 bpz0_12 bpz0_13 bpz0_14 bpz0_18 bpz0_22 bpz0_29 tfz1) mt_X10_noHigh q_7_182 ⟨Nat.le_of_ble_eq_true rfl, Nat.le_of_ble_eq_true rfl⟩ hK hP hD hS hA hE [0, 1] rfl rfl 0 rfl rfl rfl rfl hl.1 rfl (Nat.le_of_ble_eq_true rfl) dX10_rows_8 ⟨Nat.le_of_ble_eq_true rfl, Nat.le_of_ble_eq_true rfl⟩) hP hD hS hA [0, 1] [2, 3, 4, 5, 6, 7, 8] rfl rfl rfl (by decide) (fun r_1 w H locs hw hP hD hS => ?_)
  obtain ⟨br_1, g_2, g_3, rfl⟩ := hw
  have hP : va_P V.1 vwCl [(z 15, aI V 900 fz15), (z 16, aI V 6 fz16), (z 24, aI V 10000 fz24), (z 25, aI V 40000 fz25), (z 28, aZ V 10000 fz28), (z 30, aJ V 10000 fz30), (z 31, aJ V 10000 fz31), (z 0, .inr (10, mo z 0 pz0_5 pz0_6 pz0_7 pz0_8 pz0_9 pz0_10 pz0_11 pz0_12 pz0_13 pz0_14 pz0_18 pz0_19 pz0_22 pz0_23 pz0_29)), (z 1, aI V 3075 fz1)] H := hP
  have hD : va_D A [(z 15, aI V 900 fz15), (z 16, aI V 6 fz16), (z 24, aI V 10000 fz24), (z 25, aI V 40000 fz25), (z 28, aZ V 10000 fz28), (z 30, aJ V 10000 fz30), (z 31, aJ V 10000 fz31), (z 0, .inr (10, mo z 0 pz0_5 pz0_6 pz0_7 pz0_8 pz0_9 pz0_10 pz0_11 pz0_12 pz0_13 pz0_14 pz0_18 pz0_19 pz0_22 pz0_23 pz0_29)), (z 1, aI V 3075 fz1)] := hD
  refine lv_istore (lv' := [(4, .int r_1), (0, .ref (z 0)), (1, .int a1), (2, .int a2), (3, .int a3)]) hx hb dX10_rows_11 hl (by decide) rfl (fun ls hl => ?_)
  refine lv_iload hx hb dX10_rows_13 (lv_at hl 0 rfl) ?_
  refine lv_if_eq (tgt := 22) hx hb dX10_rows_15 (by decide) (fun c_4 => ?_) (fun c_4 => ?_)
  · have b_5 : iv 0 0 r_1 := iv_q c_4 (iv_c (0 : Int32) (a := 0) (b := 0) (by decide))
    have b_6 : iv 0 3 a1 := iv_cap (g_2 (iv_eqp b_5 (iv_c (0 : Int32) (by decide)))) (iv_top a1) (by decide)
    have b_7 : iv 0 4 a2 := iv_cap (g_3 (iv_eqp b_5 (iv_c (0 : Int32) (by decide)))) (iv_top a2) (by decide)
    refine lv_iload_n hx hb dX10_rows_22 rfl (lv_at hl 4 rfl) ?_
    refine lv_i2l hx hb dX10_rows_23 rfl ?_
    refine lv_topl (fun j_8 ej_8 => ?_)
    refine lv_lconst (v := 0) hx hb dX10_rows_24 (by decide) ?_
    refine lv_ldc2 (v := 12) hx hb hown (hg _ q_7_218) dX10_rows_25 ?_
    refine jnI (wr := [(z 15, aI V 900 fz15), (z 16, aI V 6 fz16), (z 24, aI V 10000 fz24), (z 25, aI V 40000 fz25), (z 28, aZ V 10000 fz28), (z 30, aJ V 10000 fz30), (z 31, aJ V 10000 fz31), (z 0, .inr (10, mo z 0 pz0_5 pz0_6 pz0_7 pz0_8 pz0_9 pz0_10 pz0_11 pz0_12 pz0_13 pz0_14 pz0_18 pz0_19 pz0_22 pz0_23 pz0_29)), (z 1, aI V 3075 fz1)]) (rnS (rest := []) ⟨hx, hb, hml, hown, hg⟩ (k_X10_within_0 l V j_8 0 12) mt_X10_within q_6_114 ⟨Nat.le_of_ble_eq_true rfl, Nat.le_of_ble_eq_true rfl⟩ hK hP hD hS hA hE [] rfl rfl rfl hl.1 rfl (Nat.le_of_ble_eq_true rfl) dX10_rows_28 ⟨Nat.le_of_ble_eq_true rfl, Nat.le_of_ble_eq_true rfl⟩) hP hD hS hA [] [0, 1, 2, 3, 4, 5, 6, 7, 8] rfl rfl rfl (by decide) (fun r_9 w H locs hw hP hD hS => ?_)
    obtain ⟨br_9, g_10, g_11, g_12, rfl⟩ := hw
    have hP : va_P V.1 vwCl [(z 15, aI V 900 fz15), (z 16, aI V 6 fz16), (z 24, aI V 10000 fz24), (z 25, aI V 40000 fz25), (z 28, aZ V 10000 fz28), (z 30, aJ V 10000 fz30), (z 31, aJ V 10000 fz31), (z 0, .inr (10, mo z 0 pz0_5 pz0_6 pz0_7 pz0_8 pz0_9 pz0_10 pz0_11 pz0_12 pz0_13 pz0_14 pz0_18 pz0_19 pz0_22 pz0_23 pz0_29)), (z 1, aI V 3075 fz1)] H := hP
    have hD : va_D A [(z 15, aI V 900 fz15), (z 16, aI V 6 fz16), (z 24, aI V 10000 fz24), (z 25, aI V 40000 fz25), (z 28, aZ V 10000 fz28), (z 30, aJ V 10000 fz30), (z 31, aJ V 10000 fz31), (z 0, .inr (10, mo z 0 pz0_5 pz0_6 pz0_7 pz0_8 pz0_9 pz0_10 pz0_11 pz0_12 pz0_13 pz0_14 pz0_18 pz0_19 pz0_22 pz0_23 pz0_29)), (z 1, aI V 3075 fz1)] := hD
    refine lv_if_ne (tgt := 38) hx hb dX10_rows_31 (by decide) (fun c_13 => ?_) (fun c_13 => ?_)
    · have b_14 : iv 1 1 r_9 := iv_n0 c_13 br_9 (iv_c (0 : Int32) (a := 0) (b := 0) (by decide)) (by decide)
      have c_15 : (0 : Int64) ≤ j_8 := (g_11 (iv_eqp b_14 (iv_c (1 : Int32) (by decide))))
      have b_16 : ivL 0 9223372036854775807 j_8 := ivL_e2 c_15 (ivL_c (0 : Int64) (a := 0) (b := 0) (by decide)) (ivL_top j_8) (by decide)
      have b_17 : iv 0 2147483647 a3 := iv_cap (ivL_i ej_8 b_16) (iv_top a3) (by decide)
      have c_18 : j_8 ≤ 12 := (g_12 (iv_eqp b_14 (iv_c (1 : Int32) (by decide))))
      have b_19 : ivL 0 12 j_8 := ivL_e1 c_18 b_16 (ivL_c (12 : Int64) (a := 12) (b := 12) (by decide)) (by decide)
      have b_20 : iv 0 12 a3 := iv_cap (ivL_i ej_8 b_19) b_17 (by decide)
      refine lv_aload_n hx hb dX10_rows_38 rfl (lv_at hl 1 rfl) ?_
      refine jnV (wr := [(z 30, aJ V 10000 fz30), (z 31, aJ V 10000 fz31)]) (rnV (rest := []) ⟨hx, hb, hml, hown, hg⟩ (k_X10_laysStands_0 l V z fz15 fz16 fz24 fz25 fz28 0 pz0_5 pz0_6 pz0_7 pz0_8 pz0_9 pz0_10 pz0_11 pz0_12 pz0_13 pz0_14 pz0_18 pz0_19 pz0_22 pz0_23 pz0_29 fz1 tfz16 tfz24 tfz25 bpz0_5 bpz0_6 bpz0_7 bpz0_8 bpz0_10 bpz0_11 bpz0_12 bpz0_13 bpz0_14 bpz0_18 bpz0_22 bpz0_29 tfz1 hf0) mt_X10_laysStands q_7_194 ⟨Nat.le_of_ble_eq_true rfl, Nat.le_of_ble_eq_true rfl⟩ hK hP hD hS hA hE [0, 1, 2, 3, 4, 7, 8] rfl rfl 7 rfl rfl rfl rfl hl.1 rfl (Nat.le_of_ble_eq_true rfl) dX10_rows_39 ⟨Nat.le_of_ble_eq_true rfl, Nat.le_of_ble_eq_true rfl⟩) hP hD hS hA [0, 1, 2, 3, 4, 7, 8] [5, 6] rfl rfl rfl (by decide) (fun  w H locs hw hP hD hS => ?_)
      obtain ⟨f_21, f_22, f_23, f_24, f_25, v_26, tf_22, tf_23, tf_24, bv_26, g_27, g_28, g_29, rfl⟩ := hw
      have hP : va_P V.1 vwCl [(z 30, aJ V 10000 fz30), (z 31, aJ V 10000 fz31), (z 15, aI V 900 f_21), (z 16, aI V 6 f_22), (z 24, aI V 10000 f_23), (z 25, aI V 40000 f_24), (z 28, aZ V 10000 f_25), (z 0, .inr (10, mo z 0 pz0_5 pz0_6 pz0_7 pz0_8 pz0_9 pz0_10 pz0_11 pz0_12 pz0_13 pz0_14 pz0_18 pz0_19 pz0_22 pz0_23 v_26)), (z 1, aI V 3075 fz1)] H := hP
      have hD : va_D A [(z 30, aJ V 10000 fz30), (z 31, aJ V 10000 fz31), (z 15, aI V 900 f_21), (z 16, aI V 6 f_22), (z 24, aI V 10000 f_23), (z 25, aI V 40000 f_24), (z 28, aZ V 10000 f_25), (z 0, .inr (10, mo z 0 pz0_5 pz0_6 pz0_7 pz0_8 pz0_9 pz0_10 pz0_11 pz0_12 pz0_13 pz0_14 pz0_18 pz0_19 pz0_22 pz0_23 v_26)), (z 1, aI V 3075 fz1)] := hD
      refine lv_aload_n hx hb dX10_rows_42 rfl (lv_at hl 1 rfl) ?_
      refine jnV (wr := [(z 15, aI V 900 f_21), (z 16, aI V 6 f_22), (z 24, aI V 10000 f_23), (z 25, aI V 40000 f_24), (z 28, aZ V 10000 f_25)]) (rnV (rest := []) ⟨hx, hb, hml, hown, hg⟩ (k_X10_beginsMany_0 l V z fz30 fz31 0 pz0_5 pz0_6 pz0_7 pz0_8 pz0_9 pz0_10 pz0_11 pz0_12 pz0_13 pz0_14 pz0_18 pz0_19 pz0_22 pz0_23 v_26 fz1 bpz0_5 bpz0_6 bpz0_7 bpz0_8 bpz0_10 bpz0_11 bpz0_12 bpz0_13 bpz0_14 bpz0_18 bpz0_22 bv_26 tfz1) mt_X10_beginsMany q_7_220 ⟨Nat.le_of_ble_eq_true rfl, Nat.le_of_ble_eq_true rfl⟩ hK hP hD hS hA hE [0, 1, 7, 8] rfl rfl 7 rfl rfl rfl rfl hl.1 rfl (Nat.le_of_ble_eq_true rfl) dX10_rows_43 ⟨Nat.le_of_ble_eq_true rfl, Nat.le_of_ble_eq_true rfl⟩) hP hD hS hA [0, 1, 7, 8] [2, 3, 4, 5, 6] rfl rfl rfl (by decide) (fun  w H locs hw hP hD hS => ?_)
      obtain ⟨f_30, f_31, rfl⟩ := hw
      have hP : va_P V.1 vwCl [(z 15, aI V 900 f_21), (z 16, aI V 6 f_22), (z 24, aI V 10000 f_23), (z 25, aI V 40000 f_24), (z 28, aZ V 10000 f_25), (z 30, aJ V 10000 f_30), (z 31, aJ V 10000 f_31), (z 0, .inr (10, mo z 0 pz0_5 pz0_6 pz0_7 pz0_8 pz0_9 pz0_10 pz0_11 pz0_12 pz0_13 pz0_14 pz0_18 pz0_19 pz0_22 pz0_23 v_26)), (z 1, aI V 3075 fz1)] H := hP
      have hD : va_D A [(z 15, aI V 900 f_21), (z 16, aI V 6 f_22), (z 24, aI V 10000 f_23), (z 25, aI V 40000 f_24), (z 28, aZ V 10000 f_25), (z 30, aJ V 10000 f_30), (z 31, aJ V 10000 f_31), (z 0, .inr (10, mo z 0 pz0_5 pz0_6 pz0_7 pz0_8 pz0_9 pz0_10 pz0_11 pz0_12 pz0_13 pz0_14 pz0_18 pz0_19 pz0_22 pz0_23 v_26)), (z 1, aI V 3075 fz1)] := hD
      refine lv_iconst (v := 0) hx hb dX10_rows_46 (by decide) ?_
      refine lv_istore (lv' := [(5, .int 0), (4, .int r_1), (0, .ref (z 0)), (1, .int a1), (2, .int a2), (3, .int a3)]) hx hb dX10_rows_47 hl (by decide) rfl (fun ls hl => ?_)
      refine loopF (X := fun (n_35 : Nat) (H : Heap) (locs : List Loc) (ls : Array Slot) => ∃ (u_32 : Int32) (f_33 : Nat → Int64) (f_34 : Nat → Int64), (iv 0 2147483647 u_32) ∧ (RW fz1) ∧ n_35 = (2147483647 - (u_32 : Int32).toInt).toNat ∧ va_P V.1 vwCl [(z 15, aI V 900 f_21), (z 16, aI V 6 f_22), (z 24, aI V 10000 f_23), (z 25, aI V 40000 f_24), (z 28, aZ V 10000 f_25), (z 30, aJ V 10000 f_33), (z 31, aJ V 10000 f_34), (z 0, .inr (10, mo z 0 pz0_5 pz0_6 pz0_7 pz0_8 pz0_9 pz0_10 pz0_11 pz0_12 pz0_13 pz0_14 pz0_18 pz0_19 pz0_22 pz0_23 v_26)), (z 1, aI V 3075 fz1)] H ∧ va_D A [(z 15, aI V 900 f_21), (z 16, aI V 6 f_22), (z 24, aI V 10000 f_23), (z 25, aI V 40000 f_24), (z 28, aZ V 10000 f_25), (z 30, aJ V 10000 f_33), (z 31, aJ V 10000 f_34), (z 0, .inr (10, mo z 0 pz0_5 pz0_6 pz0_7 pz0_8 pz0_9 pz0_10 pz0_11 pz0_12 pz0_13 pz0_14 pz0_18 pz0_19 pz0_22 pz0_23 v_26)), (z 1, aI V 3075 fz1)] ∧ va_S A s.heap H locs ∧ lv_has ls 8 [(5, .int u_32), (4, .int r_1), (0, .ref (z 0)), (1, .int a1), (2, .int a2), (3, .int a3)]) (g := fun ls => F0 m 49 ls []) (fun n_35 H locs ls hX ihn_35 => ?_) _ ⟨0, f_30, f_31, (iv_c (0 : Int32) (by decide)), g_27, rfl, hP, hD, hS, lv_sub hl [0, 1, 2, 3, 4, 5] rfl⟩
      obtain ⟨u_32, f_33, f_34, bu_32, inn_35_0, en_35, hP, hD, hS, hl⟩ := hX
      refine lv_iload hx hb dX10_rows_49 (lv_at hl 0 rfl) ?_
      refine lv_iload_n hx hb dX10_rows_51 rfl (lv_at hl 5 rfl) ?_
      refine lv_icmp_ge (tgt := 67) hx hb dX10_rows_52 (by decide) (fun c_36 => ?_) (fun c_36 => ?_)
      · refine lv_lconst (v := 0) hx hb dX10_rows_67 (by decide) ?_
        refine lv_lstore (lv' := [(5, .long 0), (4, .int r_1), (0, .ref (z 0)), (1, .int a1), (2, .int a2), (3, .int a3)]) hx hb dX10_rows_68 hl (by decide) rfl (fun ls hl => ?_)
        refine lv_iconst (v := 0) hx hb dX10_rows_70 (by decide) ?_
        refine lv_istore (lv' := [(7, .int 0), (5, .long 0), (4, .int r_1), (0, .ref (z 0)), (1, .int a1), (2, .int a2), (3, .int a3)]) hx hb dX10_rows_71 hl (by decide) rfl (fun ls hl => ?_)
        refine loopF (X := fun (n_39 : Nat) (H : Heap) (locs : List Loc) (ls : Array Slot) => ∃ (u_37 : Int32) (w_38 : Int64), (iv 0 2147483647 u_37) ∧ (RW fz1) ∧ n_39 = (2147483647 - (u_37 : Int32).toInt).toNat ∧ va_P V.1 vwCl [(z 15, aI V 900 f_21), (z 16, aI V 6 f_22), (z 24, aI V 10000 f_23), (z 25, aI V 40000 f_24), (z 28, aZ V 10000 f_25), (z 30, aJ V 10000 f_33), (z 31, aJ V 10000 f_34), (z 0, .inr (10, mo z 0 pz0_5 pz0_6 pz0_7 pz0_8 pz0_9 pz0_10 pz0_11 pz0_12 pz0_13 pz0_14 pz0_18 pz0_19 pz0_22 pz0_23 v_26)), (z 1, aI V 3075 fz1)] H ∧ va_D A [(z 15, aI V 900 f_21), (z 16, aI V 6 f_22), (z 24, aI V 10000 f_23), (z 25, aI V 40000 f_24), (z 28, aZ V 10000 f_25), (z 30, aJ V 10000 f_33), (z 31, aJ V 10000 f_34), (z 0, .inr (10, mo z 0 pz0_5 pz0_6 pz0_7 pz0_8 pz0_9 pz0_10 pz0_11 pz0_12 pz0_13 pz0_14 pz0_18 pz0_19 pz0_22 pz0_23 v_26)), (z 1, aI V 3075 fz1)] ∧ va_S A s.heap H locs ∧ lv_has ls 8 [(7, .int u_37), (5, .long w_38), (4, .int r_1), (0, .ref (z 0)), (1, .int a1), (2, .int a2), (3, .int a3)]) (g := fun ls => F0 m 73 ls []) (fun n_39 H locs ls hX ihn_39 => ?_) _ ⟨0, 0, (iv_c (0 : Int32) (by decide)), inn_35_0, rfl, hP, hD, hS, lv_sub hl [0, 1, 2, 3, 4, 5, 6] rfl⟩
        obtain ⟨u_37, w_38, bu_37, inn_39_0, en_39, hP, hD, hS, hl⟩ := hX
        refine lv_iload hx hb dX10_rows_73 (lv_at hl 0 rfl) ?_
        refine lv_aload_n hx hb dX10_rows_75 rfl (lv_at hl 3 rfl) ?_
        refine va_get (ci := 10) (v := .int v_26) (C := RX10) (T := TX10) (N := 40) hx hb hg inX10 hown hK hP 7 rfl rfl 29 (by decide) (hg _ q_6_13) (fun _ h9 => h9) rfl dX10_rows_76 ?_
        refine lv_icmp_ge (tgt := 124) hx hb dX10_rows_79 (by decide) (fun c_40 => ?_) (fun c_40 => ?_)
        · refine lv_lload hx hb dX10_rows_124 (lv_at hl 1 rfl) ?_
          have hP := subP (ws' := [(z 0, .inr (10, mo z 0 pz0_5 pz0_6 pz0_7 pz0_8 pz0_9 pz0_10 pz0_11 pz0_12 pz0_13 pz0_14 pz0_18 pz0_19 pz0_22 pz0_23 v_26)), (z 1, aI V 3075 fz1), (z 15, aI V 900 f_21), (z 16, aI V 6 f_22), (z 24, aI V 10000 f_23), (z 25, aI V 40000 f_24), (z 28, aZ V 10000 f_25), (z 30, aJ V 10000 f_33), (z 31, aJ V 10000 f_34)]) hP [7, 8, 0, 1, 2, 3, 4, 5, 6] rfl
          have hD := hD.sub (ws' := [(z 0, .inr (10, mo z 0 pz0_5 pz0_6 pz0_7 pz0_8 pz0_9 pz0_10 pz0_11 pz0_12 pz0_13 pz0_14 pz0_18 pz0_19 pz0_22 pz0_23 v_26)), (z 1, aI V 3075 fz1), (z 15, aI V 900 f_21), (z 16, aI V 6 f_22), (z 24, aI V 10000 f_23), (z 25, aI V 40000 f_24), (z 28, aZ V 10000 f_25), (z 30, aJ V 10000 f_33), (z 31, aJ V 10000 f_34)]) [7, 8, 0, 1, 2, 3, 4, 5, 6] rfl rfl
          exact fiL hx hb hr hlk hK hP hD hS dX10_rows_126 (Nat.le_of_ble_eq_true rfl) (Nat.le_of_ble_eq_true rfl) (⟨0, v_26, f_21, f_22, f_23, f_24, f_25, f_33, f_34, bv_26, tf_22, tf_23, tf_24, inn_39_0, rfl⟩)
        · have b_41 : iv 0 9999 u_37 := iv_l1 (Int32.not_le.mp c_40) bu_37 bv_26 (by decide)
          have b_42 : iv 1 10000 v_26 := iv_l2 (Int32.not_le.mp c_40) bu_37 bv_26 (by decide)
          refine lv_lload hx hb dX10_rows_82 (lv_at hl 1 rfl) ?_
          refine lv_aload_n hx hb dX10_rows_84 rfl (lv_at hl 3 rfl) ?_
          refine va_get (ci := 10) (v := .ref (z 24)) (C := RX10) (T := TX10) (N := 40) hx hb hg inX10 hown hK hP 7 rfl rfl 24 (by decide) (hg _ q_6_8) (fun _ h9 => h9) rfl dX10_rows_85 ?_
          refine lv_iload hx hb dX10_rows_88 (lv_at hl 0 rfl) ?_
          refine va_iald hx hb hK hP 2 0 rfl rfl (iv_in b_41 (by decide)) dX10_rows_90 ?_
          refine lv_topi (fun x_43 ex_43 => ?_)
          have bx_43 : iv 0 9999 x_43 := by rw [ex_43]; exact tf_23 _
          refine lv_iload_n hx hb dX10_rows_91 rfl (lv_at hl 4 rfl) ?_
          refine jnI (wr := [(z 15, aI V 900 f_21), (z 16, aI V 6 f_22), (z 24, aI V 10000 f_23), (z 25, aI V 40000 f_24), (z 28, aZ V 10000 f_25), (z 30, aJ V 10000 f_33), (z 31, aJ V 10000 f_34), (z 0, .inr (10, mo z 0 pz0_5 pz0_6 pz0_7 pz0_8 pz0_9 pz0_10 pz0_11 pz0_12 pz0_13 pz0_14 pz0_18 pz0_19 pz0_22 pz0_23 v_26)), (z 1, aI V 3075 fz1)]) (rnS (rest := [.long w_38]) ⟨hx, hb, hml, hown, hg⟩ (k_X10_stackIn_0 l V x_43 a1 bx_43 b_6) mt_X10_stackIn q_7_26 ⟨Nat.le_of_ble_eq_true rfl, Nat.le_of_ble_eq_true rfl⟩ hK hP hD hS hA hE [] rfl rfl rfl hl.1 rfl (Nat.le_of_ble_eq_true rfl) dX10_rows_92 ⟨Nat.le_of_ble_eq_true rfl, Nat.le_of_ble_eq_true rfl⟩) hP hD hS hA [] [0, 1, 2, 3, 4, 5, 6, 7, 8] rfl rfl rfl (by decide) (fun r_44 w H locs hw hP hD hS => ?_)
          obtain ⟨br_44, er_44, rfl⟩ := hw
          have hP : va_P V.1 vwCl [(z 15, aI V 900 f_21), (z 16, aI V 6 f_22), (z 24, aI V 10000 f_23), (z 25, aI V 40000 f_24), (z 28, aZ V 10000 f_25), (z 30, aJ V 10000 f_33), (z 31, aJ V 10000 f_34), (z 0, .inr (10, mo z 0 pz0_5 pz0_6 pz0_7 pz0_8 pz0_9 pz0_10 pz0_11 pz0_12 pz0_13 pz0_14 pz0_18 pz0_19 pz0_22 pz0_23 v_26)), (z 1, aI V 3075 fz1)] H := hP
          have hD : va_D A [(z 15, aI V 900 f_21), (z 16, aI V 6 f_22), (z 24, aI V 10000 f_23), (z 25, aI V 40000 f_24), (z 28, aZ V 10000 f_25), (z 30, aJ V 10000 f_33), (z 31, aJ V 10000 f_34), (z 0, .inr (10, mo z 0 pz0_5 pz0_6 pz0_7 pz0_8 pz0_9 pz0_10 pz0_11 pz0_12 pz0_13 pz0_14 pz0_18 pz0_19 pz0_22 pz0_23 v_26)), (z 1, aI V 3075 fz1)] := hD
          refine lv_iload_n hx hb dX10_rows_95 rfl (lv_at hl 5 rfl) ?_
          refine lv_icmp_ne (tgt := 114) hx hb dX10_rows_96 (by decide) (fun c_45 => ?_) (fun c_45 => ?_)
          · refine lv_lconst (v := 0) hx hb dX10_rows_114 (by decide) ?_
            refine lv_ladd hx hb dX10_rows_115 ?_
            refine lv_topl (fun j_46 ej_46 => ?_)
            refine lv_lstore (lv' := [(5, .long j_46), (7, .int u_37), (4, .int r_1), (0, .ref (z 0)), (1, .int a1), (2, .int a2), (3, .int a3)]) hx hb dX10_rows_116 hl (by decide) rfl (fun ls hl => ?_)
            obtain ⟨x_47, ex_47⟩ : ∃ z9 : Int32, z9 = u_37 + 1 := ⟨_, rfl⟩
            have bx_47 : iv 1 10000 x_47 := by rw [ex_47]; exact iv_add b_41 (iv_c (1 : Int32) (a := 1) (b := 1) (by decide)) (by decide)
            refine lv_iinc (v := x_47) (lv' := [(7, .int x_47), (5, .long j_46), (4, .int r_1), (0, .ref (z 0)), (1, .int a1), (2, .int a2), (3, .int a3)]) hx hb dX10_rows_118 hl (k := 1) rfl (by rw [ex_47]; rfl) (by decide) rfl (fun ls hl => ?_)
            refine lv_goto (tgt := 73) hx hb dX10_rows_121 (by decide) ?_
            exact ihn_39 _ _ _ _ (by rw [en_39, ex_47]; exact mu_up b_41 (by decide)) ⟨x_47, j_46, (iv_w bx_47 (by decide)), inn_39_0, rfl, hP, hD, hS, lv_sub hl [0, 1, 2, 3, 4, 5, 6] rfl⟩
          · refine lv_aload_n hx hb dX10_rows_99 rfl (lv_at hl 3 rfl) ?_
            refine va_get (ci := 10) (v := .ref (z 30)) (C := RX10) (T := TX10) (N := 40) hx hb hg inX10 hown hK hP 7 rfl rfl 30 (by decide) (hg _ q_6_14) (fun _ h9 => h9) rfl dX10_rows_100 ?_
            refine lv_aload_n hx hb dX10_rows_103 rfl (lv_at hl 3 rfl) ?_
            refine va_get (ci := 10) (v := .ref (z 24)) (C := RX10) (T := TX10) (N := 40) hx hb hg inX10 hown hK hP 7 rfl rfl 24 (by decide) (hg _ q_6_8) (fun _ h9 => h9) rfl dX10_rows_104 ?_
            refine lv_iload hx hb dX10_rows_107 (lv_at hl 0 rfl) ?_
            refine va_iald hx hb hK hP 2 0 rfl rfl (iv_in b_41 (by decide)) dX10_rows_109 ?_
            refine tpi (y := x_43) ex_43.symm ?_
            refine va_lald hx hb hK hP 5 2 rfl rfl (iv_in bx_43 (by decide)) dX10_rows_110 ?_
            refine lv_topl (fun j_48 ej_48 => ?_)
            refine lv_goto (tgt := 115) hx hb dX10_rows_111 (by decide) ?_
            refine lv_ladd hx hb dX10_rows_115 ?_
            refine lv_topl (fun j_49 ej_49 => ?_)
            refine lv_lstore (lv' := [(5, .long j_49), (7, .int u_37), (4, .int r_1), (0, .ref (z 0)), (1, .int a1), (2, .int a2), (3, .int a3)]) hx hb dX10_rows_116 hl (by decide) rfl (fun ls hl => ?_)
            obtain ⟨x_50, ex_50⟩ : ∃ z9 : Int32, z9 = u_37 + 1 := ⟨_, rfl⟩
            have bx_50 : iv 1 10000 x_50 := by rw [ex_50]; exact iv_add b_41 (iv_c (1 : Int32) (a := 1) (b := 1) (by decide)) (by decide)
            refine lv_iinc (v := x_50) (lv' := [(7, .int x_50), (5, .long j_49), (4, .int r_1), (0, .ref (z 0)), (1, .int a1), (2, .int a2), (3, .int a3)]) hx hb dX10_rows_118 hl (k := 1) rfl (by rw [ex_50]; rfl) (by decide) rfl (fun ls hl => ?_)
            refine lv_goto (tgt := 73) hx hb dX10_rows_121 (by decide) ?_
            exact ihn_39 _ _ _ _ (by rw [en_39, ex_50]; exact mu_up b_41 (by decide)) ⟨x_50, j_49, (iv_w bx_50 (by decide)), inn_39_0, rfl, hP, hD, hS, lv_sub hl [0, 1, 2, 3, 4, 5, 6] rfl⟩
      · have b_51 : iv 0 11 u_32 := iv_l1 (Int32.not_le.mp c_36) bu_32 b_20 (by decide)
        have b_52 : iv 1 12 a3 := iv_l2 (Int32.not_le.mp c_36) bu_32 b_20 (by decide)
        refine lv_aload_n hx hb dX10_rows_55 rfl (lv_at hl 2 rfl) ?_
        refine lv_lconst (v := 1) hx hb dX10_rows_56 (by decide) ?_
        refine lv_lconst (v := 1) hx hb dX10_rows_57 (by decide) ?_
        refine jnV (wr := [(z 15, aI V 900 f_21), (z 16, aI V 6 f_22), (z 28, aZ V 10000 f_25), (z 1, aI V 3075 fz1)]) (rnV (rest := []) ⟨hx, hb, hml, hown, hg⟩ (k_X10_goesMany_0 l V z 1 1 f_23 f_24 f_33 f_34 0 pz0_5 pz0_6 pz0_7 pz0_8 pz0_9 pz0_10 pz0_11 pz0_12 pz0_13 pz0_14 pz0_18 pz0_19 pz0_22 pz0_23 v_26 tf_23 tf_24 bpz0_5 bpz0_6 bpz0_7 bpz0_8 bpz0_10 bpz0_11 bpz0_12 bpz0_13 bpz0_14 bpz0_18 bpz0_22 bv_26) mt_X10_goesMany q_7_224 ⟨Nat.le_of_ble_eq_true rfl, Nat.le_of_ble_eq_true rfl⟩ hK hP hD hS hA hE [2, 3, 5, 6, 7] rfl rfl 7 rfl rfl rfl rfl hl.1 rfl (Nat.le_of_ble_eq_true rfl) dX10_rows_58 ⟨Nat.le_of_ble_eq_true rfl, Nat.le_of_ble_eq_true rfl⟩) hP hD hS hA [2, 3, 5, 6, 7] [0, 1, 4, 8] rfl rfl rfl (by decide) (fun  w H locs hw hP hD hS => ?_)
        obtain ⟨f_53, f_54, rfl⟩ := hw
        have hP : va_P V.1 vwCl [(z 15, aI V 900 f_21), (z 16, aI V 6 f_22), (z 28, aZ V 10000 f_25), (z 1, aI V 3075 fz1), (z 24, aI V 10000 f_23), (z 25, aI V 40000 f_24), (z 30, aJ V 10000 f_53), (z 31, aJ V 10000 f_54), (z 0, .inr (10, mo z 0 pz0_5 pz0_6 pz0_7 pz0_8 pz0_9 pz0_10 pz0_11 pz0_12 pz0_13 pz0_14 pz0_18 pz0_19 pz0_22 pz0_23 v_26))] H := hP
        have hD : va_D A [(z 15, aI V 900 f_21), (z 16, aI V 6 f_22), (z 28, aZ V 10000 f_25), (z 1, aI V 3075 fz1), (z 24, aI V 10000 f_23), (z 25, aI V 40000 f_24), (z 30, aJ V 10000 f_53), (z 31, aJ V 10000 f_54), (z 0, .inr (10, mo z 0 pz0_5 pz0_6 pz0_7 pz0_8 pz0_9 pz0_10 pz0_11 pz0_12 pz0_13 pz0_14 pz0_18 pz0_19 pz0_22 pz0_23 v_26))] := hD
        obtain ⟨x_55, ex_55⟩ : ∃ z9 : Int32, z9 = u_32 + 1 := ⟨_, rfl⟩
        have bx_55 : iv 1 12 x_55 := by rw [ex_55]; exact iv_add b_51 (iv_c (1 : Int32) (a := 1) (b := 1) (by decide)) (by decide)
        refine lv_iinc (v := x_55) (lv' := [(5, .int x_55), (4, .int r_1), (0, .ref (z 0)), (1, .int a1), (2, .int a2), (3, .int a3)]) hx hb dX10_rows_61 hl (k := 0) rfl (by rw [ex_55]; rfl) (by decide) rfl (fun ls hl => ?_)
        refine lv_goto (tgt := 49) hx hb dX10_rows_64 (by decide) ?_
        have hP := subP (ws' := [(z 15, aI V 900 f_21), (z 16, aI V 6 f_22), (z 24, aI V 10000 f_23), (z 25, aI V 40000 f_24), (z 28, aZ V 10000 f_25), (z 30, aJ V 10000 f_53), (z 31, aJ V 10000 f_54), (z 0, .inr (10, mo z 0 pz0_5 pz0_6 pz0_7 pz0_8 pz0_9 pz0_10 pz0_11 pz0_12 pz0_13 pz0_14 pz0_18 pz0_19 pz0_22 pz0_23 v_26)), (z 1, aI V 3075 fz1)]) hP [0, 1, 4, 5, 2, 6, 7, 8, 3] rfl
        have hD := hD.sub (ws' := [(z 15, aI V 900 f_21), (z 16, aI V 6 f_22), (z 24, aI V 10000 f_23), (z 25, aI V 40000 f_24), (z 28, aZ V 10000 f_25), (z 30, aJ V 10000 f_53), (z 31, aJ V 10000 f_54), (z 0, .inr (10, mo z 0 pz0_5 pz0_6 pz0_7 pz0_8 pz0_9 pz0_10 pz0_11 pz0_12 pz0_13 pz0_14 pz0_18 pz0_19 pz0_22 pz0_23 v_26)), (z 1, aI V 3075 fz1)]) [0, 1, 4, 5, 2, 6, 7, 8, 3] rfl rfl
        exact ihn_35 _ _ _ _ (by rw [en_35, ex_55]; exact mu_up b_51 (by decide)) ⟨x_55, f_53, f_54, (iv_w bx_55 (by decide)), inn_35_0, rfl, hP, hD, hS, lv_sub hl [0, 1, 2, 3, 4, 5] rfl⟩
    · have b_56 : iv 0 0 r_9 := iv_q c_13 (iv_c (0 : Int32) (a := 0) (b := 0) (by decide))
      refine lv_ldc2 (v := (-3)) hx hb hown (hg _ q_7_219) dX10_rows_34 ?_
      have hP := subP (ws' := [(z 0, .inr (10, mo z 0 pz0_5 pz0_6 pz0_7 pz0_8 pz0_9 pz0_10 pz0_11 pz0_12 pz0_13 pz0_14 pz0_18 pz0_19 pz0_22 pz0_23 pz0_29)), (z 1, aI V 3075 fz1), (z 15, aI V 900 fz15), (z 16, aI V 6 fz16), (z 24, aI V 10000 fz24), (z 25, aI V 40000 fz25), (z 28, aZ V 10000 fz28), (z 30, aJ V 10000 fz30), (z 31, aJ V 10000 fz31)]) hP [7, 8, 0, 1, 2, 3, 4, 5, 6] rfl
      have hD := hD.sub (ws' := [(z 0, .inr (10, mo z 0 pz0_5 pz0_6 pz0_7 pz0_8 pz0_9 pz0_10 pz0_11 pz0_12 pz0_13 pz0_14 pz0_18 pz0_19 pz0_22 pz0_23 pz0_29)), (z 1, aI V 3075 fz1), (z 15, aI V 900 fz15), (z 16, aI V 6 fz16), (z 24, aI V 10000 fz24), (z 25, aI V 40000 fz25), (z 28, aZ V 10000 fz28), (z 30, aJ V 10000 fz30), (z 31, aJ V 10000 fz31)]) [7, 8, 0, 1, 2, 3, 4, 5, 6] rfl rfl
      exact fiL hx hb hr hlk hK hP hD hS dX10_rows_37 (Nat.le_of_ble_eq_true rfl) (Nat.le_of_ble_eq_true rfl) (⟨0, pz0_29, fz15, fz16, fz24, fz25, fz28, fz30, fz31, bpz0_29, tfz16, tfz24, tfz25, hf0, rfl⟩)
  · have b_57 : iv (-3) (-1) r_1 := iv_n1 c_4 br_1 (iv_c (0 : Int32) (a := 0) (b := 0) (by decide)) (by decide)
    refine lv_iload hx hb dX10_rows_18 (lv_at hl 0 rfl) ?_
    refine lv_i2l hx hb dX10_rows_20 rfl ?_
    refine lv_topl (fun j_58 ej_58 => ?_)
    have bj_58 : ivL (-3) (-1) j_58 := by rw [ej_58]; exact ivL_of b_57
    have hP := subP (ws' := [(z 0, .inr (10, mo z 0 pz0_5 pz0_6 pz0_7 pz0_8 pz0_9 pz0_10 pz0_11 pz0_12 pz0_13 pz0_14 pz0_18 pz0_19 pz0_22 pz0_23 pz0_29)), (z 1, aI V 3075 fz1), (z 15, aI V 900 fz15), (z 16, aI V 6 fz16), (z 24, aI V 10000 fz24), (z 25, aI V 40000 fz25), (z 28, aZ V 10000 fz28), (z 30, aJ V 10000 fz30), (z 31, aJ V 10000 fz31)]) hP [7, 8, 0, 1, 2, 3, 4, 5, 6] rfl
    have hD := hD.sub (ws' := [(z 0, .inr (10, mo z 0 pz0_5 pz0_6 pz0_7 pz0_8 pz0_9 pz0_10 pz0_11 pz0_12 pz0_13 pz0_14 pz0_18 pz0_19 pz0_22 pz0_23 pz0_29)), (z 1, aI V 3075 fz1), (z 15, aI V 900 fz15), (z 16, aI V 6 fz16), (z 24, aI V 10000 fz24), (z 25, aI V 40000 fz25), (z 28, aZ V 10000 fz28), (z 30, aJ V 10000 fz30), (z 31, aJ V 10000 fz31)]) [7, 8, 0, 1, 2, 3, 4, 5, 6] rfl rfl
    exact fiL hx hb hr hlk hK hP hD hS dX10_rows_21 (Nat.le_of_ble_eq_true rfl) (Nat.le_of_ble_eq_true rfl) (⟨0, pz0_29, fz15, fz16, fz24, fz25, fz28, fz30, fz31, bpz0_29, tfz16, tfz24, tfz25, hf0, rfl⟩)
