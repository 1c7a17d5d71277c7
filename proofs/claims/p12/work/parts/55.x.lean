theorem dX10_woodBut_0 : decode cX10_woodBut 0 = .ok (.aload_n 0, 1) := by decide +kernel
theorem dX10_woodBut_1 : decode cX10_woodBut 1 = .ok (.iload_n 1, 1) := by decide +kernel
theorem q_8_38 : Cond.code yX10_laysRoom prog_12_method_102_code 3 none ∈ gw := gw_8 (i := 38) (rfl) rfl
theorem q_8_37 : Cond.instanceMethod yX10_laysRoom ∈ gw := gw_8 (i := 37) (by decide +kernel) rfl
theorem q_s_115 : Cond.selects "BeaconDelayModel" yX10_laysRoom yX10_laysRoom ∈ gw := gw_s (i := 115) (by decide +kernel) rfl
theorem mt_X10_laysRoom : MtV yX10_laysRoom cX10_laysRoom 3 none 1 := ⟨⟨q_8_38, q_1_9, by decide +kernel, by decide +kernel, by decide +kernel⟩, q_8_37, q_s_115⟩
theorem q_8_35 : Cond.methodLink "BeaconDelayModel" 408 yX10_laysRoom ∈ gw := gw_8 (i := 35) (by decide +kernel) rfl
theorem dX10_woodBut_2 : decode cX10_woodBut 2 = .ok (.invokevirtual 408, 3) := by decide +kernel
theorem dX10_woodBut_5 : decode cX10_woodBut 5 = .ok (.iconst 0, 1) := by decide +kernel
theorem dX10_woodBut_6 : decode cX10_woodBut 6 = .ok (.istore_n 2, 1) := by decide +kernel
theorem dX10_woodBut_7 : decode cX10_woodBut 7 = .ok (.aload_n 0, 1) := by decide +kernel
theorem q_8_42 : Cond.code yX10_isCome prog_12_method_103_code 4 (some FieldType.boolean) ∈ gw := gw_8 (i := 42) (rfl) rfl
theorem q_8_41 : Cond.instanceMethod yX10_isCome ∈ gw := gw_8 (i := 41) (by decide +kernel) rfl
theorem q_s_116 : Cond.selects "BeaconDelayModel" yX10_isCome yX10_isCome ∈ gw := gw_s (i := 116) (by decide +kernel) rfl
theorem mt_X10_isCome : MtV yX10_isCome cX10_isCome 4 (some .boolean) 0 := ⟨⟨q_8_42, q_1_9, by decide +kernel, by decide +kernel, by decide +kernel⟩, q_8_41, q_s_116⟩
theorem q_8_39 : Cond.methodLink "BeaconDelayModel" 411 yX10_isCome ∈ gw := gw_8 (i := 39) (by decide +kernel) rfl
theorem dX10_woodBut_8 : decode cX10_woodBut 8 = .ok (.invokevirtual 411, 3) := by decide +kernel
theorem dX10_woodBut_11 : decode cX10_woodBut 11 = .ok (.ifCond .eq 66, 3) := by decide +kernel
theorem dX10_woodBut_77 : decode cX10_woodBut 77 = .ok (.iload_n 2, 1) := by decide +kernel
theorem dX10_woodBut_78 : decode cX10_woodBut 78 = .ok (.ireturn, 1) := by decide +kernel
theorem dX10_woodBut_14 : decode cX10_woodBut 14 = .ok (.bipush 9, 2) := by decide +kernel
theorem dX10_woodBut_16 : decode cX10_woodBut 16 = .ok (.istore_n 3, 1) := by decide +kernel
theorem dX10_woodBut_17 : decode cX10_woodBut 17 = .ok (.iload_n 3, 1) := by decide +kernel
theorem dX10_woodBut_18 : decode cX10_woodBut 18 = .ok (.ifCond .eq 53, 3) := by decide +kernel
theorem dX10_woodBut_71 : decode cX10_woodBut 71 = .ok (.iinc 2 1, 3) := by decide +kernel
theorem dX10_woodBut_74 : decode cX10_woodBut 74 = .ok (.goto (-67), 3) := by decide +kernel
theorem dX10_woodBut_21 : decode cX10_woodBut 21 = .ok (.aload_n 0, 1) := by decide +kernel
theorem dX10_woodBut_22 : decode cX10_woodBut 22 = .ok (.getfield 68, 3) := by decide +kernel
theorem dX10_woodBut_25 : decode cX10_woodBut 25 = .ok (.bipush 10, 2) := by decide +kernel
theorem dX10_woodBut_27 : decode cX10_woodBut 27 = .ok (.aload_n 0, 1) := by decide +kernel
theorem dX10_woodBut_28 : decode cX10_woodBut 28 = .ok (.getfield 71, 3) := by decide +kernel
theorem dX10_woodBut_31 : decode cX10_woodBut 31 = .ok (.iload_n 3, 1) := by decide +kernel
theorem dX10_woodBut_32 : decode cX10_woodBut 32 = .ok (.iaload, 1) := by decide +kernel
theorem dX10_woodBut_33 : decode cX10_woodBut 33 = .ok (.imul, 1) := by decide +kernel
theorem dX10_woodBut_34 : decode cX10_woodBut 34 = .ok (.iload_n 3, 1) := by decide +kernel
theorem dX10_woodBut_35 : decode cX10_woodBut 35 = .ok (.iadd, 1) := by decide +kernel
theorem dX10_woodBut_36 : decode cX10_woodBut 36 = .ok (.dup2, 1) := by decide +kernel
theorem dX10_woodBut_37 : decode cX10_woodBut 37 = .ok (.iaload, 1) := by decide +kernel
theorem dX10_woodBut_38 : decode cX10_woodBut 38 = .ok (.iconst 1, 1) := by decide +kernel
theorem dX10_woodBut_39 : decode cX10_woodBut 39 = .ok (.isub, 1) := by decide +kernel
theorem dX10_woodBut_40 : decode cX10_woodBut 40 = .ok (.iastore, 1) := by decide +kernel
theorem dX10_woodBut_41 : decode cX10_woodBut 41 = .ok (.aload_n 0, 1) := by decide +kernel
theorem dX10_woodBut_42 : decode cX10_woodBut 42 = .ok (.getfield 68, 3) := by decide +kernel
theorem dX10_woodBut_45 : decode cX10_woodBut 45 = .ok (.bipush 10, 2) := by decide +kernel
theorem dX10_woodBut_47 : decode cX10_woodBut 47 = .ok (.iload_n 3, 1) := by decide +kernel
theorem dX10_woodBut_48 : decode cX10_woodBut 48 = .ok (.imul, 1) := by decide +kernel
theorem dX10_woodBut_49 : decode cX10_woodBut 49 = .ok (.aload_n 0, 1) := by decide +kernel
theorem dX10_woodBut_50 : decode cX10_woodBut 50 = .ok (.getfield 71, 3) := by decide +kernel
theorem dX10_woodBut_53 : decode cX10_woodBut 53 = .ok (.iload_n 3, 1) := by decide +kernel
theorem dX10_woodBut_54 : decode cX10_woodBut 54 = .ok (.iaload, 1) := by decide +kernel
theorem dX10_woodBut_55 : decode cX10_woodBut 55 = .ok (.iadd, 1) := by decide +kernel
theorem dX10_woodBut_56 : decode cX10_woodBut 56 = .ok (.dup2, 1) := by decide +kernel
theorem dX10_woodBut_57 : decode cX10_woodBut 57 = .ok (.iaload, 1) := by decide +kernel
theorem dX10_woodBut_58 : decode cX10_woodBut 58 = .ok (.iconst 1, 1) := by decide +kernel
theorem dX10_woodBut_59 : decode cX10_woodBut 59 = .ok (.iadd, 1) := by decide +kernel
theorem dX10_woodBut_60 : decode cX10_woodBut 60 = .ok (.iastore, 1) := by decide +kernel
theorem dX10_woodBut_61 : decode cX10_woodBut 61 = .ok (.aload_n 0, 1) := by decide +kernel
theorem dX10_woodBut_62 : decode cX10_woodBut 62 = .ok (.getfield 71, 3) := by decide +kernel
theorem dX10_woodBut_65 : decode cX10_woodBut 65 = .ok (.iload_n 3, 1) := by decide +kernel
theorem dX10_woodBut_66 : decode cX10_woodBut 66 = .ok (.iaload, 1) := by decide +kernel
theorem dX10_woodBut_67 : decode cX10_woodBut 67 = .ok (.istore_n 3, 1) := by decide +kernel
theorem dX10_woodBut_68 : decode cX10_woodBut 68 = .ok (.goto (-51), 3) := by decide +kernel
set_option maxHeartbeats 4000000 in
set_option maxRecDepth 100000 in
theorem k_X10_woodBut_0 (l : Launch) (V : GV) (z : Nat → Nat) (a1 : Int32) (pz0_0 : Int32) (pz0_5 : Int32) (pz0_6 : Int32) (pz0_7 : Int32) (pz0_8 : Int32) (pz0_9 : Int32) (pz0_10 : Int32) (pz0_11 : Int32) (pz0_12 : Int32) (pz0_13 : Int32) (pz0_14 : Int32) (pz0_18 : Int32) (pz0_19 : Int32) (pz0_22 : Int32) (pz0_23 : Int32) (pz0_29 : Int32) (fz1 : Nat → Int32) (fz32 : Nat → Int32) (fz33 : Nat → Int32) (fz34 : Nat → Int32) (bpz0_5 : iv 0 900 pz0_5) (bpz0_6 : iv 0 900 pz0_6) (bpz0_7 : iv 0 900 pz0_7) (bpz0_8 : iv 0 900 pz0_8) (bpz0_10 : iv 0 999 pz0_10) (bpz0_11 : iv 0 4 pz0_11) (bpz0_12 : iv 0 900 pz0_12) (bpz0_13 : iv 0 4 pz0_13) (bpz0_14 : iv (-1) 900 pz0_14) (bpz0_18 : iv 0 2 pz0_18) (bpz0_22 : iv 0 9999 pz0_22) (bpz0_29 : iv 0 10000 pz0_29) (tfz1 : ivT tA fz1) (tfz33 : ∀ j, iv (-1) 9 (fz33 j)) (tfz34 : ∀ j, iv 0 9 (fz34 j)) : Ct l V yX10_woodBut (.code yX10_woodBut cX10_woodBut 4 (some .int)) 2 [.ref (z 0), .int a1] [(z 0, .inr (10, mo z pz0_0 pz0_5 pz0_6 pz0_7 pz0_8 pz0_9 pz0_10 pz0_11 pz0_12 pz0_13 pz0_14 pz0_18 pz0_19 pz0_22 pz0_23 pz0_29)), (z 1, aI V 3075 fz1), (z 32, aI V 100 fz32), (z 33, aI V 10 fz33), (z 34, aI V 10 fz34)] 0 0 (QI V (fun (r : Int32) (w : va_W) => ∃ (g0 : Nat → Int32) (g1 : Nat → Int32) (g2 : Nat → Int32), (∀ j, iv (-1) 9 (g1 j)) ∧ (∀ j, iv 0 9 (g2 j)) ∧ w = [(z 0, .inr (10, mo z pz0_0 pz0_5 pz0_6 pz0_7 pz0_8 pz0_9 pz0_10 pz0_11 pz0_12 pz0_13 pz0_14 pz0_18 pz0_19 pz0_22 pz0_23 pz0_29)), (z 1, aI V 3075 fz1), (z 32, aI V 100 g0), (z 33, aI V 10 g1), (z 34, aI V 10 g2)])) := by
  refine Ct.of (by decide) (Nat.le_of_ble_eq_true rfl) (fun p e s m below meth c A ls hx hb hr hml hown hlk hnm hg hP hK hD hE hA hS hl => ?_)
  have hl : lv_has ls 4 [(0, .ref (z 0)), (1, .int a1)] := hl
  refine lv_aload_n hx hb dX10_woodBut_0 rfl (lv_at hl 0 rfl) ?_
  refine lv_iload_n hx hb dX10_woodBut_1 rfl (lv_at hl 1 rfl) ?_
  refine jnV (wr := [(z 33, aI V 10 fz33), (z 34, aI V 10 fz34)]) (rnV (rest := []) ⟨hx, hb, hml, hown, hg⟩ (k_X10_laysRoom_0 l V z a1 pz0_0 pz0_5 pz0_6 pz0_7 pz0_8 pz0_9 pz0_10 pz0_11 pz0_12 pz0_13 pz0_14 pz0_18 pz0_19 pz0_22 pz0_23 pz0_29 fz1 fz32 bpz0_5 bpz0_6 bpz0_7 bpz0_8 bpz0_10 bpz0_11 bpz0_12 bpz0_13 bpz0_14 bpz0_18 bpz0_22 bpz0_29 tfz1) mt_X10_laysRoom q_8_35 ⟨Nat.le_of_ble_eq_true rfl, Nat.le_of_ble_eq_true rfl⟩ hK hP hD hS hA hE [0, 1, 2] rfl rfl 0 rfl rfl rfl rfl hl.1 rfl (Nat.le_of_ble_eq_true rfl) dX10_woodBut_2 ⟨Nat.le_of_ble_eq_true rfl, Nat.le_of_ble_eq_true rfl⟩) hP hD hS hA [0, 1, 2] [3, 4] rfl rfl rfl (by decide) (fun  w H locs hw hP hD hS => ?_)
  obtain ⟨f_1, g_2, rfl⟩ := hw
  have hP : va_P V.1 vwCl [(z 33, aI V 10 fz33), (z 34, aI V 10 fz34), (z 0, .inr (10, mo z pz0_0 pz0_5 pz0_6 pz0_7 pz0_8 pz0_9 pz0_10 pz0_11 pz0_12 pz0_13 pz0_14 pz0_18 pz0_19 pz0_22 pz0_23 pz0_29)), (z 1, aI V 3075 fz1), (z 32, aI V 100 f_1)] H := hP
  have hD := cpD hP hD
  refine lv_iconst (v := 0) hx hb dX10_woodBut_5 (by decide) ?_
  refine lv_istore_n (lv' := [(2, .int 0), (0, .ref (z 0)), (1, .int a1)]) hx hb dX10_woodBut_6 rfl hl (by decide) rfl (fun ls hl => ?_)
  refine loopF (X := fun (n_7 : Nat) (H : Heap) (locs : List Loc) (ls : Array Slot) => ∃ (u_3 : Int32) (f_4 : Nat → Int32) (f_5 : Nat → Int32) (f_6 : Nat → Int32), (∀ j, iv (-1) 9 (f_4 j)) ∧ (∀ j, iv 0 9 (f_5 j)) ∧ (RR f_6) ∧ n_7 = sm f_6 10 ∧ va_P V.1 vwCl [(z 33, aI V 10 f_4), (z 34, aI V 10 f_5), (z 0, .inr (10, mo z pz0_0 pz0_5 pz0_6 pz0_7 pz0_8 pz0_9 pz0_10 pz0_11 pz0_12 pz0_13 pz0_14 pz0_18 pz0_19 pz0_22 pz0_23 pz0_29)), (z 1, aI V 3075 fz1), (z 32, aI V 100 f_6)] H ∧ va_D A [(z 33, aI V 10 f_4), (z 34, aI V 10 f_5), (z 0, .inr (10, mo z pz0_0 pz0_5 pz0_6 pz0_7 pz0_8 pz0_9 pz0_10 pz0_11 pz0_12 pz0_13 pz0_14 pz0_18 pz0_19 pz0_22 pz0_23 pz0_29)), (z 1, aI V 3075 fz1), (z 32, aI V 100 f_6)] ∧ va_S A s.heap H locs ∧ lv_has ls 4 [(2, .int u_3), (0, .ref (z 0)), (1, .int a1)]) (g := fun ls => F0 m 7 ls []) (fun n_7 H locs ls hX ihn_7 => ?_) _ ⟨0, fz33, fz34, f_1, tfz33, tfz34, g_2, rfl, hP, hD, hS, lv_sub hl [0, 1, 2] rfl⟩
  obtain ⟨u_3, f_4, f_5, f_6, tf_4, tf_5, inn_7_0, en_7, hP, hD, hS, hl⟩ := hX
  refine lv_aload_n hx hb dX10_woodBut_7 rfl (lv_at hl 1 rfl) ?_
  refine jnI (wr := [(z 1, aI V 3075 fz1)]) (rnV (rest := []) ⟨hx, hb, hml, hown, hg⟩ (k_X10_isCome_0 l V z f_4 f_5 pz0_0 pz0_5 pz0_6 pz0_7 pz0_8 pz0_9 pz0_10 pz0_11 pz0_12 pz0_13 pz0_14 pz0_18 pz0_19 pz0_22 pz0_23 pz0_29 f_6 tf_4 tf_5 bpz0_5 bpz0_6 bpz0_7 bpz0_8 bpz0_10 bpz0_11 bpz0_12 bpz0_13 bpz0_14 bpz0_18 bpz0_22 bpz0_29) mt_X10_isCome q_8_39 ⟨Nat.le_of_ble_eq_true rfl, Nat.le_of_ble_eq_true rfl⟩ hK hP hD hS hA hE [0, 1, 2, 4] rfl rfl 2 rfl rfl rfl rfl hl.1 rfl (Nat.le_of_ble_eq_true rfl) dX10_woodBut_8 ⟨Nat.le_of_ble_eq_true rfl, Nat.le_of_ble_eq_true rfl⟩) hP hD hS hA [0, 1, 2, 4] [3] rfl rfl rfl (by decide) (fun r_8 w H locs hw hP hD hS => ?_)
  obtain ⟨f_9, f_10, tf_9, tf_10, br_8, g_11, g_12, rfl⟩ := hw
  have hP : va_P V.1 vwCl [(z 1, aI V 3075 fz1), (z 33, aI V 10 f_9), (z 34, aI V 10 f_10), (z 0, .inr (10, mo z pz0_0 pz0_5 pz0_6 pz0_7 pz0_8 pz0_9 pz0_10 pz0_11 pz0_12 pz0_13 pz0_14 pz0_18 pz0_19 pz0_22 pz0_23 pz0_29)), (z 32, aI V 100 f_6)] H := hP
  have hD := cpD hP hD
  obtain ⟨rk_13, hrk_13⟩ := g_11
  refine lv_if_eq (tgt := 77) hx hb dX10_woodBut_11 (by decide) (fun c_14 => ?_) (fun c_14 => ?_)
  · have b_15 : iv 0 0 r_8 := iv_q c_14 (iv_c (0 : Int32) (a := 0) (b := 0) (by decide))
    refine lv_iload_n hx hb dX10_woodBut_77 rfl (lv_at hl 0 rfl) ?_
    have hP := subP (ws' := [(z 0, .inr (10, mo z pz0_0 pz0_5 pz0_6 pz0_7 pz0_8 pz0_9 pz0_10 pz0_11 pz0_12 pz0_13 pz0_14 pz0_18 pz0_19 pz0_22 pz0_23 pz0_29)), (z 1, aI V 3075 fz1), (z 32, aI V 100 f_6), (z 33, aI V 10 f_9), (z 34, aI V 10 f_10)]) hP [3, 0, 4, 1, 2] rfl
    have hD := subD hP hD [3, 0, 4, 1, 2] rfl rfl
    exact fiI hx hb hr hlk hK hP hD hS dX10_woodBut_78 (Nat.le_of_ble_eq_true rfl) (Nat.le_of_ble_eq_true rfl) (⟨f_6, f_9, f_10, tf_9, tf_10, rfl⟩)
  · have b_16 : iv 1 1 r_8 := iv_n0 c_14 br_8 (iv_c (0 : Int32) (a := 0) (b := 0) (by decide)) (by decide)
    refine lv_bipush (v := 9) hx hb dX10_woodBut_14 (by decide) ?_
    refine lv_istore_n (lv' := [(3, .int 9), (2, .int u_3), (0, .ref (z 0)), (1, .int a1)]) hx hb dX10_woodBut_16 rfl hl (by decide) rfl (fun ls hl => ?_)
    refine loopF (X := fun (n_19 : Nat) (H : Heap) (locs : List Loc) (ls : Array Slot) => ∃ (u_17 : Int32) (f_18 : Nat → Int32), (iv 0 9 u_17) ∧ (WI u_17 f_18 f_6) ∧ (0 ≤ (f_9 (u_17 : Int32).toNatClampNeg).toInt) ∧ n_19 = rk_13 (u_17 : Int32).toNatClampNeg ∧ va_P V.1 vwCl [(z 1, aI V 3075 fz1), (z 33, aI V 10 f_9), (z 34, aI V 10 f_10), (z 0, .inr (10, mo z pz0_0 pz0_5 pz0_6 pz0_7 pz0_8 pz0_9 pz0_10 pz0_11 pz0_12 pz0_13 pz0_14 pz0_18 pz0_19 pz0_22 pz0_23 pz0_29)), (z 32, aI V 100 f_18)] H ∧ va_D A [(z 1, aI V 3075 fz1), (z 33, aI V 10 f_9), (z 34, aI V 10 f_10), (z 0, .inr (10, mo z pz0_0 pz0_5 pz0_6 pz0_7 pz0_8 pz0_9 pz0_10 pz0_11 pz0_12 pz0_13 pz0_14 pz0_18 pz0_19 pz0_22 pz0_23 pz0_29)), (z 32, aI V 100 f_18)] ∧ va_S A s.heap H locs ∧ lv_has ls 4 [(3, .int u_17), (2, .int u_3), (0, .ref (z 0)), (1, .int a1)]) (g := fun ls => F0 m 17 ls []) (fun n_19 H locs ls hX ihn_19 => ?_) _ ⟨9, f_6, (iv_c (9 : Int32) (by decide)), (WI_0 (by decide)), (g_12 (iv_eqp b_16 (iv_c (1 : Int32) (by decide)))), rfl, hP, hD, hS, lv_sub hl [0, 1, 2, 3] rfl⟩
    obtain ⟨u_17, f_18, bu_17, inn_19_0, inn_19_1, en_19, hP, hD, hS, hl⟩ := hX
    refine lv_iload_n hx hb dX10_woodBut_17 rfl (lv_at hl 0 rfl) ?_
    refine lv_if_eq (tgt := 71) hx hb dX10_woodBut_18 (by decide) (fun c_20 => ?_) (fun c_20 => ?_)
    · have b_21 : iv 0 0 u_17 := iv_q c_20 (iv_c (0 : Int32) (a := 0) (b := 0) (by decide))
      obtain ⟨x_22, ex_22⟩ : ∃ z9 : Int32, z9 = u_3 + 1 := ⟨_, rfl⟩
      refine lv_iinc (v := x_22) (lv' := [(2, .int x_22), (3, .int u_17), (0, .ref (z 0)), (1, .int a1)]) hx hb dX10_woodBut_71 hl (k := 1) rfl (by rw [ex_22]; rfl) (by decide) rfl (fun ls hl => ?_)
      refine lv_goto (tgt := 7) hx hb dX10_woodBut_74 (by decide) ?_
      have hP := subP (ws' := [(z 33, aI V 10 f_9), (z 34, aI V 10 f_10), (z 0, .inr (10, mo z pz0_0 pz0_5 pz0_6 pz0_7 pz0_8 pz0_9 pz0_10 pz0_11 pz0_12 pz0_13 pz0_14 pz0_18 pz0_19 pz0_22 pz0_23 pz0_29)), (z 1, aI V 3075 fz1), (z 32, aI V 100 f_18)]) hP [1, 2, 3, 0, 4] rfl
      have hD := subD hP hD [1, 2, 3, 0, 4] rfl rfl
      exact ihn_7 _ _ _ _ (by rw [en_7]; exact (WI_e inn_19_0 c_20).2) ⟨x_22, f_9, f_10, f_18, tf_9, tf_10, (WI_e inn_19_0 c_20).1, rfl, hP, hD, hS, lv_sub hl [0, 2, 3] rfl⟩
    · have b_23 : iv 1 9 u_17 := iv_n0 c_20 bu_17 (iv_c (0 : Int32) (a := 0) (b := 0) (by decide)) (by decide)
      refine lv_aload_n hx hb dX10_woodBut_21 rfl (lv_at hl 2 rfl) ?_
      refine va_get (ci := 10) (v := .ref (z 32)) (C := RX10) (T := TX10) (N := 40) hx hb hg inX10 hown hK hP 3 rfl rfl 32 (by decide) (hg _ q_6_16) (fun _ h9 => h9) rfl dX10_woodBut_22 ?_
      refine lv_bipush (v := 10) hx hb dX10_woodBut_25 (by decide) ?_
      refine lv_aload_n hx hb dX10_woodBut_27 rfl (lv_at hl 2 rfl) ?_
      refine va_get (ci := 10) (v := .ref (z 33)) (C := RX10) (T := TX10) (N := 40) hx hb hg inX10 hown hK hP 3 rfl rfl 33 (by decide) (hg _ q_6_17) (fun _ h9 => h9) rfl dX10_woodBut_28 ?_
      refine lv_iload_n hx hb dX10_woodBut_31 rfl (lv_at hl 0 rfl) ?_
      refine va_iald hx hb hK hP 1 0 rfl rfl (iv_in b_23 (by decide)) dX10_woodBut_32 ?_
      refine lv_topi (fun x_24 ex_24 => ?_)
      have bx_24 : iv (-1) 9 x_24 := by rw [ex_24]; exact tf_9 _
      have b_25 : iv 0 9 x_24 := by have q9 := inn_19_1; have q8 := bx_24; rw [← ex_24] at q9; unfold iv at *; omega
      refine lv_imul hx hb dX10_woodBut_33 ?_
      refine lv_topi (fun x_26 ex_26 => ?_)
      have bx_26 : iv 0 90 x_26 := by rw [ex_26]; exact iv_cmul (iv_c (10 : Int32) (a := 10) (b := 10) (by decide)) b_25 (by decide)
      refine lv_iload_n hx hb dX10_woodBut_34 rfl (lv_at hl 0 rfl) ?_
      refine lv_iadd hx hb dX10_woodBut_35 ?_
      refine lv_topi (fun x_27 ex_27 => ?_)
      have bx_27 : iv 1 99 x_27 := by rw [ex_27]; exact iv_add bx_26 b_23 (by decide)
      refine lv_dup2_11 hx hb dX10_woodBut_36 rfl rfl ?_
      refine va_iald hx hb hK hP 4 0 rfl rfl (iv_in bx_27 (by decide)) dX10_woodBut_37 ?_
      refine lv_topi (fun x_28 ex_28 => ?_)
      refine lv_iconst (v := 1) hx hb dX10_woodBut_38 (by decide) ?_
      refine lv_isub hx hb dX10_woodBut_39 ?_
      refine lv_topi (fun x_29 ex_29 => ?_)
      refine va_iast hx hb hK hP hD hS 4 0 rfl rfl (iv_in bx_27 (by decide)) dX10_woodBut_40 (fun H locs hP hD hS => ?_)
      obtain ⟨f_30, ef_30, hP, hD⟩ : ∃ f_30 : Nat → Int32, f_30 = (upd f_18 (x_27 : Int32).toNatClampNeg x_29) ∧ va_P V.1 vwCl [(z 1, aI V 3075 fz1), (z 33, aI V 10 f_9), (z 34, aI V 10 f_10), (z 0, .inr (10, mo z pz0_0 pz0_5 pz0_6 pz0_7 pz0_8 pz0_9 pz0_10 pz0_11 pz0_12 pz0_13 pz0_14 pz0_18 pz0_19 pz0_22 pz0_23 pz0_29)), (z 32, aI V 100 f_30)] H ∧ va_D A [(z 1, aI V 3075 fz1), (z 33, aI V 10 f_9), (z 34, aI V 10 f_10), (z 0, .inr (10, mo z pz0_0 pz0_5 pz0_6 pz0_7 pz0_8 pz0_9 pz0_10 pz0_11 pz0_12 pz0_13 pz0_14 pz0_18 pz0_19 pz0_22 pz0_23 pz0_29)), (z 32, aI V 100 f_30)] := ⟨_, rfl, hP, hD⟩
      refine lv_aload_n hx hb dX10_woodBut_41 rfl (lv_at hl 2 rfl) ?_
      refine va_get (ci := 10) (v := .ref (z 32)) (C := RX10) (T := TX10) (N := 40) hx hb hg inX10 hown hK hP 3 rfl rfl 32 (by decide) (hg _ q_6_16) (fun _ h9 => h9) rfl dX10_woodBut_42 ?_
      refine lv_bipush (v := 10) hx hb dX10_woodBut_45 (by decide) ?_
      refine lv_iload_n hx hb dX10_woodBut_47 rfl (lv_at hl 0 rfl) ?_
      refine lv_imul hx hb dX10_woodBut_48 ?_
      refine lv_topi (fun x_31 ex_31 => ?_)
      have bx_31 : iv 10 90 x_31 := by rw [ex_31]; exact iv_cmul (iv_c (10 : Int32) (a := 10) (b := 10) (by decide)) b_23 (by decide)
      refine lv_aload_n hx hb dX10_woodBut_49 rfl (lv_at hl 2 rfl) ?_
      refine va_get (ci := 10) (v := .ref (z 33)) (C := RX10) (T := TX10) (N := 40) hx hb hg inX10 hown hK hP 3 rfl rfl 33 (by decide) (hg _ q_6_17) (fun _ h9 => h9) rfl dX10_woodBut_50 ?_
      refine lv_iload_n hx hb dX10_woodBut_53 rfl (lv_at hl 0 rfl) ?_
      refine va_iald hx hb hK hP 1 0 rfl rfl (iv_in b_23 (by decide)) dX10_woodBut_54 ?_
      refine tpi (y := x_24) ex_24.symm ?_
      refine lv_iadd hx hb dX10_woodBut_55 ?_
      refine lv_topi (fun x_32 ex_32 => ?_)
      have bx_32 : iv 10 99 x_32 := by rw [ex_32]; exact iv_add bx_31 b_25 (by decide)
      refine lv_dup2_11 hx hb dX10_woodBut_56 rfl rfl ?_
      refine va_iald hx hb hK hP 4 0 rfl rfl (iv_in bx_32 (by decide)) dX10_woodBut_57 ?_
      refine lv_topi (fun x_33 ex_33 => ?_)
      refine lv_iconst (v := 1) hx hb dX10_woodBut_58 (by decide) ?_
      refine lv_iadd hx hb dX10_woodBut_59 ?_
      refine lv_topi (fun x_34 ex_34 => ?_)
      refine va_iast hx hb hK hP hD hS 4 0 rfl rfl (iv_in bx_32 (by decide)) dX10_woodBut_60 (fun H locs hP hD hS => ?_)
      obtain ⟨f_35, ef_35, hP, hD⟩ : ∃ f_35 : Nat → Int32, f_35 = (upd f_30 (x_32 : Int32).toNatClampNeg x_34) ∧ va_P V.1 vwCl [(z 1, aI V 3075 fz1), (z 33, aI V 10 f_9), (z 34, aI V 10 f_10), (z 0, .inr (10, mo z pz0_0 pz0_5 pz0_6 pz0_7 pz0_8 pz0_9 pz0_10 pz0_11 pz0_12 pz0_13 pz0_14 pz0_18 pz0_19 pz0_22 pz0_23 pz0_29)), (z 32, aI V 100 f_35)] H ∧ va_D A [(z 1, aI V 3075 fz1), (z 33, aI V 10 f_9), (z 34, aI V 10 f_10), (z 0, .inr (10, mo z pz0_0 pz0_5 pz0_6 pz0_7 pz0_8 pz0_9 pz0_10 pz0_11 pz0_12 pz0_13 pz0_14 pz0_18 pz0_19 pz0_22 pz0_23 pz0_29)), (z 32, aI V 100 f_35)] := ⟨_, rfl, hP, hD⟩
      refine lv_aload_n hx hb dX10_woodBut_61 rfl (lv_at hl 2 rfl) ?_
      refine va_get (ci := 10) (v := .ref (z 33)) (C := RX10) (T := TX10) (N := 40) hx hb hg inX10 hown hK hP 3 rfl rfl 33 (by decide) (hg _ q_6_17) (fun _ h9 => h9) rfl dX10_woodBut_62 ?_
      refine lv_iload_n hx hb dX10_woodBut_65 rfl (lv_at hl 0 rfl) ?_
      refine va_iald hx hb hK hP 1 0 rfl rfl (iv_in b_23 (by decide)) dX10_woodBut_66 ?_
      refine tpi (y := x_24) ex_24.symm ?_
      refine lv_istore_n (lv' := [(3, .int x_24), (2, .int u_3), (0, .ref (z 0)), (1, .int a1)]) hx hb dX10_woodBut_67 rfl hl (by decide) rfl (fun ls hl => ?_)
      refine lv_goto (tgt := 17) hx hb dX10_woodBut_68 (by decide) ?_
      exact ihn_19 _ _ _ _ (by rw [en_19]; have q9 := (hrk_13 (u_17 : Int32).toNatClampNeg (by have q9 := b_23; have q8 := clampNat (x := u_17) (by unfold iv at q9; omega); unfold iv at q9; omega) inn_19_1 (by have q9 := b_23; have q8 := clampNat (x := u_17) (by unfold iv at q9; omega); unfold iv at q9; omega)).1; rw [← ex_24] at q9; exact q9) ⟨x_24, f_35, b_25, (WI_s (rk := rk_13) inn_19_0 inn_7_0 (iv_w b_23 (by decide)) hrk_13 inn_19_1 ex_24 (iv_w b_25 (by decide)) ex_26 ex_27 ex_28 ex_29 ef_30 ex_31 ex_32 ef_35), (by have q9 := (hrk_13 (u_17 : Int32).toNatClampNeg (by have q9 := b_23; have q8 := clampNat (x := u_17) (by unfold iv at q9; omega); unfold iv at q9; omega) inn_19_1 (by have q9 := b_23; have q8 := clampNat (x := u_17) (by unfold iv at q9; omega); unfold iv at q9; omega)).2.2.1; rw [← ex_24] at q9; exact q9), rfl, hP, hD, hS, lv_sub hl [0, 1, 2, 3] rfl⟩
theorem dX10_wood_0 : decode cX10_wood 0 = .ok (.aload_n 0, 1) := by decide +kernel
theorem dX10_wood_1 : decode cX10_wood 1 = .ok (.iconst 0, 1) := by decide +kernel
theorem dX10_wood_2 : decode cX10_wood 2 = .ok (.putfield 1, 3) := by decide +kernel
theorem dX10_wood_5 : decode cX10_wood 5 = .ok (.aload_n 0, 1) := by decide +kernel
theorem dX10_wood_6 : decode cX10_wood 6 = .ok (.iconst (-1), 1) := by decide +kernel
theorem q_8_34 : Cond.code yX10_woodBut prog_12_method_104_code 4 (some FieldType.int) ∈ gw := gw_8 (i := 34) (rfl) rfl
theorem q_8_33 : Cond.instanceMethod yX10_woodBut ∈ gw := gw_8 (i := 33) (by decide +kernel) rfl
theorem q_s_114 : Cond.selects "BeaconDelayModel" yX10_woodBut yX10_woodBut ∈ gw := gw_s (i := 114) (by decide +kernel) rfl
theorem mt_X10_woodBut : MtV yX10_woodBut cX10_woodBut 4 (some .int) 1 := ⟨⟨q_8_34, q_1_9, by decide +kernel, by decide +kernel, by decide +kernel⟩, q_8_33, q_s_114⟩
theorem q_8_31 : Cond.methodLink "BeaconDelayModel" 414 yX10_woodBut ∈ gw := gw_8 (i := 31) (by decide +kernel) rfl
theorem dX10_wood_7 : decode cX10_wood 7 = .ok (.invokevirtual 414, 3) := by decide +kernel
theorem dX10_wood_10 : decode cX10_wood 10 = .ok (.ireturn, 1) := by decide +kernel
set_option maxHeartbeats 4000000 in
set_option maxRecDepth 100000 in
theorem k_X10_wood_0 (l : Launch) (V : GV) (z : Nat → Nat) (pz0_0 : Int32) (pz0_5 : Int32) (pz0_6 : Int32) (pz0_7 : Int32) (pz0_8 : Int32) (pz0_9 : Int32) (pz0_10 : Int32) (pz0_11 : Int32) (pz0_12 : Int32) (pz0_13 : Int32) (pz0_14 : Int32) (pz0_18 : Int32) (pz0_19 : Int32) (pz0_22 : Int32) (pz0_23 : Int32) (pz0_29 : Int32) (fz1 : Nat → Int32) (fz32 : Nat → Int32) (fz33 : Nat → Int32) (fz34 : Nat → Int32) (bpz0_5 : iv 0 900 pz0_5) (bpz0_6 : iv 0 900 pz0_6) (bpz0_7 : iv 0 900 pz0_7) (bpz0_8 : iv 0 900 pz0_8) (bpz0_10 : iv 0 999 pz0_10) (bpz0_11 : iv 0 4 pz0_11) (bpz0_12 : iv 0 900 pz0_12) (bpz0_13 : iv 0 4 pz0_13) (bpz0_14 : iv (-1) 900 pz0_14) (bpz0_18 : iv 0 2 pz0_18) (bpz0_22 : iv 0 9999 pz0_22) (bpz0_29 : iv 0 10000 pz0_29) (tfz1 : ivT tA fz1) (tfz33 : ∀ j, iv (-1) 9 (fz33 j)) (tfz34 : ∀ j, iv 0 9 (fz34 j)) : Ct l V yX10_wood (.code yX10_wood cX10_wood 1 (some .int)) 3 [.ref (z 0)] [(z 0, .inr (10, mo z pz0_0 pz0_5 pz0_6 pz0_7 pz0_8 pz0_9 pz0_10 pz0_11 pz0_12 pz0_13 pz0_14 pz0_18 pz0_19 pz0_22 pz0_23 pz0_29)), (z 1, aI V 3075 fz1), (z 32, aI V 100 fz32), (z 33, aI V 10 fz33), (z 34, aI V 10 fz34)] 0 0 (QI V (fun (r : Int32) (w : va_W) => ∃ (v0 : Int32) (g1 : Nat → Int32) (g2 : Nat → Int32) (g3 : Nat → Int32), (∀ j, iv (-1) 9 (g2 j)) ∧ (∀ j, iv 0 9 (g3 j)) ∧ w = [(z 0, .inr (10, mo z v0 pz0_5 pz0_6 pz0_7 pz0_8 pz0_9 pz0_10 pz0_11 pz0_12 pz0_13 pz0_14 pz0_18 pz0_19 pz0_22 pz0_23 pz0_29)), (z 1, aI V 3075 fz1), (z 32, aI V 100 g1), (z 33, aI V 10 g2), (z 34, aI V 10 g3)])) := by
  refine Ct.of (by decide) (Nat.le_of_ble_eq_true rfl) (fun p e s m below meth c A ls hx hb hr hml hown hlk hnm hg hP hK hD hE hA hS hl => ?_)
  have hl : lv_has ls 1 [(0, .ref (z 0))] := hl
  refine lv_aload_n hx hb dX10_wood_0 rfl (lv_at hl 0 rfl) ?_
  refine lv_iconst (v := 0) hx hb dX10_wood_1 (by decide) ?_
  refine va_put (ci := 10) (v := .int 0) (ty := .int) (C := RX10) (T := TX10) (N := 40) hx hb hg inX10 tyX10 tyX10_ok nmX10 hown hK hP hD hS 0 rfl rfl 0 (by decide) (hg _ q_5_224) (fun _ h9 => h9) rfl (by decide +kernel) rfl rfl (Nat.le_of_ble_eq_true rfl) dX10_wood_2 (fun H locs hP hD hS => ?_)
  have hP : va_P V.1 vwCl [(z 0, .inr (10, mo z 0 pz0_5 pz0_6 pz0_7 pz0_8 pz0_9 pz0_10 pz0_11 pz0_12 pz0_13 pz0_14 pz0_18 pz0_19 pz0_22 pz0_23 pz0_29)), (z 1, aI V 3075 fz1), (z 32, aI V 100 fz32), (z 33, aI V 10 fz33), (z 34, aI V 10 fz34)] H := hP
  have hD := cpD hP hD
  refine lv_aload_n hx hb dX10_wood_5 rfl (lv_at hl 0 rfl) ?_
  refine lv_iconst (v := (-1)) hx hb dX10_wood_6 (by decide) ?_
  refine jnI (wr := []) (rnV (rest := []) ⟨hx, hb, hml, hown, hg⟩ (k_X10_woodBut_0 l V z (-1) 0 pz0_5 pz0_6 pz0_7 pz0_8 pz0_9 pz0_10 pz0_11 pz0_12 pz0_13 pz0_14 pz0_18 pz0_19 pz0_22 pz0_23 pz0_29 fz1 fz32 fz33 fz34 bpz0_5 bpz0_6 bpz0_7 bpz0_8 bpz0_10 bpz0_11 bpz0_12 bpz0_13 bpz0_14 bpz0_18 bpz0_22 bpz0_29 tfz1 tfz33 tfz34) mt_X10_woodBut q_8_31 ⟨Nat.le_of_ble_eq_true rfl, Nat.le_of_ble_eq_true rfl⟩ hK hP hD hS hA hE [0, 1, 2, 3, 4] rfl rfl 0 rfl rfl rfl rfl hl.1 rfl (Nat.le_of_ble_eq_true rfl) dX10_wood_7 ⟨Nat.le_of_ble_eq_true rfl, Nat.le_of_ble_eq_true rfl⟩) hP hD hS hA [0, 1, 2, 3, 4] [] rfl rfl rfl (by decide) (fun r_1 w H locs hw hP hD hS => ?_)
  obtain ⟨f_2, f_3, f_4, tf_3, tf_4, rfl⟩ := hw
  have hP : va_P V.1 vwCl [(z 0, .inr (10, mo z 0 pz0_5 pz0_6 pz0_7 pz0_8 pz0_9 pz0_10 pz0_11 pz0_12 pz0_13 pz0_14 pz0_18 pz0_19 pz0_22 pz0_23 pz0_29)), (z 1, aI V 3075 fz1), (z 32, aI V 100 f_2), (z 33, aI V 10 f_3), (z 34, aI V 10 f_4)] H := hP
  have hD := cpD hP hD
  exact fiI hx hb hr hlk hK hP hD hS dX10_wood_10 (Nat.le_of_ble_eq_true rfl) (Nat.le_of_ble_eq_true rfl) (⟨0, f_2, f_3, f_4, tf_3, tf_4, rfl⟩)
theorem dX10_needed_0 : decode cX10_needed 0 = .ok (.aload_n 0, 1) := by decide +kernel
theorem dX10_needed_1 : decode cX10_needed 1 = .ok (.iconst 0, 1) := by decide +kernel
theorem dX10_needed_2 : decode cX10_needed 2 = .ok (.putfield 1, 3) := by decide +kernel
theorem dX10_needed_5 : decode cX10_needed 5 = .ok (.aload_n 0, 1) := by decide +kernel
theorem dX10_needed_6 : decode cX10_needed 6 = .ok (.iconst (-1), 1) := by decide +kernel
theorem dX10_needed_7 : decode cX10_needed 7 = .ok (.invokevirtual 414, 3) := by decide +kernel
theorem dX10_needed_10 : decode cX10_needed 10 = .ok (.istore_n 1, 1) := by decide +kernel
theorem dX10_needed_11 : decode cX10_needed 11 = .ok (.iconst 0, 1) := by decide +kernel
theorem dX10_needed_12 : decode cX10_needed 12 = .ok (.istore_n 2, 1) := by decide +kernel
theorem dX10_needed_13 : decode cX10_needed 13 = .ok (.iconst 0, 1) := by decide +kernel
theorem dX10_needed_14 : decode cX10_needed 14 = .ok (.istore_n 3, 1) := by decide +kernel
theorem dX10_needed_15 : decode cX10_needed 15 = .ok (.iload_n 3, 1) := by decide +kernel
theorem dX10_needed_16 : decode cX10_needed 16 = .ok (.aload_n 0, 1) := by decide +kernel
theorem dX10_needed_17 : decode cX10_needed 17 = .ok (.getfield 13, 3) := by decide +kernel
theorem dX10_needed_20 : decode cX10_needed 20 = .ok (.iconst 3, 1) := by decide +kernel
theorem dX10_needed_21 : decode cX10_needed 21 = .ok (.iaload, 1) := by decide +kernel
theorem dX10_needed_22 : decode cX10_needed 22 = .ok (.if_icmp .ge 28, 3) := by decide +kernel
theorem dX10_needed_50 : decode cX10_needed 50 = .ok (.iload_n 2, 1) := by decide +kernel
theorem dX10_needed_51 : decode cX10_needed 51 = .ok (.ireturn, 1) := by decide +kernel
theorem dX10_needed_25 : decode cX10_needed 25 = .ok (.iload_n 2, 1) := by decide +kernel
theorem dX10_needed_26 : decode cX10_needed 26 = .ok (.aload_n 0, 1) := by decide +kernel
theorem dX10_needed_27 : decode cX10_needed 27 = .ok (.iload_n 3, 1) := by decide +kernel
theorem dX10_needed_28 : decode cX10_needed 28 = .ok (.invokevirtual 414, 3) := by decide +kernel
theorem dX10_needed_31 : decode cX10_needed 31 = .ok (.iload_n 1, 1) := by decide +kernel
theorem dX10_needed_32 : decode cX10_needed 32 = .ok (.if_icmp .ge 9, 3) := by decide +kernel
theorem dX10_needed_41 : decode cX10_needed 41 = .ok (.iconst 0, 1) := by decide +kernel
theorem dX10_needed_42 : decode cX10_needed 42 = .ok (.ior, 1) := by decide +kernel
theorem dX10_needed_43 : decode cX10_needed 43 = .ok (.istore_n 2, 1) := by decide +kernel
theorem dX10_needed_44 : decode cX10_needed 44 = .ok (.iinc 3 1, 3) := by decide +kernel
theorem dX10_needed_47 : decode cX10_needed 47 = .ok (.goto (-32), 3) := by decide +kernel
theorem dX10_needed_35 : decode cX10_needed 35 = .ok (.iconst 1, 1) := by decide +kernel
theorem dX10_needed_36 : decode cX10_needed 36 = .ok (.iload_n 3, 1) := by decide +kernel
theorem dX10_needed_37 : decode cX10_needed 37 = .ok (.ishl, 1) := by decide +kernel
theorem dX10_needed_38 : decode cX10_needed 38 = .ok (.goto 4, 3) := by decide +kernel
set_option maxHeartbeats 4000000 in
set_option maxRecDepth 100000 in
theorem k_X10_needed_0 (l : Launch) (V : GV) (z : Nat → Nat) (pz0_0 : Int32) (pz0_5 : Int32) (pz0_6 : Int32) (pz0_7 : Int32) (pz0_8 : Int32) (pz0_9 : Int32) (pz0_10 : Int32) (pz0_11 : Int32) (pz0_12 : Int32) (pz0_13 : Int32) (pz0_14 : Int32) (pz0_18 : Int32) (pz0_19 : Int32) (pz0_22 : Int32) (pz0_23 : Int32) (pz0_29 : Int32) (fz1 : Nat → Int32) (fz32 : Nat → Int32) (fz33 : Nat → Int32) (fz34 : Nat → Int32) (bpz0_5 : iv 0 900 pz0_5) (bpz0_6 : iv 0 900 pz0_6) (bpz0_7 : iv 0 900 pz0_7) (bpz0_8 : iv 0 900 pz0_8) (bpz0_10 : iv 0 999 pz0_10) (bpz0_11 : iv 0 4 pz0_11) (bpz0_12 : iv 0 900 pz0_12) (bpz0_13 : iv 0 4 pz0_13) (bpz0_14 : iv (-1) 900 pz0_14) (bpz0_18 : iv 0 2 pz0_18) (bpz0_22 : iv 0 9999 pz0_22) (bpz0_29 : iv 0 10000 pz0_29) (tfz1 : ivT tA fz1) (tfz33 : ∀ j, iv (-1) 9 (fz33 j)) (tfz34 : ∀ j, iv 0 9 (fz34 j)) : Ct l V yX10_needed (.code yX10_needed cX10_needed 4 (some .int)) 3 [.ref (z 0)] [(z 0, .inr (10, mo z pz0_0 pz0_5 pz0_6 pz0_7 pz0_8 pz0_9 pz0_10 pz0_11 pz0_12 pz0_13 pz0_14 pz0_18 pz0_19 pz0_22 pz0_23 pz0_29)), (z 1, aI V 3075 fz1), (z 32, aI V 100 fz32), (z 33, aI V 10 fz33), (z 34, aI V 10 fz34)] 0 0 (QI V (fun (r : Int32) (w : va_W) => ∃ (v0 : Int32) (g1 : Nat → Int32) (g2 : Nat → Int32) (g3 : Nat → Int32), (∀ j, iv (-1) 9 (g2 j)) ∧ (∀ j, iv 0 9 (g3 j)) ∧ w = [(z 0, .inr (10, mo z v0 pz0_5 pz0_6 pz0_7 pz0_8 pz0_9 pz0_10 pz0_11 pz0_12 pz0_13 pz0_14 pz0_18 pz0_19 pz0_22 pz0_23 pz0_29)), (z 1, aI V 3075 fz1), (z 32, aI V 100 g1), (z 33, aI V 10 g2), (z 34, aI V 10 g3)])) := by
  refine Ct.of (by decide) (Nat.le_of_ble_eq_true rfl) (fun p e s m below meth c A ls hx hb hr hml hown hlk hnm hg hP hK hD hE hA hS hl => ?_)
  have hl : lv_has ls 4 [(0, .ref (z 0))] := hl
  refine lv_aload_n hx hb dX10_needed_0 rfl (lv_at hl 0 rfl) ?_
  refine lv_iconst (v := 0) hx hb dX10_needed_1 (by decide) ?_
  refine va_put (ci := 10) (v := .int 0) (ty := .int) (C := RX10) (T := TX10) (N := 40) hx hb hg inX10 tyX10 tyX10_ok nmX10 hown hK hP hD hS 0 rfl rfl 0 (by decide) (hg _ q_5_224) (fun _ h9 => h9) rfl (by decide +kernel) rfl rfl (Nat.le_of_ble_eq_true rfl) dX10_needed_2 (fun H locs hP hD hS => ?_)
  have hP : va_P V.1 vwCl [(z 0, .inr (10, mo z 0 pz0_5 pz0_6 pz0_7 pz0_8 pz0_9 pz0_10 pz0_11 pz0_12 pz0_13 pz0_14 pz0_18 pz0_19 pz0_22 pz0_23 pz0_29)), (z 1, aI V 3075 fz1), (z 32, aI V 100 fz32), (z 33, aI V 10 fz33), (z 34, aI V 10 fz34)] H := hP
  have hD := cpD hP hD
  refine lv_aload_n hx hb dX10_needed_5 rfl (lv_at hl 0 rfl) ?_
  refine lv_iconst (v := (-1)) hx hb dX10_needed_6 (by decide) ?_
  refine jnI (wr := []) (rnV (rest := []) ⟨hx, hb, hml, hown, hg⟩ (k_X10_woodBut_0 l V z (-1) 0 pz0_5 pz0_6 pz0_7 pz0_8 pz0_9 pz0_10 pz0_11 pz0_12 pz0_13 pz0_14 pz0_18 pz0_19 pz0_22 pz0_23 pz0_29 fz1 fz32 fz33 fz34 bpz0_5 bpz0_6 bpz0_7 bpz0_8 bpz0_10 bpz0_11 bpz0_12 bpz0_13 bpz0_14 bpz0_18 bpz0_22 bpz0_29 tfz1 tfz33 tfz34) mt_X10_woodBut q_8_31 ⟨Nat.le_of_ble_eq_true rfl, Nat.le_of_ble_eq_true rfl⟩ hK hP hD hS hA hE [0, 1, 2, 3, 4] rfl rfl 0 rfl rfl rfl rfl hl.1 rfl (Nat.le_of_ble_eq_true rfl) dX10_needed_7 ⟨Nat.le_of_ble_eq_true rfl, Nat.le_of_ble_eq_true rfl⟩) hP hD hS hA [0, 1, 2, 3, 4] [] rfl rfl rfl (by decide) (fun r_1 w H locs hw hP hD hS => ?_)
  obtain ⟨f_2, f_3, f_4, tf_3, tf_4, rfl⟩ := hw
  have hP : va_P V.1 vwCl [(z 0, .inr (10, mo z 0 pz0_5 pz0_6 pz0_7 pz0_8 pz0_9 pz0_10 pz0_11 pz0_12 pz0_13 pz0_14 pz0_18 pz0_19 pz0_22 pz0_23 pz0_29)), (z 1, aI V 3075 fz1), (z 32, aI V 100 f_2), (z 33, aI V 10 f_3), (z 34, aI V 10 f_4)] H := hP
  have hD := cpD hP hD
  refine lv_istore_n (lv' := [(1, .int r_1), (0, .ref (z 0))]) hx hb dX10_needed_10 rfl hl (by decide) rfl (fun ls hl => ?_)
  refine lv_iconst (v := 0) hx hb dX10_needed_11 (by decide) ?_
  refine lv_istore_n (lv' := [(2, .int 0), (1, .int r_1), (0, .ref (z 0))]) hx hb dX10_needed_12 rfl hl (by decide) rfl (fun ls hl => ?_)
  refine lv_iconst (v := 0) hx hb dX10_needed_13 (by decide) ?_
  refine lv_istore_n (lv' := [(3, .int 0), (2, .int 0), (1, .int r_1), (0, .ref (z 0))]) hx hb dX10_needed_14 rfl hl (by decide) rfl (fun ls hl => ?_)
  refine loopF (X := fun (n_10 : Nat) (H : Heap) (locs : List Loc) (ls : Array Slot) => ∃ (u_5 : Int32) (u_6 : Int32) (f_7 : Nat → Int32) (f_8 : Nat → Int32) (f_9 : Nat → Int32), (iv 0 2147483647 u_5) ∧ (∀ j, iv (-1) 9 (f_8 j)) ∧ (∀ j, iv 0 9 (f_9 j)) ∧ n_10 = (2147483647 - (u_5 : Int32).toInt).toNat ∧ va_P V.1 vwCl [(z 0, .inr (10, mo z 0 pz0_5 pz0_6 pz0_7 pz0_8 pz0_9 pz0_10 pz0_11 pz0_12 pz0_13 pz0_14 pz0_18 pz0_19 pz0_22 pz0_23 pz0_29)), (z 1, aI V 3075 fz1), (z 32, aI V 100 f_7), (z 33, aI V 10 f_8), (z 34, aI V 10 f_9)] H ∧ va_D A [(z 0, .inr (10, mo z 0 pz0_5 pz0_6 pz0_7 pz0_8 pz0_9 pz0_10 pz0_11 pz0_12 pz0_13 pz0_14 pz0_18 pz0_19 pz0_22 pz0_23 pz0_29)), (z 1, aI V 3075 fz1), (z 32, aI V 100 f_7), (z 33, aI V 10 f_8), (z 34, aI V 10 f_9)] ∧ va_S A s.heap H locs ∧ lv_has ls 4 [(3, .int u_5), (2, .int u_6), (1, .int r_1), (0, .ref (z 0))]) (g := fun ls => F0 m 15 ls []) (fun n_10 H locs ls hX ihn_10 => ?_) _ ⟨0, 0, f_2, f_3, f_4, (iv_c (0 : Int32) (by decide)), tf_3, tf_4, rfl, hP, hD, hS, lv_sub hl [0, 1, 2, 3] rfl⟩
  obtain ⟨u_5, u_6, f_7, f_8, f_9, bu_5, tf_8, tf_9, en_10, hP, hD, hS, hl⟩ := hX
  refine lv_iload_n hx hb dX10_needed_15 rfl (lv_at hl 0 rfl) ?_
  refine lv_aload_n hx hb dX10_needed_16 rfl (lv_at hl 3 rfl) ?_
  refine va_get (ci := 10) (v := .ref (z 1)) (C := RX10) (T := TX10) (N := 40) hx hb hg inX10 hown hK hP 0 rfl rfl 1 (by decide) (hg _ q_5_225) (fun _ h9 => h9) rfl dX10_needed_17 ?_
  refine lv_iconst (v := 3) hx hb dX10_needed_20 (by decide) ?_
  refine va_iald hx hb hK hP 1 0 rfl rfl (vin (by decide +kernel)) dX10_needed_21 ?_
  refine lv_topi (fun x_11 ex_11 => ?_)
  have bx_11 : iv 0 8 x_11 := by rw [ex_11]; exact rdT (a := 3) (n := 1) tfz1 (iv_c (3 : Int32) (a := 3) (b := 3) (by decide)) (by decide) (by decide +kernel)
  refine lv_icmp_ge (tgt := 50) hx hb dX10_needed_22 (by decide) (fun c_12 => ?_) (fun c_12 => ?_)
  · refine lv_iload_n hx hb dX10_needed_50 rfl (lv_at hl 1 rfl) ?_
    exact fiI hx hb hr hlk hK hP hD hS dX10_needed_51 (Nat.le_of_ble_eq_true rfl) (Nat.le_of_ble_eq_true rfl) (⟨0, f_7, f_8, f_9, tf_8, tf_9, rfl⟩)
  · have b_13 : iv 0 7 u_5 := iv_l1 (Int32.not_le.mp c_12) bu_5 bx_11 (by decide)
    have b_14 : iv 1 8 x_11 := iv_l2 (Int32.not_le.mp c_12) bu_5 bx_11 (by decide)
    refine lv_iload_n hx hb dX10_needed_25 rfl (lv_at hl 1 rfl) ?_
    refine lv_aload_n hx hb dX10_needed_26 rfl (lv_at hl 3 rfl) ?_
    refine lv_iload_n hx hb dX10_needed_27 rfl (lv_at hl 0 rfl) ?_
    refine jnI (wr := []) (rnV (rest := [.int u_6]) ⟨hx, hb, hml, hown, hg⟩ (k_X10_woodBut_0 l V z u_5 0 pz0_5 pz0_6 pz0_7 pz0_8 pz0_9 pz0_10 pz0_11 pz0_12 pz0_13 pz0_14 pz0_18 pz0_19 pz0_22 pz0_23 pz0_29 fz1 f_7 f_8 f_9 bpz0_5 bpz0_6 bpz0_7 bpz0_8 bpz0_10 bpz0_11 bpz0_12 bpz0_13 bpz0_14 bpz0_18 bpz0_22 bpz0_29 tfz1 tf_8 tf_9) mt_X10_woodBut q_8_31 ⟨Nat.le_of_ble_eq_true rfl, Nat.le_of_ble_eq_true rfl⟩ hK hP hD hS hA hE [0, 1, 2, 3, 4] rfl rfl 0 rfl rfl rfl rfl hl.1 rfl (Nat.le_of_ble_eq_true rfl) dX10_needed_28 ⟨Nat.le_of_ble_eq_true rfl, Nat.le_of_ble_eq_true rfl⟩) hP hD hS hA [0, 1, 2, 3, 4] [] rfl rfl rfl (by decide) (fun r_15 w H locs hw hP hD hS => ?_)
    obtain ⟨f_16, f_17, f_18, tf_17, tf_18, rfl⟩ := hw
    have hP : va_P V.1 vwCl [(z 0, .inr (10, mo z 0 pz0_5 pz0_6 pz0_7 pz0_8 pz0_9 pz0_10 pz0_11 pz0_12 pz0_13 pz0_14 pz0_18 pz0_19 pz0_22 pz0_23 pz0_29)), (z 1, aI V 3075 fz1), (z 32, aI V 100 f_16), (z 33, aI V 10 f_17), (z 34, aI V 10 f_18)] H := hP
    have hD := cpD hP hD
    refine lv_iload_n hx hb dX10_needed_31 rfl (lv_at hl 2 rfl) ?_
    refine lv_icmp_ge (tgt := 41) hx hb dX10_needed_32 (by decide) (fun c_19 => ?_) (fun c_19 => ?_)
    · refine lv_iconst (v := 0) hx hb dX10_needed_41 (by decide) ?_
      refine lv_ior hx hb dX10_needed_42 ?_
      refine lv_topi (fun x_20 ex_20 => ?_)
      refine lv_istore_n (lv' := [(2, .int x_20), (3, .int u_5), (1, .int r_1), (0, .ref (z 0))]) hx hb dX10_needed_43 rfl hl (by decide) rfl (fun ls hl => ?_)
      obtain ⟨x_21, ex_21⟩ : ∃ z9 : Int32, z9 = u_5 + 1 := ⟨_, rfl⟩
      have bx_21 : iv 1 8 x_21 := by rw [ex_21]; exact iv_add b_13 (iv_c (1 : Int32) (a := 1) (b := 1) (by decide)) (by decide)
      refine lv_iinc (v := x_21) (lv' := [(3, .int x_21), (2, .int x_20), (1, .int r_1), (0, .ref (z 0))]) hx hb dX10_needed_44 hl (k := 1) rfl (by rw [ex_21]; rfl) (by decide) rfl (fun ls hl => ?_)
      refine lv_goto (tgt := 15) hx hb dX10_needed_47 (by decide) ?_
      exact ihn_10 _ _ _ _ (by rw [en_10, ex_21]; exact mu_up b_13 (by decide)) ⟨x_21, x_20, f_16, f_17, f_18, (iv_w bx_21 (by decide)), tf_17, tf_18, rfl, hP, hD, hS, lv_sub hl [0, 1, 2, 3] rfl⟩
    · have b_22 : iv (-2147483648) 2147483646 r_15 := iv_l1 (Int32.not_le.mp c_19) (iv_top r_15) (iv_top r_1) (by decide)
      have b_23 : iv (-2147483647) 2147483647 r_1 := iv_l2 (Int32.not_le.mp c_19) (iv_top r_15) (iv_top r_1) (by decide)
      refine lv_iconst (v := 1) hx hb dX10_needed_35 (by decide) ?_
      refine lv_iload_n hx hb dX10_needed_36 rfl (lv_at hl 0 rfl) ?_
      refine lv_ishl hx hb dX10_needed_37 ?_
      refine lv_topi (fun x_24 ex_24 => ?_)
      refine lv_goto (tgt := 42) hx hb dX10_needed_38 (by decide) ?_
      refine lv_ior hx hb dX10_needed_42 ?_
      refine lv_topi (fun x_25 ex_25 => ?_)
      refine lv_istore_n (lv' := [(2, .int x_25), (3, .int u_5), (1, .int r_1), (0, .ref (z 0))]) hx hb dX10_needed_43 rfl hl (by decide) rfl (fun ls hl => ?_)
      obtain ⟨x_26, ex_26⟩ : ∃ z9 : Int32, z9 = u_5 + 1 := ⟨_, rfl⟩
      have bx_26 : iv 1 8 x_26 := by rw [ex_26]; exact iv_add b_13 (iv_c (1 : Int32) (a := 1) (b := 1) (by decide)) (by decide)
      refine lv_iinc (v := x_26) (lv' := [(3, .int x_26), (2, .int x_25), (1, .int r_1), (0, .ref (z 0))]) hx hb dX10_needed_44 hl (k := 1) rfl (by rw [ex_26]; rfl) (by decide) rfl (fun ls hl => ?_)
      refine lv_goto (tgt := 15) hx hb dX10_needed_47 (by decide) ?_
      exact ihn_10 _ _ _ _ (by rw [en_10, ex_26]; exact mu_up b_13 (by decide)) ⟨x_26, x_25, f_16, f_17, f_18, (iv_w bx_26 (by decide)), tf_17, tf_18, rfl, hP, hD, hS, lv_sub hl [0, 1, 2, 3] rfl⟩
theorem dX10_noTold_0 : decode cX10_noTold 0 = .ok (.iload_n 1, 1) := by decide +kernel
theorem dX10_noTold_1 : decode cX10_noTold 1 = .ok (.i2l, 1) := by decide +kernel
theorem dX10_noTold_2 : decode cX10_noTold 2 = .ok (.lconst 0, 1) := by decide +kernel
theorem dX10_noTold_3 : decode cX10_noTold 3 = .ok (.ldc2_w 315, 3) := by decide +kernel
theorem dX10_noTold_6 : decode cX10_noTold 6 = .ok (.invokestatic 159, 3) := by decide +kernel
theorem dX10_noTold_9 : decode cX10_noTold 9 = .ok (.ifCond .eq 12, 3) := by decide +kernel
theorem dX10_noTold_21 : decode cX10_noTold 21 = .ok (.bipush (-2), 2) := by decide +kernel
theorem dX10_noTold_23 : decode cX10_noTold 23 = .ok (.ireturn, 1) := by decide +kernel
theorem dX10_noTold_12 : decode cX10_noTold 12 = .ok (.aload_n 0, 1) := by decide +kernel
theorem dX10_noTold_13 : decode cX10_noTold 13 = .ok (.iload_n 2, 1) := by decide +kernel
theorem dX10_noTold_14 : decode cX10_noTold 14 = .ok (.i2l, 1) := by decide +kernel
theorem dX10_noTold_15 : decode cX10_noTold 15 = .ok (.invokevirtual 262, 3) := by decide +kernel
theorem dX10_noTold_18 : decode cX10_noTold 18 = .ok (.ifCond .ne 6, 3) := by decide +kernel
theorem dX10_noTold_24 : decode cX10_noTold 24 = .ok (.aload_n 0, 1) := by decide +kernel
theorem dX10_noTold_25 : decode cX10_noTold 25 = .ok (.iload_n 1, 1) := by decide +kernel
theorem dX10_noTold_26 : decode cX10_noTold 26 = .ok (.invokevirtual 317, 3) := by decide +kernel
theorem dX10_noTold_29 : decode cX10_noTold 29 = .ok (.istore 4, 2) := by decide +kernel
theorem dX10_noTold_31 : decode cX10_noTold 31 = .ok (.iload 4, 2) := by decide +kernel
theorem dX10_noTold_33 : decode cX10_noTold 33 = .ok (.ifCond .eq 6, 3) := by decide +kernel
theorem dX10_noTold_39 : decode cX10_noTold 39 = .ok (.aload_n 0, 1) := by decide +kernel
theorem dX10_noTold_40 : decode cX10_noTold 40 = .ok (.getfield 87, 3) := by decide +kernel
theorem dX10_noTold_43 : decode cX10_noTold 43 = .ok (.iload_n 1, 1) := by decide +kernel
theorem dX10_noTold_44 : decode cX10_noTold 44 = .ok (.iaload, 1) := by decide +kernel
theorem dX10_noTold_45 : decode cX10_noTold 45 = .ok (.i2l, 1) := by decide +kernel
theorem dX10_noTold_46 : decode cX10_noTold 46 = .ok (.lconst 1, 1) := by decide +kernel
theorem q_8_55 : Cond.constantLong "BeaconDelayModel" 417 (8 : Int64) ∈ gw := gw_8 (i := 55) (by decide +kernel) rfl
theorem dX10_noTold_47 : decode cX10_noTold 47 = .ok (.ldc2_w 417, 3) := by decide +kernel
theorem dX10_noTold_50 : decode cX10_noTold 50 = .ok (.invokestatic 159, 3) := by decide +kernel
theorem dX10_noTold_53 : decode cX10_noTold 53 = .ok (.ifCond .ne 6, 3) := by decide +kernel
theorem dX10_noTold_59 : decode cX10_noTold 59 = .ok (.iconst 0, 1) := by decide +kernel
theorem dX10_noTold_60 : decode cX10_noTold 60 = .ok (.istore 5, 2) := by decide +kernel
theorem dX10_noTold_62 : decode cX10_noTold 62 = .ok (.iload 5, 2) := by decide +kernel
theorem dX10_noTold_64 : decode cX10_noTold 64 = .ok (.aload_n 0, 1) := by decide +kernel
theorem dX10_noTold_65 : decode cX10_noTold 65 = .ok (.getfield 87, 3) := by decide +kernel
theorem dX10_noTold_68 : decode cX10_noTold 68 = .ok (.iload_n 1, 1) := by decide +kernel
theorem dX10_noTold_69 : decode cX10_noTold 69 = .ok (.iaload, 1) := by decide +kernel
theorem dX10_noTold_70 : decode cX10_noTold 70 = .ok (.if_icmp .ge 35, 3) := by decide +kernel
theorem dX10_noTold_105 : decode cX10_noTold 105 = .ok (.iconst 0, 1) := by decide +kernel
theorem dX10_noTold_106 : decode cX10_noTold 106 = .ok (.ireturn, 1) := by decide +kernel
theorem dX10_noTold_73 : decode cX10_noTold 73 = .ok (.aload_n 0, 1) := by decide +kernel
theorem dX10_noTold_74 : decode cX10_noTold 74 = .ok (.getfield 90, 3) := by decide +kernel
theorem dX10_noTold_77 : decode cX10_noTold 77 = .ok (.bipush 40, 2) := by decide +kernel
theorem dX10_noTold_79 : decode cX10_noTold 79 = .ok (.iload_n 1, 1) := by decide +kernel
theorem dX10_noTold_80 : decode cX10_noTold 80 = .ok (.imul, 1) := by decide +kernel
theorem dX10_noTold_81 : decode cX10_noTold 81 = .ok (.iload 5, 2) := by decide +kernel
theorem dX10_noTold_83 : decode cX10_noTold 83 = .ok (.iadd, 1) := by decide +kernel
theorem dX10_noTold_84 : decode cX10_noTold 84 = .ok (.laload, 1) := by decide +kernel
theorem dX10_noTold_85 : decode cX10_noTold 85 = .ok (.iload_n 3, 1) := by decide +kernel
theorem dX10_noTold_86 : decode cX10_noTold 86 = .ok (.i2l, 1) := by decide +kernel
theorem dX10_noTold_87 : decode cX10_noTold 87 = .ok (.ldc2_w 368, 3) := by decide +kernel
theorem dX10_noTold_90 : decode cX10_noTold 90 = .ok (.invokestatic 159, 3) := by decide +kernel
theorem dX10_noTold_93 : decode cX10_noTold 93 = .ok (.ifCond .ne 6, 3) := by decide +kernel
theorem dX10_noTold_99 : decode cX10_noTold 99 = .ok (.iinc 5 1, 3) := by decide +kernel
theorem dX10_noTold_102 : decode cX10_noTold 102 = .ok (.goto (-40), 3) := by decide +kernel
theorem dX10_noTold_96 : decode cX10_noTold 96 = .ok (.bipush (-3), 2) := by decide +kernel
theorem dX10_noTold_98 : decode cX10_noTold 98 = .ok (.ireturn, 1) := by decide +kernel
theorem dX10_noTold_56 : decode cX10_noTold 56 = .ok (.bipush (-4), 2) := by decide +kernel
theorem dX10_noTold_58 : decode cX10_noTold 58 = .ok (.ireturn, 1) := by decide +kernel
theorem dX10_noTold_36 : decode cX10_noTold 36 = .ok (.iload 4, 2) := by decide +kernel
theorem dX10_noTold_38 : decode cX10_noTold 38 = .ok (.ireturn, 1) := by decide +kernel
set_option maxHeartbeats 4000000 in
set_option maxRecDepth 100000 in
theorem k_X10_noTold_0 (l : Launch) (V : GV) (z : Nat → Nat) (a1 : Int32) (a2 : Int32) (a3 : Int32) (pz0_0 : Int32) (pz0_5 : Int32) (pz0_6 : Int32) (pz0_7 : Int32) (pz0_8 : Int32) (pz0_9 : Int32) (pz0_10 : Int32) (pz0_11 : Int32) (pz0_12 : Int32) (pz0_13 : Int32) (pz0_14 : Int32) (pz0_18 : Int32) (pz0_19 : Int32) (pz0_22 : Int32) (pz0_23 : Int32) (pz0_29 : Int32) (fz1 : Nat → Int32) (fz37 : Nat → Int32) (fz38 : Nat → Int32) (fz39 : Nat → Int64) (bpz0_5 : iv 0 900 pz0_5) (bpz0_6 : iv 0 900 pz0_6) (bpz0_7 : iv 0 900 pz0_7) (bpz0_8 : iv 0 900 pz0_8) (bpz0_10 : iv 0 999 pz0_10) (bpz0_11 : iv 0 4 pz0_11) (bpz0_12 : iv 0 900 pz0_12) (bpz0_13 : iv 0 4 pz0_13) (bpz0_14 : iv (-1) 900 pz0_14) (bpz0_18 : iv 0 2 pz0_18) (bpz0_22 : iv 0 9999 pz0_22) (bpz0_29 : iv 0 10000 pz0_29) (tfz1 : ivT tA fz1) (tfz37 : ∀ j, iv (-1) 3 (fz37 j)) (tfz38 : ∀ j, iv 0 40 (fz38 j)) : Ct l V yX10_noTold (.code yX10_noTold cX10_noTold 6 (some .int)) 3 [.ref (z 0), .int a1, .int a2, .int a3] [(z 0, .inr (10, mo z pz0_0 pz0_5 pz0_6 pz0_7 pz0_8 pz0_9 pz0_10 pz0_11 pz0_12 pz0_13 pz0_14 pz0_18 pz0_19 pz0_22 pz0_23 pz0_29)), (z 1, aI V 3075 fz1), (z 37, aI V 4 fz37), (z 38, aI V 4 fz38), (z 39, aJ V 160 fz39)] 0 0 (QI V (fun (r : Int32) (w : va_W) => iv (-6) 0 r ∧ (r = 0 → iv 1 8 (fz38 (a1 : Int32).toNatClampNeg)) ∧ (r = 0 → iv 0 3 a1) ∧ (r = 0 → iv 0 3 a2) ∧ w = [(z 0, .inr (10, mo z pz0_0 pz0_5 pz0_6 pz0_7 pz0_8 pz0_9 pz0_10 pz0_11 pz0_12 pz0_13 pz0_14 pz0_18 pz0_19 pz0_22 pz0_23 pz0_29)), (z 1, aI V 3075 fz1), (z 37, aI V 4 fz37), (z 38, aI V 4 fz38), (z 39, aJ V 160 fz39)])) := by
  refine Ct.of (by decide) (Nat.le_of_ble_eq_true rfl) (fun p e s m below meth c A ls hx hb hr hml hown hlk hnm hg hP hK hD hE hA hS hl => ?_)
  have hl : lv_has ls 6 [(0, .ref (z 0)), (1, .int a1), (2, .int a2), (3, .int a3)] := hl
  refine lv_iload_n hx hb dX10_noTold_0 rfl (lv_at hl 1 rfl) ?_
  refine lv_i2l hx hb dX10_noTold_1 rfl ?_
  refine lv_topl (fun j_1 ej_1 => ?_)
  refine lv_lconst (v := 0) hx hb dX10_noTold_2 (by decide) ?_
  refine lv_ldc2 (v := 3) hx hb hown (hg _ q_7_107) dX10_noTold_3 ?_
  refine jnI (wr := [(z 0, .inr (10, mo z pz0_0 pz0_5 pz0_6 pz0_7 pz0_8 pz0_9 pz0_10 pz0_11 pz0_12 pz0_13 pz0_14 pz0_18 pz0_19 pz0_22 pz0_23 pz0_29)), (z 1, aI V 3075 fz1), (z 37, aI V 4 fz37), (z 38, aI V 4 fz38), (z 39, aJ V 160 fz39)]) (rnS (rest := []) ⟨hx, hb, hml, hown, hg⟩ (k_X10_within_0 l V j_1 0 3) mt_X10_within q_6_114 ⟨Nat.le_of_ble_eq_true rfl, Nat.le_of_ble_eq_true rfl⟩ hK hP hD hS hA hE [] rfl rfl rfl hl.1 rfl (Nat.le_of_ble_eq_true rfl) dX10_noTold_6 ⟨Nat.le_of_ble_eq_true rfl, Nat.le_of_ble_eq_true rfl⟩) hP hD hS hA [] [0, 1, 2, 3, 4] rfl rfl rfl (by decide) (fun r_2 w H locs hw hP hD hS => ?_)
  obtain ⟨br_2, g_3, g_4, g_5, et_6, rfl⟩ := hw
  have hP : va_P V.1 vwCl [(z 0, .inr (10, mo z pz0_0 pz0_5 pz0_6 pz0_7 pz0_8 pz0_9 pz0_10 pz0_11 pz0_12 pz0_13 pz0_14 pz0_18 pz0_19 pz0_22 pz0_23 pz0_29)), (z 1, aI V 3075 fz1), (z 37, aI V 4 fz37), (z 38, aI V 4 fz38), (z 39, aJ V 160 fz39)] H := hP
  have hD := cpD hP hD
  refine lv_if_eq (tgt := 21) hx hb dX10_noTold_9 (by decide) (fun c_7 => ?_) (fun c_7 => ?_)
  · have b_8 : iv 0 0 r_2 := iv_q c_7 (iv_c (0 : Int32) (a := 0) (b := 0) (by decide))
    refine lv_bipush (v := (-2)) hx hb dX10_noTold_21 (by decide) ?_
    exact fiI hx hb hr hlk hK hP hD hS dX10_noTold_23 (Nat.le_of_ble_eq_true rfl) (Nat.le_of_ble_eq_true rfl) (⟨(iv_c ((-2) : Int32) (by decide)), (fun q9 => absurd q9 (by decide)), (fun q9 => absurd q9 (by decide)), (fun q9 => absurd q9 (by decide)), rfl⟩)
  · have b_9 : iv 1 1 r_2 := iv_n0 c_7 br_2 (iv_c (0 : Int32) (a := 0) (b := 0) (by decide)) (by decide)
    have c_10 : (0 : Int64) ≤ j_1 := (g_4 (iv_eqp b_9 (iv_c (1 : Int32) (by decide))))
    have b_11 : ivL 0 9223372036854775807 j_1 := ivL_e2 c_10 (ivL_c (0 : Int64) (a := 0) (b := 0) (by decide)) (ivL_top j_1) (by decide)
    have b_12 : iv 0 2147483647 a1 := iv_cap (ivL_i ej_1 b_11) (iv_top a1) (by decide)
    have c_13 : j_1 ≤ 3 := (g_5 (iv_eqp b_9 (iv_c (1 : Int32) (by decide))))
    have b_14 : ivL 0 3 j_1 := ivL_e1 c_13 b_11 (ivL_c (3 : Int64) (a := 3) (b := 3) (by decide)) (by decide)
    have b_15 : iv 0 3 a1 := iv_cap (ivL_i ej_1 b_14) b_12 (by decide)
    refine lv_aload_n hx hb dX10_noTold_12 rfl (lv_at hl 0 rfl) ?_
    refine lv_iload_n hx hb dX10_noTold_13 rfl (lv_at hl 2 rfl) ?_
    refine lv_i2l hx hb dX10_noTold_14 rfl ?_
    refine lv_topl (fun j_16 ej_16 => ?_)
    refine jnI (wr := [(z 37, aI V 4 fz37), (z 38, aI V 4 fz38), (z 39, aJ V 160 fz39)]) (rnV (rest := []) ⟨hx, hb, hml, hown, hg⟩ (k_X10_isHill_0 l V z j_16 pz0_0 pz0_5 pz0_6 pz0_7 pz0_8 pz0_9 pz0_10 pz0_11 pz0_12 pz0_13 pz0_14 pz0_18 pz0_19 pz0_22 pz0_23 pz0_29 fz1 bpz0_5 bpz0_6 bpz0_7 bpz0_8 bpz0_10 bpz0_11 bpz0_12 bpz0_13 bpz0_14 bpz0_18 bpz0_22 bpz0_29 tfz1) mt_X10_isHill q_6_235 ⟨Nat.le_of_ble_eq_true rfl, Nat.le_of_ble_eq_true rfl⟩ hK hP hD hS hA hE [0, 1] rfl rfl 0 rfl rfl rfl rfl hl.1 rfl (Nat.le_of_ble_eq_true rfl) dX10_noTold_15 ⟨Nat.le_of_ble_eq_true rfl, Nat.le_of_ble_eq_true rfl⟩) hP hD hS hA [0, 1] [2, 3, 4] rfl rfl rfl (by decide) (fun r_17 w H locs hw hP hD hS => ?_)
    obtain ⟨br_17, g_18, et_19, rfl⟩ := hw
    have hP : va_P V.1 vwCl [(z 37, aI V 4 fz37), (z 38, aI V 4 fz38), (z 39, aJ V 160 fz39), (z 0, .inr (10, mo z pz0_0 pz0_5 pz0_6 pz0_7 pz0_8 pz0_9 pz0_10 pz0_11 pz0_12 pz0_13 pz0_14 pz0_18 pz0_19 pz0_22 pz0_23 pz0_29)), (z 1, aI V 3075 fz1)] H := hP
    have hD := cpD hP hD
    refine lv_if_ne (tgt := 24) hx hb dX10_noTold_18 (by decide) (fun c_20 => ?_) (fun c_20 => ?_)
    · have b_21 : iv 1 1 r_17 := iv_n0 c_20 br_17 (iv_c (0 : Int32) (a := 0) (b := 0) (by decide)) (by decide)
      have b_22 : ivL 0 3 j_16 := ivL_cap (g_18 (iv_eqp b_21 (iv_c (1 : Int32) (by decide)))) (ivL_top j_16) (by decide)
      have b_23 : iv 0 3 a2 := iv_cap (ivL_i ej_16 b_22) (iv_top a2) (by decide)
      refine lv_aload_n hx hb dX10_noTold_24 rfl (lv_at hl 0 rfl) ?_
      refine lv_iload_n hx hb dX10_noTold_25 rfl (lv_at hl 1 rfl) ?_
      refine jnI (wr := [(z 38, aI V 4 fz38), (z 39, aJ V 160 fz39), (z 1, aI V 3075 fz1)]) (rnV (rest := []) ⟨hx, hb, hml, hown, hg⟩ (k_X10_noTray_0 l V z a1 pz0_0 pz0_5 pz0_6 pz0_7 pz0_8 pz0_9 pz0_10 pz0_11 pz0_12 pz0_13 pz0_14 pz0_18 pz0_19 pz0_22 pz0_23 pz0_29 fz37 bpz0_5 bpz0_6 bpz0_7 bpz0_8 bpz0_10 bpz0_11 bpz0_12 bpz0_13 bpz0_14 bpz0_18 bpz0_22 bpz0_29 tfz37) mt_X10_noTray q_7_108 ⟨Nat.le_of_ble_eq_true rfl, Nat.le_of_ble_eq_true rfl⟩ hK hP hD hS hA hE [3, 0] rfl rfl 3 rfl rfl rfl rfl hl.1 rfl (Nat.le_of_ble_eq_true rfl) dX10_noTold_26 ⟨Nat.le_of_ble_eq_true rfl, Nat.le_of_ble_eq_true rfl⟩) hP hD hS hA [3, 0] [1, 2, 4] rfl rfl rfl (by decide) (fun r_24 w H locs hw hP hD hS => ?_)
      obtain ⟨br_24, g_25, et_26, rfl⟩ := hw
      have hP : va_P V.1 vwCl [(z 38, aI V 4 fz38), (z 39, aJ V 160 fz39), (z 1, aI V 3075 fz1), (z 0, .inr (10, mo z pz0_0 pz0_5 pz0_6 pz0_7 pz0_8 pz0_9 pz0_10 pz0_11 pz0_12 pz0_13 pz0_14 pz0_18 pz0_19 pz0_22 pz0_23 pz0_29)), (z 37, aI V 4 fz37)] H := hP
      have hD := cpD hP hD
      refine lv_istore (lv' := [(4, .int r_24), (0, .ref (z 0)), (1, .int a1), (2, .int a2), (3, .int a3)]) hx hb dX10_noTold_29 hl (by decide) rfl (fun ls hl => ?_)
      refine lv_iload hx hb dX10_noTold_31 (lv_at hl 0 rfl) ?_
      refine lv_if_eq (tgt := 39) hx hb dX10_noTold_33 (by decide) (fun c_27 => ?_) (fun c_27 => ?_)
      · have b_28 : iv 0 0 r_24 := iv_q c_27 (iv_c (0 : Int32) (a := 0) (b := 0) (by decide))
        refine lv_aload_n hx hb dX10_noTold_39 rfl (lv_at hl 1 rfl) ?_
        refine va_get (ci := 10) (v := .ref (z 38)) (C := RX10) (T := TX10) (N := 40) hx hb hg inX10 hown hK hP 3 rfl rfl 38 (by decide) (hg _ q_6_22) (fun _ h9 => h9) rfl dX10_noTold_40 ?_
        refine lv_iload_n hx hb dX10_noTold_43 rfl (lv_at hl 2 rfl) ?_
        refine va_iald hx hb hK hP 0 0 rfl rfl (iv_in b_15 (by decide)) dX10_noTold_44 ?_
        refine lv_topi (fun x_29 ex_29 => ?_)
        have bx_29 : iv 0 40 x_29 := by rw [ex_29]; exact tfz38 _
        refine lv_i2l hx hb dX10_noTold_45 rfl ?_
        refine lv_topl (fun j_30 ej_30 => ?_)
        have bj_30 : ivL 0 40 j_30 := by rw [ej_30]; exact ivL_of bx_29
        refine lv_lconst (v := 1) hx hb dX10_noTold_46 (by decide) ?_
        refine lv_ldc2 (v := 8) hx hb hown (hg _ q_8_55) dX10_noTold_47 ?_
        refine jnI (wr := [(z 38, aI V 4 fz38), (z 39, aJ V 160 fz39), (z 1, aI V 3075 fz1), (z 0, .inr (10, mo z pz0_0 pz0_5 pz0_6 pz0_7 pz0_8 pz0_9 pz0_10 pz0_11 pz0_12 pz0_13 pz0_14 pz0_18 pz0_19 pz0_22 pz0_23 pz0_29)), (z 37, aI V 4 fz37)]) (rnS (rest := []) ⟨hx, hb, hml, hown, hg⟩ (k_X10_within_0 l V j_30 1 8) mt_X10_within q_6_114 ⟨Nat.le_of_ble_eq_true rfl, Nat.le_of_ble_eq_true rfl⟩ hK hP hD hS hA hE [] rfl rfl rfl hl.1 rfl (Nat.le_of_ble_eq_true rfl) dX10_noTold_50 ⟨Nat.le_of_ble_eq_true rfl, Nat.le_of_ble_eq_true rfl⟩) hP hD hS hA [] [0, 1, 2, 3, 4] rfl rfl rfl (by decide) (fun r_31 w H locs hw hP hD hS => ?_)
        obtain ⟨br_31, g_32, g_33, g_34, et_35, rfl⟩ := hw
        have hP : va_P V.1 vwCl [(z 38, aI V 4 fz38), (z 39, aJ V 160 fz39), (z 1, aI V 3075 fz1), (z 0, .inr (10, mo z pz0_0 pz0_5 pz0_6 pz0_7 pz0_8 pz0_9 pz0_10 pz0_11 pz0_12 pz0_13 pz0_14 pz0_18 pz0_19 pz0_22 pz0_23 pz0_29)), (z 37, aI V 4 fz37)] H := hP
        have hD := cpD hP hD
        refine lv_if_ne (tgt := 59) hx hb dX10_noTold_53 (by decide) (fun c_36 => ?_) (fun c_36 => ?_)
        · have b_37 : iv 1 1 r_31 := iv_n0 c_36 br_31 (iv_c (0 : Int32) (a := 0) (b := 0) (by decide)) (by decide)
          have c_38 : (1 : Int64) ≤ j_30 := (g_33 (iv_eqp b_37 (iv_c (1 : Int32) (by decide))))
          have b_39 : ivL 1 40 j_30 := ivL_e2 c_38 (ivL_c (1 : Int64) (a := 1) (b := 1) (by decide)) bj_30 (by decide)
          have b_40 : iv 1 40 x_29 := iv_cap (ivL_i ej_30 b_39) bx_29 (by decide)
          have c_41 : j_30 ≤ 8 := (g_34 (iv_eqp b_37 (iv_c (1 : Int32) (by decide))))
          have b_42 : ivL 1 8 j_30 := ivL_e1 c_41 b_39 (ivL_c (8 : Int64) (a := 8) (b := 8) (by decide)) (by decide)
          have b_43 : iv 1 8 x_29 := iv_cap (ivL_i ej_30 b_42) b_40 (by decide)
          refine lv_iconst (v := 0) hx hb dX10_noTold_59 (by decide) ?_
          refine lv_istore (lv' := [(5, .int 0), (4, .int r_24), (0, .ref (z 0)), (1, .int a1), (2, .int a2), (3, .int a3)]) hx hb dX10_noTold_60 hl (by decide) rfl (fun ls hl => ?_)
          refine loopF (X := fun (n_45 : Nat) (H : Heap) (locs : List Loc) (ls : Array Slot) => ∃ (u_44 : Int32), (iv 0 2147483647 u_44) ∧ n_45 = (2147483647 - (u_44 : Int32).toInt).toNat ∧ va_P V.1 vwCl [(z 38, aI V 4 fz38), (z 39, aJ V 160 fz39), (z 1, aI V 3075 fz1), (z 0, .inr (10, mo z pz0_0 pz0_5 pz0_6 pz0_7 pz0_8 pz0_9 pz0_10 pz0_11 pz0_12 pz0_13 pz0_14 pz0_18 pz0_19 pz0_22 pz0_23 pz0_29)), (z 37, aI V 4 fz37)] H ∧ va_D A [(z 38, aI V 4 fz38), (z 39, aJ V 160 fz39), (z 1, aI V 3075 fz1), (z 0, .inr (10, mo z pz0_0 pz0_5 pz0_6 pz0_7 pz0_8 pz0_9 pz0_10 pz0_11 pz0_12 pz0_13 pz0_14 pz0_18 pz0_19 pz0_22 pz0_23 pz0_29)), (z 37, aI V 4 fz37)] ∧ va_S A s.heap H locs ∧ lv_has ls 6 [(5, .int u_44), (4, .int r_24), (0, .ref (z 0)), (1, .int a1), (2, .int a2), (3, .int a3)]) (g := fun ls => F0 m 62 ls []) (fun n_45 H locs ls hX ihn_45 => ?_) _ ⟨0, (iv_c (0 : Int32) (by decide)), rfl, hP, hD, hS, lv_sub hl [0, 1, 2, 3, 4, 5] rfl⟩
          obtain ⟨u_44, bu_44, en_45, hP, hD, hS, hl⟩ := hX
          refine lv_iload hx hb dX10_noTold_62 (lv_at hl 0 rfl) ?_
          refine lv_aload_n hx hb dX10_noTold_64 rfl (lv_at hl 2 rfl) ?_
          refine va_get (ci := 10) (v := .ref (z 38)) (C := RX10) (T := TX10) (N := 40) hx hb hg inX10 hown hK hP 3 rfl rfl 38 (by decide) (hg _ q_6_22) (fun _ h9 => h9) rfl dX10_noTold_65 ?_
          refine lv_iload_n hx hb dX10_noTold_68 rfl (lv_at hl 3 rfl) ?_
          refine va_iald hx hb hK hP 0 0 rfl rfl (iv_in b_15 (by decide)) dX10_noTold_69 ?_
          refine tpi (y := x_29) ex_29.symm ?_
          refine lv_icmp_ge (tgt := 105) hx hb dX10_noTold_70 (by decide) (fun c_46 => ?_) (fun c_46 => ?_)
          · have b_47 : iv 1 2147483647 u_44 := iv_e2 c_46 b_43 bu_44 (by decide)
            refine lv_iconst (v := 0) hx hb dX10_noTold_105 (by decide) ?_
            have hP := subP (ws' := [(z 0, .inr (10, mo z pz0_0 pz0_5 pz0_6 pz0_7 pz0_8 pz0_9 pz0_10 pz0_11 pz0_12 pz0_13 pz0_14 pz0_18 pz0_19 pz0_22 pz0_23 pz0_29)), (z 1, aI V 3075 fz1), (z 37, aI V 4 fz37), (z 38, aI V 4 fz38), (z 39, aJ V 160 fz39)]) hP [3, 2, 4, 0, 1] rfl
            have hD := subD hP hD [3, 2, 4, 0, 1] rfl rfl
            exact fiI hx hb hr hlk hK hP hD hS dX10_noTold_106 (Nat.le_of_ble_eq_true rfl) (Nat.le_of_ble_eq_true rfl) (⟨(iv_c (0 : Int32) (by decide)), (fun _ => by rw [← ex_29]; exact b_43), (fun _ => b_15), (fun _ => b_23), rfl⟩)
          · have b_48 : iv 0 7 u_44 := iv_l1 (Int32.not_le.mp c_46) bu_44 b_43 (by decide)
            refine lv_aload_n hx hb dX10_noTold_73 rfl (lv_at hl 2 rfl) ?_
            refine va_get (ci := 10) (v := .ref (z 39)) (C := RX10) (T := TX10) (N := 40) hx hb hg inX10 hown hK hP 3 rfl rfl 39 (by decide) (hg _ q_6_23) (fun _ h9 => h9) rfl dX10_noTold_74 ?_
            refine lv_bipush (v := 40) hx hb dX10_noTold_77 (by decide) ?_
            refine lv_iload_n hx hb dX10_noTold_79 rfl (lv_at hl 3 rfl) ?_
            refine lv_imul hx hb dX10_noTold_80 ?_
            refine lv_topi (fun x_49 ex_49 => ?_)
            have bx_49 : iv 0 120 x_49 := by rw [ex_49]; exact iv_cmul (iv_c (40 : Int32) (a := 40) (b := 40) (by decide)) b_15 (by decide)
            refine lv_iload hx hb dX10_noTold_81 (lv_at hl 0 rfl) ?_
            refine lv_iadd hx hb dX10_noTold_83 ?_
            refine lv_topi (fun x_50 ex_50 => ?_)
            have bx_50 : iv 0 127 x_50 := by rw [ex_50]; exact iv_add bx_49 b_48 (by decide)
            refine va_lald hx hb hK hP 1 2 rfl rfl (iv_in bx_50 (by decide)) dX10_noTold_84 ?_
            refine lv_topl (fun j_51 ej_51 => ?_)
            refine lv_iload_n hx hb dX10_noTold_85 rfl (lv_at hl 5 rfl) ?_
            refine lv_i2l hx hb dX10_noTold_86 rfl ?_
            refine lv_topl (fun j_52 ej_52 => ?_)
            refine lv_ldc2 (v := 4) hx hb hown (hg _ q_7_189) dX10_noTold_87 ?_
            refine jnI (wr := [(z 38, aI V 4 fz38), (z 39, aJ V 160 fz39), (z 1, aI V 3075 fz1), (z 0, .inr (10, mo z pz0_0 pz0_5 pz0_6 pz0_7 pz0_8 pz0_9 pz0_10 pz0_11 pz0_12 pz0_13 pz0_14 pz0_18 pz0_19 pz0_22 pz0_23 pz0_29)), (z 37, aI V 4 fz37)]) (rnS (rest := []) ⟨hx, hb, hml, hown, hg⟩ (k_X10_within_0 l V j_51 j_52 4) mt_X10_within q_6_114 ⟨Nat.le_of_ble_eq_true rfl, Nat.le_of_ble_eq_true rfl⟩ hK hP hD hS hA hE [] rfl rfl rfl hl.1 rfl (Nat.le_of_ble_eq_true rfl) dX10_noTold_90 ⟨Nat.le_of_ble_eq_true rfl, Nat.le_of_ble_eq_true rfl⟩) hP hD hS hA [] [0, 1, 2, 3, 4] rfl rfl rfl (by decide) (fun r_53 w H locs hw hP hD hS => ?_)
            obtain ⟨br_53, g_54, g_55, g_56, et_57, rfl⟩ := hw
            have hP : va_P V.1 vwCl [(z 38, aI V 4 fz38), (z 39, aJ V 160 fz39), (z 1, aI V 3075 fz1), (z 0, .inr (10, mo z pz0_0 pz0_5 pz0_6 pz0_7 pz0_8 pz0_9 pz0_10 pz0_11 pz0_12 pz0_13 pz0_14 pz0_18 pz0_19 pz0_22 pz0_23 pz0_29)), (z 37, aI V 4 fz37)] H := hP
            have hD := cpD hP hD
            refine lv_if_ne (tgt := 99) hx hb dX10_noTold_93 (by decide) (fun c_58 => ?_) (fun c_58 => ?_)
            · have b_59 : iv 1 1 r_53 := iv_n0 c_58 br_53 (iv_c (0 : Int32) (a := 0) (b := 0) (by decide)) (by decide)
              have c_60 : j_52 ≤ j_51 := (g_55 (iv_eqp b_59 (iv_c (1 : Int32) (by decide))))
              have c_61 : j_51 ≤ 4 := (g_56 (iv_eqp b_59 (iv_c (1 : Int32) (by decide))))
              have b_62 : ivL (-9223372036854775808) 4 j_51 := ivL_e1 c_61 (ivL_top j_51) (ivL_c (4 : Int64) (a := 4) (b := 4) (by decide)) (by decide)
              obtain ⟨x_63, ex_63⟩ : ∃ z9 : Int32, z9 = u_44 + 1 := ⟨_, rfl⟩
              have bx_63 : iv 1 8 x_63 := by rw [ex_63]; exact iv_add b_48 (iv_c (1 : Int32) (a := 1) (b := 1) (by decide)) (by decide)
              refine lv_iinc (v := x_63) (lv' := [(5, .int x_63), (4, .int r_24), (0, .ref (z 0)), (1, .int a1), (2, .int a2), (3, .int a3)]) hx hb dX10_noTold_99 hl (k := 0) rfl (by rw [ex_63]; rfl) (by decide) rfl (fun ls hl => ?_)
              refine lv_goto (tgt := 62) hx hb dX10_noTold_102 (by decide) ?_
              exact ihn_45 _ _ _ _ (by rw [en_45, ex_63]; exact mu_up b_48 (by decide)) ⟨x_63, (iv_w bx_63 (by decide)), rfl, hP, hD, hS, lv_sub hl [0, 1, 2, 3, 4, 5] rfl⟩
            · have b_64 : iv 0 0 r_53 := iv_q c_58 (iv_c (0 : Int32) (a := 0) (b := 0) (by decide))
              refine lv_bipush (v := (-3)) hx hb dX10_noTold_96 (by decide) ?_
              have hP := subP (ws' := [(z 0, .inr (10, mo z pz0_0 pz0_5 pz0_6 pz0_7 pz0_8 pz0_9 pz0_10 pz0_11 pz0_12 pz0_13 pz0_14 pz0_18 pz0_19 pz0_22 pz0_23 pz0_29)), (z 1, aI V 3075 fz1), (z 37, aI V 4 fz37), (z 38, aI V 4 fz38), (z 39, aJ V 160 fz39)]) hP [3, 2, 4, 0, 1] rfl
              have hD := subD hP hD [3, 2, 4, 0, 1] rfl rfl
              exact fiI hx hb hr hlk hK hP hD hS dX10_noTold_98 (Nat.le_of_ble_eq_true rfl) (Nat.le_of_ble_eq_true rfl) (⟨(iv_c ((-3) : Int32) (by decide)), (fun q9 => absurd q9 (by decide)), (fun q9 => absurd q9 (by decide)), (fun q9 => absurd q9 (by decide)), rfl⟩)
        · have b_65 : iv 0 0 r_31 := iv_q c_36 (iv_c (0 : Int32) (a := 0) (b := 0) (by decide))
          refine lv_bipush (v := (-4)) hx hb dX10_noTold_56 (by decide) ?_
          have hP := subP (ws' := [(z 0, .inr (10, mo z pz0_0 pz0_5 pz0_6 pz0_7 pz0_8 pz0_9 pz0_10 pz0_11 pz0_12 pz0_13 pz0_14 pz0_18 pz0_19 pz0_22 pz0_23 pz0_29)), (z 1, aI V 3075 fz1), (z 37, aI V 4 fz37), (z 38, aI V 4 fz38), (z 39, aJ V 160 fz39)]) hP [3, 2, 4, 0, 1] rfl
          have hD := subD hP hD [3, 2, 4, 0, 1] rfl rfl
          exact fiI hx hb hr hlk hK hP hD hS dX10_noTold_58 (Nat.le_of_ble_eq_true rfl) (Nat.le_of_ble_eq_true rfl) (⟨(iv_c ((-4) : Int32) (by decide)), (fun q9 => absurd q9 (by decide)), (fun q9 => absurd q9 (by decide)), (fun q9 => absurd q9 (by decide)), rfl⟩)
      · have b_66 : iv (-6) (-1) r_24 := iv_n1 c_27 br_24 (iv_c (0 : Int32) (a := 0) (b := 0) (by decide)) (by decide)
        refine lv_iload hx hb dX10_noTold_36 (lv_at hl 0 rfl) ?_
        have c_67 : r_24 = (-6) ∨ r_24 = (-5) ∨ r_24 = (-4) ∨ r_24 = (-3) ∨ r_24 = (-2) ∨ r_24 = (-1) := by have q9 := b_66; unfold iv at q9; simp only [tI_eq, (by decide : ((-6) : Int32).toInt = -6), (by decide : ((-5) : Int32).toInt = -5), (by decide : ((-4) : Int32).toInt = -4), (by decide : ((-3) : Int32).toInt = -3), (by decide : ((-2) : Int32).toInt = -2), (by decide : ((-1) : Int32).toInt = -1)]; omega
        rcases c_67 with rfl | rfl | rfl | rfl | rfl | rfl
        · have hP := subP (ws' := [(z 0, .inr (10, mo z pz0_0 pz0_5 pz0_6 pz0_7 pz0_8 pz0_9 pz0_10 pz0_11 pz0_12 pz0_13 pz0_14 pz0_18 pz0_19 pz0_22 pz0_23 pz0_29)), (z 1, aI V 3075 fz1), (z 37, aI V 4 fz37), (z 38, aI V 4 fz38), (z 39, aJ V 160 fz39)]) hP [3, 2, 4, 0, 1] rfl
          have hD := subD hP hD [3, 2, 4, 0, 1] rfl rfl
          exact fiI hx hb hr hlk hK hP hD hS dX10_noTold_38 (Nat.le_of_ble_eq_true rfl) (Nat.le_of_ble_eq_true rfl) (⟨(iv_c ((-6) : Int32) (by decide)), (fun q9 => absurd q9 (by decide)), (fun q9 => absurd q9 (by decide)), (fun q9 => absurd q9 (by decide)), rfl⟩)
        · have hP := subP (ws' := [(z 0, .inr (10, mo z pz0_0 pz0_5 pz0_6 pz0_7 pz0_8 pz0_9 pz0_10 pz0_11 pz0_12 pz0_13 pz0_14 pz0_18 pz0_19 pz0_22 pz0_23 pz0_29)), (z 1, aI V 3075 fz1), (z 37, aI V 4 fz37), (z 38, aI V 4 fz38), (z 39, aJ V 160 fz39)]) hP [3, 2, 4, 0, 1] rfl
          have hD := subD hP hD [3, 2, 4, 0, 1] rfl rfl
          exact fiI hx hb hr hlk hK hP hD hS dX10_noTold_38 (Nat.le_of_ble_eq_true rfl) (Nat.le_of_ble_eq_true rfl) (⟨(iv_c ((-5) : Int32) (by decide)), (fun q9 => absurd q9 (by decide)), (fun q9 => absurd q9 (by decide)), (fun q9 => absurd q9 (by decide)), rfl⟩)
        · have hP := subP (ws' := [(z 0, .inr (10, mo z pz0_0 pz0_5 pz0_6 pz0_7 pz0_8 pz0_9 pz0_10 pz0_11 pz0_12 pz0_13 pz0_14 pz0_18 pz0_19 pz0_22 pz0_23 pz0_29)), (z 1, aI V 3075 fz1), (z 37, aI V 4 fz37), (z 38, aI V 4 fz38), (z 39, aJ V 160 fz39)]) hP [3, 2, 4, 0, 1] rfl
          have hD := subD hP hD [3, 2, 4, 0, 1] rfl rfl
          exact fiI hx hb hr hlk hK hP hD hS dX10_noTold_38 (Nat.le_of_ble_eq_true rfl) (Nat.le_of_ble_eq_true rfl) (⟨(iv_c ((-4) : Int32) (by decide)), (fun q9 => absurd q9 (by decide)), (fun q9 => absurd q9 (by decide)), (fun q9 => absurd q9 (by decide)), rfl⟩)
        · have hP := subP (ws' := [(z 0, .inr (10, mo z pz0_0 pz0_5 pz0_6 pz0_7 pz0_8 pz0_9 pz0_10 pz0_11 pz0_12 pz0_13 pz0_14 pz0_18 pz0_19 pz0_22 pz0_23 pz0_29)), (z 1, aI V 3075 fz1), (z 37, aI V 4 fz37), (z 38, aI V 4 fz38), (z 39, aJ V 160 fz39)]) hP [3, 2, 4, 0, 1] rfl
          have hD := subD hP hD [3, 2, 4, 0, 1] rfl rfl
          exact fiI hx hb hr hlk hK hP hD hS dX10_noTold_38 (Nat.le_of_ble_eq_true rfl) (Nat.le_of_ble_eq_true rfl) (⟨(iv_c ((-3) : Int32) (by decide)), (fun q9 => absurd q9 (by decide)), (fun q9 => absurd q9 (by decide)), (fun q9 => absurd q9 (by decide)), rfl⟩)
        · have hP := subP (ws' := [(z 0, .inr (10, mo z pz0_0 pz0_5 pz0_6 pz0_7 pz0_8 pz0_9 pz0_10 pz0_11 pz0_12 pz0_13 pz0_14 pz0_18 pz0_19 pz0_22 pz0_23 pz0_29)), (z 1, aI V 3075 fz1), (z 37, aI V 4 fz37), (z 38, aI V 4 fz38), (z 39, aJ V 160 fz39)]) hP [3, 2, 4, 0, 1] rfl
          have hD := subD hP hD [3, 2, 4, 0, 1] rfl rfl
          exact fiI hx hb hr hlk hK hP hD hS dX10_noTold_38 (Nat.le_of_ble_eq_true rfl) (Nat.le_of_ble_eq_true rfl) (⟨(iv_c ((-2) : Int32) (by decide)), (fun q9 => absurd q9 (by decide)), (fun q9 => absurd q9 (by decide)), (fun q9 => absurd q9 (by decide)), rfl⟩)
        · have hP := subP (ws' := [(z 0, .inr (10, mo z pz0_0 pz0_5 pz0_6 pz0_7 pz0_8 pz0_9 pz0_10 pz0_11 pz0_12 pz0_13 pz0_14 pz0_18 pz0_19 pz0_22 pz0_23 pz0_29)), (z 1, aI V 3075 fz1), (z 37, aI V 4 fz37), (z 38, aI V 4 fz38), (z 39, aJ V 160 fz39)]) hP [3, 2, 4, 0, 1] rfl
          have hD := subD hP hD [3, 2, 4, 0, 1] rfl rfl
          exact fiI hx hb hr hlk hK hP hD hS dX10_noTold_38 (Nat.le_of_ble_eq_true rfl) (Nat.le_of_ble_eq_true rfl) (⟨(iv_c ((-1) : Int32) (by decide)), (fun q9 => absurd q9 (by decide)), (fun q9 => absurd q9 (by decide)), (fun q9 => absurd q9 (by decide)), rfl⟩)
    · have b_68 : iv 0 0 r_17 := iv_q c_20 (iv_c (0 : Int32) (a := 0) (b := 0) (by decide))
      refine lv_bipush (v := (-2)) hx hb dX10_noTold_21 (by decide) ?_
      have hP := subP (ws' := [(z 0, .inr (10, mo z pz0_0 pz0_5 pz0_6 pz0_7 pz0_8 pz0_9 pz0_10 pz0_11 pz0_12 pz0_13 pz0_14 pz0_18 pz0_19 pz0_22 pz0_23 pz0_29)), (z 1, aI V 3075 fz1), (z 37, aI V 4 fz37), (z 38, aI V 4 fz38), (z 39, aJ V 160 fz39)]) hP [3, 4, 0, 1, 2] rfl
      have hD := subD hP hD [3, 4, 0, 1, 2] rfl rfl
      exact fiI hx hb hr hlk hK hP hD hS dX10_noTold_23 (Nat.le_of_ble_eq_true rfl) (Nat.le_of_ble_eq_true rfl) (⟨(iv_c ((-2) : Int32) (by decide)), (fun q9 => absurd q9 (by decide)), (fun q9 => absurd q9 (by decide)), (fun q9 => absurd q9 (by decide)), rfl⟩)
theorem dX10_isSo_0 : decode cX10_isSo 0 = .ok (.iload 4, 2) := by decide +kernel
theorem dX10_isSo_2 : decode cX10_isSo 2 = .ok (.iconst (-1), 1) := by decide +kernel
theorem dX10_isSo_3 : decode cX10_isSo 3 = .ok (.if_icmp .eq 47, 3) := by decide +kernel
theorem dX10_isSo_50 : decode cX10_isSo 50 = .ok (.iconst 0, 1) := by decide +kernel
theorem dX10_isSo_51 : decode cX10_isSo 51 = .ok (.ireturn, 1) := by decide +kernel
theorem dX10_isSo_6 : decode cX10_isSo 6 = .ok (.aload_n 0, 1) := by decide +kernel
theorem dX10_isSo_7 : decode cX10_isSo 7 = .ok (.getfield 90, 3) := by decide +kernel
theorem dX10_isSo_10 : decode cX10_isSo 10 = .ok (.bipush 40, 2) := by decide +kernel
theorem dX10_isSo_12 : decode cX10_isSo 12 = .ok (.iload_n 1, 1) := by decide +kernel
theorem dX10_isSo_13 : decode cX10_isSo 13 = .ok (.imul, 1) := by decide +kernel
theorem dX10_isSo_14 : decode cX10_isSo 14 = .ok (.iload_n 3, 1) := by decide +kernel
theorem dX10_isSo_15 : decode cX10_isSo 15 = .ok (.iadd, 1) := by decide +kernel
theorem dX10_isSo_16 : decode cX10_isSo 16 = .ok (.laload, 1) := by decide +kernel
theorem q_8_64 : Cond.constantLong "BeaconDelayModel" 419 (-1 : Int64) ∈ gw := gw_8 (i := 64) (by decide +kernel) rfl
theorem dX10_isSo_17 : decode cX10_isSo 17 = .ok (.ldc2_w 419, 3) := by decide +kernel
theorem dX10_isSo_20 : decode cX10_isSo 20 = .ok (.lcmp, 1) := by decide +kernel
theorem dX10_isSo_21 : decode cX10_isSo 21 = .ok (.ifCond .eq 25, 3) := by decide +kernel
theorem dX10_isSo_46 : decode cX10_isSo 46 = .ok (.iconst 1, 1) := by decide +kernel
theorem dX10_isSo_47 : decode cX10_isSo 47 = .ok (.goto 4, 3) := by decide +kernel
theorem dX10_isSo_24 : decode cX10_isSo 24 = .ok (.aload_n 0, 1) := by decide +kernel
theorem dX10_isSo_25 : decode cX10_isSo 25 = .ok (.getfield 90, 3) := by decide +kernel
theorem dX10_isSo_28 : decode cX10_isSo 28 = .ok (.bipush 40, 2) := by decide +kernel
theorem dX10_isSo_30 : decode cX10_isSo 30 = .ok (.iload_n 1, 1) := by decide +kernel
theorem dX10_isSo_31 : decode cX10_isSo 31 = .ok (.imul, 1) := by decide +kernel
theorem dX10_isSo_32 : decode cX10_isSo 32 = .ok (.iload_n 3, 1) := by decide +kernel
theorem dX10_isSo_33 : decode cX10_isSo 33 = .ok (.iadd, 1) := by decide +kernel
theorem dX10_isSo_34 : decode cX10_isSo 34 = .ok (.laload, 1) := by decide +kernel
theorem dX10_isSo_35 : decode cX10_isSo 35 = .ok (.iload 4, 2) := by decide +kernel
theorem dX10_isSo_37 : decode cX10_isSo 37 = .ok (.iload_n 2, 1) := by decide +kernel
theorem dX10_isSo_38 : decode cX10_isSo 38 = .ok (.invokestatic 231, 3) := by decide +kernel
theorem dX10_isSo_41 : decode cX10_isSo 41 = .ok (.i2l, 1) := by decide +kernel
theorem dX10_isSo_42 : decode cX10_isSo 42 = .ok (.lcmp, 1) := by decide +kernel
theorem dX10_isSo_43 : decode cX10_isSo 43 = .ok (.ifCond .ne 7, 3) := by decide +kernel
set_option maxHeartbeats 4000000 in
set_option maxRecDepth 100000 in
theorem k_X10_isSo_0 (l : Launch) (V : GV) (z : Nat → Nat) (a1 : Int32) (a2 : Int32) (a3 : Int32) (a4 : Int32) (fz39 : Nat → Int64) (pz0_0 : Int32) (pz0_5 : Int32) (pz0_6 : Int32) (pz0_7 : Int32) (pz0_8 : Int32) (pz0_9 : Int32) (pz0_10 : Int32) (pz0_11 : Int32) (pz0_12 : Int32) (pz0_13 : Int32) (pz0_14 : Int32) (pz0_18 : Int32) (pz0_19 : Int32) (pz0_22 : Int32) (pz0_23 : Int32) (pz0_29 : Int32) (ba1 : iv 0 3 a1) (ba2 : iv 0 3 a2) (ba3 : iv 0 39 a3) (ba4 : iv (-1) 9999 a4) (bpz0_5 : iv 0 900 pz0_5) (bpz0_6 : iv 0 900 pz0_6) (bpz0_7 : iv 0 900 pz0_7) (bpz0_8 : iv 0 900 pz0_8) (bpz0_10 : iv 0 999 pz0_10) (bpz0_11 : iv 0 4 pz0_11) (bpz0_12 : iv 0 900 pz0_12) (bpz0_13 : iv 0 4 pz0_13) (bpz0_14 : iv (-1) 900 pz0_14) (bpz0_18 : iv 0 2 pz0_18) (bpz0_22 : iv 0 9999 pz0_22) (bpz0_29 : iv 0 10000 pz0_29) : Ct l V yX10_isSo (.code yX10_isSo cX10_isSo 5 (some .boolean)) 3 [.ref (z 0), .int a1, .int a2, .int a3, .int a4] [(z 39, aJ V 160 fz39), (z 0, .inr (10, mo z pz0_0 pz0_5 pz0_6 pz0_7 pz0_8 pz0_9 pz0_10 pz0_11 pz0_12 pz0_13 pz0_14 pz0_18 pz0_19 pz0_22 pz0_23 pz0_29))] 0 0 (QI V (fun (r : Int32) (w : va_W) => iv 0 1 r ∧ r = isF fz39 a1 a2 a3 a4 ∧ (r = 1 → iv 0 9999 a4) ∧ w = [(z 39, aJ V 160 fz39), (z 0, .inr (10, mo z pz0_0 pz0_5 pz0_6 pz0_7 pz0_8 pz0_9 pz0_10 pz0_11 pz0_12 pz0_13 pz0_14 pz0_18 pz0_19 pz0_22 pz0_23 pz0_29))])) := by
  refine Ct.of (by decide) (Nat.le_of_ble_eq_true rfl) (fun p e s m below meth c A ls hx hb hr hml hown hlk hnm hg hP hK hD hE hA hS hl => ?_)
  have hl : lv_has ls 5 [(0, .ref (z 0)), (1, .int a1), (2, .int a2), (3, .int a3), (4, .int a4)] := hl
  refine lv_iload hx hb dX10_isSo_0 (lv_at hl 4 rfl) ?_
  refine lv_iconst (v := (-1)) hx hb dX10_isSo_2 (by decide) ?_
  refine lv_icmp_eq (tgt := 50) hx hb dX10_isSo_3 (by decide) (fun c_1 => ?_) (fun c_1 => ?_)
  · have b_2 : iv (-1) (-1) a4 := iv_q c_1 (iv_c ((-1) : Int32) (a := (-1)) (b := (-1)) (by decide))
    refine lv_iconst (v := 0) hx hb dX10_isSo_50 (by decide) ?_
    exact fiZ rfl hx hb hr hlk hK hP hD hS dX10_isSo_51 (Nat.le_of_ble_eq_true rfl) (Nat.le_of_ble_eq_true rfl) (⟨(iv_c (0 : Int32) (by decide)), (isF_a c_1), (fun q9 => absurd q9 (by decide)), rfl⟩)
  · have b_3 : iv 0 9999 a4 := iv_n0 c_1 ba4 (iv_c ((-1) : Int32) (a := (-1)) (b := (-1)) (by decide)) (by decide)
    refine lv_aload_n hx hb dX10_isSo_6 rfl (lv_at hl 0 rfl) ?_
    refine va_get (ci := 10) (v := .ref (z 39)) (C := RX10) (T := TX10) (N := 40) hx hb hg inX10 hown hK hP 1 rfl rfl 39 (by decide) (hg _ q_6_23) (fun _ h9 => h9) rfl dX10_isSo_7 ?_
    refine lv_bipush (v := 40) hx hb dX10_isSo_10 (by decide) ?_
    refine lv_iload_n hx hb dX10_isSo_12 rfl (lv_at hl 1 rfl) ?_
    refine lv_imul hx hb dX10_isSo_13 ?_
    refine lv_topi (fun x_4 ex_4 => ?_)
    have bx_4 : iv 0 120 x_4 := by rw [ex_4]; exact iv_cmul (iv_c (40 : Int32) (a := 40) (b := 40) (by decide)) ba1 (by decide)
    refine lv_iload_n hx hb dX10_isSo_14 rfl (lv_at hl 3 rfl) ?_
    refine lv_iadd hx hb dX10_isSo_15 ?_
    refine lv_topi (fun x_5 ex_5 => ?_)
    have bx_5 : iv 0 159 x_5 := by rw [ex_5]; exact iv_add bx_4 ba3 (by decide)
    refine va_lald hx hb hK hP 0 2 rfl rfl (iv_in bx_5 (by decide)) dX10_isSo_16 ?_
    refine lv_topl (fun j_6 ej_6 => ?_)
    refine lv_ldc2 (v := (-1)) hx hb hown (hg _ q_8_64) dX10_isSo_17 ?_
    refine W.lcmp hx hb dX10_isSo_20 ?_
    refine lv_if_eq (tgt := 46) hx hb dX10_isSo_21 (by decide) (fun c_7 => ?_) (fun c_7 => ?_)
    · replace c_7 : j_6 = ((-1) : Int64) := (lg_cmp_eq _ _).mp c_7
      have b_8 : ivL (-1) (-1) j_6 := ivL_q c_7 (ivL_c ((-1) : Int64) (a := (-1)) (b := (-1)) (by decide))
      refine lv_iconst (v := 1) hx hb dX10_isSo_46 (by decide) ?_
      refine lv_goto (tgt := 51) hx hb dX10_isSo_47 (by decide) ?_
      exact fiZ rfl hx hb hr hlk hK hP hD hS dX10_isSo_51 (Nat.le_of_ble_eq_true rfl) (Nat.le_of_ble_eq_true rfl) (⟨(iv_c (1 : Int32) (by decide)), (isF_b c_1 ex_4 ex_5 ej_6 c_7), (fun _ => b_3), rfl⟩)
    · replace c_7 : ¬ j_6 = ((-1) : Int64) := fun z => c_7 ((lg_cmp_eq _ _).mpr z)
      refine lv_aload_n hx hb dX10_isSo_24 rfl (lv_at hl 0 rfl) ?_
      refine va_get (ci := 10) (v := .ref (z 39)) (C := RX10) (T := TX10) (N := 40) hx hb hg inX10 hown hK hP 1 rfl rfl 39 (by decide) (hg _ q_6_23) (fun _ h9 => h9) rfl dX10_isSo_25 ?_
      refine lv_bipush (v := 40) hx hb dX10_isSo_28 (by decide) ?_
      refine lv_iload_n hx hb dX10_isSo_30 rfl (lv_at hl 1 rfl) ?_
      refine lv_imul hx hb dX10_isSo_31 ?_
      refine tpi (y := x_4) ex_4.symm ?_
      refine lv_iload_n hx hb dX10_isSo_32 rfl (lv_at hl 3 rfl) ?_
      refine lv_iadd hx hb dX10_isSo_33 ?_
      refine tpi (y := x_5) ex_5.symm ?_
      refine va_lald hx hb hK hP 0 2 rfl rfl (iv_in bx_5 (by decide)) dX10_isSo_34 ?_
      refine tpl (y := j_6) ej_6.symm ?_
      refine lv_iload hx hb dX10_isSo_35 (lv_at hl 4 rfl) ?_
      refine lv_iload_n hx hb dX10_isSo_37 rfl (lv_at hl 2 rfl) ?_
      refine jnI (wr := [(z 39, aJ V 160 fz39), (z 0, .inr (10, mo z pz0_0 pz0_5 pz0_6 pz0_7 pz0_8 pz0_9 pz0_10 pz0_11 pz0_12 pz0_13 pz0_14 pz0_18 pz0_19 pz0_22 pz0_23 pz0_29))]) (rnS (rest := [.long j_6]) ⟨hx, hb, hml, hown, hg⟩ (k_X10_stackIn_0 l V a4 a2 b_3 ba2) mt_X10_stackIn q_7_26 ⟨Nat.le_of_ble_eq_true rfl, Nat.le_of_ble_eq_true rfl⟩ hK hP hD hS hA hE [] rfl rfl rfl hl.1 rfl (Nat.le_of_ble_eq_true rfl) dX10_isSo_38 ⟨Nat.le_of_ble_eq_true rfl, Nat.le_of_ble_eq_true rfl⟩) hP hD hS hA [] [0, 1] rfl rfl rfl (by decide) (fun r_9 w H locs hw hP hD hS => ?_)
      obtain ⟨br_9, er_9, et_10, rfl⟩ := hw
      have hP : va_P V.1 vwCl [(z 39, aJ V 160 fz39), (z 0, .inr (10, mo z pz0_0 pz0_5 pz0_6 pz0_7 pz0_8 pz0_9 pz0_10 pz0_11 pz0_12 pz0_13 pz0_14 pz0_18 pz0_19 pz0_22 pz0_23 pz0_29))] H := hP
      have hD := cpD hP hD
      refine lv_i2l hx hb dX10_isSo_41 rfl ?_
      refine lv_topl (fun j_11 ej_11 => ?_)
      have bj_11 : ivL 0 4 j_11 := by rw [ej_11]; exact ivL_of br_9
      refine W.lcmp hx hb dX10_isSo_42 ?_
      refine lv_if_ne (tgt := 50) hx hb dX10_isSo_43 (by decide) (fun c_12 => ?_) (fun c_12 => ?_)
      · replace c_12 : ¬ j_6 = j_11 := fun z => c_12 ((lg_cmp_eq _ _).mpr z)
        refine lv_iconst (v := 0) hx hb dX10_isSo_50 (by decide) ?_
        exact fiZ rfl hx hb hr hlk hK hP hD hS dX10_isSo_51 (Nat.le_of_ble_eq_true rfl) (Nat.le_of_ble_eq_true rfl) (⟨(iv_c (0 : Int32) (by decide)), (isF_d c_1 ex_4 ex_5 ej_6 c_7 er_9 ej_11 c_12), (fun q9 => absurd q9 (by decide)), rfl⟩)
      · replace c_12 : j_6 = j_11 := (lg_cmp_eq _ _).mp c_12
        have b_13 : ivL 0 4 j_6 := ivL_q c_12 bj_11
        refine lv_iconst (v := 1) hx hb dX10_isSo_46 (by decide) ?_
        refine lv_goto (tgt := 51) hx hb dX10_isSo_47 (by decide) ?_
        exact fiZ rfl hx hb hr hlk hK hP hD hS dX10_isSo_51 (Nat.le_of_ble_eq_true rfl) (Nat.le_of_ble_eq_true rfl) (⟨(iv_c (1 : Int32) (by decide)), (isF_c c_1 ex_4 ex_5 ej_6 c_7 er_9 ej_11 c_12), (fun _ => b_3), rfl⟩)
theorem dX10_laysHigh_0 : decode cX10_laysHigh 0 = .ok (.aload_n 0, 1) := by decide +kernel
theorem dX10_laysHigh_1 : decode cX10_laysHigh 1 = .ok (.invokevirtual 362, 3) := by decide +kernel
theorem dX10_laysHigh_4 : decode cX10_laysHigh 4 = .ok (.aload_n 0, 1) := by decide +kernel
theorem dX10_laysHigh_5 : decode cX10_laysHigh 5 = .ok (.getfield 87, 3) := by decide +kernel
theorem dX10_laysHigh_8 : decode cX10_laysHigh 8 = .ok (.iload_n 1, 1) := by decide +kernel
theorem dX10_laysHigh_9 : decode cX10_laysHigh 9 = .ok (.iaload, 1) := by decide +kernel
theorem dX10_laysHigh_10 : decode cX10_laysHigh 10 = .ok (.istore_n 3, 1) := by decide +kernel
theorem dX10_laysHigh_11 : decode cX10_laysHigh 11 = .ok (.iconst 0, 1) := by decide +kernel
theorem dX10_laysHigh_12 : decode cX10_laysHigh 12 = .ok (.istore 4, 2) := by decide +kernel
theorem dX10_laysHigh_14 : decode cX10_laysHigh 14 = .ok (.iload 4, 2) := by decide +kernel
theorem dX10_laysHigh_16 : decode cX10_laysHigh 16 = .ok (.aload_n 0, 1) := by decide +kernel
theorem dX10_laysHigh_17 : decode cX10_laysHigh 17 = .ok (.getfield 355, 3) := by decide +kernel
theorem dX10_laysHigh_20 : decode cX10_laysHigh 20 = .ok (.if_icmp .ge 28, 3) := by decide +kernel
theorem dX10_laysHigh_48 : decode cX10_laysHigh 48 = .ok (.iload_n 3, 1) := by decide +kernel
theorem dX10_laysHigh_49 : decode cX10_laysHigh 49 = .ok (.iconst 1, 1) := by decide +kernel
theorem dX10_laysHigh_50 : decode cX10_laysHigh 50 = .ok (.isub, 1) := by decide +kernel
theorem dX10_laysHigh_51 : decode cX10_laysHigh 51 = .ok (.istore 4, 2) := by decide +kernel
theorem dX10_laysHigh_53 : decode cX10_laysHigh 53 = .ok (.iload 4, 2) := by decide +kernel
theorem dX10_laysHigh_55 : decode cX10_laysHigh 55 = .ok (.ifCond .lt 119, 3) := by decide +kernel
theorem dX10_laysHigh_174 : decode cX10_laysHigh 174 = .ok (.aload_n 0, 1) := by decide +kernel
theorem q_6_19 : Cond.fieldLink "BeaconDelayModel" 78 "BeaconDelayModel" "on" "[J" ∈ gw := gw_6 (i := 19) (by decide +kernel) rfl
theorem dX10_laysHigh_175 : decode cX10_laysHigh 175 = .ok (.getfield 78, 3) := by decide +kernel
theorem dX10_laysHigh_178 : decode cX10_laysHigh 178 = .ok (.aload_n 0, 1) := by decide +kernel
theorem dX10_laysHigh_179 : decode cX10_laysHigh 179 = .ok (.invokevirtual 269, 3) := by decide +kernel
theorem dX10_laysHigh_182 : decode cX10_laysHigh 182 = .ok (.laload, 1) := by decide +kernel
theorem dX10_laysHigh_183 : decode cX10_laysHigh 183 = .ok (.lreturn, 1) := by decide +kernel
theorem dX10_laysHigh_58 : decode cX10_laysHigh 58 = .ok (.iconst 0, 1) := by decide +kernel
theorem dX10_laysHigh_59 : decode cX10_laysHigh 59 = .ok (.istore 5, 2) := by decide +kernel
theorem dX10_laysHigh_61 : decode cX10_laysHigh 61 = .ok (.iload 5, 2) := by decide +kernel
theorem dX10_laysHigh_63 : decode cX10_laysHigh 63 = .ok (.aload_n 0, 1) := by decide +kernel
theorem dX10_laysHigh_64 : decode cX10_laysHigh 64 = .ok (.getfield 355, 3) := by decide +kernel
theorem dX10_laysHigh_67 : decode cX10_laysHigh 67 = .ok (.if_icmp .ge 101, 3) := by decide +kernel
theorem dX10_laysHigh_168 : decode cX10_laysHigh 168 = .ok (.iinc 4 (-1), 3) := by decide +kernel
theorem dX10_laysHigh_171 : decode cX10_laysHigh 171 = .ok (.goto (-118), 3) := by decide +kernel
theorem dX10_laysHigh_70 : decode cX10_laysHigh 70 = .ok (.lconst 0, 1) := by decide +kernel
theorem dX10_laysHigh_71 : decode cX10_laysHigh 71 = .ok (.lstore 6, 2) := by decide +kernel
theorem dX10_laysHigh_73 : decode cX10_laysHigh 73 = .ok (.iconst 0, 1) := by decide +kernel
theorem dX10_laysHigh_74 : decode cX10_laysHigh 74 = .ok (.istore 8, 2) := by decide +kernel
theorem dX10_laysHigh_76 : decode cX10_laysHigh 76 = .ok (.iload 8, 2) := by decide +kernel
theorem dX10_laysHigh_78 : decode cX10_laysHigh 78 = .ok (.iconst 4, 1) := by decide +kernel
theorem dX10_laysHigh_79 : decode cX10_laysHigh 79 = .ok (.if_icmp .ge 62, 3) := by decide +kernel
theorem dX10_laysHigh_141 : decode cX10_laysHigh 141 = .ok (.aload_n 0, 1) := by decide +kernel
theorem dX10_laysHigh_142 : decode cX10_laysHigh 142 = .ok (.getfield 78, 3) := by decide +kernel
theorem dX10_laysHigh_145 : decode cX10_laysHigh 145 = .ok (.sipush 10000, 3) := by decide +kernel
theorem dX10_laysHigh_148 : decode cX10_laysHigh 148 = .ok (.iload 4, 2) := by decide +kernel
theorem dX10_laysHigh_150 : decode cX10_laysHigh 150 = .ok (.imul, 1) := by decide +kernel
theorem dX10_laysHigh_151 : decode cX10_laysHigh 151 = .ok (.aload_n 0, 1) := by decide +kernel
theorem dX10_laysHigh_152 : decode cX10_laysHigh 152 = .ok (.getfield 45, 3) := by decide +kernel
theorem dX10_laysHigh_155 : decode cX10_laysHigh 155 = .ok (.iload 5, 2) := by decide +kernel
theorem dX10_laysHigh_157 : decode cX10_laysHigh 157 = .ok (.iaload, 1) := by decide +kernel
theorem dX10_laysHigh_158 : decode cX10_laysHigh 158 = .ok (.iadd, 1) := by decide +kernel
theorem dX10_laysHigh_159 : decode cX10_laysHigh 159 = .ok (.lload 6, 2) := by decide +kernel
theorem dX10_laysHigh_161 : decode cX10_laysHigh 161 = .ok (.lastore, 1) := by decide +kernel
theorem dX10_laysHigh_162 : decode cX10_laysHigh 162 = .ok (.iinc 5 1, 3) := by decide +kernel
theorem dX10_laysHigh_165 : decode cX10_laysHigh 165 = .ok (.goto (-104), 3) := by decide +kernel
theorem dX10_laysHigh_82 : decode cX10_laysHigh 82 = .ok (.aload_n 0, 1) := by decide +kernel
theorem dX10_laysHigh_83 : decode cX10_laysHigh 83 = .ok (.getfield 49, 3) := by decide +kernel
theorem dX10_laysHigh_86 : decode cX10_laysHigh 86 = .ok (.iconst 4, 1) := by decide +kernel
theorem dX10_laysHigh_87 : decode cX10_laysHigh 87 = .ok (.aload_n 0, 1) := by decide +kernel
theorem dX10_laysHigh_88 : decode cX10_laysHigh 88 = .ok (.getfield 45, 3) := by decide +kernel
theorem dX10_laysHigh_91 : decode cX10_laysHigh 91 = .ok (.iload 5, 2) := by decide +kernel
theorem dX10_laysHigh_93 : decode cX10_laysHigh 93 = .ok (.iaload, 1) := by decide +kernel
theorem dX10_laysHigh_94 : decode cX10_laysHigh 94 = .ok (.imul, 1) := by decide +kernel
theorem dX10_laysHigh_95 : decode cX10_laysHigh 95 = .ok (.iload 8, 2) := by decide +kernel
theorem dX10_laysHigh_97 : decode cX10_laysHigh 97 = .ok (.iadd, 1) := by decide +kernel
theorem dX10_laysHigh_98 : decode cX10_laysHigh 98 = .ok (.iaload, 1) := by decide +kernel
theorem dX10_laysHigh_99 : decode cX10_laysHigh 99 = .ok (.istore 9, 2) := by decide +kernel
theorem dX10_laysHigh_101 : decode cX10_laysHigh 101 = .ok (.aload_n 0, 1) := by decide +kernel
theorem dX10_laysHigh_102 : decode cX10_laysHigh 102 = .ok (.iload_n 1, 1) := by decide +kernel
theorem dX10_laysHigh_103 : decode cX10_laysHigh 103 = .ok (.iload_n 2, 1) := by decide +kernel
theorem dX10_laysHigh_104 : decode cX10_laysHigh 104 = .ok (.iload 4, 2) := by decide +kernel
theorem dX10_laysHigh_106 : decode cX10_laysHigh 106 = .ok (.iload 9, 2) := by decide +kernel
theorem q_8_63 : Cond.code yX10_isSo prog_12_method_108_code 5 (some FieldType.boolean) ∈ gw := gw_8 (i := 63) (rfl) rfl
theorem q_8_62 : Cond.instanceMethod yX10_isSo ∈ gw := gw_8 (i := 62) (by decide +kernel) rfl
theorem q_s_119 : Cond.selects "BeaconDelayModel" yX10_isSo yX10_isSo ∈ gw := gw_s (i := 119) (by decide +kernel) rfl
theorem mt_X10_isSo : MtV yX10_isSo cX10_isSo 5 (some .boolean) 4 := ⟨⟨q_8_63, q_1_9, by decide +kernel, by decide +kernel, by decide +kernel⟩, q_8_62, q_s_119⟩
theorem q_8_60 : Cond.methodLink "BeaconDelayModel" 421 yX10_isSo ∈ gw := gw_8 (i := 60) (by decide +kernel) rfl
theorem dX10_laysHigh_108 : decode cX10_laysHigh 108 = .ok (.invokevirtual 421, 3) := by decide +kernel
theorem dX10_laysHigh_111 : decode cX10_laysHigh 111 = .ok (.ifCond .eq 24, 3) := by decide +kernel
theorem dX10_laysHigh_135 : decode cX10_laysHigh 135 = .ok (.iinc 8 1, 3) := by decide +kernel
theorem dX10_laysHigh_138 : decode cX10_laysHigh 138 = .ok (.goto (-62), 3) := by decide +kernel
theorem dX10_laysHigh_114 : decode cX10_laysHigh 114 = .ok (.lload 6, 2) := by decide +kernel
theorem dX10_laysHigh_116 : decode cX10_laysHigh 116 = .ok (.aload_n 0, 1) := by decide +kernel
theorem dX10_laysHigh_117 : decode cX10_laysHigh 117 = .ok (.getfield 78, 3) := by decide +kernel
theorem dX10_laysHigh_120 : decode cX10_laysHigh 120 = .ok (.sipush 10000, 3) := by decide +kernel
theorem dX10_laysHigh_123 : decode cX10_laysHigh 123 = .ok (.iload 4, 2) := by decide +kernel
theorem dX10_laysHigh_125 : decode cX10_laysHigh 125 = .ok (.iconst 1, 1) := by decide +kernel
theorem dX10_laysHigh_126 : decode cX10_laysHigh 126 = .ok (.iadd, 1) := by decide +kernel
theorem dX10_laysHigh_127 : decode cX10_laysHigh 127 = .ok (.imul, 1) := by decide +kernel
theorem dX10_laysHigh_128 : decode cX10_laysHigh 128 = .ok (.iload 9, 2) := by decide +kernel
theorem dX10_laysHigh_130 : decode cX10_laysHigh 130 = .ok (.iadd, 1) := by decide +kernel
theorem dX10_laysHigh_131 : decode cX10_laysHigh 131 = .ok (.laload, 1) := by decide +kernel
theorem dX10_laysHigh_132 : decode cX10_laysHigh 132 = .ok (.ladd, 1) := by decide +kernel
theorem dX10_laysHigh_133 : decode cX10_laysHigh 133 = .ok (.lstore 6, 2) := by decide +kernel
theorem dX10_laysHigh_23 : decode cX10_laysHigh 23 = .ok (.aload_n 0, 1) := by decide +kernel
theorem dX10_laysHigh_24 : decode cX10_laysHigh 24 = .ok (.getfield 78, 3) := by decide +kernel
theorem dX10_laysHigh_27 : decode cX10_laysHigh 27 = .ok (.sipush 10000, 3) := by decide +kernel
theorem dX10_laysHigh_30 : decode cX10_laysHigh 30 = .ok (.iload_n 3, 1) := by decide +kernel
theorem dX10_laysHigh_31 : decode cX10_laysHigh 31 = .ok (.imul, 1) := by decide +kernel
theorem dX10_laysHigh_32 : decode cX10_laysHigh 32 = .ok (.aload_n 0, 1) := by decide +kernel
theorem dX10_laysHigh_33 : decode cX10_laysHigh 33 = .ok (.getfield 45, 3) := by decide +kernel
theorem dX10_laysHigh_36 : decode cX10_laysHigh 36 = .ok (.iload 4, 2) := by decide +kernel
theorem dX10_laysHigh_38 : decode cX10_laysHigh 38 = .ok (.iaload, 1) := by decide +kernel
theorem dX10_laysHigh_39 : decode cX10_laysHigh 39 = .ok (.iadd, 1) := by decide +kernel
theorem dX10_laysHigh_40 : decode cX10_laysHigh 40 = .ok (.lconst 1, 1) := by decide +kernel
theorem dX10_laysHigh_41 : decode cX10_laysHigh 41 = .ok (.lastore, 1) := by decide +kernel
theorem dX10_laysHigh_42 : decode cX10_laysHigh 42 = .ok (.iinc 4 1, 3) := by decide +kernel
theorem dX10_laysHigh_45 : decode cX10_laysHigh 45 = .ok (.goto (-31), 3) := by decide +kernel
set_option maxHeartbeats 4000000 in
set_option maxRecDepth 100000 in
theorem k_X10_laysHigh_0 (l : Launch) (V : GV) (z : Nat → Nat) (a1 : Int32) (a2 : Int32) (fz15 : Nat → Int32) (fz16 : Nat → Int32) (fz24 : Nat → Int32) (fz25 : Nat → Int32) (fz28 : Nat → Int32) (fz35 : Nat → Int64) (pz0_0 : Int32) (pz0_5 : Int32) (pz0_6 : Int32) (pz0_7 : Int32) (pz0_8 : Int32) (pz0_9 : Int32) (pz0_10 : Int32) (pz0_11 : Int32) (pz0_12 : Int32) (pz0_13 : Int32) (pz0_14 : Int32) (pz0_18 : Int32) (pz0_19 : Int32) (pz0_22 : Int32) (pz0_23 : Int32) (pz0_29 : Int32) (fz1 : Nat → Int32) (fz38 : Nat → Int32) (fz39 : Nat → Int64) (ba1 : iv 0 3 a1) (ba2 : iv 0 3 a2) (tfz16 : ivT tW fz16) (tfz24 : ∀ j, iv 0 9999 (fz24 j)) (tfz25 : ∀ j, iv (-1) 9999 (fz25 j)) (bpz0_5 : iv 0 900 pz0_5) (bpz0_6 : iv 0 900 pz0_6) (bpz0_7 : iv 0 900 pz0_7) (bpz0_8 : iv 0 900 pz0_8) (bpz0_10 : iv 0 999 pz0_10) (bpz0_11 : iv 0 4 pz0_11) (bpz0_12 : iv 0 900 pz0_12) (bpz0_13 : iv 0 4 pz0_13) (bpz0_14 : iv (-1) 900 pz0_14) (bpz0_18 : iv 0 2 pz0_18) (bpz0_22 : iv 0 9999 pz0_22) (bpz0_29 : iv 0 10000 pz0_29) (tfz1 : ivT tA fz1) (tfz38 : ∀ j, iv 0 40 (fz38 j)) (hf0 : RW fz1) (hf1 : iv 1 8 (fz38 (a1 : Int32).toNatClampNeg)) : Ct l V yX10_laysHigh (.code yX10_laysHigh cX10_laysHigh 10 (some .long)) 6 [.ref (z 0), .int a1, .int a2] [(z 15, aI V 900 fz15), (z 16, aI V 6 fz16), (z 24, aI V 10000 fz24), (z 25, aI V 40000 fz25), (z 28, aZ V 10000 fz28), (z 35, aJ V 90000 fz35), (z 0, .inr (10, mo z pz0_0 pz0_5 pz0_6 pz0_7 pz0_8 pz0_9 pz0_10 pz0_11 pz0_12 pz0_13 pz0_14 pz0_18 pz0_19 pz0_22 pz0_23 pz0_29)), (z 1, aI V 3075 fz1), (z 38, aI V 4 fz38), (z 39, aJ V 160 fz39)] 0 0 (QL V (fun (r : Int64) (w : va_W) => ∃ (g0 : Nat → Int32) (g1 : Nat → Int32) (g2 : Nat → Int32) (g3 : Nat → Int32) (g4 : Nat → Int32) (g5 : Nat → Int64) (v6 : Int32), (ivT tW g1) ∧ (∀ j, iv 0 9999 (g2 j)) ∧ (∀ j, iv (-1) 9999 (g3 j)) ∧ iv 0 10000 v6 ∧ (RW fz1) ∧ (SL v6 g2 g3) ∧ (inS v6 g2 (snF fz1).toNatClampNeg) ∧ (HA v6 (fz38 (a1 : Int32).toNatClampNeg).toInt g2 g3 g5 fz39 a1 a2) ∧ (r = g5 (snF fz1).toNatClampNeg) ∧ w = [(z 15, aI V 900 g0), (z 16, aI V 6 g1), (z 24, aI V 10000 g2), (z 25, aI V 40000 g3), (z 28, aZ V 10000 g4), (z 35, aJ V 90000 g5), (z 0, .inr (10, mo z pz0_0 pz0_5 pz0_6 pz0_7 pz0_8 pz0_9 pz0_10 pz0_11 pz0_12 pz0_13 pz0_14 pz0_18 pz0_19 pz0_22 pz0_23 v6)), (z 1, aI V 3075 fz1), (z 38, aI V 4 fz38), (z 39, aJ V 160 fz39)])) := by
  refine Ct.of (by decide) (Nat.le_of_ble_eq_true rfl) (fun p e s m below meth c A ls hx hb hr hml hown hlk hnm hg hP hK hD hE hA hS hl => ?_)
  have hl : lv_has ls 10 [(0, .ref (z 0)), (1, .int a1), (2, .int a2)] := hl
  refine lv_aload_n hx hb dX10_laysHigh_0 rfl (lv_at hl 0 rfl) ?_
  refine jnV (wr := [(z 35, aJ V 90000 fz35), (z 38, aI V 4 fz38), (z 39, aJ V 160 fz39)]) (rnV (rest := []) ⟨hx, hb, hml, hown, hg⟩ (k_X10_laysStands_0 l V z fz15 fz16 fz24 fz25 fz28 pz0_0 pz0_5 pz0_6 pz0_7 pz0_8 pz0_9 pz0_10 pz0_11 pz0_12 pz0_13 pz0_14 pz0_18 pz0_19 pz0_22 pz0_23 pz0_29 fz1 tfz16 tfz24 tfz25 bpz0_5 bpz0_6 bpz0_7 bpz0_8 bpz0_10 bpz0_11 bpz0_12 bpz0_13 bpz0_14 bpz0_18 bpz0_22 bpz0_29 tfz1 hf0) mt_X10_laysStands q_7_194 ⟨Nat.le_of_ble_eq_true rfl, Nat.le_of_ble_eq_true rfl⟩ hK hP hD hS hA hE [0, 1, 2, 3, 4, 6, 7] rfl rfl 6 rfl rfl rfl rfl hl.1 rfl (Nat.le_of_ble_eq_true rfl) dX10_laysHigh_1 ⟨Nat.le_of_ble_eq_true rfl, Nat.le_of_ble_eq_true rfl⟩) hP hD hS hA [0, 1, 2, 3, 4, 6, 7] [5, 8, 9] rfl rfl rfl (by decide) (fun  w H locs hw hP hD hS => ?_)
  obtain ⟨f_1, f_2, f_3, f_4, f_5, v_6, tf_2, tf_3, tf_4, bv_6, g_7, g_8, g_9, rfl⟩ := hw
  have hP : va_P V.1 vwCl [(z 35, aJ V 90000 fz35), (z 38, aI V 4 fz38), (z 39, aJ V 160 fz39), (z 15, aI V 900 f_1), (z 16, aI V 6 f_2), (z 24, aI V 10000 f_3), (z 25, aI V 40000 f_4), (z 28, aZ V 10000 f_5), (z 0, .inr (10, mo z pz0_0 pz0_5 pz0_6 pz0_7 pz0_8 pz0_9 pz0_10 pz0_11 pz0_12 pz0_13 pz0_14 pz0_18 pz0_19 pz0_22 pz0_23 v_6)), (z 1, aI V 3075 fz1)] H := hP
  have hD := cpD hP hD
  refine lv_aload_n hx hb dX10_laysHigh_4 rfl (lv_at hl 0 rfl) ?_
  refine va_get (ci := 10) (v := .ref (z 38)) (C := RX10) (T := TX10) (N := 40) hx hb hg inX10 hown hK hP 8 rfl rfl 38 (by decide) (hg _ q_6_22) (fun _ h9 => h9) rfl dX10_laysHigh_5 ?_
  refine lv_iload_n hx hb dX10_laysHigh_8 rfl (lv_at hl 1 rfl) ?_
  refine va_iald hx hb hK hP 1 0 rfl rfl (iv_in ba1 (by decide)) dX10_laysHigh_9 ?_
  refine lv_topi (fun x_10 ex_10 => ?_)
  have bx_10 : iv 0 40 x_10 := by rw [ex_10]; exact tfz38 _
  have b_11 : iv 1 8 x_10 := by rw [ex_10]; exact hf1
  refine lv_istore_n (lv' := [(3, .int x_10), (0, .ref (z 0)), (1, .int a1), (2, .int a2)]) hx hb dX10_laysHigh_10 rfl hl (by decide) rfl (fun ls hl => ?_)
  refine lv_iconst (v := 0) hx hb dX10_laysHigh_11 (by decide) ?_
  refine lv_istore (lv' := [(4, .int 0), (3, .int x_10), (0, .ref (z 0)), (1, .int a1), (2, .int a2)]) hx hb dX10_laysHigh_12 hl (by decide) rfl (fun ls hl => ?_)
  refine loopF (X := fun (n_14 : Nat) (H : Heap) (locs : List Loc) (ls : Array Slot) => ∃ (u_12 : Int32) (f_13 : Nat → Int64), (iv 0 2147483647 u_12) ∧ (RW fz1) ∧ n_14 = (2147483647 - (u_12 : Int32).toInt).toNat ∧ va_P V.1 vwCl [(z 35, aJ V 90000 f_13), (z 38, aI V 4 fz38), (z 39, aJ V 160 fz39), (z 15, aI V 900 f_1), (z 16, aI V 6 f_2), (z 24, aI V 10000 f_3), (z 25, aI V 40000 f_4), (z 28, aZ V 10000 f_5), (z 0, .inr (10, mo z pz0_0 pz0_5 pz0_6 pz0_7 pz0_8 pz0_9 pz0_10 pz0_11 pz0_12 pz0_13 pz0_14 pz0_18 pz0_19 pz0_22 pz0_23 v_6)), (z 1, aI V 3075 fz1)] H ∧ va_D A [(z 35, aJ V 90000 f_13), (z 38, aI V 4 fz38), (z 39, aJ V 160 fz39), (z 15, aI V 900 f_1), (z 16, aI V 6 f_2), (z 24, aI V 10000 f_3), (z 25, aI V 40000 f_4), (z 28, aZ V 10000 f_5), (z 0, .inr (10, mo z pz0_0 pz0_5 pz0_6 pz0_7 pz0_8 pz0_9 pz0_10 pz0_11 pz0_12 pz0_13 pz0_14 pz0_18 pz0_19 pz0_22 pz0_23 v_6)), (z 1, aI V 3075 fz1)] ∧ va_S A s.heap H locs ∧ lv_has ls 10 [(4, .int u_12), (3, .int x_10), (0, .ref (z 0)), (1, .int a1), (2, .int a2)]) (g := fun ls => F0 m 14 ls []) (fun n_14 H locs ls hX ihn_14 => ?_) _ ⟨0, fz35, (iv_c (0 : Int32) (by decide)), g_7, rfl, hP, hD, hS, lv_sub hl [0, 1, 2, 3, 4] rfl⟩
  obtain ⟨u_12, f_13, bu_12, inn_14_0, en_14, hP, hD, hS, hl⟩ := hX
  refine lv_iload hx hb dX10_laysHigh_14 (lv_at hl 0 rfl) ?_
  refine lv_aload_n hx hb dX10_laysHigh_16 rfl (lv_at hl 2 rfl) ?_
  refine va_get (ci := 10) (v := .int v_6) (C := RX10) (T := TX10) (N := 40) hx hb hg inX10 hown hK hP 8 rfl rfl 29 (by decide) (hg _ q_6_13) (fun _ h9 => h9) rfl dX10_laysHigh_17 ?_
  refine lv_icmp_ge (tgt := 48) hx hb dX10_laysHigh_20 (by decide) (fun c_15 => ?_) (fun c_15 => ?_)
  · refine lv_iload_n hx hb dX10_laysHigh_48 rfl (lv_at hl 1 rfl) ?_
    refine lv_iconst (v := 1) hx hb dX10_laysHigh_49 (by decide) ?_
    refine lv_isub hx hb dX10_laysHigh_50 ?_
    refine lv_topi (fun x_16 ex_16 => ?_)
    have bx_16 : iv 0 7 x_16 := by rw [ex_16]; exact iv_sub b_11 (iv_c (1 : Int32) (a := 1) (b := 1) (by decide)) (by decide)
    refine lv_istore (lv' := [(4, .int x_16), (3, .int x_10), (0, .ref (z 0)), (1, .int a1), (2, .int a2)]) hx hb dX10_laysHigh_51 hl (by decide) rfl (fun ls hl => ?_)
    refine loopF (X := fun (n_19 : Nat) (H : Heap) (locs : List Loc) (ls : Array Slot) => ∃ (u_17 : Int32) (f_18 : Nat → Int64), (iv (-1) 7 u_17) ∧ (HR v_6 (x_10 : Int32).toInt f_3 f_4 f_18 fz39 a1 a2 u_17) ∧ (RW fz1) ∧ n_19 = ((u_17 : Int32).toInt + 2147483648).toNat ∧ va_P V.1 vwCl [(z 35, aJ V 90000 f_18), (z 38, aI V 4 fz38), (z 39, aJ V 160 fz39), (z 15, aI V 900 f_1), (z 16, aI V 6 f_2), (z 24, aI V 10000 f_3), (z 25, aI V 40000 f_4), (z 28, aZ V 10000 f_5), (z 0, .inr (10, mo z pz0_0 pz0_5 pz0_6 pz0_7 pz0_8 pz0_9 pz0_10 pz0_11 pz0_12 pz0_13 pz0_14 pz0_18 pz0_19 pz0_22 pz0_23 v_6)), (z 1, aI V 3075 fz1)] H ∧ va_D A [(z 35, aJ V 90000 f_18), (z 38, aI V 4 fz38), (z 39, aJ V 160 fz39), (z 15, aI V 900 f_1), (z 16, aI V 6 f_2), (z 24, aI V 10000 f_3), (z 25, aI V 40000 f_4), (z 28, aZ V 10000 f_5), (z 0, .inr (10, mo z pz0_0 pz0_5 pz0_6 pz0_7 pz0_8 pz0_9 pz0_10 pz0_11 pz0_12 pz0_13 pz0_14 pz0_18 pz0_19 pz0_22 pz0_23 v_6)), (z 1, aI V 3075 fz1)] ∧ va_S A s.heap H locs ∧ lv_has ls 10 [(4, .int u_17), (3, .int x_10), (0, .ref (z 0)), (1, .int a1), (2, .int a2)]) (g := fun ls => F0 m 53 ls []) (fun n_19 H locs ls hX ihn_19 => ?_) _ ⟨x_16, f_13, (iv_w bx_16 (by decide)), (HR_0 ex_16 b_11 (by decide) rfl), inn_14_0, rfl, hP, hD, hS, lv_sub hl [0, 1, 2, 3, 4] rfl⟩
    obtain ⟨u_17, f_18, bu_17, inn_19_0, inn_19_1, en_19, hP, hD, hS, hl⟩ := hX
    refine lv_iload hx hb dX10_laysHigh_53 (lv_at hl 0 rfl) ?_
    refine lv_if_lt (tgt := 174) hx hb dX10_laysHigh_55 (by decide) (fun c_20 => ?_) (fun c_20 => ?_)
    · have b_21 : iv (-1) (-1) u_17 := iv_l1 c_20 bu_17 (iv_c (0 : Int32) (a := 0) (b := 0) (by decide)) (by decide)
      refine lv_aload_n hx hb dX10_laysHigh_174 rfl (lv_at hl 2 rfl) ?_
      refine va_get (ci := 10) (v := .ref (z 35)) (C := RX10) (T := TX10) (N := 40) hx hb hg inX10 hown hK hP 8 rfl rfl 35 (by decide) (hg _ q_6_19) (fun _ h9 => h9) rfl dX10_laysHigh_175 ?_
      refine lv_aload_n hx hb dX10_laysHigh_178 rfl (lv_at hl 2 rfl) ?_
      refine jnI (wr := [(z 35, aJ V 90000 f_18), (z 38, aI V 4 fz38), (z 39, aJ V 160 fz39), (z 15, aI V 900 f_1), (z 16, aI V 6 f_2), (z 24, aI V 10000 f_3), (z 25, aI V 40000 f_4), (z 28, aZ V 10000 f_5)]) (rnV (rest := [.ref (z 35)]) ⟨hx, hb, hml, hown, hg⟩ (k_X10_standNow_0 l V z pz0_0 pz0_5 pz0_6 pz0_7 pz0_8 pz0_9 pz0_10 pz0_11 pz0_12 pz0_13 pz0_14 pz0_18 pz0_19 pz0_22 pz0_23 v_6 fz1 bpz0_5 bpz0_6 bpz0_7 bpz0_8 bpz0_10 bpz0_11 bpz0_12 bpz0_13 bpz0_14 bpz0_18 bpz0_22 bv_6 tfz1) mt_X10_standNow q_7_11 ⟨Nat.le_of_ble_eq_true rfl, Nat.le_of_ble_eq_true rfl⟩ hK hP hD hS hA hE [8, 9] rfl rfl 8 rfl rfl rfl rfl hl.1 rfl (Nat.le_of_ble_eq_true rfl) dX10_laysHigh_179 ⟨Nat.le_of_ble_eq_true rfl, Nat.le_of_ble_eq_true rfl⟩) hP hD hS hA [8, 9] [0, 1, 2, 3, 4, 5, 6, 7] rfl rfl rfl (by decide) (fun r_22 w H locs hw hP hD hS => ?_)
      obtain ⟨br_22, er_22, et_23, rfl⟩ := hw
      have hP : va_P V.1 vwCl [(z 35, aJ V 90000 f_18), (z 38, aI V 4 fz38), (z 39, aJ V 160 fz39), (z 15, aI V 900 f_1), (z 16, aI V 6 f_2), (z 24, aI V 10000 f_3), (z 25, aI V 40000 f_4), (z 28, aZ V 10000 f_5), (z 0, .inr (10, mo z pz0_0 pz0_5 pz0_6 pz0_7 pz0_8 pz0_9 pz0_10 pz0_11 pz0_12 pz0_13 pz0_14 pz0_18 pz0_19 pz0_22 pz0_23 v_6)), (z 1, aI V 3075 fz1)] H := hP
      have hD := cpD hP hD
      refine va_lald hx hb hK hP 0 2 rfl rfl (iv_in br_22 (by decide)) dX10_laysHigh_182 ?_
      refine lv_topl (fun j_24 ej_24 => ?_)
      have hP := subP (ws' := [(z 15, aI V 900 f_1), (z 16, aI V 6 f_2), (z 24, aI V 10000 f_3), (z 25, aI V 40000 f_4), (z 28, aZ V 10000 f_5), (z 35, aJ V 90000 f_18), (z 0, .inr (10, mo z pz0_0 pz0_5 pz0_6 pz0_7 pz0_8 pz0_9 pz0_10 pz0_11 pz0_12 pz0_13 pz0_14 pz0_18 pz0_19 pz0_22 pz0_23 v_6)), (z 1, aI V 3075 fz1), (z 38, aI V 4 fz38), (z 39, aJ V 160 fz39)]) hP [3, 4, 5, 6, 7, 0, 8, 9, 1, 2] rfl
      have hD := subD hP hD [3, 4, 5, 6, 7, 0, 8, 9, 1, 2] rfl rfl
      exact fiL hx hb hr hlk hK hP hD hS dX10_laysHigh_183 (Nat.le_of_ble_eq_true rfl) (Nat.le_of_ble_eq_true rfl) (⟨f_1, f_2, f_3, f_4, f_5, f_18, v_6, tf_2, tf_3, tf_4, bv_6, inn_19_1, g_8, g_9, (by have q9 := HA_of inn_19_0 c_20; rw [ex_10] at q9; exact q9), (ej_24.trans (by rw [er_22])), rfl⟩)
    · have b_25 : iv 0 7 u_17 := iv_e2 (Int32.not_lt.mp c_20) (iv_c (0 : Int32) (a := 0) (b := 0) (by decide)) bu_17 (by decide)
      refine lv_iconst (v := 0) hx hb dX10_laysHigh_58 (by decide) ?_
      refine lv_istore (lv' := [(5, .int 0), (4, .int u_17), (3, .int x_10), (0, .ref (z 0)), (1, .int a1), (2, .int a2)]) hx hb dX10_laysHigh_59 hl (by decide) rfl (fun ls hl => ?_)
      refine loopF (X := fun (n_28 : Nat) (H : Heap) (locs : List Loc) (ls : Array Slot) => ∃ (u_26 : Int32) (f_27 : Nat → Int64), (iv 0 10000 u_26) ∧ (HR v_6 (x_10 : Int32).toInt f_3 f_4 f_27 fz39 a1 a2 u_17) ∧ (HK f_3 f_4 f_27 fz39 a1 a2 u_17 u_26) ∧ (RW fz1) ∧ n_28 = (2147483647 - (u_26 : Int32).toInt).toNat ∧ va_P V.1 vwCl [(z 35, aJ V 90000 f_27), (z 38, aI V 4 fz38), (z 39, aJ V 160 fz39), (z 15, aI V 900 f_1), (z 16, aI V 6 f_2), (z 24, aI V 10000 f_3), (z 25, aI V 40000 f_4), (z 28, aZ V 10000 f_5), (z 0, .inr (10, mo z pz0_0 pz0_5 pz0_6 pz0_7 pz0_8 pz0_9 pz0_10 pz0_11 pz0_12 pz0_13 pz0_14 pz0_18 pz0_19 pz0_22 pz0_23 v_6)), (z 1, aI V 3075 fz1)] H ∧ va_D A [(z 35, aJ V 90000 f_27), (z 38, aI V 4 fz38), (z 39, aJ V 160 fz39), (z 15, aI V 900 f_1), (z 16, aI V 6 f_2), (z 24, aI V 10000 f_3), (z 25, aI V 40000 f_4), (z 28, aZ V 10000 f_5), (z 0, .inr (10, mo z pz0_0 pz0_5 pz0_6 pz0_7 pz0_8 pz0_9 pz0_10 pz0_11 pz0_12 pz0_13 pz0_14 pz0_18 pz0_19 pz0_22 pz0_23 v_6)), (z 1, aI V 3075 fz1)] ∧ va_S A s.heap H locs ∧ lv_has ls 10 [(5, .int u_26), (4, .int u_17), (3, .int x_10), (0, .ref (z 0)), (1, .int a1), (2, .int a2)]) (g := fun ls => F0 m 61 ls []) (fun n_28 H locs ls hX ihn_28 => ?_) _ ⟨0, f_18, (iv_c (0 : Int32) (by decide)), inn_19_0, (HK_0 (by decide)), inn_19_1, rfl, hP, hD, hS, lv_sub hl [0, 1, 2, 3, 4, 5] rfl⟩
      obtain ⟨u_26, f_27, bu_26, inn_28_0, inn_28_1, inn_28_2, en_28, hP, hD, hS, hl⟩ := hX
      refine lv_iload hx hb dX10_laysHigh_61 (lv_at hl 0 rfl) ?_
      refine lv_aload_n hx hb dX10_laysHigh_63 rfl (lv_at hl 3 rfl) ?_
      refine va_get (ci := 10) (v := .int v_6) (C := RX10) (T := TX10) (N := 40) hx hb hg inX10 hown hK hP 8 rfl rfl 29 (by decide) (hg _ q_6_13) (fun _ h9 => h9) rfl dX10_laysHigh_64 ?_
      refine lv_icmp_ge (tgt := 168) hx hb dX10_laysHigh_67 (by decide) (fun c_29 => ?_) (fun c_29 => ?_)
      · obtain ⟨x_30, ex_30⟩ : ∃ z9 : Int32, z9 = u_17 + (-1) := ⟨_, rfl⟩
        have bx_30 : iv (-1) 6 x_30 := by rw [ex_30]; exact iv_add b_25 (iv_c ((-1) : Int32) (a := (-1)) (b := (-1)) (by decide)) (by decide)
        refine lv_iinc (v := x_30) (lv' := [(4, .int x_30), (5, .int u_26), (3, .int x_10), (0, .ref (z 0)), (1, .int a1), (2, .int a2)]) hx hb dX10_laysHigh_168 hl (k := 1) rfl (by rw [ex_30]; rfl) (by decide) rfl (fun ls hl => ?_)
        refine lv_goto (tgt := 53) hx hb dX10_laysHigh_171 (by decide) ?_
        exact ihn_19 _ _ _ _ (by rw [en_19, ex_30]; exact mu_dn b_25 (by decide)) ⟨x_30, f_27, (iv_w bx_30 (by decide)), (HR_s inn_28_0 inn_28_1 (Int32.not_lt.mpr c_29) b_25 (by decide) ex_30), inn_28_2, rfl, hP, hD, hS, lv_sub hl [0, 2, 3, 4, 5] rfl⟩
      · have b_31 : iv 0 9999 u_26 := iv_l1 (Int32.not_le.mp c_29) bu_26 bv_6 (by decide)
        have b_32 : iv 1 10000 v_6 := iv_l2 (Int32.not_le.mp c_29) bu_26 bv_6 (by decide)
        refine lv_lconst (v := 0) hx hb dX10_laysHigh_70 (by decide) ?_
        refine lv_lstore (lv' := [(6, .long 0), (5, .int u_26), (4, .int u_17), (3, .int x_10), (0, .ref (z 0)), (1, .int a1), (2, .int a2)]) hx hb dX10_laysHigh_71 hl (by decide) rfl (fun ls hl => ?_)
        refine lv_iconst (v := 0) hx hb dX10_laysHigh_73 (by decide) ?_
        refine lv_istore (lv' := [(8, .int 0), (6, .long 0), (5, .int u_26), (4, .int u_17), (3, .int x_10), (0, .ref (z 0)), (1, .int a1), (2, .int a2)]) hx hb dX10_laysHigh_74 hl (by decide) rfl (fun ls hl => ?_)
        refine loopF (X := fun (n_35 : Nat) (H : Heap) (locs : List Loc) (ls : Array Slot) => ∃ (u_33 : Int32) (w_34 : Int64), (iv 0 4 u_33) ∧ (HD f_3 f_4 f_27 fz39 a1 a2 u_17 u_26 u_33 w_34) ∧ (RW fz1) ∧ n_35 = (2147483647 - (u_33 : Int32).toInt).toNat ∧ va_P V.1 vwCl [(z 35, aJ V 90000 f_27), (z 38, aI V 4 fz38), (z 39, aJ V 160 fz39), (z 15, aI V 900 f_1), (z 16, aI V 6 f_2), (z 24, aI V 10000 f_3), (z 25, aI V 40000 f_4), (z 28, aZ V 10000 f_5), (z 0, .inr (10, mo z pz0_0 pz0_5 pz0_6 pz0_7 pz0_8 pz0_9 pz0_10 pz0_11 pz0_12 pz0_13 pz0_14 pz0_18 pz0_19 pz0_22 pz0_23 v_6)), (z 1, aI V 3075 fz1)] H ∧ va_D A [(z 35, aJ V 90000 f_27), (z 38, aI V 4 fz38), (z 39, aJ V 160 fz39), (z 15, aI V 900 f_1), (z 16, aI V 6 f_2), (z 24, aI V 10000 f_3), (z 25, aI V 40000 f_4), (z 28, aZ V 10000 f_5), (z 0, .inr (10, mo z pz0_0 pz0_5 pz0_6 pz0_7 pz0_8 pz0_9 pz0_10 pz0_11 pz0_12 pz0_13 pz0_14 pz0_18 pz0_19 pz0_22 pz0_23 v_6)), (z 1, aI V 3075 fz1)] ∧ va_S A s.heap H locs ∧ lv_has ls 10 [(8, .int u_33), (6, .long w_34), (5, .int u_26), (4, .int u_17), (3, .int x_10), (0, .ref (z 0)), (1, .int a1), (2, .int a2)]) (g := fun ls => F0 m 76 ls []) (fun n_35 H locs ls hX ihn_35 => ?_) _ ⟨0, 0, (iv_c (0 : Int32) (by decide)), HD_0, inn_28_2, rfl, hP, hD, hS, lv_sub hl [0, 1, 2, 3, 4, 5, 6, 7] rfl⟩
        obtain ⟨u_33, w_34, bu_33, inn_35_0, inn_35_1, en_35, hP, hD, hS, hl⟩ := hX
        refine lv_iload hx hb dX10_laysHigh_76 (lv_at hl 0 rfl) ?_
        refine lv_iconst (v := 4) hx hb dX10_laysHigh_78 (by decide) ?_
        refine lv_icmp_ge (tgt := 141) hx hb dX10_laysHigh_79 (by decide) (fun c_36 => ?_) (fun c_36 => ?_)
        · have b_37 : iv 4 4 u_33 := iv_e2 c_36 (iv_c (4 : Int32) (a := 4) (b := 4) (by decide)) bu_33 (by decide)
          refine lv_aload_n hx hb dX10_laysHigh_141 rfl (lv_at hl 5 rfl) ?_
          refine va_get (ci := 10) (v := .ref (z 35)) (C := RX10) (T := TX10) (N := 40) hx hb hg inX10 hown hK hP 8 rfl rfl 35 (by decide) (hg _ q_6_19) (fun _ h9 => h9) rfl dX10_laysHigh_142 ?_
          refine lv_sipush (v := 10000) hx hb dX10_laysHigh_145 (by decide) ?_
          refine lv_iload hx hb dX10_laysHigh_148 (lv_at hl 3 rfl) ?_
          refine lv_imul hx hb dX10_laysHigh_150 ?_
          refine lv_topi (fun x_38 ex_38 => ?_)
          have bx_38 : iv 0 70000 x_38 := by rw [ex_38]; exact iv_cmul (iv_c (10000 : Int32) (a := 10000) (b := 10000) (by decide)) b_25 (by decide)
          refine lv_aload_n hx hb dX10_laysHigh_151 rfl (lv_at hl 5 rfl) ?_
          refine va_get (ci := 10) (v := .ref (z 24)) (C := RX10) (T := TX10) (N := 40) hx hb hg inX10 hown hK hP 8 rfl rfl 24 (by decide) (hg _ q_6_8) (fun _ h9 => h9) rfl dX10_laysHigh_152 ?_
          refine lv_iload hx hb dX10_laysHigh_155 (lv_at hl 2 rfl) ?_
          refine va_iald hx hb hK hP 5 0 rfl rfl (iv_in b_31 (by decide)) dX10_laysHigh_157 ?_
          refine lv_topi (fun x_39 ex_39 => ?_)
          have bx_39 : iv 0 9999 x_39 := by rw [ex_39]; exact tf_3 _
          refine lv_iadd hx hb dX10_laysHigh_158 ?_
          refine lv_topi (fun x_40 ex_40 => ?_)
          have bx_40 : iv 0 79999 x_40 := by rw [ex_40]; exact iv_add bx_38 bx_39 (by decide)
          refine lv_lload hx hb dX10_laysHigh_159 (lv_at hl 1 rfl) ?_
          refine va_last hx hb hK hP hD hS 0 2 rfl rfl (iv_in bx_40 (by decide)) dX10_laysHigh_161 (fun H locs hP hD hS => ?_)
          obtain ⟨f_41, ef_41, hP, hD⟩ : ∃ f_41 : Nat → Int64, f_41 = (vp_updL f_27 (x_40 : Int32).toNatClampNeg w_34) ∧ va_P V.1 vwCl [(z 35, aJ V 90000 f_41), (z 38, aI V 4 fz38), (z 39, aJ V 160 fz39), (z 15, aI V 900 f_1), (z 16, aI V 6 f_2), (z 24, aI V 10000 f_3), (z 25, aI V 40000 f_4), (z 28, aZ V 10000 f_5), (z 0, .inr (10, mo z pz0_0 pz0_5 pz0_6 pz0_7 pz0_8 pz0_9 pz0_10 pz0_11 pz0_12 pz0_13 pz0_14 pz0_18 pz0_19 pz0_22 pz0_23 v_6)), (z 1, aI V 3075 fz1)] H ∧ va_D A [(z 35, aJ V 90000 f_41), (z 38, aI V 4 fz38), (z 39, aJ V 160 fz39), (z 15, aI V 900 f_1), (z 16, aI V 6 f_2), (z 24, aI V 10000 f_3), (z 25, aI V 40000 f_4), (z 28, aZ V 10000 f_5), (z 0, .inr (10, mo z pz0_0 pz0_5 pz0_6 pz0_7 pz0_8 pz0_9 pz0_10 pz0_11 pz0_12 pz0_13 pz0_14 pz0_18 pz0_19 pz0_22 pz0_23 v_6)), (z 1, aI V 3075 fz1)] := ⟨_, rfl, hP, hD⟩
          obtain ⟨x_42, ex_42⟩ : ∃ z9 : Int32, z9 = u_26 + 1 := ⟨_, rfl⟩
          have bx_42 : iv 1 10000 x_42 := by rw [ex_42]; exact iv_add b_31 (iv_c (1 : Int32) (a := 1) (b := 1) (by decide)) (by decide)
          refine lv_iinc (v := x_42) (lv' := [(5, .int x_42), (8, .int u_33), (6, .long w_34), (4, .int u_17), (3, .int x_10), (0, .ref (z 0)), (1, .int a1), (2, .int a2)]) hx hb dX10_laysHigh_162 hl (k := 2) rfl (by rw [ex_42]; rfl) (by decide) rfl (fun ls hl => ?_)
          refine lv_goto (tgt := 61) hx hb dX10_laysHigh_165 (by decide) ?_
          exact ihn_28 _ _ _ _ (by rw [en_28, ex_42]; exact mu_up b_31 (by decide)) ⟨x_42, f_41, (iv_w bx_42 (by decide)), (HR_up inn_28_0 (by have q9 := b_25; unfold iv at q9; omega) ef_41 (HK_s inn_28_1 inn_35_0 b_31 (by decide) ex_42 tf_3 (iv_w b_25 (by decide)) ex_39 ex_38 ex_40 ef_41).2), (HK_s inn_28_1 inn_35_0 b_31 (by decide) ex_42 tf_3 (iv_w b_25 (by decide)) ex_39 ex_38 ex_40 ef_41).1, inn_35_1, rfl, hP, hD, hS, lv_sub hl [0, 3, 4, 5, 6, 7] rfl⟩
        · have b_43 : iv 0 3 u_33 := iv_l1 (Int32.not_le.mp c_36) bu_33 (iv_c (4 : Int32) (a := 4) (b := 4) (by decide)) (by decide)
          refine lv_aload_n hx hb dX10_laysHigh_82 rfl (lv_at hl 5 rfl) ?_
          refine va_get (ci := 10) (v := .ref (z 25)) (C := RX10) (T := TX10) (N := 40) hx hb hg inX10 hown hK hP 8 rfl rfl 25 (by decide) (hg _ q_6_9) (fun _ h9 => h9) rfl dX10_laysHigh_83 ?_
          refine lv_iconst (v := 4) hx hb dX10_laysHigh_86 (by decide) ?_
          refine lv_aload_n hx hb dX10_laysHigh_87 rfl (lv_at hl 5 rfl) ?_
          refine va_get (ci := 10) (v := .ref (z 24)) (C := RX10) (T := TX10) (N := 40) hx hb hg inX10 hown hK hP 8 rfl rfl 24 (by decide) (hg _ q_6_8) (fun _ h9 => h9) rfl dX10_laysHigh_88 ?_
          refine lv_iload hx hb dX10_laysHigh_91 (lv_at hl 2 rfl) ?_
          refine va_iald hx hb hK hP 5 0 rfl rfl (iv_in b_31 (by decide)) dX10_laysHigh_93 ?_
          refine lv_topi (fun x_44 ex_44 => ?_)
          have bx_44 : iv 0 9999 x_44 := by rw [ex_44]; exact tf_3 _
          refine lv_imul hx hb dX10_laysHigh_94 ?_
          refine lv_topi (fun x_45 ex_45 => ?_)
          have bx_45 : iv 0 39996 x_45 := by rw [ex_45]; exact iv_cmul (iv_c (4 : Int32) (a := 4) (b := 4) (by decide)) bx_44 (by decide)
          refine lv_iload hx hb dX10_laysHigh_95 (lv_at hl 0 rfl) ?_
          refine lv_iadd hx hb dX10_laysHigh_97 ?_
          refine lv_topi (fun x_46 ex_46 => ?_)
          have bx_46 : iv 0 39999 x_46 := by rw [ex_46]; exact iv_add bx_45 b_43 (by decide)
          refine va_iald hx hb hK hP 6 0 rfl rfl (iv_in bx_46 (by decide)) dX10_laysHigh_98 ?_
          refine lv_topi (fun x_47 ex_47 => ?_)
          have bx_47 : iv (-1) 9999 x_47 := by rw [ex_47]; exact tf_4 _
          refine lv_istore (lv' := [(9, .int x_47), (8, .int u_33), (6, .long w_34), (5, .int u_26), (4, .int u_17), (3, .int x_10), (0, .ref (z 0)), (1, .int a1), (2, .int a2)]) hx hb dX10_laysHigh_99 hl (by decide) rfl (fun ls hl => ?_)
          refine lv_aload_n hx hb dX10_laysHigh_101 rfl (lv_at hl 6 rfl) ?_
          refine lv_iload_n hx hb dX10_laysHigh_102 rfl (lv_at hl 7 rfl) ?_
          refine lv_iload_n hx hb dX10_laysHigh_103 rfl (lv_at hl 8 rfl) ?_
          refine lv_iload hx hb dX10_laysHigh_104 (lv_at hl 4 rfl) ?_
          refine lv_iload hx hb dX10_laysHigh_106 (lv_at hl 0 rfl) ?_
          refine jnI (wr := [(z 35, aJ V 90000 f_27), (z 38, aI V 4 fz38), (z 15, aI V 900 f_1), (z 16, aI V 6 f_2), (z 24, aI V 10000 f_3), (z 25, aI V 40000 f_4), (z 28, aZ V 10000 f_5), (z 1, aI V 3075 fz1)]) (rnV (rest := []) ⟨hx, hb, hml, hown, hg⟩ (k_X10_isSo_0 l V z a1 a2 u_17 x_47 fz39 pz0_0 pz0_5 pz0_6 pz0_7 pz0_8 pz0_9 pz0_10 pz0_11 pz0_12 pz0_13 pz0_14 pz0_18 pz0_19 pz0_22 pz0_23 v_6 ba1 ba2 (iv_w b_25 (by decide)) bx_47 bpz0_5 bpz0_6 bpz0_7 bpz0_8 bpz0_10 bpz0_11 bpz0_12 bpz0_13 bpz0_14 bpz0_18 bpz0_22 (iv_w b_32 (by decide))) mt_X10_isSo q_8_60 ⟨Nat.le_of_ble_eq_true rfl, Nat.le_of_ble_eq_true rfl⟩ hK hP hD hS hA hE [2, 8] rfl rfl 8 rfl rfl rfl rfl hl.1 rfl (Nat.le_of_ble_eq_true rfl) dX10_laysHigh_108 ⟨Nat.le_of_ble_eq_true rfl, Nat.le_of_ble_eq_true rfl⟩) hP hD hS hA [2, 8] [0, 1, 3, 4, 5, 6, 7, 9] rfl rfl rfl (by decide) (fun r_48 w H locs hw hP hD hS => ?_)
          obtain ⟨br_48, er_48, g_49, rfl⟩ := hw
          have hP : va_P V.1 vwCl [(z 35, aJ V 90000 f_27), (z 38, aI V 4 fz38), (z 15, aI V 900 f_1), (z 16, aI V 6 f_2), (z 24, aI V 10000 f_3), (z 25, aI V 40000 f_4), (z 28, aZ V 10000 f_5), (z 1, aI V 3075 fz1), (z 39, aJ V 160 fz39), (z 0, .inr (10, mo z pz0_0 pz0_5 pz0_6 pz0_7 pz0_8 pz0_9 pz0_10 pz0_11 pz0_12 pz0_13 pz0_14 pz0_18 pz0_19 pz0_22 pz0_23 v_6))] H := hP
          have hD := cpD hP hD
          refine lv_if_eq (tgt := 135) hx hb dX10_laysHigh_111 (by decide) (fun c_50 => ?_) (fun c_50 => ?_)
          · have b_51 : iv 0 0 r_48 := iv_q c_50 (iv_c (0 : Int32) (a := 0) (b := 0) (by decide))
            obtain ⟨x_52, ex_52⟩ : ∃ z9 : Int32, z9 = u_33 + 1 := ⟨_, rfl⟩
            have bx_52 : iv 1 4 x_52 := by rw [ex_52]; exact iv_add b_43 (iv_c (1 : Int32) (a := 1) (b := 1) (by decide)) (by decide)
            refine lv_iinc (v := x_52) (lv' := [(8, .int x_52), (9, .int x_47), (6, .long w_34), (5, .int u_26), (4, .int u_17), (3, .int x_10), (0, .ref (z 0)), (1, .int a1), (2, .int a2)]) hx hb dX10_laysHigh_135 hl (k := 1) rfl (by rw [ex_52]; rfl) (by decide) rfl (fun ls hl => ?_)
            refine lv_goto (tgt := 76) hx hb dX10_laysHigh_138 (by decide) ?_
            have hP := subP (ws' := [(z 35, aJ V 90000 f_27), (z 38, aI V 4 fz38), (z 39, aJ V 160 fz39), (z 15, aI V 900 f_1), (z 16, aI V 6 f_2), (z 24, aI V 10000 f_3), (z 25, aI V 40000 f_4), (z 28, aZ V 10000 f_5), (z 0, .inr (10, mo z pz0_0 pz0_5 pz0_6 pz0_7 pz0_8 pz0_9 pz0_10 pz0_11 pz0_12 pz0_13 pz0_14 pz0_18 pz0_19 pz0_22 pz0_23 v_6)), (z 1, aI V 3075 fz1)]) hP [0, 1, 8, 2, 3, 4, 5, 6, 9, 7] rfl
            have hD := subD hP hD [0, 1, 8, 2, 3, 4, 5, 6, 9, 7] rfl rfl
            exact ihn_35 _ _ _ _ (by rw [en_35, ex_52]; exact mu_up b_43 (by decide)) ⟨x_52, w_34, (iv_w bx_52 (by decide)), (HD_m inn_35_0 b_43 (by decide) ex_52), inn_35_1, rfl, hP, hD, hS, lv_sub hl [0, 2, 3, 4, 5, 6, 7, 8] rfl⟩
          · have b_53 : iv 1 1 r_48 := iv_n0 c_50 br_48 (iv_c (0 : Int32) (a := 0) (b := 0) (by decide)) (by decide)
            have b_54 : iv 0 9999 x_47 := iv_cap (g_49 (iv_eqp b_53 (iv_c (1 : Int32) (by decide)))) bx_47 (by decide)
            refine lv_lload hx hb dX10_laysHigh_114 (lv_at hl 2 rfl) ?_
            refine lv_aload_n hx hb dX10_laysHigh_116 rfl (lv_at hl 6 rfl) ?_
            refine va_get (ci := 10) (v := .ref (z 35)) (C := RX10) (T := TX10) (N := 40) hx hb hg inX10 hown hK hP 9 rfl rfl 35 (by decide) (hg _ q_6_19) (fun _ h9 => h9) rfl dX10_laysHigh_117 ?_
            refine lv_sipush (v := 10000) hx hb dX10_laysHigh_120 (by decide) ?_
            refine lv_iload hx hb dX10_laysHigh_123 (lv_at hl 4 rfl) ?_
            refine lv_iconst (v := 1) hx hb dX10_laysHigh_125 (by decide) ?_
            refine lv_iadd hx hb dX10_laysHigh_126 ?_
            refine lv_topi (fun x_55 ex_55 => ?_)
            have bx_55 : iv 1 8 x_55 := by rw [ex_55]; exact iv_add b_25 (iv_c (1 : Int32) (a := 1) (b := 1) (by decide)) (by decide)
            refine lv_imul hx hb dX10_laysHigh_127 ?_
            refine lv_topi (fun x_56 ex_56 => ?_)
            have bx_56 : iv 10000 80000 x_56 := by rw [ex_56]; exact iv_cmul (iv_c (10000 : Int32) (a := 10000) (b := 10000) (by decide)) bx_55 (by decide)
            refine lv_iload hx hb dX10_laysHigh_128 (lv_at hl 0 rfl) ?_
            refine lv_iadd hx hb dX10_laysHigh_130 ?_
            refine lv_topi (fun x_57 ex_57 => ?_)
            have bx_57 : iv 10000 89999 x_57 := by rw [ex_57]; exact iv_add bx_56 b_54 (by decide)
            refine va_lald hx hb hK hP 0 2 rfl rfl (iv_in bx_57 (by decide)) dX10_laysHigh_131 ?_
            refine lv_topl (fun j_58 ej_58 => ?_)
            refine lv_ladd hx hb dX10_laysHigh_132 ?_
            refine lv_topl (fun j_59 ej_59 => ?_)
            refine lv_lstore (lv' := [(6, .long j_59), (9, .int x_47), (8, .int u_33), (5, .int u_26), (4, .int u_17), (3, .int x_10), (0, .ref (z 0)), (1, .int a1), (2, .int a2)]) hx hb dX10_laysHigh_133 hl (by decide) rfl (fun ls hl => ?_)
            obtain ⟨x_60, ex_60⟩ : ∃ z9 : Int32, z9 = u_33 + 1 := ⟨_, rfl⟩
            have bx_60 : iv 1 4 x_60 := by rw [ex_60]; exact iv_add b_43 (iv_c (1 : Int32) (a := 1) (b := 1) (by decide)) (by decide)
            refine lv_iinc (v := x_60) (lv' := [(8, .int x_60), (6, .long j_59), (9, .int x_47), (5, .int u_26), (4, .int u_17), (3, .int x_10), (0, .ref (z 0)), (1, .int a1), (2, .int a2)]) hx hb dX10_laysHigh_135 hl (k := 2) rfl (by rw [ex_60]; rfl) (by decide) rfl (fun ls hl => ?_)
            refine lv_goto (tgt := 76) hx hb dX10_laysHigh_138 (by decide) ?_
            have hP := subP (ws' := [(z 35, aJ V 90000 f_27), (z 38, aI V 4 fz38), (z 39, aJ V 160 fz39), (z 15, aI V 900 f_1), (z 16, aI V 6 f_2), (z 24, aI V 10000 f_3), (z 25, aI V 40000 f_4), (z 28, aZ V 10000 f_5), (z 0, .inr (10, mo z pz0_0 pz0_5 pz0_6 pz0_7 pz0_8 pz0_9 pz0_10 pz0_11 pz0_12 pz0_13 pz0_14 pz0_18 pz0_19 pz0_22 pz0_23 v_6)), (z 1, aI V 3075 fz1)]) hP [0, 1, 8, 2, 3, 4, 5, 6, 9, 7] rfl
            have hD := subD hP hD [0, 1, 8, 2, 3, 4, 5, 6, 9, 7] rfl rfl
            exact ihn_35 _ _ _ _ (by rw [en_35, ex_60]; exact mu_up b_43 (by decide)) ⟨x_60, j_59, (iv_w bx_60 (by decide)), (HD_s inn_35_0 b_43 (iv_w b_25 (by decide)) ex_60 ex_44 bx_44 ex_45 ex_46 ex_47 b_54 er_48 b_53 ex_55 ex_56 ex_57 ej_58 ej_59), inn_35_1, rfl, hP, hD, hS, lv_sub hl [0, 1, 3, 4, 5, 6, 7, 8] rfl⟩
  · have b_61 : iv 0 9999 u_12 := iv_l1 (Int32.not_le.mp c_15) bu_12 bv_6 (by decide)
    have b_62 : iv 1 10000 v_6 := iv_l2 (Int32.not_le.mp c_15) bu_12 bv_6 (by decide)
    refine lv_aload_n hx hb dX10_laysHigh_23 rfl (lv_at hl 2 rfl) ?_
    refine va_get (ci := 10) (v := .ref (z 35)) (C := RX10) (T := TX10) (N := 40) hx hb hg inX10 hown hK hP 8 rfl rfl 35 (by decide) (hg _ q_6_19) (fun _ h9 => h9) rfl dX10_laysHigh_24 ?_
    refine lv_sipush (v := 10000) hx hb dX10_laysHigh_27 (by decide) ?_
    refine lv_iload_n hx hb dX10_laysHigh_30 rfl (lv_at hl 1 rfl) ?_
    refine lv_imul hx hb dX10_laysHigh_31 ?_
    refine lv_topi (fun x_63 ex_63 => ?_)
    have bx_63 : iv 10000 80000 x_63 := by rw [ex_63]; exact iv_cmul (iv_c (10000 : Int32) (a := 10000) (b := 10000) (by decide)) b_11 (by decide)
    refine lv_aload_n hx hb dX10_laysHigh_32 rfl (lv_at hl 2 rfl) ?_
    refine va_get (ci := 10) (v := .ref (z 24)) (C := RX10) (T := TX10) (N := 40) hx hb hg inX10 hown hK hP 8 rfl rfl 24 (by decide) (hg _ q_6_8) (fun _ h9 => h9) rfl dX10_laysHigh_33 ?_
    refine lv_iload hx hb dX10_laysHigh_36 (lv_at hl 0 rfl) ?_
    refine va_iald hx hb hK hP 5 0 rfl rfl (iv_in b_61 (by decide)) dX10_laysHigh_38 ?_
    refine lv_topi (fun x_64 ex_64 => ?_)
    have bx_64 : iv 0 9999 x_64 := by rw [ex_64]; exact tf_3 _
    refine lv_iadd hx hb dX10_laysHigh_39 ?_
    refine lv_topi (fun x_65 ex_65 => ?_)
    have bx_65 : iv 10000 89999 x_65 := by rw [ex_65]; exact iv_add bx_63 bx_64 (by decide)
    refine lv_lconst (v := 1) hx hb dX10_laysHigh_40 (by decide) ?_
    refine va_last hx hb hK hP hD hS 0 2 rfl rfl (iv_in bx_65 (by decide)) dX10_laysHigh_41 (fun H locs hP hD hS => ?_)
    obtain ⟨f_66, ef_66, hP, hD⟩ : ∃ f_66 : Nat → Int64, f_66 = (vp_updL f_13 (x_65 : Int32).toNatClampNeg 1) ∧ va_P V.1 vwCl [(z 35, aJ V 90000 f_66), (z 38, aI V 4 fz38), (z 39, aJ V 160 fz39), (z 15, aI V 900 f_1), (z 16, aI V 6 f_2), (z 24, aI V 10000 f_3), (z 25, aI V 40000 f_4), (z 28, aZ V 10000 f_5), (z 0, .inr (10, mo z pz0_0 pz0_5 pz0_6 pz0_7 pz0_8 pz0_9 pz0_10 pz0_11 pz0_12 pz0_13 pz0_14 pz0_18 pz0_19 pz0_22 pz0_23 v_6)), (z 1, aI V 3075 fz1)] H ∧ va_D A [(z 35, aJ V 90000 f_66), (z 38, aI V 4 fz38), (z 39, aJ V 160 fz39), (z 15, aI V 900 f_1), (z 16, aI V 6 f_2), (z 24, aI V 10000 f_3), (z 25, aI V 40000 f_4), (z 28, aZ V 10000 f_5), (z 0, .inr (10, mo z pz0_0 pz0_5 pz0_6 pz0_7 pz0_8 pz0_9 pz0_10 pz0_11 pz0_12 pz0_13 pz0_14 pz0_18 pz0_19 pz0_22 pz0_23 v_6)), (z 1, aI V 3075 fz1)] := ⟨_, rfl, hP, hD⟩
    obtain ⟨x_67, ex_67⟩ : ∃ z9 : Int32, z9 = u_12 + 1 := ⟨_, rfl⟩
    have bx_67 : iv 1 10000 x_67 := by rw [ex_67]; exact iv_add b_61 (iv_c (1 : Int32) (a := 1) (b := 1) (by decide)) (by decide)
    refine lv_iinc (v := x_67) (lv' := [(4, .int x_67), (3, .int x_10), (0, .ref (z 0)), (1, .int a1), (2, .int a2)]) hx hb dX10_laysHigh_42 hl (k := 0) rfl (by rw [ex_67]; rfl) (by decide) rfl (fun ls hl => ?_)
    refine lv_goto (tgt := 14) hx hb dX10_laysHigh_45 (by decide) ?_
    exact ihn_14 _ _ _ _ (by rw [en_14, ex_67]; exact mu_up b_61 (by decide)) ⟨x_67, f_66, (iv_w bx_67 (by decide)), inn_14_0, rfl, hP, hD, hS, lv_sub hl [0, 1, 2, 3, 4] rfl⟩
theorem dX10_high_0 : decode cX10_high 0 = .ok (.aload_n 0, 1) := by decide +kernel
theorem dX10_high_1 : decode cX10_high 1 = .ok (.iconst 0, 1) := by decide +kernel
theorem dX10_high_2 : decode cX10_high 2 = .ok (.putfield 1, 3) := by decide +kernel
theorem dX10_high_5 : decode cX10_high 5 = .ok (.aload_n 0, 1) := by decide +kernel
theorem dX10_high_6 : decode cX10_high 6 = .ok (.iload_n 1, 1) := by decide +kernel
theorem dX10_high_7 : decode cX10_high 7 = .ok (.iload_n 2, 1) := by decide +kernel
theorem dX10_high_8 : decode cX10_high 8 = .ok (.iconst (-1), 1) := by decide +kernel
theorem q_8_54 : Cond.code yX10_noTold prog_12_method_107_code 6 (some FieldType.int) ∈ gw := gw_8 (i := 54) (rfl) rfl
theorem q_8_53 : Cond.instanceMethod yX10_noTold ∈ gw := gw_8 (i := 53) (by decide +kernel) rfl
theorem q_s_117 : Cond.selects "BeaconDelayModel" yX10_noTold yX10_noTold ∈ gw := gw_s (i := 117) (by decide +kernel) rfl
theorem mt_X10_noTold : MtV yX10_noTold cX10_noTold 6 (some .int) 3 := ⟨⟨q_8_54, q_1_9, by decide +kernel, by decide +kernel, by decide +kernel⟩, q_8_53, q_s_117⟩
theorem q_8_51 : Cond.methodLink "BeaconDelayModel" 425 yX10_noTold ∈ gw := gw_8 (i := 51) (by decide +kernel) rfl
theorem dX10_high_9 : decode cX10_high 9 = .ok (.invokevirtual 425, 3) := by decide +kernel
theorem dX10_high_12 : decode cX10_high 12 = .ok (.istore_n 3, 1) := by decide +kernel
theorem dX10_high_13 : decode cX10_high 13 = .ok (.iload_n 3, 1) := by decide +kernel
theorem dX10_high_14 : decode cX10_high 14 = .ok (.ifCond .eq 8, 3) := by decide +kernel
theorem dX10_high_22 : decode cX10_high 22 = .ok (.aload_n 0, 1) := by decide +kernel
theorem dX10_high_23 : decode cX10_high 23 = .ok (.iload_n 1, 1) := by decide +kernel
theorem dX10_high_24 : decode cX10_high 24 = .ok (.iload_n 2, 1) := by decide +kernel
theorem q_8_59 : Cond.code yX10_laysHigh prog_12_method_109_code 10 (some FieldType.long) ∈ gw := gw_8 (i := 59) (rfl) rfl
theorem q_8_58 : Cond.instanceMethod yX10_laysHigh ∈ gw := gw_8 (i := 58) (by decide +kernel) rfl
theorem q_s_118 : Cond.selects "BeaconDelayModel" yX10_laysHigh yX10_laysHigh ∈ gw := gw_s (i := 118) (by decide +kernel) rfl
theorem mt_X10_laysHigh : MtV yX10_laysHigh cX10_laysHigh 10 (some .long) 2 := ⟨⟨q_8_59, q_1_9, by decide +kernel, by decide +kernel, by decide +kernel⟩, q_8_58, q_s_118⟩
theorem q_8_56 : Cond.methodLink "BeaconDelayModel" 428 yX10_laysHigh ∈ gw := gw_8 (i := 56) (by decide +kernel) rfl
theorem dX10_high_25 : decode cX10_high 25 = .ok (.invokevirtual 428, 3) := by decide +kernel
theorem dX10_high_28 : decode cX10_high 28 = .ok (.lreturn, 1) := by decide +kernel
theorem dX10_high_17 : decode cX10_high 17 = .ok (.iload_n 3, 1) := by decide +kernel
theorem dX10_high_18 : decode cX10_high 18 = .ok (.i2l, 1) := by decide +kernel
theorem dX10_high_19 : decode cX10_high 19 = .ok (.goto 9, 3) := by decide +kernel
set_option maxHeartbeats 4000000 in
set_option maxRecDepth 100000 in
theorem k_X10_high_0 (l : Launch) (V : GV) (z : Nat → Nat) (a1 : Int32) (a2 : Int32) (pz0_0 : Int32) (pz0_5 : Int32) (pz0_6 : Int32) (pz0_7 : Int32) (pz0_8 : Int32) (pz0_9 : Int32) (pz0_10 : Int32) (pz0_11 : Int32) (pz0_12 : Int32) (pz0_13 : Int32) (pz0_14 : Int32) (pz0_18 : Int32) (pz0_19 : Int32) (pz0_22 : Int32) (pz0_23 : Int32) (pz0_29 : Int32) (fz1 : Nat → Int32) (fz15 : Nat → Int32) (fz16 : Nat → Int32) (fz24 : Nat → Int32) (fz25 : Nat → Int32) (fz28 : Nat → Int32) (fz35 : Nat → Int64) (fz37 : Nat → Int32) (fz38 : Nat → Int32) (fz39 : Nat → Int64) (bpz0_5 : iv 0 900 pz0_5) (bpz0_6 : iv 0 900 pz0_6) (bpz0_7 : iv 0 900 pz0_7) (bpz0_8 : iv 0 900 pz0_8) (bpz0_10 : iv 0 999 pz0_10) (bpz0_11 : iv 0 4 pz0_11) (bpz0_12 : iv 0 900 pz0_12) (bpz0_13 : iv 0 4 pz0_13) (bpz0_14 : iv (-1) 900 pz0_14) (bpz0_18 : iv 0 2 pz0_18) (bpz0_22 : iv 0 9999 pz0_22) (bpz0_29 : iv 0 10000 pz0_29) (tfz1 : ivT tA fz1) (tfz16 : ivT tW fz16) (tfz24 : ∀ j, iv 0 9999 (fz24 j)) (tfz25 : ∀ j, iv (-1) 9999 (fz25 j)) (tfz37 : ∀ j, iv (-1) 3 (fz37 j)) (tfz38 : ∀ j, iv 0 40 (fz38 j)) (hf0 : RW fz1) : Ct l V yX10_high (.code yX10_high cX10_high 4 (some .long)) 7 [.ref (z 0), .int a1, .int a2] [(z 0, .inr (10, mo z pz0_0 pz0_5 pz0_6 pz0_7 pz0_8 pz0_9 pz0_10 pz0_11 pz0_12 pz0_13 pz0_14 pz0_18 pz0_19 pz0_22 pz0_23 pz0_29)), (z 1, aI V 3075 fz1), (z 15, aI V 900 fz15), (z 16, aI V 6 fz16), (z 24, aI V 10000 fz24), (z 25, aI V 40000 fz25), (z 28, aZ V 10000 fz28), (z 35, aJ V 90000 fz35), (z 37, aI V 4 fz37), (z 38, aI V 4 fz38), (z 39, aJ V 160 fz39)] 0 0 (QL V (fun (r : Int64) (w : va_W) => ∃ (v0 : Int32) (v1 : Int32) (g2 : Nat → Int32) (g3 : Nat → Int32) (g4 : Nat → Int32) (g5 : Nat → Int32) (g6 : Nat → Int32) (g7 : Nat → Int64), iv 0 10000 v1 ∧ (ivT tW g3) ∧ (∀ j, iv 0 9999 (g4 j)) ∧ (∀ j, iv (-1) 9999 (g5 j)) ∧ (RW fz1) ∧ w = [(z 0, .inr (10, mo z v0 pz0_5 pz0_6 pz0_7 pz0_8 pz0_9 pz0_10 pz0_11 pz0_12 pz0_13 pz0_14 pz0_18 pz0_19 pz0_22 pz0_23 v1)), (z 1, aI V 3075 fz1), (z 15, aI V 900 g2), (z 16, aI V 6 g3), (z 24, aI V 10000 g4), (z 25, aI V 40000 g5), (z 28, aZ V 10000 g6), (z 35, aJ V 90000 g7), (z 37, aI V 4 fz37), (z 38, aI V 4 fz38), (z 39, aJ V 160 fz39)])) := by
  refine Ct.of (by decide) (Nat.le_of_ble_eq_true rfl) (fun p e s m below meth c A ls hx hb hr hml hown hlk hnm hg hP hK hD hE hA hS hl => ?_)
  have hl : lv_has ls 4 [(0, .ref (z 0)), (1, .int a1), (2, .int a2)] := hl
  refine lv_aload_n hx hb dX10_high_0 rfl (lv_at hl 0 rfl) ?_
  refine lv_iconst (v := 0) hx hb dX10_high_1 (by decide) ?_
  refine va_put (ci := 10) (v := .int 0) (ty := .int) (C := RX10) (T := TX10) (N := 40) hx hb hg inX10 tyX10 tyX10_ok nmX10 hown hK hP hD hS 0 rfl rfl 0 (by decide) (hg _ q_5_224) (fun _ h9 => h9) rfl (by decide +kernel) rfl rfl (Nat.le_of_ble_eq_true rfl) dX10_high_2 (fun H locs hP hD hS => ?_)
  have hP : va_P V.1 vwCl [(z 0, .inr (10, mo z 0 pz0_5 pz0_6 pz0_7 pz0_8 pz0_9 pz0_10 pz0_11 pz0_12 pz0_13 pz0_14 pz0_18 pz0_19 pz0_22 pz0_23 pz0_29)), (z 1, aI V 3075 fz1), (z 15, aI V 900 fz15), (z 16, aI V 6 fz16), (z 24, aI V 10000 fz24), (z 25, aI V 40000 fz25), (z 28, aZ V 10000 fz28), (z 35, aJ V 90000 fz35), (z 37, aI V 4 fz37), (z 38, aI V 4 fz38), (z 39, aJ V 160 fz39)] H := hP
  have hD := cpD hP hD
  refine lv_aload_n hx hb dX10_high_5 rfl (lv_at hl 0 rfl) ?_
  refine lv_iload_n hx hb dX10_high_6 rfl (lv_at hl 1 rfl) ?_
  refine lv_iload_n hx hb dX10_high_7 rfl (lv_at hl 2 rfl) ?_
  refine lv_iconst (v := (-1)) hx hb dX10_high_8 (by decide) ?_
  refine jnI (wr := [(z 15, aI V 900 fz15), (z 16, aI V 6 fz16), (z 24, aI V 10000 fz24), (z 25, aI V 40000 fz25), (z 28, aZ V 10000 fz28), (z 35, aJ V 90000 fz35)]) (rnV (rest := []) ⟨hx, hb, hml, hown, hg⟩ (k_X10_noTold_0 l V z a1 a2 (-1) 0 pz0_5 pz0_6 pz0_7 pz0_8 pz0_9 pz0_10 pz0_11 pz0_12 pz0_13 pz0_14 pz0_18 pz0_19 pz0_22 pz0_23 pz0_29 fz1 fz37 fz38 fz39 bpz0_5 bpz0_6 bpz0_7 bpz0_8 bpz0_10 bpz0_11 bpz0_12 bpz0_13 bpz0_14 bpz0_18 bpz0_22 bpz0_29 tfz1 tfz37 tfz38) mt_X10_noTold q_8_51 ⟨Nat.le_of_ble_eq_true rfl, Nat.le_of_ble_eq_true rfl⟩ hK hP hD hS hA hE [0, 1, 8, 9, 10] rfl rfl 0 rfl rfl rfl rfl hl.1 rfl (Nat.le_of_ble_eq_true rfl) dX10_high_9 ⟨Nat.le_of_ble_eq_true rfl, Nat.le_of_ble_eq_true rfl⟩) hP hD hS hA [0, 1, 8, 9, 10] [2, 3, 4, 5, 6, 7] rfl rfl rfl (by decide) (fun r_1 w H locs hw hP hD hS => ?_)
  obtain ⟨br_1, g_2, g_3, g_4, rfl⟩ := hw
  have hP : va_P V.1 vwCl [(z 15, aI V 900 fz15), (z 16, aI V 6 fz16), (z 24, aI V 10000 fz24), (z 25, aI V 40000 fz25), (z 28, aZ V 10000 fz28), (z 35, aJ V 90000 fz35), (z 0, .inr (10, mo z 0 pz0_5 pz0_6 pz0_7 pz0_8 pz0_9 pz0_10 pz0_11 pz0_12 pz0_13 pz0_14 pz0_18 pz0_19 pz0_22 pz0_23 pz0_29)), (z 1, aI V 3075 fz1), (z 37, aI V 4 fz37), (z 38, aI V 4 fz38), (z 39, aJ V 160 fz39)] H := hP
  have hD := cpD hP hD
  refine lv_istore_n (lv' := [(3, .int r_1), (0, .ref (z 0)), (1, .int a1), (2, .int a2)]) hx hb dX10_high_12 rfl hl (by decide) rfl (fun ls hl => ?_)
  refine lv_iload_n hx hb dX10_high_13 rfl (lv_at hl 0 rfl) ?_
  refine lv_if_eq (tgt := 22) hx hb dX10_high_14 (by decide) (fun c_5 => ?_) (fun c_5 => ?_)
  · have b_6 : iv 0 0 r_1 := iv_q c_5 (iv_c (0 : Int32) (a := 0) (b := 0) (by decide))
    have b_7 : iv 0 3 a1 := iv_cap (g_3 (iv_eqp b_6 (iv_c (0 : Int32) (by decide)))) (iv_top a1) (by decide)
    have b_8 : iv 0 3 a2 := iv_cap (g_4 (iv_eqp b_6 (iv_c (0 : Int32) (by decide)))) (iv_top a2) (by decide)
    refine lv_aload_n hx hb dX10_high_22 rfl (lv_at hl 1 rfl) ?_
    refine lv_iload_n hx hb dX10_high_23 rfl (lv_at hl 2 rfl) ?_
    refine lv_iload_n hx hb dX10_high_24 rfl (lv_at hl 3 rfl) ?_
    refine jnL (wr := [(z 37, aI V 4 fz37)]) (rnV (rest := []) ⟨hx, hb, hml, hown, hg⟩ (k_X10_laysHigh_0 l V z a1 a2 fz15 fz16 fz24 fz25 fz28 fz35 0 pz0_5 pz0_6 pz0_7 pz0_8 pz0_9 pz0_10 pz0_11 pz0_12 pz0_13 pz0_14 pz0_18 pz0_19 pz0_22 pz0_23 pz0_29 fz1 fz38 fz39 b_7 b_8 tfz16 tfz24 tfz25 bpz0_5 bpz0_6 bpz0_7 bpz0_8 bpz0_10 bpz0_11 bpz0_12 bpz0_13 bpz0_14 bpz0_18 bpz0_22 bpz0_29 tfz1 tfz38 hf0 (g_2 (iv_eqp b_6 (iv_c (0 : Int32) (by decide))))) mt_X10_laysHigh q_8_56 ⟨Nat.le_of_ble_eq_true rfl, Nat.le_of_ble_eq_true rfl⟩ hK hP hD hS hA hE [0, 1, 2, 3, 4, 5, 6, 7, 9, 10] rfl rfl 6 rfl rfl rfl rfl hl.1 rfl (Nat.le_of_ble_eq_true rfl) dX10_high_25 ⟨Nat.le_of_ble_eq_true rfl, Nat.le_of_ble_eq_true rfl⟩) hP hD hS hA [0, 1, 2, 3, 4, 5, 6, 7, 9, 10] [8] rfl rfl rfl (by decide) (fun r_9 w H locs hw hP hD hS => ?_)
    obtain ⟨f_10, f_11, f_12, f_13, f_14, f_15, v_16, tf_11, tf_12, tf_13, bv_16, g_17, g_18, g_19, g_20, g_21, rfl⟩ := hw
    have hP : va_P V.1 vwCl [(z 37, aI V 4 fz37), (z 15, aI V 900 f_10), (z 16, aI V 6 f_11), (z 24, aI V 10000 f_12), (z 25, aI V 40000 f_13), (z 28, aZ V 10000 f_14), (z 35, aJ V 90000 f_15), (z 0, .inr (10, mo z 0 pz0_5 pz0_6 pz0_7 pz0_8 pz0_9 pz0_10 pz0_11 pz0_12 pz0_13 pz0_14 pz0_18 pz0_19 pz0_22 pz0_23 v_16)), (z 1, aI V 3075 fz1), (z 38, aI V 4 fz38), (z 39, aJ V 160 fz39)] H := hP
    have hD := cpD hP hD
    have hP := subP (ws' := [(z 0, .inr (10, mo z 0 pz0_5 pz0_6 pz0_7 pz0_8 pz0_9 pz0_10 pz0_11 pz0_12 pz0_13 pz0_14 pz0_18 pz0_19 pz0_22 pz0_23 v_16)), (z 1, aI V 3075 fz1), (z 15, aI V 900 f_10), (z 16, aI V 6 f_11), (z 24, aI V 10000 f_12), (z 25, aI V 40000 f_13), (z 28, aZ V 10000 f_14), (z 35, aJ V 90000 f_15), (z 37, aI V 4 fz37), (z 38, aI V 4 fz38), (z 39, aJ V 160 fz39)]) hP [7, 8, 1, 2, 3, 4, 5, 6, 0, 9, 10] rfl
    have hD := subD hP hD [7, 8, 1, 2, 3, 4, 5, 6, 0, 9, 10] rfl rfl
    exact fiL hx hb hr hlk hK hP hD hS dX10_high_28 (Nat.le_of_ble_eq_true rfl) (Nat.le_of_ble_eq_true rfl) (⟨0, v_16, f_10, f_11, f_12, f_13, f_14, f_15, bv_16, tf_11, tf_12, tf_13, g_17, rfl⟩)
  · have b_22 : iv (-6) (-1) r_1 := iv_n1 c_5 br_1 (iv_c (0 : Int32) (a := 0) (b := 0) (by decide)) (by decide)
    refine lv_iload_n hx hb dX10_high_17 rfl (lv_at hl 0 rfl) ?_
    refine lv_i2l hx hb dX10_high_18 rfl ?_
    refine lv_topl (fun j_23 ej_23 => ?_)
    have bj_23 : ivL (-6) (-1) j_23 := by rw [ej_23]; exact ivL_of b_22
    refine lv_goto (tgt := 28) hx hb dX10_high_19 (by decide) ?_
    have hP := subP (ws' := [(z 0, .inr (10, mo z 0 pz0_5 pz0_6 pz0_7 pz0_8 pz0_9 pz0_10 pz0_11 pz0_12 pz0_13 pz0_14 pz0_18 pz0_19 pz0_22 pz0_23 pz0_29)), (z 1, aI V 3075 fz1), (z 15, aI V 900 fz15), (z 16, aI V 6 fz16), (z 24, aI V 10000 fz24), (z 25, aI V 40000 fz25), (z 28, aZ V 10000 fz28), (z 35, aJ V 90000 fz35), (z 37, aI V 4 fz37), (z 38, aI V 4 fz38), (z 39, aJ V 160 fz39)]) hP [6, 7, 0, 1, 2, 3, 4, 5, 8, 9, 10] rfl
    have hD := subD hP hD [6, 7, 0, 1, 2, 3, 4, 5, 8, 9, 10] rfl rfl
    exact fiL hx hb hr hlk hK hP hD hS dX10_high_28 (Nat.le_of_ble_eq_true rfl) (Nat.le_of_ble_eq_true rfl) (⟨0, pz0_29, fz15, fz16, fz24, fz25, fz28, fz35, bpz0_29, tfz16, tfz24, tfz25, hf0, rfl⟩)
theorem dX10_highBy_0 : decode cX10_highBy 0 = .ok (.aload_n 0, 1) := by decide +kernel
theorem dX10_highBy_1 : decode cX10_highBy 1 = .ok (.iconst 0, 1) := by decide +kernel
theorem dX10_highBy_2 : decode cX10_highBy 2 = .ok (.putfield 1, 3) := by decide +kernel
theorem dX10_highBy_5 : decode cX10_highBy 5 = .ok (.aload_n 0, 1) := by decide +kernel
theorem dX10_highBy_6 : decode cX10_highBy 6 = .ok (.iload_n 1, 1) := by decide +kernel
theorem dX10_highBy_7 : decode cX10_highBy 7 = .ok (.iload_n 2, 1) := by decide +kernel
theorem dX10_highBy_8 : decode cX10_highBy 8 = .ok (.iconst (-1), 1) := by decide +kernel
theorem dX10_highBy_9 : decode cX10_highBy 9 = .ok (.invokevirtual 425, 3) := by decide +kernel
theorem dX10_highBy_12 : decode cX10_highBy 12 = .ok (.istore 4, 2) := by decide +kernel
theorem dX10_highBy_14 : decode cX10_highBy 14 = .ok (.iload 4, 2) := by decide +kernel
theorem dX10_highBy_16 : decode cX10_highBy 16 = .ok (.ifCond .eq 6, 3) := by decide +kernel
theorem dX10_highBy_22 : decode cX10_highBy 22 = .ok (.iload_n 3, 1) := by decide +kernel
theorem dX10_highBy_23 : decode cX10_highBy 23 = .ok (.ifCond .ge 6, 3) := by decide +kernel
theorem dX10_highBy_29 : decode cX10_highBy 29 = .ok (.aload_n 0, 1) := by decide +kernel
theorem dX10_highBy_30 : decode cX10_highBy 30 = .ok (.iload_n 1, 1) := by decide +kernel
theorem dX10_highBy_31 : decode cX10_highBy 31 = .ok (.iload_n 2, 1) := by decide +kernel
theorem dX10_highBy_32 : decode cX10_highBy 32 = .ok (.invokevirtual 428, 3) := by decide +kernel
theorem dX10_highBy_35 : decode cX10_highBy 35 = .ok (.lconst 0, 1) := by decide +kernel
theorem dX10_highBy_36 : decode cX10_highBy 36 = .ok (.lcmp, 1) := by decide +kernel
theorem dX10_highBy_37 : decode cX10_highBy 37 = .ok (.ifCond .eq 13, 3) := by decide +kernel
theorem dX10_highBy_50 : decode cX10_highBy 50 = .ok (.iconst (-1), 1) := by decide +kernel
theorem dX10_highBy_51 : decode cX10_highBy 51 = .ok (.ireturn, 1) := by decide +kernel
theorem dX10_highBy_40 : decode cX10_highBy 40 = .ok (.iload_n 3, 1) := by decide +kernel
theorem dX10_highBy_41 : decode cX10_highBy 41 = .ok (.aload_n 0, 1) := by decide +kernel
theorem dX10_highBy_42 : decode cX10_highBy 42 = .ok (.getfield 87, 3) := by decide +kernel
theorem dX10_highBy_45 : decode cX10_highBy 45 = .ok (.iload_n 1, 1) := by decide +kernel
theorem dX10_highBy_46 : decode cX10_highBy 46 = .ok (.iaload, 1) := by decide +kernel
theorem dX10_highBy_47 : decode cX10_highBy 47 = .ok (.if_icmp .lt 5, 3) := by decide +kernel
theorem dX10_highBy_52 : decode cX10_highBy 52 = .ok (.aload_n 0, 1) := by decide +kernel
theorem dX10_highBy_53 : decode cX10_highBy 53 = .ok (.invokevirtual 269, 3) := by decide +kernel
theorem dX10_highBy_56 : decode cX10_highBy 56 = .ok (.istore 5, 2) := by decide +kernel
theorem dX10_highBy_58 : decode cX10_highBy 58 = .ok (.iconst 0, 1) := by decide +kernel
theorem dX10_highBy_59 : decode cX10_highBy 59 = .ok (.istore 6, 2) := by decide +kernel
theorem dX10_highBy_61 : decode cX10_highBy 61 = .ok (.iconst 0, 1) := by decide +kernel
theorem dX10_highBy_62 : decode cX10_highBy 62 = .ok (.istore 7, 2) := by decide +kernel
theorem dX10_highBy_64 : decode cX10_highBy 64 = .ok (.aload_n 0, 1) := by decide +kernel
theorem dX10_highBy_65 : decode cX10_highBy 65 = .ok (.iload_n 1, 1) := by decide +kernel
theorem dX10_highBy_66 : decode cX10_highBy 66 = .ok (.iload_n 2, 1) := by decide +kernel
theorem dX10_highBy_67 : decode cX10_highBy 67 = .ok (.iload 6, 2) := by decide +kernel
theorem dX10_highBy_69 : decode cX10_highBy 69 = .ok (.aload_n 0, 1) := by decide +kernel
theorem dX10_highBy_70 : decode cX10_highBy 70 = .ok (.getfield 49, 3) := by decide +kernel
theorem dX10_highBy_73 : decode cX10_highBy 73 = .ok (.iconst 4, 1) := by decide +kernel
theorem dX10_highBy_74 : decode cX10_highBy 74 = .ok (.iload 5, 2) := by decide +kernel
theorem dX10_highBy_76 : decode cX10_highBy 76 = .ok (.imul, 1) := by decide +kernel
theorem dX10_highBy_77 : decode cX10_highBy 77 = .ok (.iload 7, 2) := by decide +kernel
theorem dX10_highBy_79 : decode cX10_highBy 79 = .ok (.iadd, 1) := by decide +kernel
theorem dX10_highBy_80 : decode cX10_highBy 80 = .ok (.iaload, 1) := by decide +kernel
theorem dX10_highBy_81 : decode cX10_highBy 81 = .ok (.invokevirtual 421, 3) := by decide +kernel
theorem dX10_highBy_84 : decode cX10_highBy 84 = .ok (.ifCond .eq 34, 3) := by decide +kernel
theorem dX10_highBy_118 : decode cX10_highBy 118 = .ok (.iinc 7 1, 3) := by decide +kernel
theorem dX10_highBy_121 : decode cX10_highBy 121 = .ok (.goto (-57), 3) := by decide +kernel
theorem dX10_highBy_87 : decode cX10_highBy 87 = .ok (.aload_n 0, 1) := by decide +kernel
theorem dX10_highBy_88 : decode cX10_highBy 88 = .ok (.getfield 78, 3) := by decide +kernel
theorem dX10_highBy_91 : decode cX10_highBy 91 = .ok (.sipush 10000, 3) := by decide +kernel
theorem dX10_highBy_94 : decode cX10_highBy 94 = .ok (.iload 6, 2) := by decide +kernel
theorem dX10_highBy_96 : decode cX10_highBy 96 = .ok (.iconst 1, 1) := by decide +kernel
theorem dX10_highBy_97 : decode cX10_highBy 97 = .ok (.iadd, 1) := by decide +kernel
theorem dX10_highBy_98 : decode cX10_highBy 98 = .ok (.imul, 1) := by decide +kernel
theorem dX10_highBy_99 : decode cX10_highBy 99 = .ok (.aload_n 0, 1) := by decide +kernel
theorem dX10_highBy_100 : decode cX10_highBy 100 = .ok (.getfield 49, 3) := by decide +kernel
theorem dX10_highBy_103 : decode cX10_highBy 103 = .ok (.iconst 4, 1) := by decide +kernel
theorem dX10_highBy_104 : decode cX10_highBy 104 = .ok (.iload 5, 2) := by decide +kernel
theorem dX10_highBy_106 : decode cX10_highBy 106 = .ok (.imul, 1) := by decide +kernel
theorem dX10_highBy_107 : decode cX10_highBy 107 = .ok (.iload 7, 2) := by decide +kernel
theorem dX10_highBy_109 : decode cX10_highBy 109 = .ok (.iadd, 1) := by decide +kernel
theorem dX10_highBy_110 : decode cX10_highBy 110 = .ok (.iaload, 1) := by decide +kernel
theorem dX10_highBy_111 : decode cX10_highBy 111 = .ok (.iadd, 1) := by decide +kernel
theorem dX10_highBy_112 : decode cX10_highBy 112 = .ok (.laload, 1) := by decide +kernel
theorem dX10_highBy_113 : decode cX10_highBy 113 = .ok (.lconst 0, 1) := by decide +kernel
theorem dX10_highBy_114 : decode cX10_highBy 114 = .ok (.lcmp, 1) := by decide +kernel
theorem dX10_highBy_115 : decode cX10_highBy 115 = .ok (.ifCond .ne 9, 3) := by decide +kernel
theorem dX10_highBy_124 : decode cX10_highBy 124 = .ok (.iload 6, 2) := by decide +kernel
theorem dX10_highBy_126 : decode cX10_highBy 126 = .ok (.iload_n 3, 1) := by decide +kernel
theorem dX10_highBy_127 : decode cX10_highBy 127 = .ok (.if_icmp .ne 6, 3) := by decide +kernel
theorem dX10_highBy_133 : decode cX10_highBy 133 = .ok (.aload_n 0, 1) := by decide +kernel
theorem dX10_highBy_134 : decode cX10_highBy 134 = .ok (.getfield 49, 3) := by decide +kernel
theorem dX10_highBy_137 : decode cX10_highBy 137 = .ok (.iconst 4, 1) := by decide +kernel
theorem dX10_highBy_138 : decode cX10_highBy 138 = .ok (.iload 5, 2) := by decide +kernel
theorem dX10_highBy_140 : decode cX10_highBy 140 = .ok (.imul, 1) := by decide +kernel
theorem dX10_highBy_141 : decode cX10_highBy 141 = .ok (.iload 7, 2) := by decide +kernel
theorem dX10_highBy_143 : decode cX10_highBy 143 = .ok (.iadd, 1) := by decide +kernel
theorem dX10_highBy_144 : decode cX10_highBy 144 = .ok (.iaload, 1) := by decide +kernel
theorem dX10_highBy_145 : decode cX10_highBy 145 = .ok (.istore 5, 2) := by decide +kernel
theorem dX10_highBy_147 : decode cX10_highBy 147 = .ok (.iinc 6 1, 3) := by decide +kernel
theorem dX10_highBy_150 : decode cX10_highBy 150 = .ok (.goto (-89), 3) := by decide +kernel
theorem dX10_highBy_130 : decode cX10_highBy 130 = .ok (.iload 7, 2) := by decide +kernel
theorem dX10_highBy_132 : decode cX10_highBy 132 = .ok (.ireturn, 1) := by decide +kernel
theorem dX10_highBy_26 : decode cX10_highBy 26 = .ok (.bipush (-3), 2) := by decide +kernel
theorem dX10_highBy_28 : decode cX10_highBy 28 = .ok (.ireturn, 1) := by decide +kernel
theorem dX10_highBy_19 : decode cX10_highBy 19 = .ok (.iload 4, 2) := by decide +kernel
theorem dX10_highBy_21 : decode cX10_highBy 21 = .ok (.ireturn, 1) := by decide +kernel
set_option maxHeartbeats 4000000 in
set_option maxRecDepth 100000 in
theorem k_X10_highBy_0 (l : Launch) (V : GV) (z : Nat → Nat) (a1 : Int32) (a2 : Int32) (a3 : Int32) (pz0_0 : Int32) (pz0_5 : Int32) (pz0_6 : Int32) (pz0_7 : Int32) (pz0_8 : Int32) (pz0_9 : Int32) (pz0_10 : Int32) (pz0_11 : Int32) (pz0_12 : Int32) (pz0_13 : Int32) (pz0_14 : Int32) (pz0_18 : Int32) (pz0_19 : Int32) (pz0_22 : Int32) (pz0_23 : Int32) (pz0_29 : Int32) (fz1 : Nat → Int32) (fz15 : Nat → Int32) (fz16 : Nat → Int32) (fz24 : Nat → Int32) (fz25 : Nat → Int32) (fz28 : Nat → Int32) (fz35 : Nat → Int64) (fz37 : Nat → Int32) (fz38 : Nat → Int32) (fz39 : Nat → Int64) (bpz0_5 : iv 0 900 pz0_5) (bpz0_6 : iv 0 900 pz0_6) (bpz0_7 : iv 0 900 pz0_7) (bpz0_8 : iv 0 900 pz0_8) (bpz0_10 : iv 0 999 pz0_10) (bpz0_11 : iv 0 4 pz0_11) (bpz0_12 : iv 0 900 pz0_12) (bpz0_13 : iv 0 4 pz0_13) (bpz0_14 : iv (-1) 900 pz0_14) (bpz0_18 : iv 0 2 pz0_18) (bpz0_22 : iv 0 9999 pz0_22) (bpz0_29 : iv 0 10000 pz0_29) (tfz1 : ivT tA fz1) (tfz16 : ivT tW fz16) (tfz24 : ∀ j, iv 0 9999 (fz24 j)) (tfz25 : ∀ j, iv (-1) 9999 (fz25 j)) (tfz37 : ∀ j, iv (-1) 3 (fz37 j)) (tfz38 : ∀ j, iv 0 40 (fz38 j)) (hf0 : RW fz1) : Ct l V yX10_highBy (.code yX10_highBy cX10_highBy 8 (some .int)) 7 [.ref (z 0), .int a1, .int a2, .int a3] [(z 0, .inr (10, mo z pz0_0 pz0_5 pz0_6 pz0_7 pz0_8 pz0_9 pz0_10 pz0_11 pz0_12 pz0_13 pz0_14 pz0_18 pz0_19 pz0_22 pz0_23 pz0_29)), (z 1, aI V 3075 fz1), (z 15, aI V 900 fz15), (z 16, aI V 6 fz16), (z 24, aI V 10000 fz24), (z 25, aI V 40000 fz25), (z 28, aZ V 10000 fz28), (z 35, aJ V 90000 fz35), (z 37, aI V 4 fz37), (z 38, aI V 4 fz38), (z 39, aJ V 160 fz39)] 0 0 (QI V (fun (r : Int32) (w : va_W) => ∃ (v0 : Int32) (v1 : Int32) (g2 : Nat → Int32) (g3 : Nat → Int32) (g4 : Nat → Int32) (g5 : Nat → Int32) (g6 : Nat → Int32) (g7 : Nat → Int64), iv 0 10000 v1 ∧ (ivT tW g3) ∧ (∀ j, iv 0 9999 (g4 j)) ∧ (∀ j, iv (-1) 9999 (g5 j)) ∧ iv (-6) 3 r ∧ (RW fz1) ∧ w = [(z 0, .inr (10, mo z v0 pz0_5 pz0_6 pz0_7 pz0_8 pz0_9 pz0_10 pz0_11 pz0_12 pz0_13 pz0_14 pz0_18 pz0_19 pz0_22 pz0_23 v1)), (z 1, aI V 3075 fz1), (z 15, aI V 900 g2), (z 16, aI V 6 g3), (z 24, aI V 10000 g4), (z 25, aI V 40000 g5), (z 28, aZ V 10000 g6), (z 35, aJ V 90000 g7), (z 37, aI V 4 fz37), (z 38, aI V 4 fz38), (z 39, aJ V 160 fz39)])) := by
  refine Ct.of (by decide) (Nat.le_of_ble_eq_true rfl) (fun p e s m below meth c A ls hx hb hr hml hown hlk hnm hg hP hK hD hE hA hS hl => ?_)
  have hl : lv_has ls 8 [(0, .ref (z 0)), (1, .int a1), (2, .int a2), (3, .int a3)] := hl
  refine lv_aload_n hx hb dX10_highBy_0 rfl (lv_at hl 0 rfl) ?_
  refine lv_iconst (v := 0) hx hb dX10_highBy_1 (by decide) ?_
  refine va_put (ci := 10) (v := .int 0) (ty := .int) (C := RX10) (T := TX10) (N := 40) hx hb hg inX10 tyX10 tyX10_ok nmX10 hown hK hP hD hS 0 rfl rfl 0 (by decide) (hg _ q_5_224) (fun _ h9 => h9) rfl (by decide +kernel) rfl rfl (Nat.le_of_ble_eq_true rfl) dX10_highBy_2 (fun H locs hP hD hS => ?_)
  have hP : va_P V.1 vwCl [(z 0, .inr (10, mo z 0 pz0_5 pz0_6 pz0_7 pz0_8 pz0_9 pz0_10 pz0_11 pz0_12 pz0_13 pz0_14 pz0_18 pz0_19 pz0_22 pz0_23 pz0_29)), (z 1, aI V 3075 fz1), (z 15, aI V 900 fz15), (z 16, aI V 6 fz16), (z 24, aI V 10000 fz24), (z 25, aI V 40000 fz25), (z 28, aZ V 10000 fz28), (z 35, aJ V 90000 fz35), (z 37, aI V 4 fz37), (z 38, aI V 4 fz38), (z 39, aJ V 160 fz39)] H := hP
  have hD := cpD hP hD
  refine lv_aload_n hx hb dX10_highBy_5 rfl (lv_at hl 0 rfl) ?_
  refine lv_iload_n hx hb dX10_highBy_6 rfl (lv_at hl 1 rfl) ?_
  refine lv_iload_n hx hb dX10_highBy_7 rfl (lv_at hl 2 rfl) ?_
  refine lv_iconst (v := (-1)) hx hb dX10_highBy_8 (by decide) ?_
  refine jnI (wr := [(z 15, aI V 900 fz15), (z 16, aI V 6 fz16), (z 24, aI V 10000 fz24), (z 25, aI V 40000 fz25), (z 28, aZ V 10000 fz28), (z 35, aJ V 90000 fz35)]) (rnV (rest := []) ⟨hx, hb, hml, hown, hg⟩ (k_X10_noTold_0 l V z a1 a2 (-1) 0 pz0_5 pz0_6 pz0_7 pz0_8 pz0_9 pz0_10 pz0_11 pz0_12 pz0_13 pz0_14 pz0_18 pz0_19 pz0_22 pz0_23 pz0_29 fz1 fz37 fz38 fz39 bpz0_5 bpz0_6 bpz0_7 bpz0_8 bpz0_10 bpz0_11 bpz0_12 bpz0_13 bpz0_14 bpz0_18 bpz0_22 bpz0_29 tfz1 tfz37 tfz38) mt_X10_noTold q_8_51 ⟨Nat.le_of_ble_eq_true rfl, Nat.le_of_ble_eq_true rfl⟩ hK hP hD hS hA hE [0, 1, 8, 9, 10] rfl rfl 0 rfl rfl rfl rfl hl.1 rfl (Nat.le_of_ble_eq_true rfl) dX10_highBy_9 ⟨Nat.le_of_ble_eq_true rfl, Nat.le_of_ble_eq_true rfl⟩) hP hD hS hA [0, 1, 8, 9, 10] [2, 3, 4, 5, 6, 7] rfl rfl rfl (by decide) (fun r_1 w H locs hw hP hD hS => ?_)
  obtain ⟨br_1, g_2, g_3, g_4, rfl⟩ := hw
  have hP : va_P V.1 vwCl [(z 15, aI V 900 fz15), (z 16, aI V 6 fz16), (z 24, aI V 10000 fz24), (z 25, aI V 40000 fz25), (z 28, aZ V 10000 fz28), (z 35, aJ V 90000 fz35), (z 0, .inr (10, mo z 0 pz0_5 pz0_6 pz0_7 pz0_8 pz0_9 pz0_10 pz0_11 pz0_12 pz0_13 pz0_14 pz0_18 pz0_19 pz0_22 pz0_23 pz0_29)), (z 1, aI V 3075 fz1), (z 37, aI V 4 fz37), (z 38, aI V 4 fz38), (z 39, aJ V 160 fz39)] H := hP
  have hD := cpD hP hD
  refine lv_istore (lv' := [(4, .int r_1), (0, .ref (z 0)), (1, .int a1), (2, .int a2), (3, .int a3)]) hx hb dX10_highBy_12 hl (by decide) rfl (fun ls hl => ?_)
  refine lv_iload hx hb dX10_highBy_14 (lv_at hl 0 rfl) ?_
  refine lv_if_eq (tgt := 22) hx hb dX10_highBy_16 (by decide) (fun c_5 => ?_) (fun c_5 => ?_)
  · have b_6 : iv 0 0 r_1 := iv_q c_5 (iv_c (0 : Int32) (a := 0) (b := 0) (by decide))
    have b_7 : iv 0 3 a1 := iv_cap (g_3 (iv_eqp b_6 (iv_c (0 : Int32) (by decide)))) (iv_top a1) (by decide)
    have b_8 : iv 0 3 a2 := iv_cap (g_4 (iv_eqp b_6 (iv_c (0 : Int32) (by decide)))) (iv_top a2) (by decide)
    refine lv_iload_n hx hb dX10_highBy_22 rfl (lv_at hl 4 rfl) ?_
    refine lv_if_ge (tgt := 29) hx hb dX10_highBy_23 (by decide) (fun c_9 => ?_) (fun c_9 => ?_)
    · have b_10 : iv 0 2147483647 a3 := iv_e2 c_9 (iv_c (0 : Int32) (a := 0) (b := 0) (by decide)) (iv_top a3) (by decide)
      refine lv_aload_n hx hb dX10_highBy_29 rfl (lv_at hl 1 rfl) ?_
      refine lv_iload_n hx hb dX10_highBy_30 rfl (lv_at hl 2 rfl) ?_
      refine lv_iload_n hx hb dX10_highBy_31 rfl (lv_at hl 3 rfl) ?_
      refine jnL (wr := [(z 37, aI V 4 fz37)]) (rnV (rest := []) ⟨hx, hb, hml, hown, hg⟩ (k_X10_laysHigh_0 l V z a1 a2 fz15 fz16 fz24 fz25 fz28 fz35 0 pz0_5 pz0_6 pz0_7 pz0_8 pz0_9 pz0_10 pz0_11 pz0_12 pz0_13 pz0_14 pz0_18 pz0_19 pz0_22 pz0_23 pz0_29 fz1 fz38 fz39 b_7 b_8 tfz16 tfz24 tfz25 bpz0_5 bpz0_6 bpz0_7 bpz0_8 bpz0_10 bpz0_11 bpz0_12 bpz0_13 bpz0_14 bpz0_18 bpz0_22 bpz0_29 tfz1 tfz38 hf0 (g_2 (iv_eqp b_6 (iv_c (0 : Int32) (by decide))))) mt_X10_laysHigh q_8_56 ⟨Nat.le_of_ble_eq_true rfl, Nat.le_of_ble_eq_true rfl⟩ hK hP hD hS hA hE [0, 1, 2, 3, 4, 5, 6, 7, 9, 10] rfl rfl 6 rfl rfl rfl rfl hl.1 rfl (Nat.le_of_ble_eq_true rfl) dX10_highBy_32 ⟨Nat.le_of_ble_eq_true rfl, Nat.le_of_ble_eq_true rfl⟩) hP hD hS hA [0, 1, 2, 3, 4, 5, 6, 7, 9, 10] [8] rfl rfl rfl (by decide) (fun r_11 w H locs hw hP hD hS => ?_)
      obtain ⟨f_12, f_13, f_14, f_15, f_16, f_17, v_18, tf_13, tf_14, tf_15, bv_18, g_19, g_20, g_21, g_22, g_23, rfl⟩ := hw
      have hP : va_P V.1 vwCl [(z 37, aI V 4 fz37), (z 15, aI V 900 f_12), (z 16, aI V 6 f_13), (z 24, aI V 10000 f_14), (z 25, aI V 40000 f_15), (z 28, aZ V 10000 f_16), (z 35, aJ V 90000 f_17), (z 0, .inr (10, mo z 0 pz0_5 pz0_6 pz0_7 pz0_8 pz0_9 pz0_10 pz0_11 pz0_12 pz0_13 pz0_14 pz0_18 pz0_19 pz0_22 pz0_23 v_18)), (z 1, aI V 3075 fz1), (z 38, aI V 4 fz38), (z 39, aJ V 160 fz39)] H := hP
      have hD := cpD hP hD
      refine lv_lconst (v := 0) hx hb dX10_highBy_35 (by decide) ?_
      refine W.lcmp hx hb dX10_highBy_36 ?_
      refine lv_if_eq (tgt := 50) hx hb dX10_highBy_37 (by decide) (fun c_24 => ?_) (fun c_24 => ?_)
      · replace c_24 : r_11 = (0 : Int64) := (lg_cmp_eq _ _).mp c_24
        have b_25 : ivL 0 0 r_11 := ivL_q c_24 (ivL_c (0 : Int64) (a := 0) (b := 0) (by decide))
        refine lv_iconst (v := (-1)) hx hb dX10_highBy_50 (by decide) ?_
        have hP := subP (ws' := [(z 0, .inr (10, mo z 0 pz0_5 pz0_6 pz0_7 pz0_8 pz0_9 pz0_10 pz0_11 pz0_12 pz0_13 pz0_14 pz0_18 pz0_19 pz0_22 pz0_23 v_18)), (z 1, aI V 3075 fz1), (z 15, aI V 900 f_12), (z 16, aI V 6 f_13), (z 24, aI V 10000 f_14), (z 25, aI V 40000 f_15), (z 28, aZ V 10000 f_16), (z 35, aJ V 90000 f_17), (z 37, aI V 4 fz37), (z 38, aI V 4 fz38), (z 39, aJ V 160 fz39)]) hP [7, 8, 1, 2, 3, 4, 5, 6, 0, 9, 10] rfl
        have hD := subD hP hD [7, 8, 1, 2, 3, 4, 5, 6, 0, 9, 10] rfl rfl
        exact fiI hx hb hr hlk hK hP hD hS dX10_highBy_51 (Nat.le_of_ble_eq_true rfl) (Nat.le_of_ble_eq_true rfl) (⟨0, v_18, f_12, f_13, f_14, f_15, f_16, f_17, bv_18, tf_13, tf_14, tf_15, (iv_c ((-1) : Int32) (by decide)), g_19, rfl⟩)
      · replace c_24 : ¬ r_11 = (0 : Int64) := fun z => c_24 ((lg_cmp_eq _ _).mpr z)
        refine lv_iload_n hx hb dX10_highBy_40 rfl (lv_at hl 4 rfl) ?_
        refine lv_aload_n hx hb dX10_highBy_41 rfl (lv_at hl 1 rfl) ?_
        refine va_get (ci := 10) (v := .ref (z 38)) (C := RX10) (T := TX10) (N := 40) hx hb hg inX10 hown hK hP 7 rfl rfl 38 (by decide) (hg _ q_6_22) (fun _ h9 => h9) rfl dX10_highBy_42 ?_
        refine lv_iload_n hx hb dX10_highBy_45 rfl (lv_at hl 2 rfl) ?_
        refine va_iald hx hb hK hP 9 0 rfl rfl (iv_in b_7 (by decide)) dX10_highBy_46 ?_
        refine lv_topi (fun x_26 ex_26 => ?_)
        have bx_26 : iv 0 40 x_26 := by rw [ex_26]; exact tfz38 _
        have b_27 : iv 1 8 x_26 := by rw [ex_26]; exact (g_2 (iv_eqp b_6 (iv_c (0 : Int32) (by decide))))
        refine lv_icmp_lt (tgt := 52) hx hb dX10_highBy_47 (by decide) (fun c_28 => ?_) (fun c_28 => ?_)
        · have b_29 : iv 0 7 a3 := iv_l1 c_28 b_10 b_27 (by decide)
          refine lv_aload_n hx hb dX10_highBy_52 rfl (lv_at hl 1 rfl) ?_
          refine jnI (wr := [(z 37, aI V 4 fz37), (z 15, aI V 900 f_12), (z 16, aI V 6 f_13), (z 24, aI V 10000 f_14), (z 25, aI V 40000 f_15), (z 28, aZ V 10000 f_16), (z 35, aJ V 90000 f_17), (z 38, aI V 4 fz38), (z 39, aJ V 160 fz39)]) (rnV (rest := []) ⟨hx, hb, hml, hown, hg⟩ (k_X10_standNow_0 l V z 0 pz0_5 pz0_6 pz0_7 pz0_8 pz0_9 pz0_10 pz0_11 pz0_12 pz0_13 pz0_14 pz0_18 pz0_19 pz0_22 pz0_23 v_18 fz1 bpz0_5 bpz0_6 bpz0_7 bpz0_8 bpz0_10 bpz0_11 bpz0_12 bpz0_13 bpz0_14 bpz0_18 bpz0_22 bv_18 tfz1) mt_X10_standNow q_7_11 ⟨Nat.le_of_ble_eq_true rfl, Nat.le_of_ble_eq_true rfl⟩ hK hP hD hS hA hE [7, 8] rfl rfl 7 rfl rfl rfl rfl hl.1 rfl (Nat.le_of_ble_eq_true rfl) dX10_highBy_53 ⟨Nat.le_of_ble_eq_true rfl, Nat.le_of_ble_eq_true rfl⟩) hP hD hS hA [7, 8] [0, 1, 2, 3, 4, 5, 6, 9, 10] rfl rfl rfl (by decide) (fun r_30 w H locs hw hP hD hS => ?_)
          obtain ⟨br_30, er_30, et_31, rfl⟩ := hw
          have hP : va_P V.1 vwCl [(z 37, aI V 4 fz37), (z 15, aI V 900 f_12), (z 16, aI V 6 f_13), (z 24, aI V 10000 f_14), (z 25, aI V 40000 f_15), (z 28, aZ V 10000 f_16), (z 35, aJ V 90000 f_17), (z 38, aI V 4 fz38), (z 39, aJ V 160 fz39), (z 0, .inr (10, mo z 0 pz0_5 pz0_6 pz0_7 pz0_8 pz0_9 pz0_10 pz0_11 pz0_12 pz0_13 pz0_14 pz0_18 pz0_19 pz0_22 pz0_23 v_18)), (z 1, aI V 3075 fz1)] H := hP
          have hD := cpD hP hD
          refine lv_istore (lv' := [(5, .int r_30), (4, .int r_1), (0, .ref (z 0)), (1, .int a1), (2, .int a2), (3, .int a3)]) hx hb dX10_highBy_56 hl (by decide) rfl (fun ls hl => ?_)
          refine lv_iconst (v := 0) hx hb dX10_highBy_58 (by decide) ?_
          refine lv_istore (lv' := [(6, .int 0), (5, .int r_30), (4, .int r_1), (0, .ref (z 0)), (1, .int a1), (2, .int a2), (3, .int a3)]) hx hb dX10_highBy_59 hl (by decide) rfl (fun ls hl => ?_)
          refine loopF (X := fun (n_34 : Nat) (H : Heap) (locs : List Loc) (ls : Array Slot) => ∃ (u_32 : Int32) (u_33 : Int32), (iv 0 7 u_32) ∧ (iv 0 9999 u_33) ∧ (inS v_18 f_14 (u_33 : Int32).toNatClampNeg) ∧ (f_17 (10000 * (u_32).toNatClampNeg + (u_33 : Int32).toNatClampNeg) ≠ 0) ∧ ((u_32).toInt ≤ (a3 : Int32).toInt) ∧ (RW fz1) ∧ n_34 = (2147483647 - (u_32 : Int32).toInt).toNat ∧ va_P V.1 vwCl [(z 37, aI V 4 fz37), (z 15, aI V 900 f_12), (z 16, aI V 6 f_13), (z 24, aI V 10000 f_14), (z 25, aI V 40000 f_15), (z 28, aZ V 10000 f_16), (z 35, aJ V 90000 f_17), (z 38, aI V 4 fz38), (z 39, aJ V 160 fz39), (z 0, .inr (10, mo z 0 pz0_5 pz0_6 pz0_7 pz0_8 pz0_9 pz0_10 pz0_11 pz0_12 pz0_13 pz0_14 pz0_18 pz0_19 pz0_22 pz0_23 v_18)), (z 1, aI V 3075 fz1)] H ∧ va_D A [(z 37, aI V 4 fz37), (z 15, aI V 900 f_12), (z 16, aI V 6 f_13), (z 24, aI V 10000 f_14), (z 25, aI V 40000 f_15), (z 28, aZ V 10000 f_16), (z 35, aJ V 90000 f_17), (z 38, aI V 4 fz38), (z 39, aJ V 160 fz39), (z 0, .inr (10, mo z 0 pz0_5 pz0_6 pz0_7 pz0_8 pz0_9 pz0_10 pz0_11 pz0_12 pz0_13 pz0_14 pz0_18 pz0_19 pz0_22 pz0_23 v_18)), (z 1, aI V 3075 fz1)] ∧ va_S A s.heap H locs ∧ lv_has ls 8 [(6, .int u_32), (5, .int u_33), (4, .int r_1), (0, .ref (z 0)), (1, .int a1), (2, .int a2), (3, .int a3)]) (g := fun ls => F0 m 61 ls []) (fun n_34 H locs ls hX ihn_34 => ?_) _ ⟨0, r_30, (iv_c (0 : Int32) (by decide)), br_30, (by rw [er_30]; exact g_21), (by rw [er_30, (by decide : 10000 * (0 : Int32).toNatClampNeg = 0), Nat.zero_add, ← g_23]; exact c_24), (by have q9 := b_29; have z9 : (0 : Int32).toInt = 0 := (by decide); unfold iv at q9; omega), g_19, rfl, hP, hD, hS, lv_sub hl [0, 1, 2, 3, 4, 5, 6] rfl⟩
          obtain ⟨u_32, u_33, bu_32, bu_33, inn_34_0, inn_34_1, inn_34_2, inn_34_3, en_34, hP, hD, hS, hl⟩ := hX
          refine lv_iconst (v := 0) hx hb dX10_highBy_61 (by decide) ?_
          refine lv_istore (lv' := [(7, .int 0), (6, .int u_32), (5, .int u_33), (4, .int r_1), (0, .ref (z 0)), (1, .int a1), (2, .int a2), (3, .int a3)]) hx hb dX10_highBy_62 hl (by decide) rfl (fun ls hl => ?_)
          refine loopF (X := fun (n_36 : Nat) (H : Heap) (locs : List Loc) (ls : Array Slot) => ∃ (u_35 : Int32), (iv 0 3 u_35) ∧ (WH f_17 fz39 f_15 a1 a2 u_32 u_35 (u_33 : Int32).toNatClampNeg) ∧ (RW fz1) ∧ n_36 = (2147483647 - (u_35 : Int32).toInt).toNat ∧ va_P V.1 vwCl [(z 37, aI V 4 fz37), (z 15, aI V 900 f_12), (z 16, aI V 6 f_13), (z 24, aI V 10000 f_14), (z 25, aI V 40000 f_15), (z 28, aZ V 10000 f_16), (z 35, aJ V 90000 f_17), (z 38, aI V 4 fz38), (z 39, aJ V 160 fz39), (z 0, .inr (10, mo z 0 pz0_5 pz0_6 pz0_7 pz0_8 pz0_9 pz0_10 pz0_11 pz0_12 pz0_13 pz0_14 pz0_18 pz0_19 pz0_22 pz0_23 v_18)), (z 1, aI V 3075 fz1)] H ∧ va_D A [(z 37, aI V 4 fz37), (z 15, aI V 900 f_12), (z 16, aI V 6 f_13), (z 24, aI V 10000 f_14), (z 25, aI V 40000 f_15), (z 28, aZ V 10000 f_16), (z 35, aJ V 90000 f_17), (z 38, aI V 4 fz38), (z 39, aJ V 160 fz39), (z 0, .inr (10, mo z 0 pz0_5 pz0_6 pz0_7 pz0_8 pz0_9 pz0_10 pz0_11 pz0_12 pz0_13 pz0_14 pz0_18 pz0_19 pz0_22 pz0_23 v_18)), (z 1, aI V 3075 fz1)] ∧ va_S A s.heap H locs ∧ lv_has ls 8 [(7, .int u_35), (6, .int u_32), (5, .int u_33), (4, .int r_1), (0, .ref (z 0)), (1, .int a1), (2, .int a2), (3, .int a3)]) (g := fun ls => F0 m 64 ls []) (fun n_36 H locs ls hX ihn_36 => ?_) _ ⟨0, (iv_c (0 : Int32) (by decide)), (WH_0 g_22 (by have q9 := bu_32; unfold iv at q9; omega) (by have q9 := inn_34_2; have q8 := Int32.lt_iff_toInt_lt.mp c_28; rw [← ex_26]; omega) inn_34_0 inn_34_1), inn_34_3, rfl, hP, hD, hS, lv_sub hl [0, 1, 2, 3, 4, 5, 6, 7] rfl⟩
          obtain ⟨u_35, bu_35, inn_36_0, inn_36_1, en_36, hP, hD, hS, hl⟩ := hX
          refine lv_aload_n hx hb dX10_highBy_64 rfl (lv_at hl 4 rfl) ?_
          refine lv_iload_n hx hb dX10_highBy_65 rfl (lv_at hl 5 rfl) ?_
          refine lv_iload_n hx hb dX10_highBy_66 rfl (lv_at hl 6 rfl) ?_
          refine lv_iload hx hb dX10_highBy_67 (lv_at hl 1 rfl) ?_
          refine lv_aload_n hx hb dX10_highBy_69 rfl (lv_at hl 4 rfl) ?_
          refine va_get (ci := 10) (v := .ref (z 25)) (C := RX10) (T := TX10) (N := 40) hx hb hg inX10 hown hK hP 9 rfl rfl 25 (by decide) (hg _ q_6_9) (fun _ h9 => h9) rfl dX10_highBy_70 ?_
          refine lv_iconst (v := 4) hx hb dX10_highBy_73 (by decide) ?_
          refine lv_iload hx hb dX10_highBy_74 (lv_at hl 2 rfl) ?_
          refine lv_imul hx hb dX10_highBy_76 ?_
          refine lv_topi (fun x_37 ex_37 => ?_)
          have bx_37 : iv 0 39996 x_37 := by rw [ex_37]; exact iv_cmul (iv_c (4 : Int32) (a := 4) (b := 4) (by decide)) bu_33 (by decide)
          refine lv_iload hx hb dX10_highBy_77 (lv_at hl 0 rfl) ?_
          refine lv_iadd hx hb dX10_highBy_79 ?_
          refine lv_topi (fun x_38 ex_38 => ?_)
          have bx_38 : iv 0 39999 x_38 := by rw [ex_38]; exact iv_add bx_37 bu_35 (by decide)
          refine va_iald hx hb hK hP 4 0 rfl rfl (iv_in bx_38 (by decide)) dX10_highBy_80 ?_
          refine lv_topi (fun x_39 ex_39 => ?_)
          have bx_39 : iv (-1) 9999 x_39 := by rw [ex_39]; exact tf_15 _
          refine jnI (wr := [(z 37, aI V 4 fz37), (z 15, aI V 900 f_12), (z 16, aI V 6 f_13), (z 24, aI V 10000 f_14), (z 25, aI V 40000 f_15), (z 28, aZ V 10000 f_16), (z 35, aJ V 90000 f_17), (z 38, aI V 4 fz38), (z 1, aI V 3075 fz1)]) (rnV (rest := []) ⟨hx, hb, hml, hown, hg⟩ (k_X10_isSo_0 l V z a1 a2 u_32 x_39 fz39 0 pz0_5 pz0_6 pz0_7 pz0_8 pz0_9 pz0_10 pz0_11 pz0_12 pz0_13 pz0_14 pz0_18 pz0_19 pz0_22 pz0_23 v_18 b_7 b_8 (iv_w bu_32 (by decide)) bx_39 bpz0_5 bpz0_6 bpz0_7 bpz0_8 bpz0_10 bpz0_11 bpz0_12 bpz0_13 bpz0_14 bpz0_18 bpz0_22 bv_18) mt_X10_isSo q_8_60 ⟨Nat.le_of_ble_eq_true rfl, Nat.le_of_ble_eq_true rfl⟩ hK hP hD hS hA hE [8, 9] rfl rfl 9 rfl rfl rfl rfl hl.1 rfl (Nat.le_of_ble_eq_true rfl) dX10_highBy_81 ⟨Nat.le_of_ble_eq_true rfl, Nat.le_of_ble_eq_true rfl⟩) hP hD hS hA [8, 9] [0, 1, 2, 3, 4, 5, 6, 7, 10] rfl rfl rfl (by decide) (fun r_40 w H locs hw hP hD hS => ?_)
          obtain ⟨br_40, er_40, g_41, rfl⟩ := hw
          have hP : va_P V.1 vwCl [(z 37, aI V 4 fz37), (z 15, aI V 900 f_12), (z 16, aI V 6 f_13), (z 24, aI V 10000 f_14), (z 25, aI V 40000 f_15), (z 28, aZ V 10000 f_16), (z 35, aJ V 90000 f_17), (z 38, aI V 4 fz38), (z 1, aI V 3075 fz1), (z 39, aJ V 160 fz39), (z 0, .inr (10, mo z 0 pz0_5 pz0_6 pz0_7 pz0_8 pz0_9 pz0_10 pz0_11 pz0_12 pz0_13 pz0_14 pz0_18 pz0_19 pz0_22 pz0_23 v_18))] H := hP
          have hD := cpD hP hD
          refine lv_if_eq (tgt := 118) hx hb dX10_highBy_84 (by decide) (fun c_42 => ?_) (fun c_42 => ?_)
          · have b_43 : iv 0 0 r_40 := iv_q c_42 (iv_c (0 : Int32) (a := 0) (b := 0) (by decide))
            have b_44 : iv 0 2 u_35 := WH_b inn_36_0 bu_35 (by decide) (nCD_a bu_33 bu_35 (by decide) ex_37 ex_38 ex_39 er_40 b_43)
            obtain ⟨x_45, ex_45⟩ : ∃ z9 : Int32, z9 = u_35 + 1 := ⟨_, rfl⟩
            have bx_45 : iv 1 3 x_45 := by rw [ex_45]; exact iv_add b_44 (iv_c (1 : Int32) (a := 1) (b := 1) (by decide)) (by decide)
            refine lv_iinc (v := x_45) (lv' := [(7, .int x_45), (6, .int u_32), (5, .int u_33), (4, .int r_1), (0, .ref (z 0)), (1, .int a1), (2, .int a2), (3, .int a3)]) hx hb dX10_highBy_118 hl (k := 0) rfl (by rw [ex_45]; rfl) (by decide) rfl (fun ls hl => ?_)
            refine lv_goto (tgt := 64) hx hb dX10_highBy_121 (by decide) ?_
            have hP := subP (ws' := [(z 37, aI V 4 fz37), (z 15, aI V 900 f_12), (z 16, aI V 6 f_13), (z 24, aI V 10000 f_14), (z 25, aI V 40000 f_15), (z 28, aZ V 10000 f_16), (z 35, aJ V 90000 f_17), (z 38, aI V 4 fz38), (z 39, aJ V 160 fz39), (z 0, .inr (10, mo z 0 pz0_5 pz0_6 pz0_7 pz0_8 pz0_9 pz0_10 pz0_11 pz0_12 pz0_13 pz0_14 pz0_18 pz0_19 pz0_22 pz0_23 v_18)), (z 1, aI V 3075 fz1)]) hP [0, 1, 2, 3, 4, 5, 6, 7, 9, 10, 8] rfl
            have hD := subD hP hD [0, 1, 2, 3, 4, 5, 6, 7, 9, 10, 8] rfl rfl
            exact ihn_36 _ _ _ _ (by rw [en_36, ex_45]; exact mu_up b_44 (by decide)) ⟨x_45, (iv_w bx_45 (by decide)), (WH_s inn_36_0 b_44 (by decide) ex_45 (nCD_a bu_33 b_44 (by decide) ex_37 ex_38 ex_39 er_40 b_43)), inn_36_1, rfl, hP, hD, hS, lv_sub hl [0, 1, 2, 3, 4, 5, 6, 7] rfl⟩
          · have b_46 : iv 1 1 r_40 := iv_n0 c_42 br_40 (iv_c (0 : Int32) (a := 0) (b := 0) (by decide)) (by decide)
            have b_47 : iv 0 9999 x_39 := iv_cap (g_41 (iv_eqp b_46 (iv_c (1 : Int32) (by decide)))) bx_39 (by decide)
            refine lv_aload_n hx hb dX10_highBy_87 rfl (lv_at hl 4 rfl) ?_
            refine va_get (ci := 10) (v := .ref (z 35)) (C := RX10) (T := TX10) (N := 40) hx hb hg inX10 hown hK hP 10 rfl rfl 35 (by decide) (hg _ q_6_19) (fun _ h9 => h9) rfl dX10_highBy_88 ?_
            refine lv_sipush (v := 10000) hx hb dX10_highBy_91 (by decide) ?_
            refine lv_iload hx hb dX10_highBy_94 (lv_at hl 1 rfl) ?_
            refine lv_iconst (v := 1) hx hb dX10_highBy_96 (by decide) ?_
            refine lv_iadd hx hb dX10_highBy_97 ?_
            refine lv_topi (fun x_48 ex_48 => ?_)
            have bx_48 : iv 1 8 x_48 := by rw [ex_48]; exact iv_add bu_32 (iv_c (1 : Int32) (a := 1) (b := 1) (by decide)) (by decide)
            refine lv_imul hx hb dX10_highBy_98 ?_
            refine lv_topi (fun x_49 ex_49 => ?_)
            have bx_49 : iv 10000 80000 x_49 := by rw [ex_49]; exact iv_cmul (iv_c (10000 : Int32) (a := 10000) (b := 10000) (by decide)) bx_48 (by decide)
            refine lv_aload_n hx hb dX10_highBy_99 rfl (lv_at hl 4 rfl) ?_
            refine va_get (ci := 10) (v := .ref (z 25)) (C := RX10) (T := TX10) (N := 40) hx hb hg inX10 hown hK hP 10 rfl rfl 25 (by decide) (hg _ q_6_9) (fun _ h9 => h9) rfl dX10_highBy_100 ?_
            refine lv_iconst (v := 4) hx hb dX10_highBy_103 (by decide) ?_
            refine lv_iload hx hb dX10_highBy_104 (lv_at hl 2 rfl) ?_
            refine lv_imul hx hb dX10_highBy_106 ?_
            refine tpi (y := x_37) ex_37.symm ?_
            refine lv_iload hx hb dX10_highBy_107 (lv_at hl 0 rfl) ?_
            refine lv_iadd hx hb dX10_highBy_109 ?_
            refine tpi (y := x_38) ex_38.symm ?_
            refine va_iald hx hb hK hP 4 0 rfl rfl (iv_in bx_38 (by decide)) dX10_highBy_110 ?_
            refine tpi (y := x_39) ex_39.symm ?_
            refine lv_iadd hx hb dX10_highBy_111 ?_
            refine lv_topi (fun x_50 ex_50 => ?_)
            have bx_50 : iv 10000 89999 x_50 := by rw [ex_50]; exact iv_add bx_49 b_47 (by decide)
            refine va_lald hx hb hK hP 6 2 rfl rfl (iv_in bx_50 (by decide)) dX10_highBy_112 ?_
            refine lv_topl (fun j_51 ej_51 => ?_)
            refine lv_lconst (v := 0) hx hb dX10_highBy_113 (by decide) ?_
            refine W.lcmp hx hb dX10_highBy_114 ?_
            refine lv_if_ne (tgt := 124) hx hb dX10_highBy_115 (by decide) (fun c_52 => ?_) (fun c_52 => ?_)
            · replace c_52 : ¬ j_51 = (0 : Int64) := fun z => c_52 ((lg_cmp_eq _ _).mpr z)
              refine lv_iload hx hb dX10_highBy_124 (lv_at hl 1 rfl) ?_
              refine lv_iload_n hx hb dX10_highBy_126 rfl (lv_at hl 7 rfl) ?_
              refine lv_icmp_ne (tgt := 133) hx hb dX10_highBy_127 (by decide) (fun c_53 => ?_) (fun c_53 => ?_)
              · have b_54 : iv 0 6 u_32 := by have q9 := inn_34_2; have q8 := ne_toInt c_53; have q7 := b_29; have q6 := bu_32; unfold iv at *; omega
                refine lv_aload_n hx hb dX10_highBy_133 rfl (lv_at hl 4 rfl) ?_
                refine va_get (ci := 10) (v := .ref (z 25)) (C := RX10) (T := TX10) (N := 40) hx hb hg inX10 hown hK hP 10 rfl rfl 25 (by decide) (hg _ q_6_9) (fun _ h9 => h9) rfl dX10_highBy_134 ?_
                refine lv_iconst (v := 4) hx hb dX10_highBy_137 (by decide) ?_
                refine lv_iload hx hb dX10_highBy_138 (lv_at hl 2 rfl) ?_
                refine lv_imul hx hb dX10_highBy_140 ?_
                refine tpi (y := x_37) ex_37.symm ?_
                refine lv_iload hx hb dX10_highBy_141 (lv_at hl 0 rfl) ?_
                refine lv_iadd hx hb dX10_highBy_143 ?_
                refine tpi (y := x_38) ex_38.symm ?_
                refine va_iald hx hb hK hP 4 0 rfl rfl (iv_in bx_38 (by decide)) dX10_highBy_144 ?_
                refine tpi (y := x_39) ex_39.symm ?_
                refine lv_istore (lv' := [(5, .int x_39), (7, .int u_35), (6, .int u_32), (4, .int r_1), (0, .ref (z 0)), (1, .int a1), (2, .int a2), (3, .int a3)]) hx hb dX10_highBy_145 hl (by decide) rfl (fun ls hl => ?_)
                obtain ⟨x_55, ex_55⟩ : ∃ z9 : Int32, z9 = u_32 + 1 := ⟨_, rfl⟩
                have bx_55 : iv 1 7 x_55 := by rw [ex_55]; exact iv_add b_54 (iv_c (1 : Int32) (a := 1) (b := 1) (by decide)) (by decide)
                refine lv_iinc (v := x_55) (lv' := [(6, .int x_55), (5, .int x_39), (7, .int u_35), (4, .int r_1), (0, .ref (z 0)), (1, .int a1), (2, .int a2), (3, .int a3)]) hx hb dX10_highBy_147 hl (k := 2) rfl (by rw [ex_55]; rfl) (by decide) rfl (fun ls hl => ?_)
                refine lv_goto (tgt := 61) hx hb dX10_highBy_150 (by decide) ?_
                have hP := subP (ws' := [(z 37, aI V 4 fz37), (z 15, aI V 900 f_12), (z 16, aI V 6 f_13), (z 24, aI V 10000 f_14), (z 25, aI V 40000 f_15), (z 28, aZ V 10000 f_16), (z 35, aJ V 90000 f_17), (z 38, aI V 4 fz38), (z 39, aJ V 160 fz39), (z 0, .inr (10, mo z 0 pz0_5 pz0_6 pz0_7 pz0_8 pz0_9 pz0_10 pz0_11 pz0_12 pz0_13 pz0_14 pz0_18 pz0_19 pz0_22 pz0_23 v_18)), (z 1, aI V 3075 fz1)]) hP [0, 1, 2, 3, 4, 5, 6, 7, 9, 10, 8] rfl
                have hD := subD hP hD [0, 1, 2, 3, 4, 5, 6, 7, 9, 10, 8] rfl rfl
                exact ihn_34 _ _ _ _ (by rw [en_34, ex_55]; exact mu_up b_54 (by decide)) ⟨x_55, x_39, (iv_w bx_55 (by decide)), b_47, (hb_to g_20 inn_34_0 bu_33 bu_35 (by decide) ex_37 ex_38 ex_39 (by have q9 := b_47; unfold iv at q9; omega)), (by rw [show (x_55).toNatClampNeg = (u_32).toNatClampNeg + 1 from (by have q8 := (inc_toInt ex_55 b_54 (by decide)); have q7 := clampNat (x := u_32) (by have q9 := b_54; unfold iv at q9; omega); have q6 := clampNat (x := x_55) (by have q9 := bx_55; unfold iv at q9; omega); omega), ← CDix (iv_w b_54 (by decide)) b_47 ex_48 ex_49 ex_50 ej_51]; exact c_52), (by have q9 := inn_34_2; have q8 := (inc_toInt ex_55 b_54 (by decide)); have q7 := ne_toInt c_53; omega), inn_36_1, rfl, hP, hD, hS, lv_sub hl [0, 1, 3, 4, 5, 6, 7] rfl⟩
              · refine lv_iload hx hb dX10_highBy_130 (lv_at hl 0 rfl) ?_
                have hP := subP (ws' := [(z 0, .inr (10, mo z 0 pz0_5 pz0_6 pz0_7 pz0_8 pz0_9 pz0_10 pz0_11 pz0_12 pz0_13 pz0_14 pz0_18 pz0_19 pz0_22 pz0_23 v_18)), (z 1, aI V 3075 fz1), (z 15, aI V 900 f_12), (z 16, aI V 6 f_13), (z 24, aI V 10000 f_14), (z 25, aI V 40000 f_15), (z 28, aZ V 10000 f_16), (z 35, aJ V 90000 f_17), (z 37, aI V 4 fz37), (z 38, aI V 4 fz38), (z 39, aJ V 160 fz39)]) hP [10, 8, 1, 2, 3, 4, 5, 6, 0, 7, 9] rfl
                have hD := subD hP hD [10, 8, 1, 2, 3, 4, 5, 6, 0, 7, 9] rfl rfl
                exact fiI hx hb hr hlk hK hP hD hS dX10_highBy_132 (Nat.le_of_ble_eq_true rfl) (Nat.le_of_ble_eq_true rfl) (⟨0, v_18, f_12, f_13, f_14, f_15, f_16, f_17, bv_18, tf_13, tf_14, tf_15, (iv_w bu_35 (by decide)), inn_36_1, rfl⟩)
            · replace c_52 : j_51 = (0 : Int64) := (lg_cmp_eq _ _).mp c_52
              have b_56 : ivL 0 0 j_51 := ivL_q c_52 (ivL_c (0 : Int64) (a := 0) (b := 0) (by decide))
              have b_57 : iv 0 2 u_35 := WH_b inn_36_0 bu_35 (by decide) (nCD_b bu_33 bu_35 (by decide) ex_37 ex_38 ex_39 (iv_w bu_32 (by decide)) b_47 ex_48 ex_49 ex_50 ej_51 c_52)
              obtain ⟨x_58, ex_58⟩ : ∃ z9 : Int32, z9 = u_35 + 1 := ⟨_, rfl⟩
              have bx_58 : iv 1 3 x_58 := by rw [ex_58]; exact iv_add b_57 (iv_c (1 : Int32) (a := 1) (b := 1) (by decide)) (by decide)
              refine lv_iinc (v := x_58) (lv' := [(7, .int x_58), (6, .int u_32), (5, .int u_33), (4, .int r_1), (0, .ref (z 0)), (1, .int a1), (2, .int a2), (3, .int a3)]) hx hb dX10_highBy_118 hl (k := 0) rfl (by rw [ex_58]; rfl) (by decide) rfl (fun ls hl => ?_)
              refine lv_goto (tgt := 64) hx hb dX10_highBy_121 (by decide) ?_
              have hP := subP (ws' := [(z 37, aI V 4 fz37), (z 15, aI V 900 f_12), (z 16, aI V 6 f_13), (z 24, aI V 10000 f_14), (z 25, aI V 40000 f_15), (z 28, aZ V 10000 f_16), (z 35, aJ V 90000 f_17), (z 38, aI V 4 fz38), (z 39, aJ V 160 fz39), (z 0, .inr (10, mo z 0 pz0_5 pz0_6 pz0_7 pz0_8 pz0_9 pz0_10 pz0_11 pz0_12 pz0_13 pz0_14 pz0_18 pz0_19 pz0_22 pz0_23 v_18)), (z 1, aI V 3075 fz1)]) hP [0, 1, 2, 3, 4, 5, 6, 7, 9, 10, 8] rfl
              have hD := subD hP hD [0, 1, 2, 3, 4, 5, 6, 7, 9, 10, 8] rfl rfl
              exact ihn_36 _ _ _ _ (by rw [en_36, ex_58]; exact mu_up b_57 (by decide)) ⟨x_58, (iv_w bx_58 (by decide)), (WH_s inn_36_0 b_57 (by decide) ex_58 (nCD_b bu_33 b_57 (by decide) ex_37 ex_38 ex_39 (iv_w bu_32 (by decide)) b_47 ex_48 ex_49 ex_50 ej_51 c_52)), inn_36_1, rfl, hP, hD, hS, lv_sub hl [0, 1, 2, 3, 4, 5, 6, 7] rfl⟩
        · have b_59 : iv 1 2147483647 a3 := iv_e2 (Int32.not_lt.mp c_28) b_27 b_10 (by decide)
          refine lv_iconst (v := (-1)) hx hb dX10_highBy_50 (by decide) ?_
          have hP := subP (ws' := [(z 0, .inr (10, mo z 0 pz0_5 pz0_6 pz0_7 pz0_8 pz0_9 pz0_10 pz0_11 pz0_12 pz0_13 pz0_14 pz0_18 pz0_19 pz0_22 pz0_23 v_18)), (z 1, aI V 3075 fz1), (z 15, aI V 900 f_12), (z 16, aI V 6 f_13), (z 24, aI V 10000 f_14), (z 25, aI V 40000 f_15), (z 28, aZ V 10000 f_16), (z 35, aJ V 90000 f_17), (z 37, aI V 4 fz37), (z 38, aI V 4 fz38), (z 39, aJ V 160 fz39)]) hP [7, 8, 1, 2, 3, 4, 5, 6, 0, 9, 10] rfl
          have hD := subD hP hD [7, 8, 1, 2, 3, 4, 5, 6, 0, 9, 10] rfl rfl
          exact fiI hx hb hr hlk hK hP hD hS dX10_highBy_51 (Nat.le_of_ble_eq_true rfl) (Nat.le_of_ble_eq_true rfl) (⟨0, v_18, f_12, f_13, f_14, f_15, f_16, f_17, bv_18, tf_13, tf_14, tf_15, (iv_c ((-1) : Int32) (by decide)), g_19, rfl⟩)
    · have b_60 : iv (-2147483648) (-1) a3 := iv_l1 (Int32.not_le.mp c_9) (iv_top a3) (iv_c (0 : Int32) (a := 0) (b := 0) (by decide)) (by decide)
      refine lv_bipush (v := (-3)) hx hb dX10_highBy_26 (by decide) ?_
      have hP := subP (ws' := [(z 0, .inr (10, mo z 0 pz0_5 pz0_6 pz0_7 pz0_8 pz0_9 pz0_10 pz0_11 pz0_12 pz0_13 pz0_14 pz0_18 pz0_19 pz0_22 pz0_23 pz0_29)), (z 1, aI V 3075 fz1), (z 15, aI V 900 fz15), (z 16, aI V 6 fz16), (z 24, aI V 10000 fz24), (z 25, aI V 40000 fz25), (z 28, aZ V 10000 fz28), (z 35, aJ V 90000 fz35), (z 37, aI V 4 fz37), (z 38, aI V 4 fz38), (z 39, aJ V 160 fz39)]) hP [6, 7, 0, 1, 2, 3, 4, 5, 8, 9, 10] rfl
      have hD := subD hP hD [6, 7, 0, 1, 2, 3, 4, 5, 8, 9, 10] rfl rfl
      exact fiI hx hb hr hlk hK hP hD hS dX10_highBy_28 (Nat.le_of_ble_eq_true rfl) (Nat.le_of_ble_eq_true rfl) (⟨0, pz0_29, fz15, fz16, fz24, fz25, fz28, fz35, bpz0_29, tfz16, tfz24, tfz25, (iv_c ((-3) : Int32) (by decide)), hf0, rfl⟩)
  · have b_61 : iv (-6) (-1) r_1 := iv_n1 c_5 br_1 (iv_c (0 : Int32) (a := 0) (b := 0) (by decide)) (by decide)
    refine lv_iload hx hb dX10_highBy_19 (lv_at hl 0 rfl) ?_
    have hP := subP (ws' := [(z 0, .inr (10, mo z 0 pz0_5 pz0_6 pz0_7 pz0_8 pz0_9 pz0_10 pz0_11 pz0_12 pz0_13 pz0_14 pz0_18 pz0_19 pz0_22 pz0_23 pz0_29)), (z 1, aI V 3075 fz1), (z 15, aI V 900 fz15), (z 16, aI V 6 fz16), (z 24, aI V 10000 fz24), (z 25, aI V 40000 fz25), (z 28, aZ V 10000 fz28), (z 35, aJ V 90000 fz35), (z 37, aI V 4 fz37), (z 38, aI V 4 fz38), (z 39, aJ V 160 fz39)]) hP [6, 7, 0, 1, 2, 3, 4, 5, 8, 9, 10] rfl
    have hD := subD hP hD [6, 7, 0, 1, 2, 3, 4, 5, 8, 9, 10] rfl rfl
    exact fiI hx hb hr hlk hK hP hD hS dX10_highBy_21 (Nat.le_of_ble_eq_true rfl) (Nat.le_of_ble_eq_true rfl) (⟨0, pz0_29, fz15, fz16, fz24, fz25, fz28, fz35, bpz0_29, tfz16, tfz24, tfz25, (iv_w b_61 (by decide)), hf0, rfl⟩)
theorem dX10_fogs_0 : decode cX10_fogs 0 = .ok (.aload_n 0, 1) := by decide +kernel
theorem dX10_fogs_1 : decode cX10_fogs 1 = .ok (.iconst 0, 1) := by decide +kernel
theorem dX10_fogs_2 : decode cX10_fogs 2 = .ok (.putfield 1, 3) := by decide +kernel
theorem dX10_fogs_5 : decode cX10_fogs 5 = .ok (.aload_n 0, 1) := by decide +kernel
theorem dX10_fogs_6 : decode cX10_fogs 6 = .ok (.iload_n 1, 1) := by decide +kernel
theorem dX10_fogs_7 : decode cX10_fogs 7 = .ok (.iload_n 2, 1) := by decide +kernel
theorem dX10_fogs_8 : decode cX10_fogs 8 = .ok (.iconst (-1), 1) := by decide +kernel
theorem dX10_fogs_9 : decode cX10_fogs 9 = .ok (.invokevirtual 425, 3) := by decide +kernel
theorem dX10_fogs_12 : decode cX10_fogs 12 = .ok (.istore 4, 2) := by decide +kernel
theorem dX10_fogs_14 : decode cX10_fogs 14 = .ok (.iload 4, 2) := by decide +kernel
theorem dX10_fogs_16 : decode cX10_fogs 16 = .ok (.ifCond .eq 6, 3) := by decide +kernel
theorem dX10_fogs_22 : decode cX10_fogs 22 = .ok (.iload_n 3, 1) := by decide +kernel
theorem dX10_fogs_23 : decode cX10_fogs 23 = .ok (.ifCond .ge 6, 3) := by decide +kernel
theorem dX10_fogs_29 : decode cX10_fogs 29 = .ok (.iload_n 3, 1) := by decide +kernel
theorem dX10_fogs_30 : decode cX10_fogs 30 = .ok (.aload_n 0, 1) := by decide +kernel
theorem dX10_fogs_31 : decode cX10_fogs 31 = .ok (.getfield 87, 3) := by decide +kernel
theorem dX10_fogs_34 : decode cX10_fogs 34 = .ok (.iload_n 1, 1) := by decide +kernel
theorem dX10_fogs_35 : decode cX10_fogs 35 = .ok (.iaload, 1) := by decide +kernel
theorem dX10_fogs_36 : decode cX10_fogs 36 = .ok (.if_icmp .lt 6, 3) := by decide +kernel
theorem dX10_fogs_42 : decode cX10_fogs 42 = .ok (.iconst 0, 1) := by decide +kernel
theorem dX10_fogs_43 : decode cX10_fogs 43 = .ok (.istore 5, 2) := by decide +kernel
theorem dX10_fogs_45 : decode cX10_fogs 45 = .ok (.aload_n 0, 1) := by decide +kernel
theorem dX10_fogs_46 : decode cX10_fogs 46 = .ok (.iload_n 1, 1) := by decide +kernel
theorem dX10_fogs_47 : decode cX10_fogs 47 = .ok (.iload_n 2, 1) := by decide +kernel
theorem dX10_fogs_48 : decode cX10_fogs 48 = .ok (.invokevirtual 428, 3) := by decide +kernel
theorem dX10_fogs_51 : decode cX10_fogs 51 = .ok (.lconst 0, 1) := by decide +kernel
theorem dX10_fogs_52 : decode cX10_fogs 52 = .ok (.lcmp, 1) := by decide +kernel
theorem dX10_fogs_53 : decode cX10_fogs 53 = .ok (.ifCond .ne 6, 3) := by decide +kernel
theorem dX10_fogs_59 : decode cX10_fogs 59 = .ok (.aload_n 0, 1) := by decide +kernel
theorem dX10_fogs_60 : decode cX10_fogs 60 = .ok (.invokevirtual 389, 3) := by decide +kernel
theorem dX10_fogs_63 : decode cX10_fogs 63 = .ok (.iconst 0, 1) := by decide +kernel
theorem dX10_fogs_64 : decode cX10_fogs 64 = .ok (.istore 6, 2) := by decide +kernel
theorem dX10_fogs_66 : decode cX10_fogs 66 = .ok (.iload 6, 2) := by decide +kernel
theorem dX10_fogs_68 : decode cX10_fogs 68 = .ok (.iload_n 3, 1) := by decide +kernel
theorem dX10_fogs_69 : decode cX10_fogs 69 = .ok (.if_icmp .gt 139, 3) := by decide +kernel
theorem dX10_fogs_208 : decode cX10_fogs 208 = .ok (.iload 5, 2) := by decide +kernel
theorem dX10_fogs_210 : decode cX10_fogs 210 = .ok (.ireturn, 1) := by decide +kernel
theorem dX10_fogs_72 : decode cX10_fogs 72 = .ok (.iconst 0, 1) := by decide +kernel
theorem dX10_fogs_73 : decode cX10_fogs 73 = .ok (.istore 5, 2) := by decide +kernel
theorem dX10_fogs_75 : decode cX10_fogs 75 = .ok (.iconst 0, 1) := by decide +kernel
theorem dX10_fogs_76 : decode cX10_fogs 76 = .ok (.istore 7, 2) := by decide +kernel
theorem dX10_fogs_78 : decode cX10_fogs 78 = .ok (.iload 7, 2) := by decide +kernel
theorem dX10_fogs_80 : decode cX10_fogs 80 = .ok (.aload_n 0, 1) := by decide +kernel
theorem dX10_fogs_81 : decode cX10_fogs 81 = .ok (.getfield 355, 3) := by decide +kernel
theorem dX10_fogs_84 : decode cX10_fogs 84 = .ok (.if_icmp .ge 114, 3) := by decide +kernel
theorem dX10_fogs_198 : decode cX10_fogs 198 = .ok (.aload_n 0, 1) := by decide +kernel
theorem dX10_fogs_199 : decode cX10_fogs 199 = .ok (.invokevirtual 382, 3) := by decide +kernel
theorem dX10_fogs_202 : decode cX10_fogs 202 = .ok (.iinc 6 1, 3) := by decide +kernel
theorem dX10_fogs_205 : decode cX10_fogs 205 = .ok (.goto (-139), 3) := by decide +kernel
theorem dX10_fogs_87 : decode cX10_fogs 87 = .ok (.iconst 0, 1) := by decide +kernel
theorem dX10_fogs_88 : decode cX10_fogs 88 = .ok (.istore 8, 2) := by decide +kernel
theorem dX10_fogs_90 : decode cX10_fogs 90 = .ok (.iload 8, 2) := by decide +kernel
theorem dX10_fogs_92 : decode cX10_fogs 92 = .ok (.iconst 4, 1) := by decide +kernel
theorem dX10_fogs_93 : decode cX10_fogs 93 = .ok (.if_icmp .ge 99, 3) := by decide +kernel
theorem dX10_fogs_192 : decode cX10_fogs 192 = .ok (.iinc 7 1, 3) := by decide +kernel
theorem dX10_fogs_195 : decode cX10_fogs 195 = .ok (.goto (-117), 3) := by decide +kernel
theorem dX10_fogs_96 : decode cX10_fogs 96 = .ok (.aload_n 0, 1) := by decide +kernel
theorem dX10_fogs_97 : decode cX10_fogs 97 = .ok (.getfield 61, 3) := by decide +kernel
theorem dX10_fogs_100 : decode cX10_fogs 100 = .ok (.aload_n 0, 1) := by decide +kernel
theorem dX10_fogs_101 : decode cX10_fogs 101 = .ok (.getfield 45, 3) := by decide +kernel
theorem dX10_fogs_104 : decode cX10_fogs 104 = .ok (.iload 7, 2) := by decide +kernel
theorem dX10_fogs_106 : decode cX10_fogs 106 = .ok (.iaload, 1) := by decide +kernel
theorem dX10_fogs_107 : decode cX10_fogs 107 = .ok (.laload, 1) := by decide +kernel
theorem dX10_fogs_108 : decode cX10_fogs 108 = .ok (.lconst 0, 1) := by decide +kernel
theorem dX10_fogs_109 : decode cX10_fogs 109 = .ok (.lcmp, 1) := by decide +kernel
theorem dX10_fogs_110 : decode cX10_fogs 110 = .ok (.ifCond .le 82, 3) := by decide +kernel
theorem dX10_fogs_113 : decode cX10_fogs 113 = .ok (.aload_n 0, 1) := by decide +kernel
theorem dX10_fogs_114 : decode cX10_fogs 114 = .ok (.getfield 49, 3) := by decide +kernel
theorem dX10_fogs_117 : decode cX10_fogs 117 = .ok (.iconst 4, 1) := by decide +kernel
theorem dX10_fogs_118 : decode cX10_fogs 118 = .ok (.aload_n 0, 1) := by decide +kernel
theorem dX10_fogs_119 : decode cX10_fogs 119 = .ok (.getfield 45, 3) := by decide +kernel
theorem dX10_fogs_122 : decode cX10_fogs 122 = .ok (.iload 7, 2) := by decide +kernel
theorem dX10_fogs_124 : decode cX10_fogs 124 = .ok (.iaload, 1) := by decide +kernel
theorem dX10_fogs_125 : decode cX10_fogs 125 = .ok (.imul, 1) := by decide +kernel
theorem dX10_fogs_126 : decode cX10_fogs 126 = .ok (.iload 8, 2) := by decide +kernel
theorem dX10_fogs_128 : decode cX10_fogs 128 = .ok (.iadd, 1) := by decide +kernel
theorem dX10_fogs_129 : decode cX10_fogs 129 = .ok (.iaload, 1) := by decide +kernel
theorem dX10_fogs_130 : decode cX10_fogs 130 = .ok (.istore 9, 2) := by decide +kernel
theorem dX10_fogs_132 : decode cX10_fogs 132 = .ok (.aload_n 0, 1) := by decide +kernel
theorem dX10_fogs_133 : decode cX10_fogs 133 = .ok (.iload_n 1, 1) := by decide +kernel
theorem dX10_fogs_134 : decode cX10_fogs 134 = .ok (.iload_n 2, 1) := by decide +kernel
theorem dX10_fogs_135 : decode cX10_fogs 135 = .ok (.iload 6, 2) := by decide +kernel
theorem dX10_fogs_137 : decode cX10_fogs 137 = .ok (.iload 9, 2) := by decide +kernel
theorem dX10_fogs_139 : decode cX10_fogs 139 = .ok (.invokevirtual 421, 3) := by decide +kernel
theorem dX10_fogs_142 : decode cX10_fogs 142 = .ok (.ifCond .eq 44, 3) := by decide +kernel
theorem dX10_fogs_186 : decode cX10_fogs 186 = .ok (.iinc 8 1, 3) := by decide +kernel
theorem dX10_fogs_189 : decode cX10_fogs 189 = .ok (.goto (-99), 3) := by decide +kernel
theorem dX10_fogs_145 : decode cX10_fogs 145 = .ok (.aload_n 0, 1) := by decide +kernel
theorem dX10_fogs_146 : decode cX10_fogs 146 = .ok (.getfield 78, 3) := by decide +kernel
theorem dX10_fogs_149 : decode cX10_fogs 149 = .ok (.sipush 10000, 3) := by decide +kernel
theorem dX10_fogs_152 : decode cX10_fogs 152 = .ok (.iload 6, 2) := by decide +kernel
theorem dX10_fogs_154 : decode cX10_fogs 154 = .ok (.iconst 1, 1) := by decide +kernel
theorem dX10_fogs_155 : decode cX10_fogs 155 = .ok (.iadd, 1) := by decide +kernel
theorem dX10_fogs_156 : decode cX10_fogs 156 = .ok (.imul, 1) := by decide +kernel
theorem dX10_fogs_157 : decode cX10_fogs 157 = .ok (.iload 9, 2) := by decide +kernel
theorem dX10_fogs_159 : decode cX10_fogs 159 = .ok (.iadd, 1) := by decide +kernel
theorem dX10_fogs_160 : decode cX10_fogs 160 = .ok (.laload, 1) := by decide +kernel
theorem dX10_fogs_161 : decode cX10_fogs 161 = .ok (.lconst 0, 1) := by decide +kernel
theorem dX10_fogs_162 : decode cX10_fogs 162 = .ok (.lcmp, 1) := by decide +kernel
theorem dX10_fogs_163 : decode cX10_fogs 163 = .ok (.ifCond .ne 6, 3) := by decide +kernel
theorem dX10_fogs_169 : decode cX10_fogs 169 = .ok (.aload_n 0, 1) := by decide +kernel
theorem dX10_fogs_170 : decode cX10_fogs 170 = .ok (.getfield 65, 3) := by decide +kernel
theorem dX10_fogs_173 : decode cX10_fogs 173 = .ok (.iload 9, 2) := by decide +kernel
theorem dX10_fogs_175 : decode cX10_fogs 175 = .ok (.lconst 1, 1) := by decide +kernel
theorem dX10_fogs_176 : decode cX10_fogs 176 = .ok (.lastore, 1) := by decide +kernel
theorem dX10_fogs_177 : decode cX10_fogs 177 = .ok (.iload 5, 2) := by decide +kernel
theorem dX10_fogs_179 : decode cX10_fogs 179 = .ok (.iconst 1, 1) := by decide +kernel
theorem dX10_fogs_180 : decode cX10_fogs 180 = .ok (.iload 8, 2) := by decide +kernel
theorem dX10_fogs_182 : decode cX10_fogs 182 = .ok (.ishl, 1) := by decide +kernel
theorem dX10_fogs_183 : decode cX10_fogs 183 = .ok (.ior, 1) := by decide +kernel
theorem dX10_fogs_184 : decode cX10_fogs 184 = .ok (.istore 5, 2) := by decide +kernel
theorem dX10_fogs_166 : decode cX10_fogs 166 = .ok (.goto 20, 3) := by decide +kernel
theorem dX10_fogs_56 : decode cX10_fogs 56 = .ok (.iload 5, 2) := by decide +kernel
theorem dX10_fogs_58 : decode cX10_fogs 58 = .ok (.ireturn, 1) := by decide +kernel
theorem dX10_fogs_39 : decode cX10_fogs 39 = .ok (.bipush (-7), 2) := by decide +kernel
theorem dX10_fogs_41 : decode cX10_fogs 41 = .ok (.ireturn, 1) := by decide +kernel
theorem dX10_fogs_26 : decode cX10_fogs 26 = .ok (.bipush (-3), 2) := by decide +kernel
theorem dX10_fogs_28 : decode cX10_fogs 28 = .ok (.ireturn, 1) := by decide +kernel
theorem dX10_fogs_19 : decode cX10_fogs 19 = .ok (.iload 4, 2) := by decide +kernel
theorem dX10_fogs_21 : decode cX10_fogs 21 = .ok (.ireturn, 1) := by decide +kernel
set_option maxHeartbeats 4000000 in
set_option maxRecDepth 100000 in
theorem k_X10_fogs_0 (l : Launch) (V : GV) (z : Nat → Nat) (a1 : Int32) (a2 : Int32) (a3 : Int32) (pz0_0 : Int32) (pz0_5 : Int32) (pz0_6 : Int32) (pz0_7 : Int32) (pz0_8 : Int32) (pz0_9 : Int32) (pz0_10 : Int32) (pz0_11 : Int32) (pz0_12 : Int32) (pz0_13 : Int32) (pz0_14 : Int32) (pz0_18 : Int32) (pz0_19 : Int32) (pz0_22 : Int32) (pz0_23 : Int32) (pz0_29 : Int32) (fz1 : Nat → Int32) (fz15 : Nat → Int32) (fz16 : Nat → Int32) (fz24 : Nat → Int32) (fz25 : Nat → Int32) (fz28 : Nat → Int32) (fz30 : Nat → Int64) (fz31 : Nat → Int64) (fz35 : Nat → Int64) (fz37 : Nat → Int32) (fz38 : Nat → Int32) (fz39 : Nat → Int64) (bpz0_5 : iv 0 900 pz0_5) (bpz0_6 : iv 0 900 pz0_6) (bpz0_7 : iv 0 900 pz0_7) (bpz0_8 : iv 0 900 pz0_8) (bpz0_10 : iv 0 999 pz0_10) (bpz0_11 : iv 0 4 pz0_11) (bpz0_12 : iv 0 900 pz0_12) (bpz0_13 : iv 0 4 pz0_13) (bpz0_14 : iv (-1) 900 pz0_14) (bpz0_18 : iv 0 2 pz0_18) (bpz0_22 : iv 0 9999 pz0_22) (bpz0_29 : iv 0 10000 pz0_29) (tfz1 : ivT tA fz1) (tfz16 : ivT tW fz16) (tfz24 : ∀ j, iv 0 9999 (fz24 j)) (tfz25 : ∀ j, iv (-1) 9999 (fz25 j)) (tfz37 : ∀ j, iv (-1) 3 (fz37 j)) (tfz38 : ∀ j, iv 0 40 (fz38 j)) (hf0 : RW fz1) : Ct l V yX10_fogs (.code yX10_fogs cX10_fogs 10 (some .int)) 7 [.ref (z 0), .int a1, .int a2, .int a3] [(z 0, .inr (10, mo z pz0_0 pz0_5 pz0_6 pz0_7 pz0_8 pz0_9 pz0_10 pz0_11 pz0_12 pz0_13 pz0_14 pz0_18 pz0_19 pz0_22 pz0_23 pz0_29)), (z 1, aI V 3075 fz1), (z 15, aI V 900 fz15), (z 16, aI V 6 fz16), (z 24, aI V 10000 fz24), (z 25, aI V 40000 fz25), (z 28, aZ V 10000 fz28), (z 30, aJ V 10000 fz30), (z 31, aJ V 10000 fz31), (z 35, aJ V 90000 fz35), (z 37, aI V 4 fz37), (z 38, aI V 4 fz38), (z 39, aJ V 160 fz39)] 0 0 (QI V (fun (r : Int32) (w : va_W) => ∃ (v0 : Int32) (v1 : Int32) (g2 : Nat → Int32) (g3 : Nat → Int32) (g4 : Nat → Int32) (g5 : Nat → Int32) (g6 : Nat → Int32) (g7 : Nat → Int64) (g8 : Nat → Int64) (g9 : Nat → Int64), iv 0 10000 v1 ∧ (ivT tW g3) ∧ (∀ j, iv 0 9999 (g4 j)) ∧ (∀ j, iv (-1) 9999 (g5 j)) ∧ (RW fz1) ∧ w = [(z 0, .inr (10, mo z v0 pz0_5 pz0_6 pz0_7 pz0_8 pz0_9 pz0_10 pz0_11 pz0_12 pz0_13 pz0_14 pz0_18 pz0_19 pz0_22 pz0_23 v1)), (z 1, aI V 3075 fz1), (z 15, aI V 900 g2), (z 16, aI V 6 g3), (z 24, aI V 10000 g4), (z 25, aI V 40000 g5), (z 28, aZ V 10000 g6), (z 30, aJ V 10000 g7), (z 31, aJ V 10000 g8), (z 35, aJ V 90000 g9), (z 37, aI V 4 fz37), (z 38, aI V 4 fz38), (z 39, aJ V 160 fz39)])) := by
  refine Ct.of (by decide) (Nat.le_of_ble_eq_true rfl) (fun p e s m below meth c A ls hx hb hr hml hown hlk hnm hg hP hK hD hE hA hS hl => ?_)
  have hl : lv_has ls 10 [(0, .ref (z 0)), (1, .int a1), (2, .int a2), (3, .int a3)] := hl
  refine lv_aload_n hx hb dX10_fogs_0 rfl (lv_at hl 0 rfl) ?_
  refine lv_iconst (v := 0) hx hb dX10_fogs_1 (by decide) ?_
  refine va_put (ci := 10) (v := .int 0) (ty := .int) (C := RX10) (T := TX10) (N := 40) hx hb hg inX10 tyX10 tyX10_ok nmX10 hown hK hP hD hS 0 rfl rfl 0 (by decide) (hg _ q_5_224) (fun _ h9 => h9) rfl (by decide +kernel) rfl rfl (Nat.le_of_ble_eq_true rfl) dX10_fogs_2 (fun H locs hP hD hS => ?_)
  have hP : va_P V.1 vwCl [(z 0, .inr (10, mo z 0 pz0_5 pz0_6 pz0_7 pz0_8 pz0_9 pz0_10 pz0_11 pz0_12 pz0_13 pz0_14 pz0_18 pz0_19 pz0_22 pz0_23 pz0_29)), (z 1, aI V 3075 fz1), (z 15, aI V 900 fz15), (z 16, aI V 6 fz16), (z 24, aI V 10000 fz24), (z 25, aI V 40000 fz25), (z 28, aZ V 10000 fz28), (z 30, aJ V 10000 fz30), (z 31, aJ V 10000 fz31), (z 35, aJ V 90000 fz35), (z 37, aI V 4 fz37), (z 38, aI V 4 fz38), (z 39, aJ V 160 fz39)] H := hP
  have hD := cpD hP hD
  refine lv_aload_n hx hb dX10_fogs_5 rfl (lv_at hl 0 rfl) ?_
  refine lv_iload_n hx hb dX10_fogs_6 rfl (lv_at hl 1 rfl) ?_
  refine lv_iload_n hx hb dX10_fogs_7 rfl (lv_at hl 2 rfl) ?_
  refine lv_iconst (v := (-1)) hx hb dX10_fogs_8 (by decide) ?_
  refine jnI (wr := [(z 15, aI V 900 fz15), (z 16, aI V 6 fz16), (z 24, aI V 10000 fz24), (z 25, aI V 40000 fz25), (z 28, aZ V 10000 fz28), (z 30, aJ V 10000 fz30), (z 31, aJ V 10000 fz31), (z 35, aJ V 90000 fz35)]) (rnV (rest := []) ⟨hx, hb, hml, hown, hg⟩ (k_X10_noTold_0 l V z a1 a2 (-1) 0 pz0_5 pz0_6 pz0_7 pz0_8 pz0_9 pz0_10 pz0_11 pz0_12 pz0_13 pz0_14 pz0_18 pz0_19 pz0_22 pz0_23 pz0_29 fz1 fz37 fz38 fz39 bpz0_5 bpz0_6 bpz0_7 bpz0_8 bpz0_10 bpz0_11 bpz0_12 bpz0_13 bpz0_14 bpz0_18 bpz0_22 bpz0_29 tfz1 tfz37 tfz38) mt_X10_noTold q_8_51 ⟨Nat.le_of_ble_eq_true rfl, Nat.le_of_ble_eq_true rfl⟩ hK hP hD hS hA hE [0, 1, 10, 11, 12] rfl rfl 0 rfl rfl rfl rfl hl.1 rfl (Nat.le_of_ble_eq_true rfl) dX10_fogs_9 ⟨Nat.le_of_ble_eq_true rfl, Nat.le_of_ble_eq_true rfl⟩) hP hD hS hA [0, 1, 10, 11, 12] [2, 3, 4, 5, 6, 7, 8, 9] rfl rfl rfl (by decide) (fun r_1 w H locs hw hP hD hS => ?_)
  obtain ⟨br_1, g_2, g_3, g_4, rfl⟩ := hw
  have hP : va_P V.1 vwCl [(z 15, aI V 900 fz15), (z 16, aI V 6 fz16), (z 24, aI V 10000 fz24), (z 25, aI V 40000 fz25), (z 28, aZ V 10000 fz28), (z 30, aJ V 10000 fz30), (z 31, aJ V 10000 fz31), (z 35, aJ V 90000 fz35), (z 0, .inr (10, mo z 0 pz0_5 pz0_6 pz0_7 pz0_8 pz0_9 pz0_10 pz0_11 pz0_12 pz0_13 pz0_14 pz0_18 pz0_19 pz0_22 pz0_23 pz0_29)), (z 1, aI V 3075 fz1), (z 37, aI V 4 fz37), (z 38, aI V 4 fz38), (z 39, aJ V 160 fz39)] H := hP
  have hD := cpD hP hD
  refine lv_istore (lv' := [(4, .int r_1), (0, .ref (z 0)), (1, .int a1), (2, .int a2), (3, .int a3)]) hx hb dX10_fogs_12 hl (by decide) rfl (fun ls hl => ?_)
  refine lv_iload hx hb dX10_fogs_14 (lv_at hl 0 rfl) ?_
  refine lv_if_eq (tgt := 22) hx hb dX10_fogs_16 (by decide) (fun c_5 => ?_) (fun c_5 => ?_)
  · have b_6 : iv 0 0 r_1 := iv_q c_5 (iv_c (0 : Int32) (a := 0) (b := 0) (by decide))
    have b_7 : iv 0 3 a1 := iv_cap (g_3 (iv_eqp b_6 (iv_c (0 : Int32) (by decide)))) (iv_top a1) (by decide)
    have b_8 : iv 0 3 a2 := iv_cap (g_4 (iv_eqp b_6 (iv_c (0 : Int32) (by decide)))) (iv_top a2) (by decide)
    refine lv_iload_n hx hb dX10_fogs_22 rfl (lv_at hl 4 rfl) ?_
    refine lv_if_ge (tgt := 29) hx hb dX10_fogs_23 (by decide) (fun c_9 => ?_) (fun c_9 => ?_)
    · have b_10 : iv 0 2147483647 a3 := iv_e2 c_9 (iv_c (0 : Int32) (a := 0) (b := 0) (by decide)) (iv_top a3) (by decide)
      refine lv_iload_n hx hb dX10_fogs_29 rfl (lv_at hl 4 rfl) ?_
      refine lv_aload_n hx hb dX10_fogs_30 rfl (lv_at hl 1 rfl) ?_
      refine va_get (ci := 10) (v := .ref (z 38)) (C := RX10) (T := TX10) (N := 40) hx hb hg inX10 hown hK hP 8 rfl rfl 38 (by decide) (hg _ q_6_22) (fun _ h9 => h9) rfl dX10_fogs_31 ?_
      refine lv_iload_n hx hb dX10_fogs_34 rfl (lv_at hl 2 rfl) ?_
      refine va_iald hx hb hK hP 11 0 rfl rfl (iv_in b_7 (by decide)) dX10_fogs_35 ?_
      refine lv_topi (fun x_11 ex_11 => ?_)
      have bx_11 : iv 0 40 x_11 := by rw [ex_11]; exact tfz38 _
      have b_12 : iv 1 8 x_11 := by rw [ex_11]; exact (g_2 (iv_eqp b_6 (iv_c (0 : Int32) (by decide))))
      refine lv_icmp_lt (tgt := 42) hx hb dX10_fogs_36 (by decide) (fun c_13 => ?_) (fun c_13 => ?_)
      · have b_14 : iv 0 7 a3 := iv_l1 c_13 b_10 b_12 (by decide)
        refine lv_iconst (v := 0) hx hb dX10_fogs_42 (by decide) ?_
        refine lv_istore (lv' := [(5, .int 0), (4, .int r_1), (0, .ref (z 0)), (1, .int a1), (2, .int a2), (3, .int a3)]) hx hb dX10_fogs_43 hl (by decide) rfl (fun ls hl => ?_)
        refine lv_aload_n hx hb dX10_fogs_45 rfl (lv_at hl 2 rfl) ?_
        refine lv_iload_n hx hb dX10_fogs_46 rfl (lv_at hl 3 rfl) ?_
        refine lv_iload_n hx hb dX10_fogs_47 rfl (lv_at hl 4 rfl) ?_
        refine jnL (wr := [(z 30, aJ V 10000 fz30), (z 31, aJ V 10000 fz31), (z 37, aI V 4 fz37)]) (rnV (rest := []) ⟨hx, hb, hml, hown, hg⟩ (k_X10_laysHigh_0 l V z a1 a2 fz15 fz16 fz24 fz25 fz28 fz35 0 pz0_5 pz0_6 pz0_7 pz0_8 pz0_9 pz0_10 pz0_11 pz0_12 pz0_13 pz0_14 pz0_18 pz0_19 pz0_22 pz0_23 pz0_29 fz1 fz38 fz39 b_7 b_8 tfz16 tfz24 tfz25 bpz0_5 bpz0_6 bpz0_7 bpz0_8 bpz0_10 bpz0_11 bpz0_12 bpz0_13 bpz0_14 bpz0_18 bpz0_22 bpz0_29 tfz1 tfz38 hf0 (g_2 (iv_eqp b_6 (iv_c (0 : Int32) (by decide))))) mt_X10_laysHigh q_8_56 ⟨Nat.le_of_ble_eq_true rfl, Nat.le_of_ble_eq_true rfl⟩ hK hP hD hS hA hE [0, 1, 2, 3, 4, 7, 8, 9, 11, 12] rfl rfl 8 rfl rfl rfl rfl hl.1 rfl (Nat.le_of_ble_eq_true rfl) dX10_fogs_48 ⟨Nat.le_of_ble_eq_true rfl, Nat.le_of_ble_eq_true rfl⟩) hP hD hS hA [0, 1, 2, 3, 4, 7, 8, 9, 11, 12] [5, 6, 10] rfl rfl rfl (by decide) (fun r_15 w H locs hw hP hD hS => ?_)
        obtain ⟨f_16, f_17, f_18, f_19, f_20, f_21, v_22, tf_17, tf_18, tf_19, bv_22, g_23, g_24, g_25, g_26, g_27, rfl⟩ := hw
        have hP : va_P V.1 vwCl [(z 30, aJ V 10000 fz30), (z 31, aJ V 10000 fz31), (z 37, aI V 4 fz37), (z 15, aI V 900 f_16), (z 16, aI V 6 f_17), (z 24, aI V 10000 f_18), (z 25, aI V 40000 f_19), (z 28, aZ V 10000 f_20), (z 35, aJ V 90000 f_21), (z 0, .inr (10, mo z 0 pz0_5 pz0_6 pz0_7 pz0_8 pz0_9 pz0_10 pz0_11 pz0_12 pz0_13 pz0_14 pz0_18 pz0_19 pz0_22 pz0_23 v_22)), (z 1, aI V 3075 fz1), (z 38, aI V 4 fz38), (z 39, aJ V 160 fz39)] H := hP
        have hD := cpD hP hD
        refine lv_lconst (v := 0) hx hb dX10_fogs_51 (by decide) ?_
        refine W.lcmp hx hb dX10_fogs_52 ?_
        refine lv_if_ne (tgt := 59) hx hb dX10_fogs_53 (by decide) (fun c_28 => ?_) (fun c_28 => ?_)
        · replace c_28 : ¬ r_15 = (0 : Int64) := fun z => c_28 ((lg_cmp_eq _ _).mpr z)
          refine lv_aload_n hx hb dX10_fogs_59 rfl (lv_at hl 2 rfl) ?_
          refine jnV (wr := [(z 37, aI V 4 fz37), (z 15, aI V 900 f_16), (z 16, aI V 6 f_17), (z 24, aI V 10000 f_18), (z 25, aI V 40000 f_19), (z 28, aZ V 10000 f_20), (z 35, aJ V 90000 f_21), (z 38, aI V 4 fz38), (z 39, aJ V 160 fz39)]) (rnV (rest := []) ⟨hx, hb, hml, hown, hg⟩ (k_X10_beginsMany_0 l V z fz30 fz31 0 pz0_5 pz0_6 pz0_7 pz0_8 pz0_9 pz0_10 pz0_11 pz0_12 pz0_13 pz0_14 pz0_18 pz0_19 pz0_22 pz0_23 v_22 fz1 bpz0_5 bpz0_6 bpz0_7 bpz0_8 bpz0_10 bpz0_11 bpz0_12 bpz0_13 bpz0_14 bpz0_18 bpz0_22 bv_22 tfz1) mt_X10_beginsMany q_7_220 ⟨Nat.le_of_ble_eq_true rfl, Nat.le_of_ble_eq_true rfl⟩ hK hP hD hS hA hE [0, 1, 9, 10] rfl rfl 9 rfl rfl rfl rfl hl.1 rfl (Nat.le_of_ble_eq_true rfl) dX10_fogs_60 ⟨Nat.le_of_ble_eq_true rfl, Nat.le_of_ble_eq_true rfl⟩) hP hD hS hA [0, 1, 9, 10] [2, 3, 4, 5, 6, 7, 8, 11, 12] rfl rfl rfl (by decide) (fun  w H locs hw hP hD hS => ?_)
          obtain ⟨f_29, f_30, rfl⟩ := hw
          have hP : va_P V.1 vwCl [(z 37, aI V 4 fz37), (z 15, aI V 900 f_16), (z 16, aI V 6 f_17), (z 24, aI V 10000 f_18), (z 25, aI V 40000 f_19), (z 28, aZ V 10000 f_20), (z 35, aJ V 90000 f_21), (z 38, aI V 4 fz38), (z 39, aJ V 160 fz39), (z 30, aJ V 10000 f_29), (z 31, aJ V 10000 f_30), (z 0, .inr (10, mo z 0 pz0_5 pz0_6 pz0_7 pz0_8 pz0_9 pz0_10 pz0_11 pz0_12 pz0_13 pz0_14 pz0_18 pz0_19 pz0_22 pz0_23 v_22)), (z 1, aI V 3075 fz1)] H := hP
          have hD := cpD hP hD
          refine lv_iconst (v := 0) hx hb dX10_fogs_63 (by decide) ?_
          refine lv_istore (lv' := [(6, .int 0), (5, .int 0), (4, .int r_1), (0, .ref (z 0)), (1, .int a1), (2, .int a2), (3, .int a3)]) hx hb dX10_fogs_64 hl (by decide) rfl (fun ls hl => ?_)
          refine loopF (X := fun (n_35 : Nat) (H : Heap) (locs : List Loc) (ls : Array Slot) => ∃ (u_31 : Int32) (u_32 : Int32) (f_33 : Nat → Int64) (f_34 : Nat → Int64), (iv 0 8 u_31) ∧ (RW fz1) ∧ n_35 = (2147483647 - (u_31 : Int32).toInt).toNat ∧ va_P V.1 vwCl [(z 37, aI V 4 fz37), (z 15, aI V 900 f_16), (z 16, aI V 6 f_17), (z 24, aI V 10000 f_18), (z 25, aI V 40000 f_19), (z 28, aZ V 10000 f_20), (z 35, aJ V 90000 f_21), (z 38, aI V 4 fz38), (z 39, aJ V 160 fz39), (z 30, aJ V 10000 f_33), (z 31, aJ V 10000 f_34), (z 0, .inr (10, mo z 0 pz0_5 pz0_6 pz0_7 pz0_8 pz0_9 pz0_10 pz0_11 pz0_12 pz0_13 pz0_14 pz0_18 pz0_19 pz0_22 pz0_23 v_22)), (z 1, aI V 3075 fz1)] H ∧ va_D A [(z 37, aI V 4 fz37), (z 15, aI V 900 f_16), (z 16, aI V 6 f_17), (z 24, aI V 10000 f_18), (z 25, aI V 40000 f_19), (z 28, aZ V 10000 f_20), (z 35, aJ V 90000 f_21), (z 38, aI V 4 fz38), (z 39, aJ V 160 fz39), (z 30, aJ V 10000 f_33), (z 31, aJ V 10000 f_34), (z 0, .inr (10, mo z 0 pz0_5 pz0_6 pz0_7 pz0_8 pz0_9 pz0_10 pz0_11 pz0_12 pz0_13 pz0_14 pz0_18 pz0_19 pz0_22 pz0_23 v_22)), (z 1, aI V 3075 fz1)] ∧ va_S A s.heap H locs ∧ lv_has ls 10 [(6, .int u_31), (5, .int u_32), (4, .int r_1), (0, .ref (z 0)), (1, .int a1), (2, .int a2), (3, .int a3)]) (g := fun ls => F0 m 66 ls []) (fun n_35 H locs ls hX ihn_35 => ?_) _ ⟨0, 0, f_29, f_30, (iv_c (0 : Int32) (by decide)), g_23, rfl, hP, hD, hS, lv_sub hl [0, 1, 2, 3, 4, 5, 6] rfl⟩
          obtain ⟨u_31, u_32, f_33, f_34, bu_31, inn_35_0, en_35, hP, hD, hS, hl⟩ := hX
          refine lv_iload hx hb dX10_fogs_66 (lv_at hl 0 rfl) ?_
          refine lv_iload_n hx hb dX10_fogs_68 rfl (lv_at hl 6 rfl) ?_
          refine lv_icmp_gt (tgt := 208) hx hb dX10_fogs_69 (by decide) (fun c_36 => ?_) (fun c_36 => ?_)
          · have b_37 : iv 1 8 u_31 := iv_l2 c_36 b_14 bu_31 (by decide)
            refine lv_iload hx hb dX10_fogs_208 (lv_at hl 1 rfl) ?_
            have hP := subP (ws' := [(z 0, .inr (10, mo z 0 pz0_5 pz0_6 pz0_7 pz0_8 pz0_9 pz0_10 pz0_11 pz0_12 pz0_13 pz0_14 pz0_18 pz0_19 pz0_22 pz0_23 v_22)), (z 1, aI V 3075 fz1), (z 15, aI V 900 f_16), (z 16, aI V 6 f_17), (z 24, aI V 10000 f_18), (z 25, aI V 40000 f_19), (z 28, aZ V 10000 f_20), (z 30, aJ V 10000 f_33), (z 31, aJ V 10000 f_34), (z 35, aJ V 90000 f_21), (z 37, aI V 4 fz37), (z 38, aI V 4 fz38), (z 39, aJ V 160 fz39)]) hP [11, 12, 1, 2, 3, 4, 5, 9, 10, 6, 0, 7, 8] rfl
            have hD := subD hP hD [11, 12, 1, 2, 3, 4, 5, 9, 10, 6, 0, 7, 8] rfl rfl
            exact fiI hx hb hr hlk hK hP hD hS dX10_fogs_210 (Nat.le_of_ble_eq_true rfl) (Nat.le_of_ble_eq_true rfl) (⟨0, v_22, f_16, f_17, f_18, f_19, f_20, f_33, f_34, f_21, bv_22, tf_17, tf_18, tf_19, inn_35_0, rfl⟩)
          · have b_38 : iv 0 7 u_31 := iv_e1 (Int32.not_lt.mp c_36) bu_31 b_14 (by decide)
            refine lv_iconst (v := 0) hx hb dX10_fogs_72 (by decide) ?_
            refine lv_istore (lv' := [(5, .int 0), (6, .int u_31), (4, .int r_1), (0, .ref (z 0)), (1, .int a1), (2, .int a2), (3, .int a3)]) hx hb dX10_fogs_73 hl (by decide) rfl (fun ls hl => ?_)
            refine lv_iconst (v := 0) hx hb dX10_fogs_75 (by decide) ?_
            refine lv_istore (lv' := [(7, .int 0), (5, .int 0), (6, .int u_31), (4, .int r_1), (0, .ref (z 0)), (1, .int a1), (2, .int a2), (3, .int a3)]) hx hb dX10_fogs_76 hl (by decide) rfl (fun ls hl => ?_)
            refine loopF (X := fun (n_42 : Nat) (H : Heap) (locs : List Loc) (ls : Array Slot) => ∃ (u_39 : Int32) (u_40 : Int32) (f_41 : Nat → Int64), (iv 0 2147483647 u_39) ∧ (RW fz1) ∧ n_42 = (2147483647 - (u_39 : Int32).toInt).toNat ∧ va_P V.1 vwCl [(z 37, aI V 4 fz37), (z 15, aI V 900 f_16), (z 16, aI V 6 f_17), (z 24, aI V 10000 f_18), (z 25, aI V 40000 f_19), (z 28, aZ V 10000 f_20), (z 35, aJ V 90000 f_21), (z 38, aI V 4 fz38), (z 39, aJ V 160 fz39), (z 30, aJ V 10000 f_33), (z 31, aJ V 10000 f_41), (z 0, .inr (10, mo z 0 pz0_5 pz0_6 pz0_7 pz0_8 pz0_9 pz0_10 pz0_11 pz0_12 pz0_13 pz0_14 pz0_18 pz0_19 pz0_22 pz0_23 v_22)), (z 1, aI V 3075 fz1)] H ∧ va_D A [(z 37, aI V 4 fz37), (z 15, aI V 900 f_16), (z 16, aI V 6 f_17), (z 24, aI V 10000 f_18), (z 25, aI V 40000 f_19), (z 28, aZ V 10000 f_20), (z 35, aJ V 90000 f_21), (z 38, aI V 4 fz38), (z 39, aJ V 160 fz39), (z 30, aJ V 10000 f_33), (z 31, aJ V 10000 f_41), (z 0, .inr (10, mo z 0 pz0_5 pz0_6 pz0_7 pz0_8 pz0_9 pz0_10 pz0_11 pz0_12 pz0_13 pz0_14 pz0_18 pz0_19 pz0_22 pz0_23 v_22)), (z 1, aI V 3075 fz1)] ∧ va_S A s.heap H locs ∧ lv_has ls 10 [(7, .int u_39), (5, .int u_40), (6, .int u_31), (4, .int r_1), (0, .ref (z 0)), (1, .int a1), (2, .int a2), (3, .int a3)]) (g := fun ls => F0 m 78 ls []) (fun n_42 H locs ls hX ihn_42 => ?_) _ ⟨0, 0, f_34, (iv_c (0 : Int32) (by decide)), inn_35_0, rfl, hP, hD, hS, lv_sub hl [0, 1, 2, 3, 4, 5, 6, 7] rfl⟩
            obtain ⟨u_39, u_40, f_41, bu_39, inn_42_0, en_42, hP, hD, hS, hl⟩ := hX
            refine lv_iload hx hb dX10_fogs_78 (lv_at hl 0 rfl) ?_
            refine lv_aload_n hx hb dX10_fogs_80 rfl (lv_at hl 4 rfl) ?_
            refine va_get (ci := 10) (v := .int v_22) (C := RX10) (T := TX10) (N := 40) hx hb hg inX10 hown hK hP 11 rfl rfl 29 (by decide) (hg _ q_6_13) (fun _ h9 => h9) rfl dX10_fogs_81 ?_
            refine lv_icmp_ge (tgt := 198) hx hb dX10_fogs_84 (by decide) (fun c_43 => ?_) (fun c_43 => ?_)
            · refine lv_aload_n hx hb dX10_fogs_198 rfl (lv_at hl 4 rfl) ?_
              refine jnV (wr := [(z 37, aI V 4 fz37), (z 15, aI V 900 f_16), (z 16, aI V 6 f_17), (z 24, aI V 10000 f_18), (z 25, aI V 40000 f_19), (z 28, aZ V 10000 f_20), (z 35, aJ V 90000 f_21), (z 38, aI V 4 fz38), (z 39, aJ V 160 fz39), (z 1, aI V 3075 fz1)]) (rnV (rest := []) ⟨hx, hb, hml, hown, hg⟩ (k_X10_isThen_0 l V z f_33 f_41 0 pz0_5 pz0_6 pz0_7 pz0_8 pz0_9 pz0_10 pz0_11 pz0_12 pz0_13 pz0_14 pz0_18 pz0_19 pz0_22 pz0_23 v_22 bpz0_5 bpz0_6 bpz0_7 bpz0_8 bpz0_10 bpz0_11 bpz0_12 bpz0_13 bpz0_14 bpz0_18 bpz0_22 bv_22) mt_X10_isThen q_7_228 ⟨Nat.le_of_ble_eq_true rfl, Nat.le_of_ble_eq_true rfl⟩ hK hP hD hS hA hE [9, 10, 11] rfl rfl 11 rfl rfl rfl rfl hl.1 rfl (Nat.le_of_ble_eq_true rfl) dX10_fogs_199 ⟨Nat.le_of_ble_eq_true rfl, Nat.le_of_ble_eq_true rfl⟩) hP hD hS hA [9, 10, 11] [0, 1, 2, 3, 4, 5, 6, 7, 8, 12] rfl rfl rfl (by decide) (fun  w H locs hw hP hD hS => ?_)
              obtain ⟨f_44, f_45, rfl⟩ := hw
              have hP : va_P V.1 vwCl [(z 37, aI V 4 fz37), (z 15, aI V 900 f_16), (z 16, aI V 6 f_17), (z 24, aI V 10000 f_18), (z 25, aI V 40000 f_19), (z 28, aZ V 10000 f_20), (z 35, aJ V 90000 f_21), (z 38, aI V 4 fz38), (z 39, aJ V 160 fz39), (z 1, aI V 3075 fz1), (z 30, aJ V 10000 f_44), (z 31, aJ V 10000 f_45), (z 0, .inr (10, mo z 0 pz0_5 pz0_6 pz0_7 pz0_8 pz0_9 pz0_10 pz0_11 pz0_12 pz0_13 pz0_14 pz0_18 pz0_19 pz0_22 pz0_23 v_22))] H := hP
              have hD := cpD hP hD
              obtain ⟨x_46, ex_46⟩ : ∃ z9 : Int32, z9 = u_31 + 1 := ⟨_, rfl⟩
              have bx_46 : iv 1 8 x_46 := by rw [ex_46]; exact iv_add b_38 (iv_c (1 : Int32) (a := 1) (b := 1) (by decide)) (by decide)
              refine lv_iinc (v := x_46) (lv' := [(6, .int x_46), (7, .int u_39), (5, .int u_40), (4, .int r_1), (0, .ref (z 0)), (1, .int a1), (2, .int a2), (3, .int a3)]) hx hb dX10_fogs_202 hl (k := 2) rfl (by rw [ex_46]; rfl) (by decide) rfl (fun ls hl => ?_)
              refine lv_goto (tgt := 66) hx hb dX10_fogs_205 (by decide) ?_
              have hP := subP (ws' := [(z 37, aI V 4 fz37), (z 15, aI V 900 f_16), (z 16, aI V 6 f_17), (z 24, aI V 10000 f_18), (z 25, aI V 40000 f_19), (z 28, aZ V 10000 f_20), (z 35, aJ V 90000 f_21), (z 38, aI V 4 fz38), (z 39, aJ V 160 fz39), (z 30, aJ V 10000 f_44), (z 31, aJ V 10000 f_45), (z 0, .inr (10, mo z 0 pz0_5 pz0_6 pz0_7 pz0_8 pz0_9 pz0_10 pz0_11 pz0_12 pz0_13 pz0_14 pz0_18 pz0_19 pz0_22 pz0_23 v_22)), (z 1, aI V 3075 fz1)]) hP [0, 1, 2, 3, 4, 5, 6, 7, 8, 10, 11, 12, 9] rfl
              have hD := subD hP hD [0, 1, 2, 3, 4, 5, 6, 7, 8, 10, 11, 12, 9] rfl rfl
              exact ihn_35 _ _ _ _ (by rw [en_35, ex_46]; exact mu_up b_38 (by decide)) ⟨x_46, u_40, f_44, f_45, (iv_w bx_46 (by decide)), inn_42_0, rfl, hP, hD, hS, lv_sub hl [0, 2, 3, 4, 5, 6, 7] rfl⟩
            · have b_47 : iv 0 9999 u_39 := iv_l1 (Int32.not_le.mp c_43) bu_39 bv_22 (by decide)
              have b_48 : iv 1 10000 v_22 := iv_l2 (Int32.not_le.mp c_43) bu_39 bv_22 (by decide)
              refine lv_iconst (v := 0) hx hb dX10_fogs_87 (by decide) ?_
              refine lv_istore (lv' := [(8, .int 0), (7, .int u_39), (5, .int u_40), (6, .int u_31), (4, .int r_1), (0, .ref (z 0)), (1, .int a1), (2, .int a2), (3, .int a3)]) hx hb dX10_fogs_88 hl (by decide) rfl (fun ls hl => ?_)
              refine loopF (X := fun (n_52 : Nat) (H : Heap) (locs : List Loc) (ls : Array Slot) => ∃ (u_49 : Int32) (u_50 : Int32) (f_51 : Nat → Int64), (iv 0 4 u_49) ∧ (RW fz1) ∧ n_52 = (2147483647 - (u_49 : Int32).toInt).toNat ∧ va_P V.1 vwCl [(z 37, aI V 4 fz37), (z 15, aI V 900 f_16), (z 16, aI V 6 f_17), (z 24, aI V 10000 f_18), (z 25, aI V 40000 f_19), (z 28, aZ V 10000 f_20), (z 35, aJ V 90000 f_21), (z 38, aI V 4 fz38), (z 39, aJ V 160 fz39), (z 30, aJ V 10000 f_33), (z 31, aJ V 10000 f_51), (z 0, .inr (10, mo z 0 pz0_5 pz0_6 pz0_7 pz0_8 pz0_9 pz0_10 pz0_11 pz0_12 pz0_13 pz0_14 pz0_18 pz0_19 pz0_22 pz0_23 v_22)), (z 1, aI V 3075 fz1)] H ∧ va_D A [(z 37, aI V 4 fz37), (z 15, aI V 900 f_16), (z 16, aI V 6 f_17), (z 24, aI V 10000 f_18), (z 25, aI V 40000 f_19), (z 28, aZ V 10000 f_20), (z 35, aJ V 90000 f_21), (z 38, aI V 4 fz38), (z 39, aJ V 160 fz39), (z 30, aJ V 10000 f_33), (z 31, aJ V 10000 f_51), (z 0, .inr (10, mo z 0 pz0_5 pz0_6 pz0_7 pz0_8 pz0_9 pz0_10 pz0_11 pz0_12 pz0_13 pz0_14 pz0_18 pz0_19 pz0_22 pz0_23 v_22)), (z 1, aI V 3075 fz1)] ∧ va_S A s.heap H locs ∧ lv_has ls 10 [(8, .int u_49), (7, .int u_39), (5, .int u_50), (6, .int u_31), (4, .int r_1), (0, .ref (z 0)), (1, .int a1), (2, .int a2), (3, .int a3)]) (g := fun ls => F0 m 90 ls []) (fun n_52 H locs ls hX ihn_52 => ?_) _ ⟨0, u_40, f_41, (iv_c (0 : Int32) (by decide)), inn_42_0, rfl, hP, hD, hS, lv_sub hl [0, 1, 2, 3, 4, 5, 6, 7, 8] rfl⟩
              obtain ⟨u_49, u_50, f_51, bu_49, inn_52_0, en_52, hP, hD, hS, hl⟩ := hX
              refine lv_iload hx hb dX10_fogs_90 (lv_at hl 0 rfl) ?_
              refine lv_iconst (v := 4) hx hb dX10_fogs_92 (by decide) ?_
              refine lv_icmp_ge (tgt := 192) hx hb dX10_fogs_93 (by decide) (fun c_53 => ?_) (fun c_53 => ?_)
              · have b_54 : iv 4 4 u_49 := iv_e2 c_53 (iv_c (4 : Int32) (a := 4) (b := 4) (by decide)) bu_49 (by decide)
                obtain ⟨x_55, ex_55⟩ : ∃ z9 : Int32, z9 = u_39 + 1 := ⟨_, rfl⟩
                have bx_55 : iv 1 10000 x_55 := by rw [ex_55]; exact iv_add b_47 (iv_c (1 : Int32) (a := 1) (b := 1) (by decide)) (by decide)
                refine lv_iinc (v := x_55) (lv' := [(7, .int x_55), (8, .int u_49), (5, .int u_50), (6, .int u_31), (4, .int r_1), (0, .ref (z 0)), (1, .int a1), (2, .int a2), (3, .int a3)]) hx hb dX10_fogs_192 hl (k := 1) rfl (by rw [ex_55]; rfl) (by decide) rfl (fun ls hl => ?_)
                refine lv_goto (tgt := 78) hx hb dX10_fogs_195 (by decide) ?_
                exact ihn_42 _ _ _ _ (by rw [en_42, ex_55]; exact mu_up b_47 (by decide)) ⟨x_55, u_50, f_51, (iv_w bx_55 (by decide)), inn_52_0, rfl, hP, hD, hS, lv_sub hl [0, 2, 3, 4, 5, 6, 7, 8] rfl⟩
              · have b_56 : iv 0 3 u_49 := iv_l1 (Int32.not_le.mp c_53) bu_49 (iv_c (4 : Int32) (a := 4) (b := 4) (by decide)) (by decide)
                refine lv_aload_n hx hb dX10_fogs_96 rfl (lv_at hl 5 rfl) ?_
                refine va_get (ci := 10) (v := .ref (z 30)) (C := RX10) (T := TX10) (N := 40) hx hb hg inX10 hown hK hP 11 rfl rfl 30 (by decide) (hg _ q_6_14) (fun _ h9 => h9) rfl dX10_fogs_97 ?_
                refine lv_aload_n hx hb dX10_fogs_100 rfl (lv_at hl 5 rfl) ?_
                refine va_get (ci := 10) (v := .ref (z 24)) (C := RX10) (T := TX10) (N := 40) hx hb hg inX10 hown hK hP 11 rfl rfl 24 (by decide) (hg _ q_6_8) (fun _ h9 => h9) rfl dX10_fogs_101 ?_
                refine lv_iload hx hb dX10_fogs_104 (lv_at hl 1 rfl) ?_
                refine va_iald hx hb hK hP 3 0 rfl rfl (iv_in b_47 (by decide)) dX10_fogs_106 ?_
                refine lv_topi (fun x_57 ex_57 => ?_)
                have bx_57 : iv 0 9999 x_57 := by rw [ex_57]; exact tf_18 _
                refine va_lald hx hb hK hP 9 2 rfl rfl (iv_in bx_57 (by decide)) dX10_fogs_107 ?_
                refine lv_topl (fun j_58 ej_58 => ?_)
                refine lv_lconst (v := 0) hx hb dX10_fogs_108 (by decide) ?_
                refine W.lcmp hx hb dX10_fogs_109 ?_
                refine lv_if_le (tgt := 192) hx hb dX10_fogs_110 (by decide) (fun c_59 => ?_) (fun c_59 => ?_)
                · replace c_59 : j_58 ≤ (0 : Int64) := (lg_cmp_le _ _).mp c_59
                  have b_60 : ivL (-9223372036854775808) 0 j_58 := ivL_e1 c_59 (ivL_top j_58) (ivL_c (0 : Int64) (a := 0) (b := 0) (by decide)) (by decide)
                  obtain ⟨x_61, ex_61⟩ : ∃ z9 : Int32, z9 = u_39 + 1 := ⟨_, rfl⟩
                  have bx_61 : iv 1 10000 x_61 := by rw [ex_61]; exact iv_add b_47 (iv_c (1 : Int32) (a := 1) (b := 1) (by decide)) (by decide)
                  refine lv_iinc (v := x_61) (lv' := [(7, .int x_61), (8, .int u_49), (5, .int u_50), (6, .int u_31), (4, .int r_1), (0, .ref (z 0)), (1, .int a1), (2, .int a2), (3, .int a3)]) hx hb dX10_fogs_192 hl (k := 1) rfl (by rw [ex_61]; rfl) (by decide) rfl (fun ls hl => ?_)
                  refine lv_goto (tgt := 78) hx hb dX10_fogs_195 (by decide) ?_
                  exact ihn_42 _ _ _ _ (by rw [en_42, ex_61]; exact mu_up b_47 (by decide)) ⟨x_61, u_50, f_51, (iv_w bx_61 (by decide)), inn_52_0, rfl, hP, hD, hS, lv_sub hl [0, 2, 3, 4, 5, 6, 7, 8] rfl⟩
                · replace c_59 : ¬ j_58 ≤ (0 : Int64) := fun z => c_59 ((lg_cmp_le _ _).mpr z)
                  have b_62 : ivL 1 9223372036854775807 j_58 := ivL_l2 (Int64.not_le.mp c_59) (ivL_c (0 : Int64) (a := 0) (b := 0) (by decide)) (ivL_top j_58) (by decide)
                  refine lv_aload_n hx hb dX10_fogs_113 rfl (lv_at hl 5 rfl) ?_
                  refine va_get (ci := 10) (v := .ref (z 25)) (C := RX10) (T := TX10) (N := 40) hx hb hg inX10 hown hK hP 11 rfl rfl 25 (by decide) (hg _ q_6_9) (fun _ h9 => h9) rfl dX10_fogs_114 ?_
                  refine lv_iconst (v := 4) hx hb dX10_fogs_117 (by decide) ?_
                  refine lv_aload_n hx hb dX10_fogs_118 rfl (lv_at hl 5 rfl) ?_
                  refine va_get (ci := 10) (v := .ref (z 24)) (C := RX10) (T := TX10) (N := 40) hx hb hg inX10 hown hK hP 11 rfl rfl 24 (by decide) (hg _ q_6_8) (fun _ h9 => h9) rfl dX10_fogs_119 ?_
                  refine lv_iload hx hb dX10_fogs_122 (lv_at hl 1 rfl) ?_
                  refine va_iald hx hb hK hP 3 0 rfl rfl (iv_in b_47 (by decide)) dX10_fogs_124 ?_
                  refine tpi (y := x_57) ex_57.symm ?_
                  refine lv_imul hx hb dX10_fogs_125 ?_
                  refine lv_topi (fun x_63 ex_63 => ?_)
                  have bx_63 : iv 0 39996 x_63 := by rw [ex_63]; exact iv_cmul (iv_c (4 : Int32) (a := 4) (b := 4) (by decide)) bx_57 (by decide)
                  refine lv_iload hx hb dX10_fogs_126 (lv_at hl 0 rfl) ?_
                  refine lv_iadd hx hb dX10_fogs_128 ?_
                  refine lv_topi (fun x_64 ex_64 => ?_)
                  have bx_64 : iv 0 39999 x_64 := by rw [ex_64]; exact iv_add bx_63 b_56 (by decide)
                  refine va_iald hx hb hK hP 4 0 rfl rfl (iv_in bx_64 (by decide)) dX10_fogs_129 ?_
                  refine lv_topi (fun x_65 ex_65 => ?_)
                  have bx_65 : iv (-1) 9999 x_65 := by rw [ex_65]; exact tf_19 _
                  refine lv_istore (lv' := [(9, .int x_65), (8, .int u_49), (7, .int u_39), (5, .int u_50), (6, .int u_31), (4, .int r_1), (0, .ref (z 0)), (1, .int a1), (2, .int a2), (3, .int a3)]) hx hb dX10_fogs_130 hl (by decide) rfl (fun ls hl => ?_)
                  refine lv_aload_n hx hb dX10_fogs_132 rfl (lv_at hl 6 rfl) ?_
                  refine lv_iload_n hx hb dX10_fogs_133 rfl (lv_at hl 7 rfl) ?_
                  refine lv_iload_n hx hb dX10_fogs_134 rfl (lv_at hl 8 rfl) ?_
                  refine lv_iload hx hb dX10_fogs_135 (lv_at hl 4 rfl) ?_
                  refine lv_iload hx hb dX10_fogs_137 (lv_at hl 0 rfl) ?_
                  refine jnI (wr := [(z 37, aI V 4 fz37), (z 15, aI V 900 f_16), (z 16, aI V 6 f_17), (z 24, aI V 10000 f_18), (z 25, aI V 40000 f_19), (z 28, aZ V 10000 f_20), (z 35, aJ V 90000 f_21), (z 38, aI V 4 fz38), (z 30, aJ V 10000 f_33), (z 31, aJ V 10000 f_51), (z 1, aI V 3075 fz1)]) (rnV (rest := []) ⟨hx, hb, hml, hown, hg⟩ (k_X10_isSo_0 l V z a1 a2 u_31 x_65 fz39 0 pz0_5 pz0_6 pz0_7 pz0_8 pz0_9 pz0_10 pz0_11 pz0_12 pz0_13 pz0_14 pz0_18 pz0_19 pz0_22 pz0_23 v_22 b_7 b_8 (iv_w b_38 (by decide)) bx_65 bpz0_5 bpz0_6 bpz0_7 bpz0_8 bpz0_10 bpz0_11 bpz0_12 bpz0_13 bpz0_14 bpz0_18 bpz0_22 (iv_w b_48 (by decide))) mt_X10_isSo q_8_60 ⟨Nat.le_of_ble_eq_true rfl, Nat.le_of_ble_eq_true rfl⟩ hK hP hD hS hA hE [8, 11] rfl rfl 11 rfl rfl rfl rfl hl.1 rfl (Nat.le_of_ble_eq_true rfl) dX10_fogs_139 ⟨Nat.le_of_ble_eq_true rfl, Nat.le_of_ble_eq_true rfl⟩) hP hD hS hA [8, 11] [0, 1, 2, 3, 4, 5, 6, 7, 9, 10, 12] rfl rfl rfl (by decide) (fun r_66 w H locs hw hP hD hS => ?_)
                  obtain ⟨br_66, er_66, g_67, rfl⟩ := hw
                  have hP : va_P V.1 vwCl [(z 37, aI V 4 fz37), (z 15, aI V 900 f_16), (z 16, aI V 6 f_17), (z 24, aI V 10000 f_18), (z 25, aI V 40000 f_19), (z 28, aZ V 10000 f_20), (z 35, aJ V 90000 f_21), (z 38, aI V 4 fz38), (z 30, aJ V 10000 f_33), (z 31, aJ V 10000 f_51), (z 1, aI V 3075 fz1), (z 39, aJ V 160 fz39), (z 0, .inr (10, mo z 0 pz0_5 pz0_6 pz0_7 pz0_8 pz0_9 pz0_10 pz0_11 pz0_12 pz0_13 pz0_14 pz0_18 pz0_19 pz0_22 pz0_23 v_22))] H := hP
                  have hD := cpD hP hD
                  refine lv_if_eq (tgt := 186) hx hb dX10_fogs_142 (by decide) (fun c_68 => ?_) (fun c_68 => ?_)
                  · have b_69 : iv 0 0 r_66 := iv_q c_68 (iv_c (0 : Int32) (a := 0) (b := 0) (by decide))
                    obtain ⟨x_70, ex_70⟩ : ∃ z9 : Int32, z9 = u_49 + 1 := ⟨_, rfl⟩
                    have bx_70 : iv 1 4 x_70 := by rw [ex_70]; exact iv_add b_56 (iv_c (1 : Int32) (a := 1) (b := 1) (by decide)) (by decide)
                    refine lv_iinc (v := x_70) (lv' := [(8, .int x_70), (9, .int x_65), (7, .int u_39), (5, .int u_50), (6, .int u_31), (4, .int r_1), (0, .ref (z 0)), (1, .int a1), (2, .int a2), (3, .int a3)]) hx hb dX10_fogs_186 hl (k := 1) rfl (by rw [ex_70]; rfl) (by decide) rfl (fun ls hl => ?_)
                    refine lv_goto (tgt := 90) hx hb dX10_fogs_189 (by decide) ?_
                    have hP := subP (ws' := [(z 37, aI V 4 fz37), (z 15, aI V 900 f_16), (z 16, aI V 6 f_17), (z 24, aI V 10000 f_18), (z 25, aI V 40000 f_19), (z 28, aZ V 10000 f_20), (z 35, aJ V 90000 f_21), (z 38, aI V 4 fz38), (z 39, aJ V 160 fz39), (z 30, aJ V 10000 f_33), (z 31, aJ V 10000 f_51), (z 0, .inr (10, mo z 0 pz0_5 pz0_6 pz0_7 pz0_8 pz0_9 pz0_10 pz0_11 pz0_12 pz0_13 pz0_14 pz0_18 pz0_19 pz0_22 pz0_23 v_22)), (z 1, aI V 3075 fz1)]) hP [0, 1, 2, 3, 4, 5, 6, 7, 11, 8, 9, 12, 10] rfl
                    have hD := subD hP hD [0, 1, 2, 3, 4, 5, 6, 7, 11, 8, 9, 12, 10] rfl rfl
                    exact ihn_52 _ _ _ _ (by rw [en_52, ex_70]; exact mu_up b_56 (by decide)) ⟨x_70, u_50, f_51, (iv_w bx_70 (by decide)), inn_52_0, rfl, hP, hD, hS, lv_sub hl [0, 2, 3, 4, 5, 6, 7, 8, 9] rfl⟩
                  · have b_71 : iv 1 1 r_66 := iv_n0 c_68 br_66 (iv_c (0 : Int32) (a := 0) (b := 0) (by decide)) (by decide)
                    have b_72 : iv 0 9999 x_65 := iv_cap (g_67 (iv_eqp b_71 (iv_c (1 : Int32) (by decide)))) bx_65 (by decide)
                    refine lv_aload_n hx hb dX10_fogs_145 rfl (lv_at hl 6 rfl) ?_
                    refine va_get (ci := 10) (v := .ref (z 35)) (C := RX10) (T := TX10) (N := 40) hx hb hg inX10 hown hK hP 12 rfl rfl 35 (by decide) (hg _ q_6_19) (fun _ h9 => h9) rfl dX10_fogs_146 ?_
                    refine lv_sipush (v := 10000) hx hb dX10_fogs_149 (by decide) ?_
                    refine lv_iload hx hb dX10_fogs_152 (lv_at hl 4 rfl) ?_
                    refine lv_iconst (v := 1) hx hb dX10_fogs_154 (by decide) ?_
                    refine lv_iadd hx hb dX10_fogs_155 ?_
                    refine lv_topi (fun x_73 ex_73 => ?_)
                    have bx_73 : iv 1 8 x_73 := by rw [ex_73]; exact iv_add b_38 (iv_c (1 : Int32) (a := 1) (b := 1) (by decide)) (by decide)
                    refine lv_imul hx hb dX10_fogs_156 ?_
                    refine lv_topi (fun x_74 ex_74 => ?_)
                    have bx_74 : iv 10000 80000 x_74 := by rw [ex_74]; exact iv_cmul (iv_c (10000 : Int32) (a := 10000) (b := 10000) (by decide)) bx_73 (by decide)
                    refine lv_iload hx hb dX10_fogs_157 (lv_at hl 0 rfl) ?_
                    refine lv_iadd hx hb dX10_fogs_159 ?_
                    refine lv_topi (fun x_75 ex_75 => ?_)
                    have bx_75 : iv 10000 89999 x_75 := by rw [ex_75]; exact iv_add bx_74 b_72 (by decide)
                    refine va_lald hx hb hK hP 6 2 rfl rfl (iv_in bx_75 (by decide)) dX10_fogs_160 ?_
                    refine lv_topl (fun j_76 ej_76 => ?_)
                    refine lv_lconst (v := 0) hx hb dX10_fogs_161 (by decide) ?_
                    refine W.lcmp hx hb dX10_fogs_162 ?_
                    refine lv_if_ne (tgt := 169) hx hb dX10_fogs_163 (by decide) (fun c_77 => ?_) (fun c_77 => ?_)
                    · replace c_77 : ¬ j_76 = (0 : Int64) := fun z => c_77 ((lg_cmp_eq _ _).mpr z)
                      refine lv_aload_n hx hb dX10_fogs_169 rfl (lv_at hl 6 rfl) ?_
                      refine va_get (ci := 10) (v := .ref (z 31)) (C := RX10) (T := TX10) (N := 40) hx hb hg inX10 hown hK hP 12 rfl rfl 31 (by decide) (hg _ q_6_15) (fun _ h9 => h9) rfl dX10_fogs_170 ?_
                      refine lv_iload hx hb dX10_fogs_173 (lv_at hl 0 rfl) ?_
                      refine lv_lconst (v := 1) hx hb dX10_fogs_175 (by decide) ?_
                      refine va_last hx hb hK hP hD hS 9 2 rfl rfl (iv_in b_72 (by decide)) dX10_fogs_176 (fun H locs hP hD hS => ?_)
                      obtain ⟨f_78, hP, hD⟩ : ∃ f_78 : Nat → Int64, va_P V.1 vwCl [(z 37, aI V 4 fz37), (z 15, aI V 900 f_16), (z 16, aI V 6 f_17), (z 24, aI V 10000 f_18), (z 25, aI V 40000 f_19), (z 28, aZ V 10000 f_20), (z 35, aJ V 90000 f_21), (z 38, aI V 4 fz38), (z 30, aJ V 10000 f_33), (z 31, aJ V 10000 f_78), (z 1, aI V 3075 fz1), (z 39, aJ V 160 fz39), (z 0, .inr (10, mo z 0 pz0_5 pz0_6 pz0_7 pz0_8 pz0_9 pz0_10 pz0_11 pz0_12 pz0_13 pz0_14 pz0_18 pz0_19 pz0_22 pz0_23 v_22))] H ∧ va_D A [(z 37, aI V 4 fz37), (z 15, aI V 900 f_16), (z 16, aI V 6 f_17), (z 24, aI V 10000 f_18), (z 25, aI V 40000 f_19), (z 28, aZ V 10000 f_20), (z 35, aJ V 90000 f_21), (z 38, aI V 4 fz38), (z 30, aJ V 10000 f_33), (z 31, aJ V 10000 f_78), (z 1, aI V 3075 fz1), (z 39, aJ V 160 fz39), (z 0, .inr (10, mo z 0 pz0_5 pz0_6 pz0_7 pz0_8 pz0_9 pz0_10 pz0_11 pz0_12 pz0_13 pz0_14 pz0_18 pz0_19 pz0_22 pz0_23 v_22))] := ⟨_, hP, hD⟩
                      refine lv_iload hx hb dX10_fogs_177 (lv_at hl 3 rfl) ?_
                      refine lv_iconst (v := 1) hx hb dX10_fogs_179 (by decide) ?_
                      refine lv_iload hx hb dX10_fogs_180 (lv_at hl 1 rfl) ?_
                      refine lv_ishl hx hb dX10_fogs_182 ?_
                      refine lv_topi (fun x_79 ex_79 => ?_)
                      have bx_79 : iv 1 8 x_79 := by rw [ex_79]; exact iv_shl1 b_56 (by decide)
                      refine lv_ior hx hb dX10_fogs_183 ?_
                      refine lv_topi (fun x_80 ex_80 => ?_)
                      refine lv_istore (lv' := [(5, .int x_80), (9, .int x_65), (8, .int u_49), (7, .int u_39), (6, .int u_31), (4, .int r_1), (0, .ref (z 0)), (1, .int a1), (2, .int a2), (3, .int a3)]) hx hb dX10_fogs_184 hl (by decide) rfl (fun ls hl => ?_)
                      obtain ⟨x_81, ex_81⟩ : ∃ z9 : Int32, z9 = u_49 + 1 := ⟨_, rfl⟩
                      have bx_81 : iv 1 4 x_81 := by rw [ex_81]; exact iv_add b_56 (iv_c (1 : Int32) (a := 1) (b := 1) (by decide)) (by decide)
                      refine lv_iinc (v := x_81) (lv' := [(8, .int x_81), (5, .int x_80), (9, .int x_65), (7, .int u_39), (6, .int u_31), (4, .int r_1), (0, .ref (z 0)), (1, .int a1), (2, .int a2), (3, .int a3)]) hx hb dX10_fogs_186 hl (k := 2) rfl (by rw [ex_81]; rfl) (by decide) rfl (fun ls hl => ?_)
                      refine lv_goto (tgt := 90) hx hb dX10_fogs_189 (by decide) ?_
                      have hP := subP (ws' := [(z 37, aI V 4 fz37), (z 15, aI V 900 f_16), (z 16, aI V 6 f_17), (z 24, aI V 10000 f_18), (z 25, aI V 40000 f_19), (z 28, aZ V 10000 f_20), (z 35, aJ V 90000 f_21), (z 38, aI V 4 fz38), (z 39, aJ V 160 fz39), (z 30, aJ V 10000 f_33), (z 31, aJ V 10000 f_78), (z 0, .inr (10, mo z 0 pz0_5 pz0_6 pz0_7 pz0_8 pz0_9 pz0_10 pz0_11 pz0_12 pz0_13 pz0_14 pz0_18 pz0_19 pz0_22 pz0_23 v_22)), (z 1, aI V 3075 fz1)]) hP [0, 1, 2, 3, 4, 5, 6, 7, 11, 8, 9, 12, 10] rfl
                      have hD := subD hP hD [0, 1, 2, 3, 4, 5, 6, 7, 11, 8, 9, 12, 10] rfl rfl
                      exact ihn_52 _ _ _ _ (by rw [en_52, ex_81]; exact mu_up b_56 (by decide)) ⟨x_81, x_80, f_78, (iv_w bx_81 (by decide)), inn_52_0, rfl, hP, hD, hS, lv_sub hl [0, 3, 1, 4, 5, 6, 7, 8, 9] rfl⟩
                    · replace c_77 : j_76 = (0 : Int64) := (lg_cmp_eq _ _).mp c_77
                      have b_82 : ivL 0 0 j_76 := ivL_q c_77 (ivL_c (0 : Int64) (a := 0) (b := 0) (by decide))
                      refine lv_goto (tgt := 186) hx hb dX10_fogs_166 (by decide) ?_
                      obtain ⟨x_83, ex_83⟩ : ∃ z9 : Int32, z9 = u_49 + 1 := ⟨_, rfl⟩
                      have bx_83 : iv 1 4 x_83 := by rw [ex_83]; exact iv_add b_56 (iv_c (1 : Int32) (a := 1) (b := 1) (by decide)) (by decide)
                      refine lv_iinc (v := x_83) (lv' := [(8, .int x_83), (9, .int x_65), (7, .int u_39), (5, .int u_50), (6, .int u_31), (4, .int r_1), (0, .ref (z 0)), (1, .int a1), (2, .int a2), (3, .int a3)]) hx hb dX10_fogs_186 hl (k := 1) rfl (by rw [ex_83]; rfl) (by decide) rfl (fun ls hl => ?_)
                      refine lv_goto (tgt := 90) hx hb dX10_fogs_189 (by decide) ?_
                      have hP := subP (ws' := [(z 37, aI V 4 fz37), (z 15, aI V 900 f_16), (z 16, aI V 6 f_17), (z 24, aI V 10000 f_18), (z 25, aI V 40000 f_19), (z 28, aZ V 10000 f_20), (z 35, aJ V 90000 f_21), (z 38, aI V 4 fz38), (z 39, aJ V 160 fz39), (z 30, aJ V 10000 f_33), (z 31, aJ V 10000 f_51), (z 0, .inr (10, mo z 0 pz0_5 pz0_6 pz0_7 pz0_8 pz0_9 pz0_10 pz0_11 pz0_12 pz0_13 pz0_14 pz0_18 pz0_19 pz0_22 pz0_23 v_22)), (z 1, aI V 3075 fz1)]) hP [0, 1, 2, 3, 4, 5, 6, 7, 11, 8, 9, 12, 10] rfl
                      have hD := subD hP hD [0, 1, 2, 3, 4, 5, 6, 7, 11, 8, 9, 12, 10] rfl rfl
                      exact ihn_52 _ _ _ _ (by rw [en_52, ex_83]; exact mu_up b_56 (by decide)) ⟨x_83, u_50, f_51, (iv_w bx_83 (by decide)), inn_52_0, rfl, hP, hD, hS, lv_sub hl [0, 2, 3, 4, 5, 6, 7, 8, 9] rfl⟩
        · replace c_28 : r_15 = (0 : Int64) := (lg_cmp_eq _ _).mp c_28
          have b_84 : ivL 0 0 r_15 := ivL_q c_28 (ivL_c (0 : Int64) (a := 0) (b := 0) (by decide))
          refine lv_iload hx hb dX10_fogs_56 (lv_at hl 0 rfl) ?_
          have hP := subP (ws' := [(z 0, .inr (10, mo z 0 pz0_5 pz0_6 pz0_7 pz0_8 pz0_9 pz0_10 pz0_11 pz0_12 pz0_13 pz0_14 pz0_18 pz0_19 pz0_22 pz0_23 v_22)), (z 1, aI V 3075 fz1), (z 15, aI V 900 f_16), (z 16, aI V 6 f_17), (z 24, aI V 10000 f_18), (z 25, aI V 40000 f_19), (z 28, aZ V 10000 f_20), (z 30, aJ V 10000 fz30), (z 31, aJ V 10000 fz31), (z 35, aJ V 90000 f_21), (z 37, aI V 4 fz37), (z 38, aI V 4 fz38), (z 39, aJ V 160 fz39)]) hP [9, 10, 3, 4, 5, 6, 7, 0, 1, 8, 2, 11, 12] rfl
          have hD := subD hP hD [9, 10, 3, 4, 5, 6, 7, 0, 1, 8, 2, 11, 12] rfl rfl
          exact fiI hx hb hr hlk hK hP hD hS dX10_fogs_58 (Nat.le_of_ble_eq_true rfl) (Nat.le_of_ble_eq_true rfl) (⟨0, v_22, f_16, f_17, f_18, f_19, f_20, fz30, fz31, f_21, bv_22, tf_17, tf_18, tf_19, g_23, rfl⟩)
      · have b_85 : iv 1 2147483647 a3 := iv_e2 (Int32.not_lt.mp c_13) b_12 b_10 (by decide)
        refine lv_bipush (v := (-7)) hx hb dX10_fogs_39 (by decide) ?_
        have hP := subP (ws' := [(z 0, .inr (10, mo z 0 pz0_5 pz0_6 pz0_7 pz0_8 pz0_9 pz0_10 pz0_11 pz0_12 pz0_13 pz0_14 pz0_18 pz0_19 pz0_22 pz0_23 pz0_29)), (z 1, aI V 3075 fz1), (z 15, aI V 900 fz15), (z 16, aI V 6 fz16), (z 24, aI V 10000 fz24), (z 25, aI V 40000 fz25), (z 28, aZ V 10000 fz28), (z 30, aJ V 10000 fz30), (z 31, aJ V 10000 fz31), (z 35, aJ V 90000 fz35), (z 37, aI V 4 fz37), (z 38, aI V 4 fz38), (z 39, aJ V 160 fz39)]) hP [8, 9, 0, 1, 2, 3, 4, 5, 6, 7, 10, 11, 12] rfl
        have hD := subD hP hD [8, 9, 0, 1, 2, 3, 4, 5, 6, 7, 10, 11, 12] rfl rfl
        exact fiI hx hb hr hlk hK hP hD hS dX10_fogs_41 (Nat.le_of_ble_eq_true rfl) (Nat.le_of_ble_eq_true rfl) (⟨0, pz0_29, fz15, fz16, fz24, fz25, fz28, fz30, fz31, fz35, bpz0_29, tfz16, tfz24, tfz25, hf0, rfl⟩)
    · have b_86 : iv (-2147483648) (-1) a3 := iv_l1 (Int32.not_le.mp c_9) (iv_top a3) (iv_c (0 : Int32) (a := 0) (b := 0) (by decide)) (by decide)
      refine lv_bipush (v := (-3)) hx hb dX10_fogs_26 (by decide) ?_
      have hP := subP (ws' := [(z 0, .inr (10, mo z 0 pz0_5 pz0_6 pz0_7 pz0_8 pz0_9 pz0_10 pz0_11 pz0_12 pz0_13 pz0_14 pz0_18 pz0_19 pz0_22 pz0_23 pz0_29)), (z 1, aI V 3075 fz1), (z 15, aI V 900 fz15), (z 16, aI V 6 fz16), (z 24, aI V 10000 fz24), (z 25, aI V 40000 fz25), (z 28, aZ V 10000 fz28), (z 30, aJ V 10000 fz30), (z 31, aJ V 10000 fz31), (z 35, aJ V 90000 fz35), (z 37, aI V 4 fz37), (z 38, aI V 4 fz38), (z 39, aJ V 160 fz39)]) hP [8, 9, 0, 1, 2, 3, 4, 5, 6, 7, 10, 11, 12] rfl
      have hD := subD hP hD [8, 9, 0, 1, 2, 3, 4, 5, 6, 7, 10, 11, 12] rfl rfl
      exact fiI hx hb hr hlk hK hP hD hS dX10_fogs_28 (Nat.le_of_ble_eq_true rfl) (Nat.le_of_ble_eq_true rfl) (⟨0, pz0_29, fz15, fz16, fz24, fz25, fz28, fz30, fz31, fz35, bpz0_29, tfz16, tfz24, tfz25, hf0, rfl⟩)
  · have b_87 : iv (-6) (-1) r_1 := iv_n1 c_5 br_1 (iv_c (0 : Int32) (a := 0) (b := 0) (by decide)) (by decide)
    refine lv_iload hx hb dX10_fogs_19 (lv_at hl 0 rfl) ?_
    have hP := subP (ws' := [(z 0, .inr (10, mo z 0 pz0_5 pz0_6 pz0_7 pz0_8 pz0_9 pz0_10 pz0_11 pz0_12 pz0_13 pz0_14 pz0_18 pz0_19 pz0_22 pz0_23 pz0_29)), (z 1, aI V 3075 fz1), (z 15, aI V 900 fz15), (z 16, aI V 6 fz16), (z 24, aI V 10000 fz24), (z 25, aI V 40000 fz25), (z 28, aZ V 10000 fz28), (z 30, aJ V 10000 fz30), (z 31, aJ V 10000 fz31), (z 35, aJ V 90000 fz35), (z 37, aI V 4 fz37), (z 38, aI V 4 fz38), (z 39, aJ V 160 fz39)]) hP [8, 9, 0, 1, 2, 3, 4, 5, 6, 7, 10, 11, 12] rfl
    have hD := subD hP hD [8, 9, 0, 1, 2, 3, 4, 5, 6, 7, 10, 11, 12] rfl rfl
    exact fiI hx hb hr hlk hK hP hD hS dX10_fogs_21 (Nat.le_of_ble_eq_true rfl) (Nat.le_of_ble_eq_true rfl) (⟨0, pz0_29, fz15, fz16, fz24, fz25, fz28, fz30, fz31, fz35, bpz0_29, tfz16, tfz24, tfz25, hf0, rfl⟩)
