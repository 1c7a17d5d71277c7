theorem dX10_laysLikely_0 : decode cX10_laysLikely 0 = .ok (.aload_n 0, 1) := by decide +kernel
theorem dX10_laysLikely_1 : decode cX10_laysLikely 1 = .ok (.invokevirtual 362, 3) := by decide +kernel
theorem dX10_laysLikely_4 : decode cX10_laysLikely 4 = .ok (.aload_n 0, 1) := by decide +kernel
theorem dX10_laysLikely_5 : decode cX10_laysLikely 5 = .ok (.invokevirtual 389, 3) := by decide +kernel
theorem dX10_laysLikely_8 : decode cX10_laysLikely 8 = .ok (.aload_n 0, 1) := by decide +kernel
theorem dX10_laysLikely_9 : decode cX10_laysLikely 9 = .ok (.getfield 13, 3) := by decide +kernel
theorem dX10_laysLikely_12 : decode cX10_laysLikely 12 = .ok (.iconst 1, 1) := by decide +kernel
theorem dX10_laysLikely_13 : decode cX10_laysLikely 13 = .ok (.iaload, 1) := by decide +kernel
theorem dX10_laysLikely_14 : decode cX10_laysLikely 14 = .ok (.ifCond .ne 7, 3) := by decide +kernel
theorem dX10_laysLikely_21 : decode cX10_laysLikely 21 = .ok (.aload_n 0, 1) := by decide +kernel
theorem dX10_laysLikely_22 : decode cX10_laysLikely 22 = .ok (.getfield 13, 3) := by decide +kernel
theorem dX10_laysLikely_25 : decode cX10_laysLikely 25 = .ok (.iconst 1, 1) := by decide +kernel
theorem dX10_laysLikely_26 : decode cX10_laysLikely 26 = .ok (.iaload, 1) := by decide +kernel
theorem dX10_laysLikely_27 : decode cX10_laysLikely 27 = .ok (.iconst 1, 1) := by decide +kernel
theorem dX10_laysLikely_28 : decode cX10_laysLikely 28 = .ok (.isub, 1) := by decide +kernel
theorem dX10_laysLikely_29 : decode cX10_laysLikely 29 = .ok (.istore_n 2, 1) := by decide +kernel
theorem dX10_laysLikely_30 : decode cX10_laysLikely 30 = .ok (.iconst 0, 1) := by decide +kernel
theorem dX10_laysLikely_31 : decode cX10_laysLikely 31 = .ok (.istore_n 3, 1) := by decide +kernel
theorem dX10_laysLikely_32 : decode cX10_laysLikely 32 = .ok (.iload_n 3, 1) := by decide +kernel
theorem dX10_laysLikely_33 : decode cX10_laysLikely 33 = .ok (.iload_n 1, 1) := by decide +kernel
theorem dX10_laysLikely_34 : decode cX10_laysLikely 34 = .ok (.if_icmp .ge 20, 3) := by decide +kernel
theorem dX10_laysLikely_54 : decode cX10_laysLikely 54 = .ok (.return_, 1) := by decide +kernel
theorem dX10_laysLikely_37 : decode cX10_laysLikely 37 = .ok (.aload_n 0, 1) := by decide +kernel
theorem dX10_laysLikely_38 : decode cX10_laysLikely 38 = .ok (.ldc2_w 298, 3) := by decide +kernel
theorem dX10_laysLikely_41 : decode cX10_laysLikely 41 = .ok (.iload_n 2, 1) := by decide +kernel
theorem dX10_laysLikely_42 : decode cX10_laysLikely 42 = .ok (.i2l, 1) := by decide +kernel
theorem dX10_laysLikely_43 : decode cX10_laysLikely 43 = .ok (.lsub, 1) := by decide +kernel
theorem dX10_laysLikely_44 : decode cX10_laysLikely 44 = .ok (.lconst 1, 1) := by decide +kernel
theorem dX10_laysLikely_45 : decode cX10_laysLikely 45 = .ok (.invokevirtual 392, 3) := by decide +kernel
theorem dX10_laysLikely_48 : decode cX10_laysLikely 48 = .ok (.iinc 3 1, 3) := by decide +kernel
theorem dX10_laysLikely_51 : decode cX10_laysLikely 51 = .ok (.goto (-19), 3) := by decide +kernel
theorem dX10_laysLikely_17 : decode cX10_laysLikely 17 = .ok (.iconst 0, 1) := by decide +kernel
theorem dX10_laysLikely_18 : decode cX10_laysLikely 18 = .ok (.goto 11, 3) := by decide +kernel
set_option maxHeartbeats 4000000 in
set_option maxRecDepth 100000 in
theorem k_X10_laysLikely_0 (l : Launch) (V : GV) (z : Nat → Nat) (a1 : Int32) (fz15 : Nat → Int32) (fz16 : Nat → Int32) (fz24 : Nat → Int32) (fz25 : Nat → Int32) (fz28 : Nat → Int32) (fz30 : Nat → Int64) (fz31 : Nat → Int64) (pz0_0 : Int32) (pz0_5 : Int32) (pz0_6 : Int32) (pz0_7 : Int32) (pz0_8 : Int32) (pz0_9 : Int32) (pz0_10 : Int32) (pz0_11 : Int32) (pz0_12 : Int32) (pz0_13 : Int32) (pz0_14 : Int32) (pz0_18 : Int32) (pz0_19 : Int32) (pz0_22 : Int32) (pz0_23 : Int32) (pz0_29 : Int32) (fz1 : Nat → Int32) (tfz16 : ivT tW fz16) (tfz24 : ∀ j, iv 0 9999 (fz24 j)) (tfz25 : ∀ j, iv (-1) 9999 (fz25 j)) (bpz0_5 : iv 0 900 pz0_5) (bpz0_6 : iv 0 900 pz0_6) (bpz0_7 : iv 0 900 pz0_7) (bpz0_8 : iv 0 900 pz0_8) (bpz0_10 : iv 0 999 pz0_10) (bpz0_11 : iv 0 4 pz0_11) (bpz0_12 : iv 0 900 pz0_12) (bpz0_13 : iv 0 4 pz0_13) (bpz0_14 : iv (-1) 900 pz0_14) (bpz0_18 : iv 0 2 pz0_18) (bpz0_22 : iv 0 9999 pz0_22) (bpz0_29 : iv 0 10000 pz0_29) (tfz1 : ivT tA fz1) (hf0 : RW fz1) : Ct l V yX10_laysLikely (.code yX10_laysLikely cX10_laysLikely 4 none) 6 [.ref (z 0), .int a1] [(z 15, aI V 900 fz15), (z 16, aI V 6 fz16), (z 24, aI V 10000 fz24), (z 25, aI V 40000 fz25), (z 28, aZ V 10000 fz28), (z 30, aJ V 10000 fz30), (z 31, aJ V 10000 fz31), (z 0, .inr (10, mo z pz0_0 pz0_5 pz0_6 pz0_7 pz0_8 pz0_9 pz0_10 pz0_11 pz0_12 pz0_13 pz0_14 pz0_18 pz0_19 pz0_22 pz0_23 pz0_29)), (z 1, aI V 3075 fz1)] 0 0 (QV V (fun (w : va_W) => ∃ (g0 : Nat → Int32) (g1 : Nat → Int32) (g2 : Nat → Int32) (g3 : Nat → Int32) (g4 : Nat → Int32) (g5 : Nat → Int64) (g6 : Nat → Int64) (v7 : Int32), (ivT tW g1) ∧ (∀ j, iv 0 9999 (g2 j)) ∧ (∀ j, iv (-1) 9999 (g3 j)) ∧ iv 0 10000 v7 ∧ (RW fz1) ∧ w = [(z 15, aI V 900 g0), (z 16, aI V 6 g1), (z 24, aI V 10000 g2), (z 25, aI V 40000 g3), (z 28, aZ V 10000 g4), (z 30, aJ V 10000 g5), (z 31, aJ V 10000 g6), (z 0, .inr (10, mo z pz0_0 pz0_5 pz0_6 pz0_7 pz0_8 pz0_9 pz0_10 pz0_11 pz0_12 pz0_13 pz0_14 pz0_18 pz0_19 pz0_22 pz0_23 v7)), (z 1, aI V 3075 fz1)])) := by
  refine Ct.of (by decide) (Nat.le_of_ble_eq_true rfl) (fun p e s m below meth c A ls hx hb hr hml hown hlk hnm hg hP hK hD hE hA hS hl => ?_)
  have hl : lv_has ls 4 [(0, .ref (z 0)), (1, .int a1)] := hl
  refine lv_aload_n hx hb dX10_laysLikely_0 rfl (lv_at hl 0 rfl) ?_
  refine jnV (wr := [(z 30, aJ V 10000 fz30), (z 31, aJ V 10000 fz31)]) (rnV (rest := []) ⟨hx, hb, hml, hown, hg⟩ (k_X10_laysStands_0 l V z fz15 fz16 fz24 fz25 fz28 pz0_0 pz0_5 pz0_6 pz0_7 pz0_8 pz0_9 pz0_10 pz0_11 pz0_12 pz0_13 pz0_14 pz0_18 pz0_19 pz0_22 pz0_23 pz0_29 fz1 tfz16 tfz24 tfz25 bpz0_5 bpz0_6 bpz0_7 bpz0_8 bpz0_10 bpz0_11 bpz0_12 bpz0_13 bpz0_14 bpz0_18 bpz0_22 bpz0_29 tfz1 hf0) mt_X10_laysStands q_7_194 ⟨Nat.le_of_ble_eq_true rfl, Nat.le_of_ble_eq_true rfl⟩ hK hP hD hS hA hE [0, 1, 2, 3, 4, 7, 8] rfl rfl 7 rfl rfl rfl rfl hl.1 rfl (Nat.le_of_ble_eq_true rfl) dX10_laysLikely_1 ⟨Nat.le_of_ble_eq_true rfl, Nat.le_of_ble_eq_true rfl⟩) hP hD hS hA [0, 1, 2, 3, 4, 7, 8] [5, 6] rfl rfl rfl (by decide) (fun  w H locs hw hP hD hS => ?_)
  obtain ⟨f_1, f_2, f_3, f_4, f_5, v_6, tf_2, tf_3, tf_4, bv_6, g_7, g_8, g_9, rfl⟩ := hw
  have hP : va_P V.1 vwCl [(z 30, aJ V 10000 fz30), (z 31, aJ V 10000 fz31), (z 15, aI V 900 f_1), (z 16, aI V 6 f_2), (z 24, aI V 10000 f_3), (z 25, aI V 40000 f_4), (z 28, aZ V 10000 f_5), (z 0, .inr (10, mo z pz0_0 pz0_5 pz0_6 pz0_7 pz0_8 pz0_9 pz0_10 pz0_11 pz0_12 pz0_13 pz0_14 pz0_18 pz0_19 pz0_22 pz0_23 v_6)), (z 1, aI V 3075 fz1)] H := hP
  have hD := cpD hP hD
  refine lv_aload_n hx hb dX10_laysLikely_4 rfl (lv_at hl 0 rfl) ?_
  refine jnV (wr := [(z 15, aI V 900 f_1), (z 16, aI V 6 f_2), (z 24, aI V 10000 f_3), (z 25, aI V 40000 f_4), (z 28, aZ V 10000 f_5)]) (rnV (rest := []) ⟨hx, hb, hml, hown, hg⟩ (k_X10_beginsMany_0 l V z fz30 fz31 pz0_0 pz0_5 pz0_6 pz0_7 pz0_8 pz0_9 pz0_10 pz0_11 pz0_12 pz0_13 pz0_14 pz0_18 pz0_19 pz0_22 pz0_23 v_6 fz1 bpz0_5 bpz0_6 bpz0_7 bpz0_8 bpz0_10 bpz0_11 bpz0_12 bpz0_13 bpz0_14 bpz0_18 bpz0_22 bv_6 tfz1) mt_X10_beginsMany q_7_220 ⟨Nat.le_of_ble_eq_true rfl, Nat.le_of_ble_eq_true rfl⟩ hK hP hD hS hA hE [0, 1, 7, 8] rfl rfl 7 rfl rfl rfl rfl hl.1 rfl (Nat.le_of_ble_eq_true rfl) dX10_laysLikely_5 ⟨Nat.le_of_ble_eq_true rfl, Nat.le_of_ble_eq_true rfl⟩) hP hD hS hA [0, 1, 7, 8] [2, 3, 4, 5, 6] rfl rfl rfl (by decide) (fun  w H locs hw hP hD hS => ?_)
  obtain ⟨f_10, f_11, rfl⟩ := hw
  have hP : va_P V.1 vwCl [(z 15, aI V 900 f_1), (z 16, aI V 6 f_2), (z 24, aI V 10000 f_3), (z 25, aI V 40000 f_4), (z 28, aZ V 10000 f_5), (z 30, aJ V 10000 f_10), (z 31, aJ V 10000 f_11), (z 0, .inr (10, mo z pz0_0 pz0_5 pz0_6 pz0_7 pz0_8 pz0_9 pz0_10 pz0_11 pz0_12 pz0_13 pz0_14 pz0_18 pz0_19 pz0_22 pz0_23 v_6)), (z 1, aI V 3075 fz1)] H := hP
  have hD := cpD hP hD
  refine lv_aload_n hx hb dX10_laysLikely_8 rfl (lv_at hl 0 rfl) ?_
  refine va_get (ci := 10) (v := .ref (z 1)) (C := RX10) (T := TX10) (N := 40) hx hb hg inX10 hown hK hP 7 rfl rfl 1 (by decide) (hg _ q_5_225) (fun _ h9 => h9) rfl dX10_laysLikely_9 ?_
  refine lv_iconst (v := 1) hx hb dX10_laysLikely_12 (by decide) ?_
  refine va_iald hx hb hK hP 8 0 rfl rfl (vin (by decide +kernel)) dX10_laysLikely_13 ?_
  refine lv_topi (fun x_12 ex_12 => ?_)
  have bx_12 : iv 0 4 x_12 := by rw [ex_12]; exact rdT (a := 1) (n := 1) tfz1 (iv_c (1 : Int32) (a := 1) (b := 1) (by decide)) (by decide) (by decide +kernel)
  refine lv_if_ne (tgt := 21) hx hb dX10_laysLikely_14 (by decide) (fun c_13 => ?_) (fun c_13 => ?_)
  · have b_14 : iv 1 4 x_12 := iv_n0 c_13 bx_12 (iv_c (0 : Int32) (a := 0) (b := 0) (by decide)) (by decide)
    refine lv_aload_n hx hb dX10_laysLikely_21 rfl (lv_at hl 0 rfl) ?_
    refine va_get (ci := 10) (v := .ref (z 1)) (C := RX10) (T := TX10) (N := 40) hx hb hg inX10 hown hK hP 7 rfl rfl 1 (by decide) (hg _ q_5_225) (fun _ h9 => h9) rfl dX10_laysLikely_22 ?_
    refine lv_iconst (v := 1) hx hb dX10_laysLikely_25 (by decide) ?_
    refine va_iald hx hb hK hP 8 0 rfl rfl (vin (by decide +kernel)) dX10_laysLikely_26 ?_
    refine tpi (y := x_12) ex_12.symm ?_
    refine lv_iconst (v := 1) hx hb dX10_laysLikely_27 (by decide) ?_
    refine lv_isub hx hb dX10_laysLikely_28 ?_
    refine lv_topi (fun x_15 ex_15 => ?_)
    have bx_15 : iv 0 3 x_15 := by rw [ex_15]; exact iv_sub b_14 (iv_c (1 : Int32) (a := 1) (b := 1) (by decide)) (by decide)
    refine lv_istore_n (lv' := [(2, .int x_15), (0, .ref (z 0)), (1, .int a1)]) hx hb dX10_laysLikely_29 rfl hl (by decide) rfl (fun ls hl => ?_)
    refine lv_iconst (v := 0) hx hb dX10_laysLikely_30 (by decide) ?_
    refine lv_istore_n (lv' := [(3, .int 0), (2, .int x_15), (0, .ref (z 0)), (1, .int a1)]) hx hb dX10_laysLikely_31 rfl hl (by decide) rfl (fun ls hl => ?_)
    refine loopF (X := fun (n_19 : Nat) (H : Heap) (locs : List Loc) (ls : Array Slot) => ∃ (u_16 : Int32) (f_17 : Nat → Int64) (f_18 : Nat → Int64), (iv 0 2147483647 u_16) ∧ (RW fz1) ∧ n_19 = (2147483647 - (u_16 : Int32).toInt).toNat ∧ va_P V.1 vwCl [(z 15, aI V 900 f_1), (z 16, aI V 6 f_2), (z 24, aI V 10000 f_3), (z 25, aI V 40000 f_4), (z 28, aZ V 10000 f_5), (z 30, aJ V 10000 f_17), (z 31, aJ V 10000 f_18), (z 0, .inr (10, mo z pz0_0 pz0_5 pz0_6 pz0_7 pz0_8 pz0_9 pz0_10 pz0_11 pz0_12 pz0_13 pz0_14 pz0_18 pz0_19 pz0_22 pz0_23 v_6)), (z 1, aI V 3075 fz1)] H ∧ va_D A [(z 15, aI V 900 f_1), (z 16, aI V 6 f_2), (z 24, aI V 10000 f_3), (z 25, aI V 40000 f_4), (z 28, aZ V 10000 f_5), (z 30, aJ V 10000 f_17), (z 31, aJ V 10000 f_18), (z 0, .inr (10, mo z pz0_0 pz0_5 pz0_6 pz0_7 pz0_8 pz0_9 pz0_10 pz0_11 pz0_12 pz0_13 pz0_14 pz0_18 pz0_19 pz0_22 pz0_23 v_6)), (z 1, aI V 3075 fz1)] ∧ va_S A s.heap H locs ∧ lv_has ls 4 [(3, .int u_16), (2, .int x_15), (0, .ref (z 0)), (1, .int a1)]) (g := fun ls => F0 m 32 ls []) (fun n_19 H locs ls hX ihn_19 => ?_) _ ⟨0, f_10, f_11, (iv_c (0 : Int32) (by decide)), g_7, rfl, hP, hD, hS, lv_sub hl [0, 1, 2, 3] rfl⟩
    obtain ⟨u_16, f_17, f_18, bu_16, inn_19_0, en_19, hP, hD, hS, hl⟩ := hX
    refine lv_iload_n hx hb dX10_laysLikely_32 rfl (lv_at hl 0 rfl) ?_
    refine lv_iload_n hx hb dX10_laysLikely_33 rfl (lv_at hl 3 rfl) ?_
    refine lv_icmp_ge (tgt := 54) hx hb dX10_laysLikely_34 (by decide) (fun c_20 => ?_) (fun c_20 => ?_)
    · exact fiV hx hb hr hlk hK hP hD hS dX10_laysLikely_54 (Nat.le_of_ble_eq_true rfl) (Nat.le_of_ble_eq_true rfl) (⟨f_1, f_2, f_3, f_4, f_5, f_17, f_18, v_6, tf_2, tf_3, tf_4, bv_6, inn_19_0, rfl⟩)
    · have b_21 : iv 0 2147483646 u_16 := iv_l1 (Int32.not_le.mp c_20) bu_16 (iv_top a1) (by decide)
      have b_22 : iv 1 2147483647 a1 := iv_l2 (Int32.not_le.mp c_20) bu_16 (iv_top a1) (by decide)
      refine lv_aload_n hx hb dX10_laysLikely_37 rfl (lv_at hl 2 rfl) ?_
      refine lv_ldc2 (v := 10) hx hb hown (hg _ q_7_102) dX10_laysLikely_38 ?_
      refine lv_iload_n hx hb dX10_laysLikely_41 rfl (lv_at hl 1 rfl) ?_
      refine lv_i2l hx hb dX10_laysLikely_42 rfl ?_
      refine lv_topl (fun j_23 ej_23 => ?_)
      have bj_23 : ivL 0 3 j_23 := by rw [ej_23]; exact ivL_of bx_15
      refine lv_lsub hx hb dX10_laysLikely_43 ?_
      refine lv_topl (fun j_24 ej_24 => ?_)
      refine lv_lconst (v := 1) hx hb dX10_laysLikely_44 (by decide) ?_
      refine jnV (wr := [(z 15, aI V 900 f_1), (z 16, aI V 6 f_2), (z 28, aZ V 10000 f_5), (z 1, aI V 3075 fz1)]) (rnV (rest := []) ⟨hx, hb, hml, hown, hg⟩ (k_X10_goesMany_0 l V z j_24 1 f_3 f_4 f_17 f_18 pz0_0 pz0_5 pz0_6 pz0_7 pz0_8 pz0_9 pz0_10 pz0_11 pz0_12 pz0_13 pz0_14 pz0_18 pz0_19 pz0_22 pz0_23 v_6 tf_3 tf_4 bpz0_5 bpz0_6 bpz0_7 bpz0_8 bpz0_10 bpz0_11 bpz0_12 bpz0_13 bpz0_14 bpz0_18 bpz0_22 bv_6) mt_X10_goesMany q_7_224 ⟨Nat.le_of_ble_eq_true rfl, Nat.le_of_ble_eq_true rfl⟩ hK hP hD hS hA hE [2, 3, 5, 6, 7] rfl rfl 7 rfl rfl rfl rfl hl.1 rfl (Nat.le_of_ble_eq_true rfl) dX10_laysLikely_45 ⟨Nat.le_of_ble_eq_true rfl, Nat.le_of_ble_eq_true rfl⟩) hP hD hS hA [2, 3, 5, 6, 7] [0, 1, 4, 8] rfl rfl rfl (by decide) (fun  w H locs hw hP hD hS => ?_)
      obtain ⟨f_25, f_26, rfl⟩ := hw
      have hP : va_P V.1 vwCl [(z 15, aI V 900 f_1), (z 16, aI V 6 f_2), (z 28, aZ V 10000 f_5), (z 1, aI V 3075 fz1), (z 24, aI V 10000 f_3), (z 25, aI V 40000 f_4), (z 30, aJ V 10000 f_25), (z 31, aJ V 10000 f_26), (z 0, .inr (10, mo z pz0_0 pz0_5 pz0_6 pz0_7 pz0_8 pz0_9 pz0_10 pz0_11 pz0_12 pz0_13 pz0_14 pz0_18 pz0_19 pz0_22 pz0_23 v_6))] H := hP
      have hD := cpD hP hD
      obtain ⟨x_27, ex_27⟩ : ∃ z9 : Int32, z9 = u_16 + 1 := ⟨_, rfl⟩
      have bx_27 : iv 1 2147483647 x_27 := by rw [ex_27]; exact iv_add b_21 (iv_c (1 : Int32) (a := 1) (b := 1) (by decide)) (by decide)
      refine lv_iinc (v := x_27) (lv' := [(3, .int x_27), (2, .int x_15), (0, .ref (z 0)), (1, .int a1)]) hx hb dX10_laysLikely_48 hl (k := 0) rfl (by rw [ex_27]; rfl) (by decide) rfl (fun ls hl => ?_)
      refine lv_goto (tgt := 32) hx hb dX10_laysLikely_51 (by decide) ?_
      have hP := subP (ws' := [(z 15, aI V 900 f_1), (z 16, aI V 6 f_2), (z 24, aI V 10000 f_3), (z 25, aI V 40000 f_4), (z 28, aZ V 10000 f_5), (z 30, aJ V 10000 f_25), (z 31, aJ V 10000 f_26), (z 0, .inr (10, mo z pz0_0 pz0_5 pz0_6 pz0_7 pz0_8 pz0_9 pz0_10 pz0_11 pz0_12 pz0_13 pz0_14 pz0_18 pz0_19 pz0_22 pz0_23 v_6)), (z 1, aI V 3075 fz1)]) hP [0, 1, 4, 5, 2, 6, 7, 8, 3] rfl
      have hD := subD hP hD [0, 1, 4, 5, 2, 6, 7, 8, 3] rfl rfl
      exact ihn_19 _ _ _ _ (by rw [en_19, ex_27]; exact mu_up b_21 (by decide)) ⟨x_27, f_25, f_26, (iv_w bx_27 (by decide)), inn_19_0, rfl, hP, hD, hS, lv_sub hl [0, 1, 2, 3] rfl⟩
  · have b_28 : iv 0 0 x_12 := iv_q c_13 (iv_c (0 : Int32) (a := 0) (b := 0) (by decide))
    refine lv_iconst (v := 0) hx hb dX10_laysLikely_17 (by decide) ?_
    refine lv_goto (tgt := 29) hx hb dX10_laysLikely_18 (by decide) ?_
    refine lv_istore_n (lv' := [(2, .int 0), (0, .ref (z 0)), (1, .int a1)]) hx hb dX10_laysLikely_29 rfl hl (by decide) rfl (fun ls hl => ?_)
    refine lv_iconst (v := 0) hx hb dX10_laysLikely_30 (by decide) ?_
    refine lv_istore_n (lv' := [(3, .int 0), (2, .int 0), (0, .ref (z 0)), (1, .int a1)]) hx hb dX10_laysLikely_31 rfl hl (by decide) rfl (fun ls hl => ?_)
    refine loopF (X := fun (n_32 : Nat) (H : Heap) (locs : List Loc) (ls : Array Slot) => ∃ (u_29 : Int32) (f_30 : Nat → Int64) (f_31 : Nat → Int64), (iv 0 2147483647 u_29) ∧ (RW fz1) ∧ n_32 = (2147483647 - (u_29 : Int32).toInt).toNat ∧ va_P V.1 vwCl [(z 15, aI V 900 f_1), (z 16, aI V 6 f_2), (z 24, aI V 10000 f_3), (z 25, aI V 40000 f_4), (z 28, aZ V 10000 f_5), (z 30, aJ V 10000 f_30), (z 31, aJ V 10000 f_31), (z 0, .inr (10, mo z pz0_0 pz0_5 pz0_6 pz0_7 pz0_8 pz0_9 pz0_10 pz0_11 pz0_12 pz0_13 pz0_14 pz0_18 pz0_19 pz0_22 pz0_23 v_6)), (z 1, aI V 3075 fz1)] H ∧ va_D A [(z 15, aI V 900 f_1), (z 16, aI V 6 f_2), (z 24, aI V 10000 f_3), (z 25, aI V 40000 f_4), (z 28, aZ V 10000 f_5), (z 30, aJ V 10000 f_30), (z 31, aJ V 10000 f_31), (z 0, .inr (10, mo z pz0_0 pz0_5 pz0_6 pz0_7 pz0_8 pz0_9 pz0_10 pz0_11 pz0_12 pz0_13 pz0_14 pz0_18 pz0_19 pz0_22 pz0_23 v_6)), (z 1, aI V 3075 fz1)] ∧ va_S A s.heap H locs ∧ lv_has ls 4 [(3, .int u_29), (2, .int 0), (0, .ref (z 0)), (1, .int a1)]) (g := fun ls => F0 m 32 ls []) (fun n_32 H locs ls hX ihn_32 => ?_) _ ⟨0, f_10, f_11, (iv_c (0 : Int32) (by decide)), g_7, rfl, hP, hD, hS, lv_sub hl [0, 1, 2, 3] rfl⟩
    obtain ⟨u_29, f_30, f_31, bu_29, inn_32_0, en_32, hP, hD, hS, hl⟩ := hX
    refine lv_iload_n hx hb dX10_laysLikely_32 rfl (lv_at hl 0 rfl) ?_
    refine lv_iload_n hx hb dX10_laysLikely_33 rfl (lv_at hl 3 rfl) ?_
    refine lv_icmp_ge (tgt := 54) hx hb dX10_laysLikely_34 (by decide) (fun c_33 => ?_) (fun c_33 => ?_)
    · exact fiV hx hb hr hlk hK hP hD hS dX10_laysLikely_54 (Nat.le_of_ble_eq_true rfl) (Nat.le_of_ble_eq_true rfl) (⟨f_1, f_2, f_3, f_4, f_5, f_30, f_31, v_6, tf_2, tf_3, tf_4, bv_6, inn_32_0, rfl⟩)
    · have b_34 : iv 0 2147483646 u_29 := iv_l1 (Int32.not_le.mp c_33) bu_29 (iv_top a1) (by decide)
      have b_35 : iv 1 2147483647 a1 := iv_l2 (Int32.not_le.mp c_33) bu_29 (iv_top a1) (by decide)
      refine lv_aload_n hx hb dX10_laysLikely_37 rfl (lv_at hl 2 rfl) ?_
      refine lv_ldc2 (v := 10) hx hb hown (hg _ q_7_102) dX10_laysLikely_38 ?_
      refine lv_iload_n hx hb dX10_laysLikely_41 rfl (lv_at hl 1 rfl) ?_
      refine lv_i2l (v := 0) hx hb dX10_laysLikely_42 (by decide +kernel) ?_
      refine lv_lsub hx hb dX10_laysLikely_43 ?_
      refine tpl (y := 10) (by decide +kernel) ?_
      refine lv_lconst (v := 1) hx hb dX10_laysLikely_44 (by decide) ?_
      refine jnV (wr := [(z 15, aI V 900 f_1), (z 16, aI V 6 f_2), (z 28, aZ V 10000 f_5), (z 1, aI V 3075 fz1)]) (rnV (rest := []) ⟨hx, hb, hml, hown, hg⟩ (k_X10_goesMany_0 l V z 10 1 f_3 f_4 f_30 f_31 pz0_0 pz0_5 pz0_6 pz0_7 pz0_8 pz0_9 pz0_10 pz0_11 pz0_12 pz0_13 pz0_14 pz0_18 pz0_19 pz0_22 pz0_23 v_6 tf_3 tf_4 bpz0_5 bpz0_6 bpz0_7 bpz0_8 bpz0_10 bpz0_11 bpz0_12 bpz0_13 bpz0_14 bpz0_18 bpz0_22 bv_6) mt_X10_goesMany q_7_224 ⟨Nat.le_of_ble_eq_true rfl, Nat.le_of_ble_eq_true rfl⟩ hK hP hD hS hA hE [2, 3, 5, 6, 7] rfl rfl 7 rfl rfl rfl rfl hl.1 rfl (Nat.le_of_ble_eq_true rfl) dX10_laysLikely_45 ⟨Nat.le_of_ble_eq_true rfl, Nat.le_of_ble_eq_true rfl⟩) hP hD hS hA [2, 3, 5, 6, 7] [0, 1, 4, 8] rfl rfl rfl (by decide) (fun  w H locs hw hP hD hS => ?_)
      obtain ⟨f_36, f_37, rfl⟩ := hw
      have hP : va_P V.1 vwCl [(z 15, aI V 900 f_1), (z 16, aI V 6 f_2), (z 28, aZ V 10000 f_5), (z 1, aI V 3075 fz1), (z 24, aI V 10000 f_3), (z 25, aI V 40000 f_4), (z 30, aJ V 10000 f_36), (z 31, aJ V 10000 f_37), (z 0, .inr (10, mo z pz0_0 pz0_5 pz0_6 pz0_7 pz0_8 pz0_9 pz0_10 pz0_11 pz0_12 pz0_13 pz0_14 pz0_18 pz0_19 pz0_22 pz0_23 v_6))] H := hP
      have hD := cpD hP hD
      obtain ⟨x_38, ex_38⟩ : ∃ z9 : Int32, z9 = u_29 + 1 := ⟨_, rfl⟩
      have bx_38 : iv 1 2147483647 x_38 := by rw [ex_38]; exact iv_add b_34 (iv_c (1 : Int32) (a := 1) (b := 1) (by decide)) (by decide)
      refine lv_iinc (v := x_38) (lv' := [(3, .int x_38), (2, .int 0), (0, .ref (z 0)), (1, .int a1)]) hx hb dX10_laysLikely_48 hl (k := 0) rfl (by rw [ex_38]; rfl) (by decide) rfl (fun ls hl => ?_)
      refine lv_goto (tgt := 32) hx hb dX10_laysLikely_51 (by decide) ?_
      have hP := subP (ws' := [(z 15, aI V 900 f_1), (z 16, aI V 6 f_2), (z 24, aI V 10000 f_3), (z 25, aI V 40000 f_4), (z 28, aZ V 10000 f_5), (z 30, aJ V 10000 f_36), (z 31, aJ V 10000 f_37), (z 0, .inr (10, mo z pz0_0 pz0_5 pz0_6 pz0_7 pz0_8 pz0_9 pz0_10 pz0_11 pz0_12 pz0_13 pz0_14 pz0_18 pz0_19 pz0_22 pz0_23 v_6)), (z 1, aI V 3075 fz1)]) hP [0, 1, 4, 5, 2, 6, 7, 8, 3] rfl
      have hD := subD hP hD [0, 1, 4, 5, 2, 6, 7, 8, 3] rfl rfl
      exact ihn_32 _ _ _ _ (by rw [en_32, ex_38]; exact mu_up b_34 (by decide)) ⟨x_38, f_36, f_37, (iv_w bx_38 (by decide)), inn_32_0, rfl, hP, hD, hS, lv_sub hl [0, 1, 2, 3] rfl⟩
theorem dX10_wholeOf_0 : decode cX10_wholeOf 0 = .ok (.lconst 1, 1) := by decide +kernel
theorem dX10_wholeOf_1 : decode cX10_wholeOf 1 = .ok (.lstore_n 1, 1) := by decide +kernel
theorem dX10_wholeOf_2 : decode cX10_wholeOf 2 = .ok (.iconst 0, 1) := by decide +kernel
theorem dX10_wholeOf_3 : decode cX10_wholeOf 3 = .ok (.istore_n 3, 1) := by decide +kernel
theorem dX10_wholeOf_4 : decode cX10_wholeOf 4 = .ok (.iload_n 3, 1) := by decide +kernel
theorem dX10_wholeOf_5 : decode cX10_wholeOf 5 = .ok (.iload_n 0, 1) := by decide +kernel
theorem dX10_wholeOf_6 : decode cX10_wholeOf 6 = .ok (.if_icmp .ge 15, 3) := by decide +kernel
theorem dX10_wholeOf_21 : decode cX10_wholeOf 21 = .ok (.lload_n 1, 1) := by decide +kernel
theorem dX10_wholeOf_22 : decode cX10_wholeOf 22 = .ok (.lreturn, 1) := by decide +kernel
theorem dX10_wholeOf_9 : decode cX10_wholeOf 9 = .ok (.lload_n 1, 1) := by decide +kernel
theorem dX10_wholeOf_10 : decode cX10_wholeOf 10 = .ok (.ldc2_w 298, 3) := by decide +kernel
theorem dX10_wholeOf_13 : decode cX10_wholeOf 13 = .ok (.lmul, 1) := by decide +kernel
theorem dX10_wholeOf_14 : decode cX10_wholeOf 14 = .ok (.lstore_n 1, 1) := by decide +kernel
theorem dX10_wholeOf_15 : decode cX10_wholeOf 15 = .ok (.iinc 3 1, 3) := by decide +kernel
theorem dX10_wholeOf_18 : decode cX10_wholeOf 18 = .ok (.goto (-14), 3) := by decide +kernel
set_option maxHeartbeats 4000000 in
set_option maxRecDepth 100000 in
theorem k_X10_wholeOf_0 (l : Launch) (V : GV) (a0 : Int32) (ba0 : iv 0 7 a0) : Ct l V yX10_wholeOf (.code yX10_wholeOf cX10_wholeOf 4 (some .long)) 1 [.int a0] [] 0 0 (QL V (fun (r : Int64) (w : va_W) => (ivL 1 10000000 r) ∧ w = [])) := by
  refine Ct.of (by decide) (Nat.le_of_ble_eq_true rfl) (fun p e s m below meth c A ls hx hb hr hml hown hlk hnm hg hP hK hD hE hA hS hl => ?_)
  have hl : lv_has ls 4 [(0, .int a0)] := hl
  refine lv_lconst (v := 1) hx hb dX10_wholeOf_0 (by decide) ?_
  refine lv_lstore_n (lv' := [(1, .long 1), (0, .int a0)]) hx hb dX10_wholeOf_1 rfl hl (by decide) rfl (fun ls hl => ?_)
  refine lv_iconst (v := 0) hx hb dX10_wholeOf_2 (by decide) ?_
  refine lv_istore_n (lv' := [(3, .int 0), (1, .long 1), (0, .int a0)]) hx hb dX10_wholeOf_3 rfl hl (by decide) rfl (fun ls hl => ?_)
  refine lv_iload_n hx hb dX10_wholeOf_4 rfl (lv_at hl 0 rfl) ?_
  refine lv_iload_n hx hb dX10_wholeOf_5 rfl (lv_at hl 2 rfl) ?_
  refine lv_icmp_ge (tgt := 21) hx hb dX10_wholeOf_6 (by decide) (fun c_1 => ?_) (fun c_1 => ?_)
  · have b_2 : iv 0 0 a0 := iv_e1 c_1 ba0 (iv_c (0 : Int32) (a := 0) (b := 0) (by decide)) (by decide)
    refine lv_lload_n hx hb dX10_wholeOf_21 rfl (lv_at hl 1 rfl) ?_
    exact fiL hx hb hr hlk hK hP hD hS dX10_wholeOf_22 (Nat.le_of_ble_eq_true rfl) (Nat.le_of_ble_eq_true rfl) (⟨(ivL_c (1 : Int64) (by decide)), rfl⟩)
  · have b_3 : iv 1 7 a0 := iv_l2 (Int32.not_le.mp c_1) (iv_c (0 : Int32) (a := 0) (b := 0) (by decide)) ba0 (by decide)
    refine lv_lload_n hx hb dX10_wholeOf_9 rfl (lv_at hl 1 rfl) ?_
    refine lv_ldc2 (v := 10) hx hb hown (hg _ q_7_102) dX10_wholeOf_10 ?_
    refine lv_lmul hx hb dX10_wholeOf_13 ?_
    refine tpl (y := 10) (by decide +kernel) ?_
    refine lv_lstore_n (lv' := [(1, .long 10), (3, .int 0), (0, .int a0)]) hx hb dX10_wholeOf_14 rfl hl (by decide) rfl (fun ls hl => ?_)
    refine lv_iinc (v := 1) (lv' := [(3, .int 1), (1, .long 10), (0, .int a0)]) hx hb dX10_wholeOf_15 hl (k := 1) rfl (by decide +kernel) (by decide) rfl (fun ls hl => ?_)
    refine lv_goto (tgt := 4) hx hb dX10_wholeOf_18 (by decide) ?_
    refine lv_iload_n hx hb dX10_wholeOf_4 rfl (lv_at hl 0 rfl) ?_
    refine lv_iload_n hx hb dX10_wholeOf_5 rfl (lv_at hl 2 rfl) ?_
    refine lv_icmp_ge (tgt := 21) hx hb dX10_wholeOf_6 (by decide) (fun c_4 => ?_) (fun c_4 => ?_)
    · have b_5 : iv 1 1 a0 := iv_e1 c_4 b_3 (iv_c (1 : Int32) (a := 1) (b := 1) (by decide)) (by decide)
      refine lv_lload_n hx hb dX10_wholeOf_21 rfl (lv_at hl 1 rfl) ?_
      exact fiL hx hb hr hlk hK hP hD hS dX10_wholeOf_22 (Nat.le_of_ble_eq_true rfl) (Nat.le_of_ble_eq_true rfl) (⟨(ivL_c (10 : Int64) (by decide)), rfl⟩)
    · have b_6 : iv 2 7 a0 := iv_l2 (Int32.not_le.mp c_4) (iv_c (1 : Int32) (a := 1) (b := 1) (by decide)) b_3 (by decide)
      refine lv_lload_n hx hb dX10_wholeOf_9 rfl (lv_at hl 1 rfl) ?_
      refine lv_ldc2 (v := 10) hx hb hown (hg _ q_7_102) dX10_wholeOf_10 ?_
      refine lv_lmul hx hb dX10_wholeOf_13 ?_
      refine tpl (y := 100) (by decide +kernel) ?_
      refine lv_lstore_n (lv' := [(1, .long 100), (3, .int 1), (0, .int a0)]) hx hb dX10_wholeOf_14 rfl hl (by decide) rfl (fun ls hl => ?_)
      refine lv_iinc (v := 2) (lv' := [(3, .int 2), (1, .long 100), (0, .int a0)]) hx hb dX10_wholeOf_15 hl (k := 1) rfl (by decide +kernel) (by decide) rfl (fun ls hl => ?_)
      refine lv_goto (tgt := 4) hx hb dX10_wholeOf_18 (by decide) ?_
      refine lv_iload_n hx hb dX10_wholeOf_4 rfl (lv_at hl 0 rfl) ?_
      refine lv_iload_n hx hb dX10_wholeOf_5 rfl (lv_at hl 2 rfl) ?_
      refine lv_icmp_ge (tgt := 21) hx hb dX10_wholeOf_6 (by decide) (fun c_7 => ?_) (fun c_7 => ?_)
      · have b_8 : iv 2 2 a0 := iv_e1 c_7 b_6 (iv_c (2 : Int32) (a := 2) (b := 2) (by decide)) (by decide)
        refine lv_lload_n hx hb dX10_wholeOf_21 rfl (lv_at hl 1 rfl) ?_
        exact fiL hx hb hr hlk hK hP hD hS dX10_wholeOf_22 (Nat.le_of_ble_eq_true rfl) (Nat.le_of_ble_eq_true rfl) (⟨(ivL_c (100 : Int64) (by decide)), rfl⟩)
      · have b_9 : iv 3 7 a0 := iv_l2 (Int32.not_le.mp c_7) (iv_c (2 : Int32) (a := 2) (b := 2) (by decide)) b_6 (by decide)
        refine lv_lload_n hx hb dX10_wholeOf_9 rfl (lv_at hl 1 rfl) ?_
        refine lv_ldc2 (v := 10) hx hb hown (hg _ q_7_102) dX10_wholeOf_10 ?_
        refine lv_lmul hx hb dX10_wholeOf_13 ?_
        refine tpl (y := 1000) (by decide +kernel) ?_
        refine lv_lstore_n (lv' := [(1, .long 1000), (3, .int 2), (0, .int a0)]) hx hb dX10_wholeOf_14 rfl hl (by decide) rfl (fun ls hl => ?_)
        refine lv_iinc (v := 3) (lv' := [(3, .int 3), (1, .long 1000), (0, .int a0)]) hx hb dX10_wholeOf_15 hl (k := 1) rfl (by decide +kernel) (by decide) rfl (fun ls hl => ?_)
        refine lv_goto (tgt := 4) hx hb dX10_wholeOf_18 (by decide) ?_
        refine lv_iload_n hx hb dX10_wholeOf_4 rfl (lv_at hl 0 rfl) ?_
        refine lv_iload_n hx hb dX10_wholeOf_5 rfl (lv_at hl 2 rfl) ?_
        refine lv_icmp_ge (tgt := 21) hx hb dX10_wholeOf_6 (by decide) (fun c_10 => ?_) (fun c_10 => ?_)
        · have b_11 : iv 3 3 a0 := iv_e1 c_10 b_9 (iv_c (3 : Int32) (a := 3) (b := 3) (by decide)) (by decide)
          refine lv_lload_n hx hb dX10_wholeOf_21 rfl (lv_at hl 1 rfl) ?_
          exact fiL hx hb hr hlk hK hP hD hS dX10_wholeOf_22 (Nat.le_of_ble_eq_true rfl) (Nat.le_of_ble_eq_true rfl) (⟨(ivL_c (1000 : Int64) (by decide)), rfl⟩)
        · have b_12 : iv 4 7 a0 := iv_l2 (Int32.not_le.mp c_10) (iv_c (3 : Int32) (a := 3) (b := 3) (by decide)) b_9 (by decide)
          refine lv_lload_n hx hb dX10_wholeOf_9 rfl (lv_at hl 1 rfl) ?_
          refine lv_ldc2 (v := 10) hx hb hown (hg _ q_7_102) dX10_wholeOf_10 ?_
          refine lv_lmul hx hb dX10_wholeOf_13 ?_
          refine tpl (y := 10000) (by decide +kernel) ?_
          refine lv_lstore_n (lv' := [(1, .long 10000), (3, .int 3), (0, .int a0)]) hx hb dX10_wholeOf_14 rfl hl (by decide) rfl (fun ls hl => ?_)
          refine lv_iinc (v := 4) (lv' := [(3, .int 4), (1, .long 10000), (0, .int a0)]) hx hb dX10_wholeOf_15 hl (k := 1) rfl (by decide +kernel) (by decide) rfl (fun ls hl => ?_)
          refine lv_goto (tgt := 4) hx hb dX10_wholeOf_18 (by decide) ?_
          refine lv_iload_n hx hb dX10_wholeOf_4 rfl (lv_at hl 0 rfl) ?_
          refine lv_iload_n hx hb dX10_wholeOf_5 rfl (lv_at hl 2 rfl) ?_
          refine lv_icmp_ge (tgt := 21) hx hb dX10_wholeOf_6 (by decide) (fun c_13 => ?_) (fun c_13 => ?_)
          · have b_14 : iv 4 4 a0 := iv_e1 c_13 b_12 (iv_c (4 : Int32) (a := 4) (b := 4) (by decide)) (by decide)
            refine lv_lload_n hx hb dX10_wholeOf_21 rfl (lv_at hl 1 rfl) ?_
            exact fiL hx hb hr hlk hK hP hD hS dX10_wholeOf_22 (Nat.le_of_ble_eq_true rfl) (Nat.le_of_ble_eq_true rfl) (⟨(ivL_c (10000 : Int64) (by decide)), rfl⟩)
          · have b_15 : iv 5 7 a0 := iv_l2 (Int32.not_le.mp c_13) (iv_c (4 : Int32) (a := 4) (b := 4) (by decide)) b_12 (by decide)
            refine lv_lload_n hx hb dX10_wholeOf_9 rfl (lv_at hl 1 rfl) ?_
            refine lv_ldc2 (v := 10) hx hb hown (hg _ q_7_102) dX10_wholeOf_10 ?_
            refine lv_lmul hx hb dX10_wholeOf_13 ?_
            refine tpl (y := 100000) (by decide +kernel) ?_
            refine lv_lstore_n (lv' := [(1, .long 100000), (3, .int 4), (0, .int a0)]) hx hb dX10_wholeOf_14 rfl hl (by decide) rfl (fun ls hl => ?_)
            refine lv_iinc (v := 5) (lv' := [(3, .int 5), (1, .long 100000), (0, .int a0)]) hx hb dX10_wholeOf_15 hl (k := 1) rfl (by decide +kernel) (by decide) rfl (fun ls hl => ?_)
            refine lv_goto (tgt := 4) hx hb dX10_wholeOf_18 (by decide) ?_
            refine lv_iload_n hx hb dX10_wholeOf_4 rfl (lv_at hl 0 rfl) ?_
            refine lv_iload_n hx hb dX10_wholeOf_5 rfl (lv_at hl 2 rfl) ?_
            refine lv_icmp_ge (tgt := 21) hx hb dX10_wholeOf_6 (by decide) (fun c_16 => ?_) (fun c_16 => ?_)
            · have b_17 : iv 5 5 a0 := iv_e1 c_16 b_15 (iv_c (5 : Int32) (a := 5) (b := 5) (by decide)) (by decide)
              refine lv_lload_n hx hb dX10_wholeOf_21 rfl (lv_at hl 1 rfl) ?_
              exact fiL hx hb hr hlk hK hP hD hS dX10_wholeOf_22 (Nat.le_of_ble_eq_true rfl) (Nat.le_of_ble_eq_true rfl) (⟨(ivL_c (100000 : Int64) (by decide)), rfl⟩)
            · have b_18 : iv 6 7 a0 := iv_l2 (Int32.not_le.mp c_16) (iv_c (5 : Int32) (a := 5) (b := 5) (by decide)) b_15 (by decide)
              refine lv_lload_n hx hb dX10_wholeOf_9 rfl (lv_at hl 1 rfl) ?_
              refine lv_ldc2 (v := 10) hx hb hown (hg _ q_7_102) dX10_wholeOf_10 ?_
              refine lv_lmul hx hb dX10_wholeOf_13 ?_
              refine tpl (y := 1000000) (by decide +kernel) ?_
              refine lv_lstore_n (lv' := [(1, .long 1000000), (3, .int 5), (0, .int a0)]) hx hb dX10_wholeOf_14 rfl hl (by decide) rfl (fun ls hl => ?_)
              refine lv_iinc (v := 6) (lv' := [(3, .int 6), (1, .long 1000000), (0, .int a0)]) hx hb dX10_wholeOf_15 hl (k := 1) rfl (by decide +kernel) (by decide) rfl (fun ls hl => ?_)
              refine lv_goto (tgt := 4) hx hb dX10_wholeOf_18 (by decide) ?_
              refine lv_iload_n hx hb dX10_wholeOf_4 rfl (lv_at hl 0 rfl) ?_
              refine lv_iload_n hx hb dX10_wholeOf_5 rfl (lv_at hl 2 rfl) ?_
              refine lv_icmp_ge (tgt := 21) hx hb dX10_wholeOf_6 (by decide) (fun c_19 => ?_) (fun c_19 => ?_)
              · have b_20 : iv 6 6 a0 := iv_e1 c_19 b_18 (iv_c (6 : Int32) (a := 6) (b := 6) (by decide)) (by decide)
                refine lv_lload_n hx hb dX10_wholeOf_21 rfl (lv_at hl 1 rfl) ?_
                exact fiL hx hb hr hlk hK hP hD hS dX10_wholeOf_22 (Nat.le_of_ble_eq_true rfl) (Nat.le_of_ble_eq_true rfl) (⟨(ivL_c (1000000 : Int64) (by decide)), rfl⟩)
              · have b_21 : iv 7 7 a0 := iv_l2 (Int32.not_le.mp c_19) (iv_c (6 : Int32) (a := 6) (b := 6) (by decide)) b_18 (by decide)
                refine lv_lload_n hx hb dX10_wholeOf_9 rfl (lv_at hl 1 rfl) ?_
                refine lv_ldc2 (v := 10) hx hb hown (hg _ q_7_102) dX10_wholeOf_10 ?_
                refine lv_lmul hx hb dX10_wholeOf_13 ?_
                refine tpl (y := 10000000) (by decide +kernel) ?_
                refine lv_lstore_n (lv' := [(1, .long 10000000), (3, .int 6), (0, .int a0)]) hx hb dX10_wholeOf_14 rfl hl (by decide) rfl (fun ls hl => ?_)
                refine lv_iinc (v := 7) (lv' := [(3, .int 7), (1, .long 10000000), (0, .int a0)]) hx hb dX10_wholeOf_15 hl (k := 1) rfl (by decide +kernel) (by decide) rfl (fun ls hl => ?_)
                refine lv_goto (tgt := 4) hx hb dX10_wholeOf_18 (by decide) ?_
                refine lv_iload_n hx hb dX10_wholeOf_4 rfl (lv_at hl 0 rfl) ?_
                refine lv_iload_n hx hb dX10_wholeOf_5 rfl (lv_at hl 2 rfl) ?_
                refine lv_icmp_ge (tgt := 21) hx hb dX10_wholeOf_6 (by decide) (fun _ => ?_) (fun c_22 => absurd (iv_le b_21 (iv_c (7 : Int32) (a := 7) (b := 7) (by decide)) (by decide)) c_22)
                refine lv_lload_n hx hb dX10_wholeOf_21 rfl (lv_at hl 1 rfl) ?_
                exact fiL hx hb hr hlk hK hP hD hS dX10_wholeOf_22 (Nat.le_of_ble_eq_true rfl) (Nat.le_of_ble_eq_true rfl) (⟨(ivL_c (10000000 : Int64) (by decide)), rfl⟩)
theorem dX10_common_0 : decode cX10_common 0 = .ok (.lload_n 2, 1) := by decide +kernel
theorem dX10_common_1 : decode cX10_common 1 = .ok (.lconst 0, 1) := by decide +kernel
theorem dX10_common_2 : decode cX10_common 2 = .ok (.lcmp, 1) := by decide +kernel
theorem dX10_common_3 : decode cX10_common 3 = .ok (.ifCond .ne 7, 3) := by decide +kernel
theorem dX10_common_6 : decode cX10_common 6 = .ok (.lload_n 0, 1) := by decide +kernel
theorem dX10_common_7 : decode cX10_common 7 = .ok (.goto 10, 3) := by decide +kernel
theorem dX10_common_17 : decode cX10_common 17 = .ok (.lreturn, 1) := by decide +kernel
set_option maxHeartbeats 4000000 in
set_option maxRecDepth 100000 in
theorem k_X10_common_0 (l : Launch) (V : GV) (k0 : Int64) (k1 : Int64) (bk1 : ivL 0 0 k1) (hf0 : ¬ k0 = 0 ∨ ¬ k1 = 0) : Ct l V yX10_common (.code yX10_common cX10_common 4 (some .long)) 1 [.long k0, .long k1] [] 0 0 (QL V (fun (r : Int64) (w : va_W) => (¬ r = 0) ∧ w = [])) := by
  refine Ct.of (by decide) (Nat.le_of_ble_eq_true rfl) (fun p e s m below meth c A ls hx hb hr hml hown hlk hnm hg hP hK hD hE hA hS hl => ?_)
  have hl : lv_has ls 4 [(0, .long k0), (2, .long k1)] := hl
  refine lv_lload_n hx hb dX10_common_0 rfl (lv_at hl 1 rfl) ?_
  refine lv_lconst (v := 0) hx hb dX10_common_1 (by decide) ?_
  refine W.lcmp hx hb dX10_common_2 ?_
  refine lv_if_ne (tgt := 10) hx hb dX10_common_3 (by decide) (fun c_1 => absurd (ivL_eqp bk1 (ivL_c (0 : Int64) (a := 0) (b := 0) (by decide))) (fun z => c_1 ((lg_cmp_eq _ _).mpr z))) (fun _ => ?_)
  refine lv_lload_n hx hb dX10_common_6 rfl (lv_at hl 0 rfl) ?_
  refine lv_goto (tgt := 17) hx hb dX10_common_7 (by decide) ?_
  exact fiL hx hb hr hlk hK hP hD hS dX10_common_17 (Nat.le_of_ble_eq_true rfl) (Nat.le_of_ble_eq_true rfl) (⟨(hf0.elim id (fun q9 => absurd (ivL_eqp bk1 (ivL_c (0 : Int64) (by decide))) q9)), rfl⟩)
theorem dX10_common_10 : decode cX10_common 10 = .ok (.lload_n 2, 1) := by decide +kernel
theorem dX10_common_11 : decode cX10_common 11 = .ok (.lload_n 0, 1) := by decide +kernel
theorem dX10_common_12 : decode cX10_common 12 = .ok (.lload_n 2, 1) := by decide +kernel
theorem dX10_common_13 : decode cX10_common 13 = .ok (.lrem, 1) := by decide +kernel
theorem q_8_126 : Cond.code yX10_common prog_12_method_124_code 4 (some FieldType.long) ∈ gw := gw_8 (i := 126) (rfl) rfl
theorem q_8_125 : Cond.static yX10_common ∈ gw := gw_8 (i := 125) (by decide +kernel) rfl
theorem mt_X10_common : MtS yX10_common cX10_common 4 (some .long) 2 := ⟨⟨q_8_126, q_1_9, by decide +kernel, by decide +kernel, by decide +kernel⟩, q_8_125⟩
theorem q_8_124 : Cond.methodLink "BeaconDelayModel" 447 yX10_common ∈ gw := gw_8 (i := 124) (by decide +kernel) rfl
theorem dX10_common_14 : decode cX10_common 14 = .ok (.invokestatic 447, 3) := by decide +kernel
set_option maxHeartbeats 4000000 in
set_option maxRecDepth 100000 in
theorem k_X10_common_1 (l : Launch) (V : GV) (k0 : Int64) (k1 : Int64) (bk0 : ivL (-1) 1 k0) (hf0 : ¬ k0 = 0) (hf1 : (k1 : Int64).toInt.natAbs < (k0 : Int64).toInt.natAbs) : Ct l V yX10_common (.code yX10_common cX10_common 4 (some .long)) 2 [.long k0, .long k1] [] 0 0 (QL V (fun (r : Int64) (w : va_W) => (¬ r = 0) ∧ w = [])) := by
  refine Ct.of (by decide) (Nat.le_of_ble_eq_true rfl) (fun p e s m below meth c A ls hx hb hr hml hown hlk hnm hg hP hK hD hE hA hS hl => ?_)
  have hl : lv_has ls 4 [(0, .long k0), (2, .long k1)] := hl
  refine lv_lload_n hx hb dX10_common_0 rfl (lv_at hl 1 rfl) ?_
  refine lv_lconst (v := 0) hx hb dX10_common_1 (by decide) ?_
  refine W.lcmp hx hb dX10_common_2 ?_
  refine lv_if_ne (tgt := 10) hx hb dX10_common_3 (by decide) (fun c_1 => ?_) (fun c_1 => ?_)
  · replace c_1 : ¬ k1 = (0 : Int64) := fun z => c_1 ((lg_cmp_eq _ _).mpr z)
    refine lv_lload_n hx hb dX10_common_10 rfl (lv_at hl 1 rfl) ?_
    refine lv_lload_n hx hb dX10_common_11 rfl (lv_at hl 0 rfl) ?_
    refine lv_lload_n hx hb dX10_common_12 rfl (lv_at hl 1 rfl) ?_
    refine lv_lrem hx hb dX10_common_13 c_1 ?_
    refine lv_topl (fun j_2 ej_2 => ?_)
    have b_3 : ivL 0 0 j_2 := com_D (M := 1) (K := 0) ej_2 c_1 bk0 hf1 (by decide)
    refine jnL (wr := []) (rnS (rest := []) ⟨hx, hb, hml, hown, hg⟩ (k_X10_common_0 l V k1 j_2 b_3 (Or.inl c_1)) mt_X10_common q_8_124 ⟨Nat.le_of_ble_eq_true rfl, Nat.le_of_ble_eq_true rfl⟩ hK hP hD hS hA hE [] rfl rfl rfl hl.1 rfl (Nat.le_of_ble_eq_true rfl) dX10_common_14 ⟨Nat.le_of_ble_eq_true rfl, Nat.le_of_ble_eq_true rfl⟩) hP hD hS hA [] [] rfl rfl rfl (by decide) (fun r_4 w H locs hw hP hD hS => ?_)
    obtain ⟨g_5, rfl⟩ := hw
    have hP : va_P V.1 vwCl [] H := hP
    have hD := cpD hP hD
    exact fiL hx hb hr hlk hK hP hD hS dX10_common_17 (Nat.le_of_ble_eq_true rfl) (Nat.le_of_ble_eq_true rfl) (⟨g_5, rfl⟩)
  · replace c_1 : k1 = (0 : Int64) := (lg_cmp_eq _ _).mp c_1
    have b_6 : ivL 0 0 k1 := ivL_q c_1 (ivL_c (0 : Int64) (a := 0) (b := 0) (by decide))
    refine lv_lload_n hx hb dX10_common_6 rfl (lv_at hl 0 rfl) ?_
    refine lv_goto (tgt := 17) hx hb dX10_common_7 (by decide) ?_
    exact fiL hx hb hr hlk hK hP hD hS dX10_common_17 (Nat.le_of_ble_eq_true rfl) (Nat.le_of_ble_eq_true rfl) (⟨hf0, rfl⟩)
set_option maxHeartbeats 4000000 in
set_option maxRecDepth 100000 in
theorem k_X10_common_2 (l : Launch) (V : GV) (k0 : Int64) (k1 : Int64) (bk1 : ivL (-1) 1 k1) (hf0 : ¬ k0 = 0 ∨ ¬ k1 = 0) : Ct l V yX10_common (.code yX10_common cX10_common 4 (some .long)) 3 [.long k0, .long k1] [] 0 0 (QL V (fun (r : Int64) (w : va_W) => (¬ r = 0) ∧ w = [])) := by
  refine Ct.of (by decide) (Nat.le_of_ble_eq_true rfl) (fun p e s m below meth c A ls hx hb hr hml hown hlk hnm hg hP hK hD hE hA hS hl => ?_)
  have hl : lv_has ls 4 [(0, .long k0), (2, .long k1)] := hl
  refine lv_lload_n hx hb dX10_common_0 rfl (lv_at hl 1 rfl) ?_
  refine lv_lconst (v := 0) hx hb dX10_common_1 (by decide) ?_
  refine W.lcmp hx hb dX10_common_2 ?_
  refine lv_if_ne (tgt := 10) hx hb dX10_common_3 (by decide) (fun c_1 => ?_) (fun c_1 => ?_)
  · replace c_1 : ¬ k1 = (0 : Int64) := fun z => c_1 ((lg_cmp_eq _ _).mpr z)
    refine lv_lload_n hx hb dX10_common_10 rfl (lv_at hl 1 rfl) ?_
    refine lv_lload_n hx hb dX10_common_11 rfl (lv_at hl 0 rfl) ?_
    refine lv_lload_n hx hb dX10_common_12 rfl (lv_at hl 1 rfl) ?_
    refine lv_lrem hx hb dX10_common_13 c_1 ?_
    refine lv_topl (fun j_2 ej_2 => ?_)
    refine jnL (wr := []) (rnS (rest := []) ⟨hx, hb, hml, hown, hg⟩ (k_X10_common_1 l V k1 j_2 bk1 c_1 (com_C ej_2 c_1)) mt_X10_common q_8_124 ⟨Nat.le_of_ble_eq_true rfl, Nat.le_of_ble_eq_true rfl⟩ hK hP hD hS hA hE [] rfl rfl rfl hl.1 rfl (Nat.le_of_ble_eq_true rfl) dX10_common_14 ⟨Nat.le_of_ble_eq_true rfl, Nat.le_of_ble_eq_true rfl⟩) hP hD hS hA [] [] rfl rfl rfl (by decide) (fun r_3 w H locs hw hP hD hS => ?_)
    obtain ⟨g_4, rfl⟩ := hw
    have hP : va_P V.1 vwCl [] H := hP
    have hD := cpD hP hD
    exact fiL hx hb hr hlk hK hP hD hS dX10_common_17 (Nat.le_of_ble_eq_true rfl) (Nat.le_of_ble_eq_true rfl) (⟨g_4, rfl⟩)
  · replace c_1 : k1 = (0 : Int64) := (lg_cmp_eq _ _).mp c_1
    have b_5 : ivL 0 0 k1 := ivL_q c_1 (ivL_c (0 : Int64) (a := 0) (b := 0) (by decide))
    refine lv_lload_n hx hb dX10_common_6 rfl (lv_at hl 0 rfl) ?_
    refine lv_goto (tgt := 17) hx hb dX10_common_7 (by decide) ?_
    exact fiL hx hb hr hlk hK hP hD hS dX10_common_17 (Nat.le_of_ble_eq_true rfl) (Nat.le_of_ble_eq_true rfl) (⟨(hf0.elim id (fun q9 => absurd c_1 q9)), rfl⟩)
set_option maxHeartbeats 4000000 in
set_option maxRecDepth 100000 in
theorem k_X10_common_3 (l : Launch) (V : GV) (k0 : Int64) (k1 : Int64) (bk0 : ivL (-3) 3 k0) (hf0 : ¬ k0 = 0) (hf1 : (k1 : Int64).toInt.natAbs < (k0 : Int64).toInt.natAbs) : Ct l V yX10_common (.code yX10_common cX10_common 4 (some .long)) 4 [.long k0, .long k1] [] 0 0 (QL V (fun (r : Int64) (w : va_W) => (¬ r = 0) ∧ w = [])) := by
  refine Ct.of (by decide) (Nat.le_of_ble_eq_true rfl) (fun p e s m below meth c A ls hx hb hr hml hown hlk hnm hg hP hK hD hE hA hS hl => ?_)
  have hl : lv_has ls 4 [(0, .long k0), (2, .long k1)] := hl
  refine lv_lload_n hx hb dX10_common_0 rfl (lv_at hl 1 rfl) ?_
  refine lv_lconst (v := 0) hx hb dX10_common_1 (by decide) ?_
  refine W.lcmp hx hb dX10_common_2 ?_
  refine lv_if_ne (tgt := 10) hx hb dX10_common_3 (by decide) (fun c_1 => ?_) (fun c_1 => ?_)
  · replace c_1 : ¬ k1 = (0 : Int64) := fun z => c_1 ((lg_cmp_eq _ _).mpr z)
    refine lv_lload_n hx hb dX10_common_10 rfl (lv_at hl 1 rfl) ?_
    refine lv_lload_n hx hb dX10_common_11 rfl (lv_at hl 0 rfl) ?_
    refine lv_lload_n hx hb dX10_common_12 rfl (lv_at hl 1 rfl) ?_
    refine lv_lrem hx hb dX10_common_13 c_1 ?_
    refine lv_topl (fun j_2 ej_2 => ?_)
    have b_3 : ivL (-1) 1 j_2 := com_D (M := 3) (K := 1) ej_2 c_1 bk0 hf1 (by decide)
    refine jnL (wr := []) (rnS (rest := []) ⟨hx, hb, hml, hown, hg⟩ (k_X10_common_2 l V k1 j_2 b_3 (Or.inl c_1)) mt_X10_common q_8_124 ⟨Nat.le_of_ble_eq_true rfl, Nat.le_of_ble_eq_true rfl⟩ hK hP hD hS hA hE [] rfl rfl rfl hl.1 rfl (Nat.le_of_ble_eq_true rfl) dX10_common_14 ⟨Nat.le_of_ble_eq_true rfl, Nat.le_of_ble_eq_true rfl⟩) hP hD hS hA [] [] rfl rfl rfl (by decide) (fun r_4 w H locs hw hP hD hS => ?_)
    obtain ⟨g_5, rfl⟩ := hw
    have hP : va_P V.1 vwCl [] H := hP
    have hD := cpD hP hD
    exact fiL hx hb hr hlk hK hP hD hS dX10_common_17 (Nat.le_of_ble_eq_true rfl) (Nat.le_of_ble_eq_true rfl) (⟨g_5, rfl⟩)
  · replace c_1 : k1 = (0 : Int64) := (lg_cmp_eq _ _).mp c_1
    have b_6 : ivL 0 0 k1 := ivL_q c_1 (ivL_c (0 : Int64) (a := 0) (b := 0) (by decide))
    refine lv_lload_n hx hb dX10_common_6 rfl (lv_at hl 0 rfl) ?_
    refine lv_goto (tgt := 17) hx hb dX10_common_7 (by decide) ?_
    exact fiL hx hb hr hlk hK hP hD hS dX10_common_17 (Nat.le_of_ble_eq_true rfl) (Nat.le_of_ble_eq_true rfl) (⟨hf0, rfl⟩)
set_option maxHeartbeats 4000000 in
set_option maxRecDepth 100000 in
theorem k_X10_common_4 (l : Launch) (V : GV) (k0 : Int64) (k1 : Int64) (bk1 : ivL (-3) 3 k1) (hf0 : ¬ k0 = 0 ∨ ¬ k1 = 0) : Ct l V yX10_common (.code yX10_common cX10_common 4 (some .long)) 5 [.long k0, .long k1] [] 0 0 (QL V (fun (r : Int64) (w : va_W) => (¬ r = 0) ∧ w = [])) := by
  refine Ct.of (by decide) (Nat.le_of_ble_eq_true rfl) (fun p e s m below meth c A ls hx hb hr hml hown hlk hnm hg hP hK hD hE hA hS hl => ?_)
  have hl : lv_has ls 4 [(0, .long k0), (2, .long k1)] := hl
  refine lv_lload_n hx hb dX10_common_0 rfl (lv_at hl 1 rfl) ?_
  refine lv_lconst (v := 0) hx hb dX10_common_1 (by decide) ?_
  refine W.lcmp hx hb dX10_common_2 ?_
  refine lv_if_ne (tgt := 10) hx hb dX10_common_3 (by decide) (fun c_1 => ?_) (fun c_1 => ?_)
  · replace c_1 : ¬ k1 = (0 : Int64) := fun z => c_1 ((lg_cmp_eq _ _).mpr z)
    refine lv_lload_n hx hb dX10_common_10 rfl (lv_at hl 1 rfl) ?_
    refine lv_lload_n hx hb dX10_common_11 rfl (lv_at hl 0 rfl) ?_
    refine lv_lload_n hx hb dX10_common_12 rfl (lv_at hl 1 rfl) ?_
    refine lv_lrem hx hb dX10_common_13 c_1 ?_
    refine lv_topl (fun j_2 ej_2 => ?_)
    refine jnL (wr := []) (rnS (rest := []) ⟨hx, hb, hml, hown, hg⟩ (k_X10_common_3 l V k1 j_2 bk1 c_1 (com_C ej_2 c_1)) mt_X10_common q_8_124 ⟨Nat.le_of_ble_eq_true rfl, Nat.le_of_ble_eq_true rfl⟩ hK hP hD hS hA hE [] rfl rfl rfl hl.1 rfl (Nat.le_of_ble_eq_true rfl) dX10_common_14 ⟨Nat.le_of_ble_eq_true rfl, Nat.le_of_ble_eq_true rfl⟩) hP hD hS hA [] [] rfl rfl rfl (by decide) (fun r_3 w H locs hw hP hD hS => ?_)
    obtain ⟨g_4, rfl⟩ := hw
    have hP : va_P V.1 vwCl [] H := hP
    have hD := cpD hP hD
    exact fiL hx hb hr hlk hK hP hD hS dX10_common_17 (Nat.le_of_ble_eq_true rfl) (Nat.le_of_ble_eq_true rfl) (⟨g_4, rfl⟩)
  · replace c_1 : k1 = (0 : Int64) := (lg_cmp_eq _ _).mp c_1
    have b_5 : ivL 0 0 k1 := ivL_q c_1 (ivL_c (0 : Int64) (a := 0) (b := 0) (by decide))
    refine lv_lload_n hx hb dX10_common_6 rfl (lv_at hl 0 rfl) ?_
    refine lv_goto (tgt := 17) hx hb dX10_common_7 (by decide) ?_
    exact fiL hx hb hr hlk hK hP hD hS dX10_common_17 (Nat.le_of_ble_eq_true rfl) (Nat.le_of_ble_eq_true rfl) (⟨(hf0.elim id (fun q9 => absurd c_1 q9)), rfl⟩)
set_option maxHeartbeats 4000000 in
set_option maxRecDepth 100000 in
theorem k_X10_common_5 (l : Launch) (V : GV) (k0 : Int64) (k1 : Int64) (bk0 : ivL (-7) 7 k0) (hf0 : ¬ k0 = 0) (hf1 : (k1 : Int64).toInt.natAbs < (k0 : Int64).toInt.natAbs) : Ct l V yX10_common (.code yX10_common cX10_common 4 (some .long)) 6 [.long k0, .long k1] [] 0 0 (QL V (fun (r : Int64) (w : va_W) => (¬ r = 0) ∧ w = [])) := by
  refine Ct.of (by decide) (Nat.le_of_ble_eq_true rfl) (fun p e s m below meth c A ls hx hb hr hml hown hlk hnm hg hP hK hD hE hA hS hl => ?_)
  have hl : lv_has ls 4 [(0, .long k0), (2, .long k1)] := hl
  refine lv_lload_n hx hb dX10_common_0 rfl (lv_at hl 1 rfl) ?_
  refine lv_lconst (v := 0) hx hb dX10_common_1 (by decide) ?_
  refine W.lcmp hx hb dX10_common_2 ?_
  refine lv_if_ne (tgt := 10) hx hb dX10_common_3 (by decide) (fun c_1 => ?_) (fun c_1 => ?_)
  · replace c_1 : ¬ k1 = (0 : Int64) := fun z => c_1 ((lg_cmp_eq _ _).mpr z)
    refine lv_lload_n hx hb dX10_common_10 rfl (lv_at hl 1 rfl) ?_
    refine lv_lload_n hx hb dX10_common_11 rfl (lv_at hl 0 rfl) ?_
    refine lv_lload_n hx hb dX10_common_12 rfl (lv_at hl 1 rfl) ?_
    refine lv_lrem hx hb dX10_common_13 c_1 ?_
    refine lv_topl (fun j_2 ej_2 => ?_)
    have b_3 : ivL (-3) 3 j_2 := com_D (M := 7) (K := 3) ej_2 c_1 bk0 hf1 (by decide)
    refine jnL (wr := []) (rnS (rest := []) ⟨hx, hb, hml, hown, hg⟩ (k_X10_common_4 l V k1 j_2 b_3 (Or.inl c_1)) mt_X10_common q_8_124 ⟨Nat.le_of_ble_eq_true rfl, Nat.le_of_ble_eq_true rfl⟩ hK hP hD hS hA hE [] rfl rfl rfl hl.1 rfl (Nat.le_of_ble_eq_true rfl) dX10_common_14 ⟨Nat.le_of_ble_eq_true rfl, Nat.le_of_ble_eq_true rfl⟩) hP hD hS hA [] [] rfl rfl rfl (by decide) (fun r_4 w H locs hw hP hD hS => ?_)
    obtain ⟨g_5, rfl⟩ := hw
    have hP : va_P V.1 vwCl [] H := hP
    have hD := cpD hP hD
    exact fiL hx hb hr hlk hK hP hD hS dX10_common_17 (Nat.le_of_ble_eq_true rfl) (Nat.le_of_ble_eq_true rfl) (⟨g_5, rfl⟩)
  · replace c_1 : k1 = (0 : Int64) := (lg_cmp_eq _ _).mp c_1
    have b_6 : ivL 0 0 k1 := ivL_q c_1 (ivL_c (0 : Int64) (a := 0) (b := 0) (by decide))
    refine lv_lload_n hx hb dX10_common_6 rfl (lv_at hl 0 rfl) ?_
    refine lv_goto (tgt := 17) hx hb dX10_common_7 (by decide) ?_
    exact fiL hx hb hr hlk hK hP hD hS dX10_common_17 (Nat.le_of_ble_eq_true rfl) (Nat.le_of_ble_eq_true rfl) (⟨hf0, rfl⟩)
set_option maxHeartbeats 4000000 in
set_option maxRecDepth 100000 in
theorem k_X10_common_6 (l : Launch) (V : GV) (k0 : Int64) (k1 : Int64) (bk1 : ivL (-7) 7 k1) (hf0 : ¬ k0 = 0 ∨ ¬ k1 = 0) : Ct l V yX10_common (.code yX10_common cX10_common 4 (some .long)) 7 [.long k0, .long k1] [] 0 0 (QL V (fun (r : Int64) (w : va_W) => (¬ r = 0) ∧ w = [])) := by
  refine Ct.of (by decide) (Nat.le_of_ble_eq_true rfl) (fun p e s m below meth c A ls hx hb hr hml hown hlk hnm hg hP hK hD hE hA hS hl => ?_)
  have hl : lv_has ls 4 [(0, .long k0), (2, .long k1)] := hl
  refine lv_lload_n hx hb dX10_common_0 rfl (lv_at hl 1 rfl) ?_
  refine lv_lconst (v := 0) hx hb dX10_common_1 (by decide) ?_
  refine W.lcmp hx hb dX10_common_2 ?_
  refine lv_if_ne (tgt := 10) hx hb dX10_common_3 (by decide) (fun c_1 => ?_) (fun c_1 => ?_)
  · replace c_1 : ¬ k1 = (0 : Int64) := fun z => c_1 ((lg_cmp_eq _ _).mpr z)
    refine lv_lload_n hx hb dX10_common_10 rfl (lv_at hl 1 rfl) ?_
    refine lv_lload_n hx hb dX10_common_11 rfl (lv_at hl 0 rfl) ?_
    refine lv_lload_n hx hb dX10_common_12 rfl (lv_at hl 1 rfl) ?_
    refine lv_lrem hx hb dX10_common_13 c_1 ?_
    refine lv_topl (fun j_2 ej_2 => ?_)
    refine jnL (wr := []) (rnS (rest := []) ⟨hx, hb, hml, hown, hg⟩ (k_X10_common_5 l V k1 j_2 bk1 c_1 (com_C ej_2 c_1)) mt_X10_common q_8_124 ⟨Nat.le_of_ble_eq_true rfl, Nat.le_of_ble_eq_true rfl⟩ hK hP hD hS hA hE [] rfl rfl rfl hl.1 rfl (Nat.le_of_ble_eq_true rfl) dX10_common_14 ⟨Nat.le_of_ble_eq_true rfl, Nat.le_of_ble_eq_true rfl⟩) hP hD hS hA [] [] rfl rfl rfl (by decide) (fun r_3 w H locs hw hP hD hS => ?_)
    obtain ⟨g_4, rfl⟩ := hw
    have hP : va_P V.1 vwCl [] H := hP
    have hD := cpD hP hD
    exact fiL hx hb hr hlk hK hP hD hS dX10_common_17 (Nat.le_of_ble_eq_true rfl) (Nat.le_of_ble_eq_true rfl) (⟨g_4, rfl⟩)
  · replace c_1 : k1 = (0 : Int64) := (lg_cmp_eq _ _).mp c_1
    have b_5 : ivL 0 0 k1 := ivL_q c_1 (ivL_c (0 : Int64) (a := 0) (b := 0) (by decide))
    refine lv_lload_n hx hb dX10_common_6 rfl (lv_at hl 0 rfl) ?_
    refine lv_goto (tgt := 17) hx hb dX10_common_7 (by decide) ?_
    exact fiL hx hb hr hlk hK hP hD hS dX10_common_17 (Nat.le_of_ble_eq_true rfl) (Nat.le_of_ble_eq_true rfl) (⟨(hf0.elim id (fun q9 => absurd c_1 q9)), rfl⟩)
set_option maxHeartbeats 4000000 in
set_option maxRecDepth 100000 in
theorem k_X10_common_7 (l : Launch) (V : GV) (k0 : Int64) (k1 : Int64) (bk0 : ivL (-15) 15 k0) (hf0 : ¬ k0 = 0) (hf1 : (k1 : Int64).toInt.natAbs < (k0 : Int64).toInt.natAbs) : Ct l V yX10_common (.code yX10_common cX10_common 4 (some .long)) 8 [.long k0, .long k1] [] 0 0 (QL V (fun (r : Int64) (w : va_W) => (¬ r = 0) ∧ w = [])) := by
  refine Ct.of (by decide) (Nat.le_of_ble_eq_true rfl) (fun p e s m below meth c A ls hx hb hr hml hown hlk hnm hg hP hK hD hE hA hS hl => ?_)
  have hl : lv_has ls 4 [(0, .long k0), (2, .long k1)] := hl
  refine lv_lload_n hx hb dX10_common_0 rfl (lv_at hl 1 rfl) ?_
  refine lv_lconst (v := 0) hx hb dX10_common_1 (by decide) ?_
  refine W.lcmp hx hb dX10_common_2 ?_
  refine lv_if_ne (tgt := 10) hx hb dX10_common_3 (by decide) (fun c_1 => ?_) (fun c_1 => ?_)
  · replace c_1 : ¬ k1 = (0 : Int64) := fun z => c_1 ((lg_cmp_eq _ _).mpr z)
    refine lv_lload_n hx hb dX10_common_10 rfl (lv_at hl 1 rfl) ?_
    refine lv_lload_n hx hb dX10_common_11 rfl (lv_at hl 0 rfl) ?_
    refine lv_lload_n hx hb dX10_common_12 rfl (lv_at hl 1 rfl) ?_
    refine lv_lrem hx hb dX10_common_13 c_1 ?_
    refine lv_topl (fun j_2 ej_2 => ?_)
    have b_3 : ivL (-7) 7 j_2 := com_D (M := 15) (K := 7) ej_2 c_1 bk0 hf1 (by decide)
    refine jnL (wr := []) (rnS (rest := []) ⟨hx, hb, hml, hown, hg⟩ (k_X10_common_6 l V k1 j_2 b_3 (Or.inl c_1)) mt_X10_common q_8_124 ⟨Nat.le_of_ble_eq_true rfl, Nat.le_of_ble_eq_true rfl⟩ hK hP hD hS hA hE [] rfl rfl rfl hl.1 rfl (Nat.le_of_ble_eq_true rfl) dX10_common_14 ⟨Nat.le_of_ble_eq_true rfl, Nat.le_of_ble_eq_true rfl⟩) hP hD hS hA [] [] rfl rfl rfl (by decide) (fun r_4 w H locs hw hP hD hS => ?_)
    obtain ⟨g_5, rfl⟩ := hw
    have hP : va_P V.1 vwCl [] H := hP
    have hD := cpD hP hD
    exact fiL hx hb hr hlk hK hP hD hS dX10_common_17 (Nat.le_of_ble_eq_true rfl) (Nat.le_of_ble_eq_true rfl) (⟨g_5, rfl⟩)
  · replace c_1 : k1 = (0 : Int64) := (lg_cmp_eq _ _).mp c_1
    have b_6 : ivL 0 0 k1 := ivL_q c_1 (ivL_c (0 : Int64) (a := 0) (b := 0) (by decide))
    refine lv_lload_n hx hb dX10_common_6 rfl (lv_at hl 0 rfl) ?_
    refine lv_goto (tgt := 17) hx hb dX10_common_7 (by decide) ?_
    exact fiL hx hb hr hlk hK hP hD hS dX10_common_17 (Nat.le_of_ble_eq_true rfl) (Nat.le_of_ble_eq_true rfl) (⟨hf0, rfl⟩)
set_option maxHeartbeats 4000000 in
set_option maxRecDepth 100000 in
theorem k_X10_common_8 (l : Launch) (V : GV) (k0 : Int64) (k1 : Int64) (bk1 : ivL (-15) 15 k1) (hf0 : ¬ k0 = 0 ∨ ¬ k1 = 0) : Ct l V yX10_common (.code yX10_common cX10_common 4 (some .long)) 9 [.long k0, .long k1] [] 0 0 (QL V (fun (r : Int64) (w : va_W) => (¬ r = 0) ∧ w = [])) := by
  refine Ct.of (by decide) (Nat.le_of_ble_eq_true rfl) (fun p e s m below meth c A ls hx hb hr hml hown hlk hnm hg hP hK hD hE hA hS hl => ?_)
  have hl : lv_has ls 4 [(0, .long k0), (2, .long k1)] := hl
  refine lv_lload_n hx hb dX10_common_0 rfl (lv_at hl 1 rfl) ?_
  refine lv_lconst (v := 0) hx hb dX10_common_1 (by decide) ?_
  refine W.lcmp hx hb dX10_common_2 ?_
  refine lv_if_ne (tgt := 10) hx hb dX10_common_3 (by decide) (fun c_1 => ?_) (fun c_1 => ?_)
  · replace c_1 : ¬ k1 = (0 : Int64) := fun z => c_1 ((lg_cmp_eq _ _).mpr z)
    refine lv_lload_n hx hb dX10_common_10 rfl (lv_at hl 1 rfl) ?_
    refine lv_lload_n hx hb dX10_common_11 rfl (lv_at hl 0 rfl) ?_
    refine lv_lload_n hx hb dX10_common_12 rfl (lv_at hl 1 rfl) ?_
    refine lv_lrem hx hb dX10_common_13 c_1 ?_
    refine lv_topl (fun j_2 ej_2 => ?_)
    refine jnL (wr := []) (rnS (rest := []) ⟨hx, hb, hml, hown, hg⟩ (k_X10_common_7 l V k1 j_2 bk1 c_1 (com_C ej_2 c_1)) mt_X10_common q_8_124 ⟨Nat.le_of_ble_eq_true rfl, Nat.le_of_ble_eq_true rfl⟩ hK hP hD hS hA hE [] rfl rfl rfl hl.1 rfl (Nat.le_of_ble_eq_true rfl) dX10_common_14 ⟨Nat.le_of_ble_eq_true rfl, Nat.le_of_ble_eq_true rfl⟩) hP hD hS hA [] [] rfl rfl rfl (by decide) (fun r_3 w H locs hw hP hD hS => ?_)
    obtain ⟨g_4, rfl⟩ := hw
    have hP : va_P V.1 vwCl [] H := hP
    have hD := cpD hP hD
    exact fiL hx hb hr hlk hK hP hD hS dX10_common_17 (Nat.le_of_ble_eq_true rfl) (Nat.le_of_ble_eq_true rfl) (⟨g_4, rfl⟩)
  · replace c_1 : k1 = (0 : Int64) := (lg_cmp_eq _ _).mp c_1
    have b_5 : ivL 0 0 k1 := ivL_q c_1 (ivL_c (0 : Int64) (a := 0) (b := 0) (by decide))
    refine lv_lload_n hx hb dX10_common_6 rfl (lv_at hl 0 rfl) ?_
    refine lv_goto (tgt := 17) hx hb dX10_common_7 (by decide) ?_
    exact fiL hx hb hr hlk hK hP hD hS dX10_common_17 (Nat.le_of_ble_eq_true rfl) (Nat.le_of_ble_eq_true rfl) (⟨(hf0.elim id (fun q9 => absurd c_1 q9)), rfl⟩)
set_option maxHeartbeats 4000000 in
set_option maxRecDepth 100000 in
theorem k_X10_common_9 (l : Launch) (V : GV) (k0 : Int64) (k1 : Int64) (bk0 : ivL (-31) 31 k0) (hf0 : ¬ k0 = 0) (hf1 : (k1 : Int64).toInt.natAbs < (k0 : Int64).toInt.natAbs) : Ct l V yX10_common (.code yX10_common cX10_common 4 (some .long)) 10 [.long k0, .long k1] [] 0 0 (QL V (fun (r : Int64) (w : va_W) => (¬ r = 0) ∧ w = [])) := by
  refine Ct.of (by decide) (Nat.le_of_ble_eq_true rfl) (fun p e s m below meth c A ls hx hb hr hml hown hlk hnm hg hP hK hD hE hA hS hl => ?_)
  have hl : lv_has ls 4 [(0, .long k0), (2, .long k1)] := hl
  refine lv_lload_n hx hb dX10_common_0 rfl (lv_at hl 1 rfl) ?_
  refine lv_lconst (v := 0) hx hb dX10_common_1 (by decide) ?_
  refine W.lcmp hx hb dX10_common_2 ?_
  refine lv_if_ne (tgt := 10) hx hb dX10_common_3 (by decide) (fun c_1 => ?_) (fun c_1 => ?_)
  · replace c_1 : ¬ k1 = (0 : Int64) := fun z => c_1 ((lg_cmp_eq _ _).mpr z)
    refine lv_lload_n hx hb dX10_common_10 rfl (lv_at hl 1 rfl) ?_
    refine lv_lload_n hx hb dX10_common_11 rfl (lv_at hl 0 rfl) ?_
    refine lv_lload_n hx hb dX10_common_12 rfl (lv_at hl 1 rfl) ?_
    refine lv_lrem hx hb dX10_common_13 c_1 ?_
    refine lv_topl (fun j_2 ej_2 => ?_)
    have b_3 : ivL (-15) 15 j_2 := com_D (M := 31) (K := 15) ej_2 c_1 bk0 hf1 (by decide)
    refine jnL (wr := []) (rnS (rest := []) ⟨hx, hb, hml, hown, hg⟩ (k_X10_common_8 l V k1 j_2 b_3 (Or.inl c_1)) mt_X10_common q_8_124 ⟨Nat.le_of_ble_eq_true rfl, Nat.le_of_ble_eq_true rfl⟩ hK hP hD hS hA hE [] rfl rfl rfl hl.1 rfl (Nat.le_of_ble_eq_true rfl) dX10_common_14 ⟨Nat.le_of_ble_eq_true rfl, Nat.le_of_ble_eq_true rfl⟩) hP hD hS hA [] [] rfl rfl rfl (by decide) (fun r_4 w H locs hw hP hD hS => ?_)
    obtain ⟨g_5, rfl⟩ := hw
    have hP : va_P V.1 vwCl [] H := hP
    have hD := cpD hP hD
    exact fiL hx hb hr hlk hK hP hD hS dX10_common_17 (Nat.le_of_ble_eq_true rfl) (Nat.le_of_ble_eq_true rfl) (⟨g_5, rfl⟩)
  · replace c_1 : k1 = (0 : Int64) := (lg_cmp_eq _ _).mp c_1
    have b_6 : ivL 0 0 k1 := ivL_q c_1 (ivL_c (0 : Int64) (a := 0) (b := 0) (by decide))
    refine lv_lload_n hx hb dX10_common_6 rfl (lv_at hl 0 rfl) ?_
    refine lv_goto (tgt := 17) hx hb dX10_common_7 (by decide) ?_
    exact fiL hx hb hr hlk hK hP hD hS dX10_common_17 (Nat.le_of_ble_eq_true rfl) (Nat.le_of_ble_eq_true rfl) (⟨hf0, rfl⟩)
set_option maxHeartbeats 4000000 in
set_option maxRecDepth 100000 in
theorem k_X10_common_10 (l : Launch) (V : GV) (k0 : Int64) (k1 : Int64) (bk1 : ivL (-31) 31 k1) (hf0 : ¬ k0 = 0 ∨ ¬ k1 = 0) : Ct l V yX10_common (.code yX10_common cX10_common 4 (some .long)) 11 [.long k0, .long k1] [] 0 0 (QL V (fun (r : Int64) (w : va_W) => (¬ r = 0) ∧ w = [])) := by
  refine Ct.of (by decide) (Nat.le_of_ble_eq_true rfl) (fun p e s m below meth c A ls hx hb hr hml hown hlk hnm hg hP hK hD hE hA hS hl => ?_)
  have hl : lv_has ls 4 [(0, .long k0), (2, .long k1)] := hl
  refine lv_lload_n hx hb dX10_common_0 rfl (lv_at hl 1 rfl) ?_
  refine lv_lconst (v := 0) hx hb dX10_common_1 (by decide) ?_
  refine W.lcmp hx hb dX10_common_2 ?_
  refine lv_if_ne (tgt := 10) hx hb dX10_common_3 (by decide) (fun c_1 => ?_) (fun c_1 => ?_)
  · replace c_1 : ¬ k1 = (0 : Int64) := fun z => c_1 ((lg_cmp_eq _ _).mpr z)
    refine lv_lload_n hx hb dX10_common_10 rfl (lv_at hl 1 rfl) ?_
    refine lv_lload_n hx hb dX10_common_11 rfl (lv_at hl 0 rfl) ?_
    refine lv_lload_n hx hb dX10_common_12 rfl (lv_at hl 1 rfl) ?_
    refine lv_lrem hx hb dX10_common_13 c_1 ?_
    refine lv_topl (fun j_2 ej_2 => ?_)
    refine jnL (wr := []) (rnS (rest := []) ⟨hx, hb, hml, hown, hg⟩ (k_X10_common_9 l V k1 j_2 bk1 c_1 (com_C ej_2 c_1)) mt_X10_common q_8_124 ⟨Nat.le_of_ble_eq_true rfl, Nat.le_of_ble_eq_true rfl⟩ hK hP hD hS hA hE [] rfl rfl rfl hl.1 rfl (Nat.le_of_ble_eq_true rfl) dX10_common_14 ⟨Nat.le_of_ble_eq_true rfl, Nat.le_of_ble_eq_true rfl⟩) hP hD hS hA [] [] rfl rfl rfl (by decide) (fun r_3 w H locs hw hP hD hS => ?_)
    obtain ⟨g_4, rfl⟩ := hw
    have hP : va_P V.1 vwCl [] H := hP
    have hD := cpD hP hD
    exact fiL hx hb hr hlk hK hP hD hS dX10_common_17 (Nat.le_of_ble_eq_true rfl) (Nat.le_of_ble_eq_true rfl) (⟨g_4, rfl⟩)
  · replace c_1 : k1 = (0 : Int64) := (lg_cmp_eq _ _).mp c_1
    have b_5 : ivL 0 0 k1 := ivL_q c_1 (ivL_c (0 : Int64) (a := 0) (b := 0) (by decide))
    refine lv_lload_n hx hb dX10_common_6 rfl (lv_at hl 0 rfl) ?_
    refine lv_goto (tgt := 17) hx hb dX10_common_7 (by decide) ?_
    exact fiL hx hb hr hlk hK hP hD hS dX10_common_17 (Nat.le_of_ble_eq_true rfl) (Nat.le_of_ble_eq_true rfl) (⟨(hf0.elim id (fun q9 => absurd c_1 q9)), rfl⟩)
set_option maxHeartbeats 4000000 in
set_option maxRecDepth 100000 in
theorem k_X10_common_11 (l : Launch) (V : GV) (k0 : Int64) (k1 : Int64) (bk0 : ivL (-63) 63 k0) (hf0 : ¬ k0 = 0) (hf1 : (k1 : Int64).toInt.natAbs < (k0 : Int64).toInt.natAbs) : Ct l V yX10_common (.code yX10_common cX10_common 4 (some .long)) 12 [.long k0, .long k1] [] 0 0 (QL V (fun (r : Int64) (w : va_W) => (¬ r = 0) ∧ w = [])) := by
  refine Ct.of (by decide) (Nat.le_of_ble_eq_true rfl) (fun p e s m below meth c A ls hx hb hr hml hown hlk hnm hg hP hK hD hE hA hS hl => ?_)
  have hl : lv_has ls 4 [(0, .long k0), (2, .long k1)] := hl
  refine lv_lload_n hx hb dX10_common_0 rfl (lv_at hl 1 rfl) ?_
  refine lv_lconst (v := 0) hx hb dX10_common_1 (by decide) ?_
  refine W.lcmp hx hb dX10_common_2 ?_
  refine lv_if_ne (tgt := 10) hx hb dX10_common_3 (by decide) (fun c_1 => ?_) (fun c_1 => ?_)
  · replace c_1 : ¬ k1 = (0 : Int64) := fun z => c_1 ((lg_cmp_eq _ _).mpr z)
    refine lv_lload_n hx hb dX10_common_10 rfl (lv_at hl 1 rfl) ?_
    refine lv_lload_n hx hb dX10_common_11 rfl (lv_at hl 0 rfl) ?_
    refine lv_lload_n hx hb dX10_common_12 rfl (lv_at hl 1 rfl) ?_
    refine lv_lrem hx hb dX10_common_13 c_1 ?_
    refine lv_topl (fun j_2 ej_2 => ?_)
    have b_3 : ivL (-31) 31 j_2 := com_D (M := 63) (K := 31) ej_2 c_1 bk0 hf1 (by decide)
    refine jnL (wr := []) (rnS (rest := []) ⟨hx, hb, hml, hown, hg⟩ (k_X10_common_10 l V k1 j_2 b_3 (Or.inl c_1)) mt_X10_common q_8_124 ⟨Nat.le_of_ble_eq_true rfl, Nat.le_of_ble_eq_true rfl⟩ hK hP hD hS hA hE [] rfl rfl rfl hl.1 rfl (Nat.le_of_ble_eq_true rfl) dX10_common_14 ⟨Nat.le_of_ble_eq_true rfl, Nat.le_of_ble_eq_true rfl⟩) hP hD hS hA [] [] rfl rfl rfl (by decide) (fun r_4 w H locs hw hP hD hS => ?_)
    obtain ⟨g_5, rfl⟩ := hw
    have hP : va_P V.1 vwCl [] H := hP
    have hD := cpD hP hD
    exact fiL hx hb hr hlk hK hP hD hS dX10_common_17 (Nat.le_of_ble_eq_true rfl) (Nat.le_of_ble_eq_true rfl) (⟨g_5, rfl⟩)
  · replace c_1 : k1 = (0 : Int64) := (lg_cmp_eq _ _).mp c_1
    have b_6 : ivL 0 0 k1 := ivL_q c_1 (ivL_c (0 : Int64) (a := 0) (b := 0) (by decide))
    refine lv_lload_n hx hb dX10_common_6 rfl (lv_at hl 0 rfl) ?_
    refine lv_goto (tgt := 17) hx hb dX10_common_7 (by decide) ?_
    exact fiL hx hb hr hlk hK hP hD hS dX10_common_17 (Nat.le_of_ble_eq_true rfl) (Nat.le_of_ble_eq_true rfl) (⟨hf0, rfl⟩)
set_option maxHeartbeats 4000000 in
set_option maxRecDepth 100000 in
theorem k_X10_common_12 (l : Launch) (V : GV) (k0 : Int64) (k1 : Int64) (bk1 : ivL (-63) 63 k1) (hf0 : ¬ k0 = 0 ∨ ¬ k1 = 0) : Ct l V yX10_common (.code yX10_common cX10_common 4 (some .long)) 13 [.long k0, .long k1] [] 0 0 (QL V (fun (r : Int64) (w : va_W) => (¬ r = 0) ∧ w = [])) := by
  refine Ct.of (by decide) (Nat.le_of_ble_eq_true rfl) (fun p e s m below meth c A ls hx hb hr hml hown hlk hnm hg hP hK hD hE hA hS hl => ?_)
  have hl : lv_has ls 4 [(0, .long k0), (2, .long k1)] := hl
  refine lv_lload_n hx hb dX10_common_0 rfl (lv_at hl 1 rfl) ?_
  refine lv_lconst (v := 0) hx hb dX10_common_1 (by decide) ?_
  refine W.lcmp hx hb dX10_common_2 ?_
  refine lv_if_ne (tgt := 10) hx hb dX10_common_3 (by decide) (fun c_1 => ?_) (fun c_1 => ?_)
  · replace c_1 : ¬ k1 = (0 : Int64) := fun z => c_1 ((lg_cmp_eq _ _).mpr z)
    refine lv_lload_n hx hb dX10_common_10 rfl (lv_at hl 1 rfl) ?_
    refine lv_lload_n hx hb dX10_common_11 rfl (lv_at hl 0 rfl) ?_
    refine lv_lload_n hx hb dX10_common_12 rfl (lv_at hl 1 rfl) ?_
    refine lv_lrem hx hb dX10_common_13 c_1 ?_
    refine lv_topl (fun j_2 ej_2 => ?_)
    refine jnL (wr := []) (rnS (rest := []) ⟨hx, hb, hml, hown, hg⟩ (k_X10_common_11 l V k1 j_2 bk1 c_1 (com_C ej_2 c_1)) mt_X10_common q_8_124 ⟨Nat.le_of_ble_eq_true rfl, Nat.le_of_ble_eq_true rfl⟩ hK hP hD hS hA hE [] rfl rfl rfl hl.1 rfl (Nat.le_of_ble_eq_true rfl) dX10_common_14 ⟨Nat.le_of_ble_eq_true rfl, Nat.le_of_ble_eq_true rfl⟩) hP hD hS hA [] [] rfl rfl rfl (by decide) (fun r_3 w H locs hw hP hD hS => ?_)
    obtain ⟨g_4, rfl⟩ := hw
    have hP : va_P V.1 vwCl [] H := hP
    have hD := cpD hP hD
    exact fiL hx hb hr hlk hK hP hD hS dX10_common_17 (Nat.le_of_ble_eq_true rfl) (Nat.le_of_ble_eq_true rfl) (⟨g_4, rfl⟩)
  · replace c_1 : k1 = (0 : Int64) := (lg_cmp_eq _ _).mp c_1
    have b_5 : ivL 0 0 k1 := ivL_q c_1 (ivL_c (0 : Int64) (a := 0) (b := 0) (by decide))
    refine lv_lload_n hx hb dX10_common_6 rfl (lv_at hl 0 rfl) ?_
    refine lv_goto (tgt := 17) hx hb dX10_common_7 (by decide) ?_
    exact fiL hx hb hr hlk hK hP hD hS dX10_common_17 (Nat.le_of_ble_eq_true rfl) (Nat.le_of_ble_eq_true rfl) (⟨(hf0.elim id (fun q9 => absurd c_1 q9)), rfl⟩)
set_option maxHeartbeats 4000000 in
set_option maxRecDepth 100000 in
theorem k_X10_common_13 (l : Launch) (V : GV) (k0 : Int64) (k1 : Int64) (bk0 : ivL (-127) 127 k0) (hf0 : ¬ k0 = 0) (hf1 : (k1 : Int64).toInt.natAbs < (k0 : Int64).toInt.natAbs) : Ct l V yX10_common (.code yX10_common cX10_common 4 (some .long)) 14 [.long k0, .long k1] [] 0 0 (QL V (fun (r : Int64) (w : va_W) => (¬ r = 0) ∧ w = [])) := by
  refine Ct.of (by decide) (Nat.le_of_ble_eq_true rfl) (fun p e s m below meth c A ls hx hb hr hml hown hlk hnm hg hP hK hD hE hA hS hl => ?_)
  have hl : lv_has ls 4 [(0, .long k0), (2, .long k1)] := hl
  refine lv_lload_n hx hb dX10_common_0 rfl (lv_at hl 1 rfl) ?_
  refine lv_lconst (v := 0) hx hb dX10_common_1 (by decide) ?_
  refine W.lcmp hx hb dX10_common_2 ?_
  refine lv_if_ne (tgt := 10) hx hb dX10_common_3 (by decide) (fun c_1 => ?_) (fun c_1 => ?_)
  · replace c_1 : ¬ k1 = (0 : Int64) := fun z => c_1 ((lg_cmp_eq _ _).mpr z)
    refine lv_lload_n hx hb dX10_common_10 rfl (lv_at hl 1 rfl) ?_
    refine lv_lload_n hx hb dX10_common_11 rfl (lv_at hl 0 rfl) ?_
    refine lv_lload_n hx hb dX10_common_12 rfl (lv_at hl 1 rfl) ?_
    refine lv_lrem hx hb dX10_common_13 c_1 ?_
    refine lv_topl (fun j_2 ej_2 => ?_)
    have b_3 : ivL (-63) 63 j_2 := com_D (M := 127) (K := 63) ej_2 c_1 bk0 hf1 (by decide)
    refine jnL (wr := []) (rnS (rest := []) ⟨hx, hb, hml, hown, hg⟩ (k_X10_common_12 l V k1 j_2 b_3 (Or.inl c_1)) mt_X10_common q_8_124 ⟨Nat.le_of_ble_eq_true rfl, Nat.le_of_ble_eq_true rfl⟩ hK hP hD hS hA hE [] rfl rfl rfl hl.1 rfl (Nat.le_of_ble_eq_true rfl) dX10_common_14 ⟨Nat.le_of_ble_eq_true rfl, Nat.le_of_ble_eq_true rfl⟩) hP hD hS hA [] [] rfl rfl rfl (by decide) (fun r_4 w H locs hw hP hD hS => ?_)
    obtain ⟨g_5, rfl⟩ := hw
    have hP : va_P V.1 vwCl [] H := hP
    have hD := cpD hP hD
    exact fiL hx hb hr hlk hK hP hD hS dX10_common_17 (Nat.le_of_ble_eq_true rfl) (Nat.le_of_ble_eq_true rfl) (⟨g_5, rfl⟩)
  · replace c_1 : k1 = (0 : Int64) := (lg_cmp_eq _ _).mp c_1
    have b_6 : ivL 0 0 k1 := ivL_q c_1 (ivL_c (0 : Int64) (a := 0) (b := 0) (by decide))
    refine lv_lload_n hx hb dX10_common_6 rfl (lv_at hl 0 rfl) ?_
    refine lv_goto (tgt := 17) hx hb dX10_common_7 (by decide) ?_
    exact fiL hx hb hr hlk hK hP hD hS dX10_common_17 (Nat.le_of_ble_eq_true rfl) (Nat.le_of_ble_eq_true rfl) (⟨hf0, rfl⟩)
set_option maxHeartbeats 4000000 in
set_option maxRecDepth 100000 in
theorem k_X10_common_14 (l : Launch) (V : GV) (k0 : Int64) (k1 : Int64) (bk1 : ivL (-127) 127 k1) (hf0 : ¬ k0 = 0 ∨ ¬ k1 = 0) : Ct l V yX10_common (.code yX10_common cX10_common 4 (some .long)) 15 [.long k0, .long k1] [] 0 0 (QL V (fun (r : Int64) (w : va_W) => (¬ r = 0) ∧ w = [])) := by
  refine Ct.of (by decide) (Nat.le_of_ble_eq_true rfl) (fun p e s m below meth c A ls hx hb hr hml hown hlk hnm hg hP hK hD hE hA hS hl => ?_)
  have hl : lv_has ls 4 [(0, .long k0), (2, .long k1)] := hl
  refine lv_lload_n hx hb dX10_common_0 rfl (lv_at hl 1 rfl) ?_
  refine lv_lconst (v := 0) hx hb dX10_common_1 (by decide) ?_
  refine W.lcmp hx hb dX10_common_2 ?_
  refine lv_if_ne (tgt := 10) hx hb dX10_common_3 (by decide) (fun c_1 => ?_) (fun c_1 => ?_)
  · replace c_1 : ¬ k1 = (0 : Int64) := fun z => c_1 ((lg_cmp_eq _ _).mpr z)
    refine lv_lload_n hx hb dX10_common_10 rfl (lv_at hl 1 rfl) ?_
    refine lv_lload_n hx hb dX10_common_11 rfl (lv_at hl 0 rfl) ?_
    refine lv_lload_n hx hb dX10_common_12 rfl (lv_at hl 1 rfl) ?_
    refine lv_lrem hx hb dX10_common_13 c_1 ?_
    refine lv_topl (fun j_2 ej_2 => ?_)
    refine jnL (wr := []) (rnS (rest := []) ⟨hx, hb, hml, hown, hg⟩ (k_X10_common_13 l V k1 j_2 bk1 c_1 (com_C ej_2 c_1)) mt_X10_common q_8_124 ⟨Nat.le_of_ble_eq_true rfl, Nat.le_of_ble_eq_true rfl⟩ hK hP hD hS hA hE [] rfl rfl rfl hl.1 rfl (Nat.le_of_ble_eq_true rfl) dX10_common_14 ⟨Nat.le_of_ble_eq_true rfl, Nat.le_of_ble_eq_true rfl⟩) hP hD hS hA [] [] rfl rfl rfl (by decide) (fun r_3 w H locs hw hP hD hS => ?_)
    obtain ⟨g_4, rfl⟩ := hw
    have hP : va_P V.1 vwCl [] H := hP
    have hD := cpD hP hD
    exact fiL hx hb hr hlk hK hP hD hS dX10_common_17 (Nat.le_of_ble_eq_true rfl) (Nat.le_of_ble_eq_true rfl) (⟨g_4, rfl⟩)
  · replace c_1 : k1 = (0 : Int64) := (lg_cmp_eq _ _).mp c_1
    have b_5 : ivL 0 0 k1 := ivL_q c_1 (ivL_c (0 : Int64) (a := 0) (b := 0) (by decide))
    refine lv_lload_n hx hb dX10_common_6 rfl (lv_at hl 0 rfl) ?_
    refine lv_goto (tgt := 17) hx hb dX10_common_7 (by decide) ?_
    exact fiL hx hb hr hlk hK hP hD hS dX10_common_17 (Nat.le_of_ble_eq_true rfl) (Nat.le_of_ble_eq_true rfl) (⟨(hf0.elim id (fun q9 => absurd c_1 q9)), rfl⟩)
set_option maxHeartbeats 4000000 in
set_option maxRecDepth 100000 in
theorem k_X10_common_15 (l : Launch) (V : GV) (k0 : Int64) (k1 : Int64) (bk0 : ivL (-255) 255 k0) (hf0 : ¬ k0 = 0) (hf1 : (k1 : Int64).toInt.natAbs < (k0 : Int64).toInt.natAbs) : Ct l V yX10_common (.code yX10_common cX10_common 4 (some .long)) 16 [.long k0, .long k1] [] 0 0 (QL V (fun (r : Int64) (w : va_W) => (¬ r = 0) ∧ w = [])) := by
  refine Ct.of (by decide) (Nat.le_of_ble_eq_true rfl) (fun p e s m below meth c A ls hx hb hr hml hown hlk hnm hg hP hK hD hE hA hS hl => ?_)
  have hl : lv_has ls 4 [(0, .long k0), (2, .long k1)] := hl
  refine lv_lload_n hx hb dX10_common_0 rfl (lv_at hl 1 rfl) ?_
  refine lv_lconst (v := 0) hx hb dX10_common_1 (by decide) ?_
  refine W.lcmp hx hb dX10_common_2 ?_
  refine lv_if_ne (tgt := 10) hx hb dX10_common_3 (by decide) (fun c_1 => ?_) (fun c_1 => ?_)
  · replace c_1 : ¬ k1 = (0 : Int64) := fun z => c_1 ((lg_cmp_eq _ _).mpr z)
    refine lv_lload_n hx hb dX10_common_10 rfl (lv_at hl 1 rfl) ?_
    refine lv_lload_n hx hb dX10_common_11 rfl (lv_at hl 0 rfl) ?_
    refine lv_lload_n hx hb dX10_common_12 rfl (lv_at hl 1 rfl) ?_
    refine lv_lrem hx hb dX10_common_13 c_1 ?_
    refine lv_topl (fun j_2 ej_2 => ?_)
    have b_3 : ivL (-127) 127 j_2 := com_D (M := 255) (K := 127) ej_2 c_1 bk0 hf1 (by decide)
    refine jnL (wr := []) (rnS (rest := []) ⟨hx, hb, hml, hown, hg⟩ (k_X10_common_14 l V k1 j_2 b_3 (Or.inl c_1)) mt_X10_common q_8_124 ⟨Nat.le_of_ble_eq_true rfl, Nat.le_of_ble_eq_true rfl⟩ hK hP hD hS hA hE [] rfl rfl rfl hl.1 rfl (Nat.le_of_ble_eq_true rfl) dX10_common_14 ⟨Nat.le_of_ble_eq_true rfl, Nat.le_of_ble_eq_true rfl⟩) hP hD hS hA [] [] rfl rfl rfl (by decide) (fun r_4 w H locs hw hP hD hS => ?_)
    obtain ⟨g_5, rfl⟩ := hw
    have hP : va_P V.1 vwCl [] H := hP
    have hD := cpD hP hD
    exact fiL hx hb hr hlk hK hP hD hS dX10_common_17 (Nat.le_of_ble_eq_true rfl) (Nat.le_of_ble_eq_true rfl) (⟨g_5, rfl⟩)
  · replace c_1 : k1 = (0 : Int64) := (lg_cmp_eq _ _).mp c_1
    have b_6 : ivL 0 0 k1 := ivL_q c_1 (ivL_c (0 : Int64) (a := 0) (b := 0) (by decide))
    refine lv_lload_n hx hb dX10_common_6 rfl (lv_at hl 0 rfl) ?_
    refine lv_goto (tgt := 17) hx hb dX10_common_7 (by decide) ?_
    exact fiL hx hb hr hlk hK hP hD hS dX10_common_17 (Nat.le_of_ble_eq_true rfl) (Nat.le_of_ble_eq_true rfl) (⟨hf0, rfl⟩)
set_option maxHeartbeats 4000000 in
set_option maxRecDepth 100000 in
theorem k_X10_common_16 (l : Launch) (V : GV) (k0 : Int64) (k1 : Int64) (bk1 : ivL (-255) 255 k1) (hf0 : ¬ k0 = 0 ∨ ¬ k1 = 0) : Ct l V yX10_common (.code yX10_common cX10_common 4 (some .long)) 17 [.long k0, .long k1] [] 0 0 (QL V (fun (r : Int64) (w : va_W) => (¬ r = 0) ∧ w = [])) := by
  refine Ct.of (by decide) (Nat.le_of_ble_eq_true rfl) (fun p e s m below meth c A ls hx hb hr hml hown hlk hnm hg hP hK hD hE hA hS hl => ?_)
  have hl : lv_has ls 4 [(0, .long k0), (2, .long k1)] := hl
  refine lv_lload_n hx hb dX10_common_0 rfl (lv_at hl 1 rfl) ?_
  refine lv_lconst (v := 0) hx hb dX10_common_1 (by decide) ?_
  refine W.lcmp hx hb dX10_common_2 ?_
  refine lv_if_ne (tgt := 10) hx hb dX10_common_3 (by decide) (fun c_1 => ?_) (fun c_1 => ?_)
  · replace c_1 : ¬ k1 = (0 : Int64) := fun z => c_1 ((lg_cmp_eq _ _).mpr z)
    refine lv_lload_n hx hb dX10_common_10 rfl (lv_at hl 1 rfl) ?_
    refine lv_lload_n hx hb dX10_common_11 rfl (lv_at hl 0 rfl) ?_
    refine lv_lload_n hx hb dX10_common_12 rfl (lv_at hl 1 rfl) ?_
    refine lv_lrem hx hb dX10_common_13 c_1 ?_
    refine lv_topl (fun j_2 ej_2 => ?_)
    refine jnL (wr := []) (rnS (rest := []) ⟨hx, hb, hml, hown, hg⟩ (k_X10_common_15 l V k1 j_2 bk1 c_1 (com_C ej_2 c_1)) mt_X10_common q_8_124 ⟨Nat.le_of_ble_eq_true rfl, Nat.le_of_ble_eq_true rfl⟩ hK hP hD hS hA hE [] rfl rfl rfl hl.1 rfl (Nat.le_of_ble_eq_true rfl) dX10_common_14 ⟨Nat.le_of_ble_eq_true rfl, Nat.le_of_ble_eq_true rfl⟩) hP hD hS hA [] [] rfl rfl rfl (by decide) (fun r_3 w H locs hw hP hD hS => ?_)
    obtain ⟨g_4, rfl⟩ := hw
    have hP : va_P V.1 vwCl [] H := hP
    have hD := cpD hP hD
    exact fiL hx hb hr hlk hK hP hD hS dX10_common_17 (Nat.le_of_ble_eq_true rfl) (Nat.le_of_ble_eq_true rfl) (⟨g_4, rfl⟩)
  · replace c_1 : k1 = (0 : Int64) := (lg_cmp_eq _ _).mp c_1
    have b_5 : ivL 0 0 k1 := ivL_q c_1 (ivL_c (0 : Int64) (a := 0) (b := 0) (by decide))
    refine lv_lload_n hx hb dX10_common_6 rfl (lv_at hl 0 rfl) ?_
    refine lv_goto (tgt := 17) hx hb dX10_common_7 (by decide) ?_
    exact fiL hx hb hr hlk hK hP hD hS dX10_common_17 (Nat.le_of_ble_eq_true rfl) (Nat.le_of_ble_eq_true rfl) (⟨(hf0.elim id (fun q9 => absurd c_1 q9)), rfl⟩)
set_option maxHeartbeats 4000000 in
set_option maxRecDepth 100000 in
theorem k_X10_common_17 (l : Launch) (V : GV) (k0 : Int64) (k1 : Int64) (bk0 : ivL (-511) 511 k0) (hf0 : ¬ k0 = 0) (hf1 : (k1 : Int64).toInt.natAbs < (k0 : Int64).toInt.natAbs) : Ct l V yX10_common (.code yX10_common cX10_common 4 (some .long)) 18 [.long k0, .long k1] [] 0 0 (QL V (fun (r : Int64) (w : va_W) => (¬ r = 0) ∧ w = [])) := by
  refine Ct.of (by decide) (Nat.le_of_ble_eq_true rfl) (fun p e s m below meth c A ls hx hb hr hml hown hlk hnm hg hP hK hD hE hA hS hl => ?_)
  have hl : lv_has ls 4 [(0, .long k0), (2, .long k1)] := hl
  refine lv_lload_n hx hb dX10_common_0 rfl (lv_at hl 1 rfl) ?_
  refine lv_lconst (v := 0) hx hb dX10_common_1 (by decide) ?_
  refine W.lcmp hx hb dX10_common_2 ?_
  refine lv_if_ne (tgt := 10) hx hb dX10_common_3 (by decide) (fun c_1 => ?_) (fun c_1 => ?_)
  · replace c_1 : ¬ k1 = (0 : Int64) := fun z => c_1 ((lg_cmp_eq _ _).mpr z)
    refine lv_lload_n hx hb dX10_common_10 rfl (lv_at hl 1 rfl) ?_
    refine lv_lload_n hx hb dX10_common_11 rfl (lv_at hl 0 rfl) ?_
    refine lv_lload_n hx hb dX10_common_12 rfl (lv_at hl 1 rfl) ?_
    refine lv_lrem hx hb dX10_common_13 c_1 ?_
    refine lv_topl (fun j_2 ej_2 => ?_)
    have b_3 : ivL (-255) 255 j_2 := com_D (M := 511) (K := 255) ej_2 c_1 bk0 hf1 (by decide)
    refine jnL (wr := []) (rnS (rest := []) ⟨hx, hb, hml, hown, hg⟩ (k_X10_common_16 l V k1 j_2 b_3 (Or.inl c_1)) mt_X10_common q_8_124 ⟨Nat.le_of_ble_eq_true rfl, Nat.le_of_ble_eq_true rfl⟩ hK hP hD hS hA hE [] rfl rfl rfl hl.1 rfl (Nat.le_of_ble_eq_true rfl) dX10_common_14 ⟨Nat.le_of_ble_eq_true rfl, Nat.le_of_ble_eq_true rfl⟩) hP hD hS hA [] [] rfl rfl rfl (by decide) (fun r_4 w H locs hw hP hD hS => ?_)
    obtain ⟨g_5, rfl⟩ := hw
    have hP : va_P V.1 vwCl [] H := hP
    have hD := cpD hP hD
    exact fiL hx hb hr hlk hK hP hD hS dX10_common_17 (Nat.le_of_ble_eq_true rfl) (Nat.le_of_ble_eq_true rfl) (⟨g_5, rfl⟩)
  · replace c_1 : k1 = (0 : Int64) := (lg_cmp_eq _ _).mp c_1
    have b_6 : ivL 0 0 k1 := ivL_q c_1 (ivL_c (0 : Int64) (a := 0) (b := 0) (by decide))
    refine lv_lload_n hx hb dX10_common_6 rfl (lv_at hl 0 rfl) ?_
    refine lv_goto (tgt := 17) hx hb dX10_common_7 (by decide) ?_
    exact fiL hx hb hr hlk hK hP hD hS dX10_common_17 (Nat.le_of_ble_eq_true rfl) (Nat.le_of_ble_eq_true rfl) (⟨hf0, rfl⟩)
set_option maxHeartbeats 4000000 in
set_option maxRecDepth 100000 in
theorem k_X10_common_18 (l : Launch) (V : GV) (k0 : Int64) (k1 : Int64) (bk1 : ivL (-511) 511 k1) (hf0 : ¬ k0 = 0 ∨ ¬ k1 = 0) : Ct l V yX10_common (.code yX10_common cX10_common 4 (some .long)) 19 [.long k0, .long k1] [] 0 0 (QL V (fun (r : Int64) (w : va_W) => (¬ r = 0) ∧ w = [])) := by
  refine Ct.of (by decide) (Nat.le_of_ble_eq_true rfl) (fun p e s m below meth c A ls hx hb hr hml hown hlk hnm hg hP hK hD hE hA hS hl => ?_)
  have hl : lv_has ls 4 [(0, .long k0), (2, .long k1)] := hl
  refine lv_lload_n hx hb dX10_common_0 rfl (lv_at hl 1 rfl) ?_
  refine lv_lconst (v := 0) hx hb dX10_common_1 (by decide) ?_
  refine W.lcmp hx hb dX10_common_2 ?_
  refine lv_if_ne (tgt := 10) hx hb dX10_common_3 (by decide) (fun c_1 => ?_) (fun c_1 => ?_)
  · replace c_1 : ¬ k1 = (0 : Int64) := fun z => c_1 ((lg_cmp_eq _ _).mpr z)
    refine lv_lload_n hx hb dX10_common_10 rfl (lv_at hl 1 rfl) ?_
    refine lv_lload_n hx hb dX10_common_11 rfl (lv_at hl 0 rfl) ?_
    refine lv_lload_n hx hb dX10_common_12 rfl (lv_at hl 1 rfl) ?_
    refine lv_lrem hx hb dX10_common_13 c_1 ?_
    refine lv_topl (fun j_2 ej_2 => ?_)
    refine jnL (wr := []) (rnS (rest := []) ⟨hx, hb, hml, hown, hg⟩ (k_X10_common_17 l V k1 j_2 bk1 c_1 (com_C ej_2 c_1)) mt_X10_common q_8_124 ⟨Nat.le_of_ble_eq_true rfl, Nat.le_of_ble_eq_true rfl⟩ hK hP hD hS hA hE [] rfl rfl rfl hl.1 rfl (Nat.le_of_ble_eq_true rfl) dX10_common_14 ⟨Nat.le_of_ble_eq_true rfl, Nat.le_of_ble_eq_true rfl⟩) hP hD hS hA [] [] rfl rfl rfl (by decide) (fun r_3 w H locs hw hP hD hS => ?_)
    obtain ⟨g_4, rfl⟩ := hw
    have hP : va_P V.1 vwCl [] H := hP
    have hD := cpD hP hD
    exact fiL hx hb hr hlk hK hP hD hS dX10_common_17 (Nat.le_of_ble_eq_true rfl) (Nat.le_of_ble_eq_true rfl) (⟨g_4, rfl⟩)
  · replace c_1 : k1 = (0 : Int64) := (lg_cmp_eq _ _).mp c_1
    have b_5 : ivL 0 0 k1 := ivL_q c_1 (ivL_c (0 : Int64) (a := 0) (b := 0) (by decide))
    refine lv_lload_n hx hb dX10_common_6 rfl (lv_at hl 0 rfl) ?_
    refine lv_goto (tgt := 17) hx hb dX10_common_7 (by decide) ?_
    exact fiL hx hb hr hlk hK hP hD hS dX10_common_17 (Nat.le_of_ble_eq_true rfl) (Nat.le_of_ble_eq_true rfl) (⟨(hf0.elim id (fun q9 => absurd c_1 q9)), rfl⟩)
set_option maxHeartbeats 4000000 in
set_option maxRecDepth 100000 in
theorem k_X10_common_19 (l : Launch) (V : GV) (k0 : Int64) (k1 : Int64) (bk0 : ivL (-1023) 1023 k0) (hf0 : ¬ k0 = 0) (hf1 : (k1 : Int64).toInt.natAbs < (k0 : Int64).toInt.natAbs) : Ct l V yX10_common (.code yX10_common cX10_common 4 (some .long)) 20 [.long k0, .long k1] [] 0 0 (QL V (fun (r : Int64) (w : va_W) => (¬ r = 0) ∧ w = [])) := by
  refine Ct.of (by decide) (Nat.le_of_ble_eq_true rfl) (fun p e s m below meth c A ls hx hb hr hml hown hlk hnm hg hP hK hD hE hA hS hl => ?_)
  have hl : lv_has ls 4 [(0, .long k0), (2, .long k1)] := hl
  refine lv_lload_n hx hb dX10_common_0 rfl (lv_at hl 1 rfl) ?_
  refine lv_lconst (v := 0) hx hb dX10_common_1 (by decide) ?_
  refine W.lcmp hx hb dX10_common_2 ?_
  refine lv_if_ne (tgt := 10) hx hb dX10_common_3 (by decide) (fun c_1 => ?_) (fun c_1 => ?_)
  · replace c_1 : ¬ k1 = (0 : Int64) := fun z => c_1 ((lg_cmp_eq _ _).mpr z)
    refine lv_lload_n hx hb dX10_common_10 rfl (lv_at hl 1 rfl) ?_
    refine lv_lload_n hx hb dX10_common_11 rfl (lv_at hl 0 rfl) ?_
    refine lv_lload_n hx hb dX10_common_12 rfl (lv_at hl 1 rfl) ?_
    refine lv_lrem hx hb dX10_common_13 c_1 ?_
    refine lv_topl (fun j_2 ej_2 => ?_)
    have b_3 : ivL (-511) 511 j_2 := com_D (M := 1023) (K := 511) ej_2 c_1 bk0 hf1 (by decide)
    refine jnL (wr := []) (rnS (rest := []) ⟨hx, hb, hml, hown, hg⟩ (k_X10_common_18 l V k1 j_2 b_3 (Or.inl c_1)) mt_X10_common q_8_124 ⟨Nat.le_of_ble_eq_true rfl, Nat.le_of_ble_eq_true rfl⟩ hK hP hD hS hA hE [] rfl rfl rfl hl.1 rfl (Nat.le_of_ble_eq_true rfl) dX10_common_14 ⟨Nat.le_of_ble_eq_true rfl, Nat.le_of_ble_eq_true rfl⟩) hP hD hS hA [] [] rfl rfl rfl (by decide) (fun r_4 w H locs hw hP hD hS => ?_)
    obtain ⟨g_5, rfl⟩ := hw
    have hP : va_P V.1 vwCl [] H := hP
    have hD := cpD hP hD
    exact fiL hx hb hr hlk hK hP hD hS dX10_common_17 (Nat.le_of_ble_eq_true rfl) (Nat.le_of_ble_eq_true rfl) (⟨g_5, rfl⟩)
  · replace c_1 : k1 = (0 : Int64) := (lg_cmp_eq _ _).mp c_1
    have b_6 : ivL 0 0 k1 := ivL_q c_1 (ivL_c (0 : Int64) (a := 0) (b := 0) (by decide))
    refine lv_lload_n hx hb dX10_common_6 rfl (lv_at hl 0 rfl) ?_
    refine lv_goto (tgt := 17) hx hb dX10_common_7 (by decide) ?_
    exact fiL hx hb hr hlk hK hP hD hS dX10_common_17 (Nat.le_of_ble_eq_true rfl) (Nat.le_of_ble_eq_true rfl) (⟨hf0, rfl⟩)
set_option maxHeartbeats 4000000 in
set_option maxRecDepth 100000 in
theorem k_X10_common_20 (l : Launch) (V : GV) (k0 : Int64) (k1 : Int64) (bk1 : ivL (-1023) 1023 k1) (hf0 : ¬ k0 = 0 ∨ ¬ k1 = 0) : Ct l V yX10_common (.code yX10_common cX10_common 4 (some .long)) 21 [.long k0, .long k1] [] 0 0 (QL V (fun (r : Int64) (w : va_W) => (¬ r = 0) ∧ w = [])) := by
  refine Ct.of (by decide) (Nat.le_of_ble_eq_true rfl) (fun p e s m below meth c A ls hx hb hr hml hown hlk hnm hg hP hK hD hE hA hS hl => ?_)
  have hl : lv_has ls 4 [(0, .long k0), (2, .long k1)] := hl
  refine lv_lload_n hx hb dX10_common_0 rfl (lv_at hl 1 rfl) ?_
  refine lv_lconst (v := 0) hx hb dX10_common_1 (by decide) ?_
  refine W.lcmp hx hb dX10_common_2 ?_
  refine lv_if_ne (tgt := 10) hx hb dX10_common_3 (by decide) (fun c_1 => ?_) (fun c_1 => ?_)
  · replace c_1 : ¬ k1 = (0 : Int64) := fun z => c_1 ((lg_cmp_eq _ _).mpr z)
    refine lv_lload_n hx hb dX10_common_10 rfl (lv_at hl 1 rfl) ?_
    refine lv_lload_n hx hb dX10_common_11 rfl (lv_at hl 0 rfl) ?_
    refine lv_lload_n hx hb dX10_common_12 rfl (lv_at hl 1 rfl) ?_
    refine lv_lrem hx hb dX10_common_13 c_1 ?_
    refine lv_topl (fun j_2 ej_2 => ?_)
    refine jnL (wr := []) (rnS (rest := []) ⟨hx, hb, hml, hown, hg⟩ (k_X10_common_19 l V k1 j_2 bk1 c_1 (com_C ej_2 c_1)) mt_X10_common q_8_124 ⟨Nat.le_of_ble_eq_true rfl, Nat.le_of_ble_eq_true rfl⟩ hK hP hD hS hA hE [] rfl rfl rfl hl.1 rfl (Nat.le_of_ble_eq_true rfl) dX10_common_14 ⟨Nat.le_of_ble_eq_true rfl, Nat.le_of_ble_eq_true rfl⟩) hP hD hS hA [] [] rfl rfl rfl (by decide) (fun r_3 w H locs hw hP hD hS => ?_)
    obtain ⟨g_4, rfl⟩ := hw
    have hP : va_P V.1 vwCl [] H := hP
    have hD := cpD hP hD
    exact fiL hx hb hr hlk hK hP hD hS dX10_common_17 (Nat.le_of_ble_eq_true rfl) (Nat.le_of_ble_eq_true rfl) (⟨g_4, rfl⟩)
  · replace c_1 : k1 = (0 : Int64) := (lg_cmp_eq _ _).mp c_1
    have b_5 : ivL 0 0 k1 := ivL_q c_1 (ivL_c (0 : Int64) (a := 0) (b := 0) (by decide))
    refine lv_lload_n hx hb dX10_common_6 rfl (lv_at hl 0 rfl) ?_
    refine lv_goto (tgt := 17) hx hb dX10_common_7 (by decide) ?_
    exact fiL hx hb hr hlk hK hP hD hS dX10_common_17 (Nat.le_of_ble_eq_true rfl) (Nat.le_of_ble_eq_true rfl) (⟨(hf0.elim id (fun q9 => absurd c_1 q9)), rfl⟩)
set_option maxHeartbeats 4000000 in
set_option maxRecDepth 100000 in
theorem k_X10_common_21 (l : Launch) (V : GV) (k0 : Int64) (k1 : Int64) (bk0 : ivL (-2047) 2047 k0) (hf0 : ¬ k0 = 0) (hf1 : (k1 : Int64).toInt.natAbs < (k0 : Int64).toInt.natAbs) : Ct l V yX10_common (.code yX10_common cX10_common 4 (some .long)) 22 [.long k0, .long k1] [] 0 0 (QL V (fun (r : Int64) (w : va_W) => (¬ r = 0) ∧ w = [])) := by
  refine Ct.of (by decide) (Nat.le_of_ble_eq_true rfl) (fun p e s m below meth c A ls hx hb hr hml hown hlk hnm hg hP hK hD hE hA hS hl => ?_)
  have hl : lv_has ls 4 [(0, .long k0), (2, .long k1)] := hl
  refine lv_lload_n hx hb dX10_common_0 rfl (lv_at hl 1 rfl) ?_
  refine lv_lconst (v := 0) hx hb dX10_common_1 (by decide) ?_
  refine W.lcmp hx hb dX10_common_2 ?_
  refine lv_if_ne (tgt := 10) hx hb dX10_common_3 (by decide) (fun c_1 => ?_) (fun c_1 => ?_)
  · replace c_1 : ¬ k1 = (0 : Int64) := fun z => c_1 ((lg_cmp_eq _ _).mpr z)
    refine lv_lload_n hx hb dX10_common_10 rfl (lv_at hl 1 rfl) ?_
    refine lv_lload_n hx hb dX10_common_11 rfl (lv_at hl 0 rfl) ?_
    refine lv_lload_n hx hb dX10_common_12 rfl (lv_at hl 1 rfl) ?_
    refine lv_lrem hx hb dX10_common_13 c_1 ?_
    refine lv_topl (fun j_2 ej_2 => ?_)
    have b_3 : ivL (-1023) 1023 j_2 := com_D (M := 2047) (K := 1023) ej_2 c_1 bk0 hf1 (by decide)
    refine jnL (wr := []) (rnS (rest := []) ⟨hx, hb, hml, hown, hg⟩ (k_X10_common_20 l V k1 j_2 b_3 (Or.inl c_1)) mt_X10_common q_8_124 ⟨Nat.le_of_ble_eq_true rfl, Nat.le_of_ble_eq_true rfl⟩ hK hP hD hS hA hE [] rfl rfl rfl hl.1 rfl (Nat.le_of_ble_eq_true rfl) dX10_common_14 ⟨Nat.le_of_ble_eq_true rfl, Nat.le_of_ble_eq_true rfl⟩) hP hD hS hA [] [] rfl rfl rfl (by decide) (fun r_4 w H locs hw hP hD hS => ?_)
    obtain ⟨g_5, rfl⟩ := hw
    have hP : va_P V.1 vwCl [] H := hP
    have hD := cpD hP hD
    exact fiL hx hb hr hlk hK hP hD hS dX10_common_17 (Nat.le_of_ble_eq_true rfl) (Nat.le_of_ble_eq_true rfl) (⟨g_5, rfl⟩)
  · replace c_1 : k1 = (0 : Int64) := (lg_cmp_eq _ _).mp c_1
    have b_6 : ivL 0 0 k1 := ivL_q c_1 (ivL_c (0 : Int64) (a := 0) (b := 0) (by decide))
    refine lv_lload_n hx hb dX10_common_6 rfl (lv_at hl 0 rfl) ?_
    refine lv_goto (tgt := 17) hx hb dX10_common_7 (by decide) ?_
    exact fiL hx hb hr hlk hK hP hD hS dX10_common_17 (Nat.le_of_ble_eq_true rfl) (Nat.le_of_ble_eq_true rfl) (⟨hf0, rfl⟩)
set_option maxHeartbeats 4000000 in
set_option maxRecDepth 100000 in
theorem k_X10_common_22 (l : Launch) (V : GV) (k0 : Int64) (k1 : Int64) (bk1 : ivL (-2047) 2047 k1) (hf0 : ¬ k0 = 0 ∨ ¬ k1 = 0) : Ct l V yX10_common (.code yX10_common cX10_common 4 (some .long)) 23 [.long k0, .long k1] [] 0 0 (QL V (fun (r : Int64) (w : va_W) => (¬ r = 0) ∧ w = [])) := by
  refine Ct.of (by decide) (Nat.le_of_ble_eq_true rfl) (fun p e s m below meth c A ls hx hb hr hml hown hlk hnm hg hP hK hD hE hA hS hl => ?_)
  have hl : lv_has ls 4 [(0, .long k0), (2, .long k1)] := hl
  refine lv_lload_n hx hb dX10_common_0 rfl (lv_at hl 1 rfl) ?_
  refine lv_lconst (v := 0) hx hb dX10_common_1 (by decide) ?_
  refine W.lcmp hx hb dX10_common_2 ?_
  refine lv_if_ne (tgt := 10) hx hb dX10_common_3 (by decide) (fun c_1 => ?_) (fun c_1 => ?_)
  · replace c_1 : ¬ k1 = (0 : Int64) := fun z => c_1 ((lg_cmp_eq _ _).mpr z)
    refine lv_lload_n hx hb dX10_common_10 rfl (lv_at hl 1 rfl) ?_
    refine lv_lload_n hx hb dX10_common_11 rfl (lv_at hl 0 rfl) ?_
    refine lv_lload_n hx hb dX10_common_12 rfl (lv_at hl 1 rfl) ?_
    refine lv_lrem hx hb dX10_common_13 c_1 ?_
    refine lv_topl (fun j_2 ej_2 => ?_)
    refine jnL (wr := []) (rnS (rest := []) ⟨hx, hb, hml, hown, hg⟩ (k_X10_common_21 l V k1 j_2 bk1 c_1 (com_C ej_2 c_1)) mt_X10_common q_8_124 ⟨Nat.le_of_ble_eq_true rfl, Nat.le_of_ble_eq_true rfl⟩ hK hP hD hS hA hE [] rfl rfl rfl hl.1 rfl (Nat.le_of_ble_eq_true rfl) dX10_common_14 ⟨Nat.le_of_ble_eq_true rfl, Nat.le_of_ble_eq_true rfl⟩) hP hD hS hA [] [] rfl rfl rfl (by decide) (fun r_3 w H locs hw hP hD hS => ?_)
    obtain ⟨g_4, rfl⟩ := hw
    have hP : va_P V.1 vwCl [] H := hP
    have hD := cpD hP hD
    exact fiL hx hb hr hlk hK hP hD hS dX10_common_17 (Nat.le_of_ble_eq_true rfl) (Nat.le_of_ble_eq_true rfl) (⟨g_4, rfl⟩)
  · replace c_1 : k1 = (0 : Int64) := (lg_cmp_eq _ _).mp c_1
    have b_5 : ivL 0 0 k1 := ivL_q c_1 (ivL_c (0 : Int64) (a := 0) (b := 0) (by decide))
    refine lv_lload_n hx hb dX10_common_6 rfl (lv_at hl 0 rfl) ?_
    refine lv_goto (tgt := 17) hx hb dX10_common_7 (by decide) ?_
    exact fiL hx hb hr hlk hK hP hD hS dX10_common_17 (Nat.le_of_ble_eq_true rfl) (Nat.le_of_ble_eq_true rfl) (⟨(hf0.elim id (fun q9 => absurd c_1 q9)), rfl⟩)
set_option maxHeartbeats 4000000 in
set_option maxRecDepth 100000 in
theorem k_X10_common_23 (l : Launch) (V : GV) (k0 : Int64) (k1 : Int64) (bk0 : ivL (-4095) 4095 k0) (hf0 : ¬ k0 = 0) (hf1 : (k1 : Int64).toInt.natAbs < (k0 : Int64).toInt.natAbs) : Ct l V yX10_common (.code yX10_common cX10_common 4 (some .long)) 24 [.long k0, .long k1] [] 0 0 (QL V (fun (r : Int64) (w : va_W) => (¬ r = 0) ∧ w = [])) := by
  refine Ct.of (by decide) (Nat.le_of_ble_eq_true rfl) (fun p e s m below meth c A ls hx hb hr hml hown hlk hnm hg hP hK hD hE hA hS hl => ?_)
  have hl : lv_has ls 4 [(0, .long k0), (2, .long k1)] := hl
  refine lv_lload_n hx hb dX10_common_0 rfl (lv_at hl 1 rfl) ?_
  refine lv_lconst (v := 0) hx hb dX10_common_1 (by decide) ?_
  refine W.lcmp hx hb dX10_common_2 ?_
  refine lv_if_ne (tgt := 10) hx hb dX10_common_3 (by decide) (fun c_1 => ?_) (fun c_1 => ?_)
  · replace c_1 : ¬ k1 = (0 : Int64) := fun z => c_1 ((lg_cmp_eq _ _).mpr z)
    refine lv_lload_n hx hb dX10_common_10 rfl (lv_at hl 1 rfl) ?_
    refine lv_lload_n hx hb dX10_common_11 rfl (lv_at hl 0 rfl) ?_
    refine lv_lload_n hx hb dX10_common_12 rfl (lv_at hl 1 rfl) ?_
    refine lv_lrem hx hb dX10_common_13 c_1 ?_
    refine lv_topl (fun j_2 ej_2 => ?_)
    have b_3 : ivL (-2047) 2047 j_2 := com_D (M := 4095) (K := 2047) ej_2 c_1 bk0 hf1 (by decide)
    refine jnL (wr := []) (rnS (rest := []) ⟨hx, hb, hml, hown, hg⟩ (k_X10_common_22 l V k1 j_2 b_3 (Or.inl c_1)) mt_X10_common q_8_124 ⟨Nat.le_of_ble_eq_true rfl, Nat.le_of_ble_eq_true rfl⟩ hK hP hD hS hA hE [] rfl rfl rfl hl.1 rfl (Nat.le_of_ble_eq_true rfl) dX10_common_14 ⟨Nat.le_of_ble_eq_true rfl, Nat.le_of_ble_eq_true rfl⟩) hP hD hS hA [] [] rfl rfl rfl (by decide) (fun r_4 w H locs hw hP hD hS => ?_)
    obtain ⟨g_5, rfl⟩ := hw
    have hP : va_P V.1 vwCl [] H := hP
    have hD := cpD hP hD
    exact fiL hx hb hr hlk hK hP hD hS dX10_common_17 (Nat.le_of_ble_eq_true rfl) (Nat.le_of_ble_eq_true rfl) (⟨g_5, rfl⟩)
  · replace c_1 : k1 = (0 : Int64) := (lg_cmp_eq _ _).mp c_1
    have b_6 : ivL 0 0 k1 := ivL_q c_1 (ivL_c (0 : Int64) (a := 0) (b := 0) (by decide))
    refine lv_lload_n hx hb dX10_common_6 rfl (lv_at hl 0 rfl) ?_
    refine lv_goto (tgt := 17) hx hb dX10_common_7 (by decide) ?_
    exact fiL hx hb hr hlk hK hP hD hS dX10_common_17 (Nat.le_of_ble_eq_true rfl) (Nat.le_of_ble_eq_true rfl) (⟨hf0, rfl⟩)
set_option maxHeartbeats 4000000 in
set_option maxRecDepth 100000 in
theorem k_X10_common_24 (l : Launch) (V : GV) (k0 : Int64) (k1 : Int64) (bk1 : ivL (-4095) 4095 k1) (hf0 : ¬ k0 = 0 ∨ ¬ k1 = 0) : Ct l V yX10_common (.code yX10_common cX10_common 4 (some .long)) 25 [.long k0, .long k1] [] 0 0 (QL V (fun (r : Int64) (w : va_W) => (¬ r = 0) ∧ w = [])) := by
  refine Ct.of (by decide) (Nat.le_of_ble_eq_true rfl) (fun p e s m below meth c A ls hx hb hr hml hown hlk hnm hg hP hK hD hE hA hS hl => ?_)
  have hl : lv_has ls 4 [(0, .long k0), (2, .long k1)] := hl
  refine lv_lload_n hx hb dX10_common_0 rfl (lv_at hl 1 rfl) ?_
  refine lv_lconst (v := 0) hx hb dX10_common_1 (by decide) ?_
  refine W.lcmp hx hb dX10_common_2 ?_
  refine lv_if_ne (tgt := 10) hx hb dX10_common_3 (by decide) (fun c_1 => ?_) (fun c_1 => ?_)
  · replace c_1 : ¬ k1 = (0 : Int64) := fun z => c_1 ((lg_cmp_eq _ _).mpr z)
    refine lv_lload_n hx hb dX10_common_10 rfl (lv_at hl 1 rfl) ?_
    refine lv_lload_n hx hb dX10_common_11 rfl (lv_at hl 0 rfl) ?_
    refine lv_lload_n hx hb dX10_common_12 rfl (lv_at hl 1 rfl) ?_
    refine lv_lrem hx hb dX10_common_13 c_1 ?_
    refine lv_topl (fun j_2 ej_2 => ?_)
    refine jnL (wr := []) (rnS (rest := []) ⟨hx, hb, hml, hown, hg⟩ (k_X10_common_23 l V k1 j_2 bk1 c_1 (com_C ej_2 c_1)) mt_X10_common q_8_124 ⟨Nat.le_of_ble_eq_true rfl, Nat.le_of_ble_eq_true rfl⟩ hK hP hD hS hA hE [] rfl rfl rfl hl.1 rfl (Nat.le_of_ble_eq_true rfl) dX10_common_14 ⟨Nat.le_of_ble_eq_true rfl, Nat.le_of_ble_eq_true rfl⟩) hP hD hS hA [] [] rfl rfl rfl (by decide) (fun r_3 w H locs hw hP hD hS => ?_)
    obtain ⟨g_4, rfl⟩ := hw
    have hP : va_P V.1 vwCl [] H := hP
    have hD := cpD hP hD
    exact fiL hx hb hr hlk hK hP hD hS dX10_common_17 (Nat.le_of_ble_eq_true rfl) (Nat.le_of_ble_eq_true rfl) (⟨g_4, rfl⟩)
  · replace c_1 : k1 = (0 : Int64) := (lg_cmp_eq _ _).mp c_1
    have b_5 : ivL 0 0 k1 := ivL_q c_1 (ivL_c (0 : Int64) (a := 0) (b := 0) (by decide))
    refine lv_lload_n hx hb dX10_common_6 rfl (lv_at hl 0 rfl) ?_
    refine lv_goto (tgt := 17) hx hb dX10_common_7 (by decide) ?_
    exact fiL hx hb hr hlk hK hP hD hS dX10_common_17 (Nat.le_of_ble_eq_true rfl) (Nat.le_of_ble_eq_true rfl) (⟨(hf0.elim id (fun q9 => absurd c_1 q9)), rfl⟩)
set_option maxHeartbeats 4000000 in
set_option maxRecDepth 100000 in
theorem k_X10_common_25 (l : Launch) (V : GV) (k0 : Int64) (k1 : Int64) (bk0 : ivL (-8191) 8191 k0) (hf0 : ¬ k0 = 0) (hf1 : (k1 : Int64).toInt.natAbs < (k0 : Int64).toInt.natAbs) : Ct l V yX10_common (.code yX10_common cX10_common 4 (some .long)) 26 [.long k0, .long k1] [] 0 0 (QL V (fun (r : Int64) (w : va_W) => (¬ r = 0) ∧ w = [])) := by
  refine Ct.of (by decide) (Nat.le_of_ble_eq_true rfl) (fun p e s m below meth c A ls hx hb hr hml hown hlk hnm hg hP hK hD hE hA hS hl => ?_)
  have hl : lv_has ls 4 [(0, .long k0), (2, .long k1)] := hl
  refine lv_lload_n hx hb dX10_common_0 rfl (lv_at hl 1 rfl) ?_
  refine lv_lconst (v := 0) hx hb dX10_common_1 (by decide) ?_
  refine W.lcmp hx hb dX10_common_2 ?_
  refine lv_if_ne (tgt := 10) hx hb dX10_common_3 (by decide) (fun c_1 => ?_) (fun c_1 => ?_)
  · replace c_1 : ¬ k1 = (0 : Int64) := fun z => c_1 ((lg_cmp_eq _ _).mpr z)
    refine lv_lload_n hx hb dX10_common_10 rfl (lv_at hl 1 rfl) ?_
    refine lv_lload_n hx hb dX10_common_11 rfl (lv_at hl 0 rfl) ?_
    refine lv_lload_n hx hb dX10_common_12 rfl (lv_at hl 1 rfl) ?_
    refine lv_lrem hx hb dX10_common_13 c_1 ?_
    refine lv_topl (fun j_2 ej_2 => ?_)
    have b_3 : ivL (-4095) 4095 j_2 := com_D (M := 8191) (K := 4095) ej_2 c_1 bk0 hf1 (by decide)
    refine jnL (wr := []) (rnS (rest := []) ⟨hx, hb, hml, hown, hg⟩ (k_X10_common_24 l V k1 j_2 b_3 (Or.inl c_1)) mt_X10_common q_8_124 ⟨Nat.le_of_ble_eq_true rfl, Nat.le_of_ble_eq_true rfl⟩ hK hP hD hS hA hE [] rfl rfl rfl hl.1 rfl (Nat.le_of_ble_eq_true rfl) dX10_common_14 ⟨Nat.le_of_ble_eq_true rfl, Nat.le_of_ble_eq_true rfl⟩) hP hD hS hA [] [] rfl rfl rfl (by decide) (fun r_4 w H locs hw hP hD hS => ?_)
    obtain ⟨g_5, rfl⟩ := hw
    have hP : va_P V.1 vwCl [] H := hP
    have hD := cpD hP hD
    exact fiL hx hb hr hlk hK hP hD hS dX10_common_17 (Nat.le_of_ble_eq_true rfl) (Nat.le_of_ble_eq_true rfl) (⟨g_5, rfl⟩)
  · replace c_1 : k1 = (0 : Int64) := (lg_cmp_eq _ _).mp c_1
    have b_6 : ivL 0 0 k1 := ivL_q c_1 (ivL_c (0 : Int64) (a := 0) (b := 0) (by decide))
    refine lv_lload_n hx hb dX10_common_6 rfl (lv_at hl 0 rfl) ?_
    refine lv_goto (tgt := 17) hx hb dX10_common_7 (by decide) ?_
    exact fiL hx hb hr hlk hK hP hD hS dX10_common_17 (Nat.le_of_ble_eq_true rfl) (Nat.le_of_ble_eq_true rfl) (⟨hf0, rfl⟩)
set_option maxHeartbeats 4000000 in
set_option maxRecDepth 100000 in
theorem k_X10_common_26 (l : Launch) (V : GV) (k0 : Int64) (k1 : Int64) (bk1 : ivL (-8191) 8191 k1) (hf0 : ¬ k0 = 0 ∨ ¬ k1 = 0) : Ct l V yX10_common (.code yX10_common cX10_common 4 (some .long)) 27 [.long k0, .long k1] [] 0 0 (QL V (fun (r : Int64) (w : va_W) => (¬ r = 0) ∧ w = [])) := by
  refine Ct.of (by decide) (Nat.le_of_ble_eq_true rfl) (fun p e s m below meth c A ls hx hb hr hml hown hlk hnm hg hP hK hD hE hA hS hl => ?_)
  have hl : lv_has ls 4 [(0, .long k0), (2, .long k1)] := hl
  refine lv_lload_n hx hb dX10_common_0 rfl (lv_at hl 1 rfl) ?_
  refine lv_lconst (v := 0) hx hb dX10_common_1 (by decide) ?_
  refine W.lcmp hx hb dX10_common_2 ?_
  refine lv_if_ne (tgt := 10) hx hb dX10_common_3 (by decide) (fun c_1 => ?_) (fun c_1 => ?_)
  · replace c_1 : ¬ k1 = (0 : Int64) := fun z => c_1 ((lg_cmp_eq _ _).mpr z)
    refine lv_lload_n hx hb dX10_common_10 rfl (lv_at hl 1 rfl) ?_
    refine lv_lload_n hx hb dX10_common_11 rfl (lv_at hl 0 rfl) ?_
    refine lv_lload_n hx hb dX10_common_12 rfl (lv_at hl 1 rfl) ?_
    refine lv_lrem hx hb dX10_common_13 c_1 ?_
    refine lv_topl (fun j_2 ej_2 => ?_)
    refine jnL (wr := []) (rnS (rest := []) ⟨hx, hb, hml, hown, hg⟩ (k_X10_common_25 l V k1 j_2 bk1 c_1 (com_C ej_2 c_1)) mt_X10_common q_8_124 ⟨Nat.le_of_ble_eq_true rfl, Nat.le_of_ble_eq_true rfl⟩ hK hP hD hS hA hE [] rfl rfl rfl hl.1 rfl (Nat.le_of_ble_eq_true rfl) dX10_common_14 ⟨Nat.le_of_ble_eq_true rfl, Nat.le_of_ble_eq_true rfl⟩) hP hD hS hA [] [] rfl rfl rfl (by decide) (fun r_3 w H locs hw hP hD hS => ?_)
    obtain ⟨g_4, rfl⟩ := hw
    have hP : va_P V.1 vwCl [] H := hP
    have hD := cpD hP hD
    exact fiL hx hb hr hlk hK hP hD hS dX10_common_17 (Nat.le_of_ble_eq_true rfl) (Nat.le_of_ble_eq_true rfl) (⟨g_4, rfl⟩)
  · replace c_1 : k1 = (0 : Int64) := (lg_cmp_eq _ _).mp c_1
    have b_5 : ivL 0 0 k1 := ivL_q c_1 (ivL_c (0 : Int64) (a := 0) (b := 0) (by decide))
    refine lv_lload_n hx hb dX10_common_6 rfl (lv_at hl 0 rfl) ?_
    refine lv_goto (tgt := 17) hx hb dX10_common_7 (by decide) ?_
    exact fiL hx hb hr hlk hK hP hD hS dX10_common_17 (Nat.le_of_ble_eq_true rfl) (Nat.le_of_ble_eq_true rfl) (⟨(hf0.elim id (fun q9 => absurd c_1 q9)), rfl⟩)
set_option maxHeartbeats 4000000 in
set_option maxRecDepth 100000 in
theorem k_X10_common_27 (l : Launch) (V : GV) (k0 : Int64) (k1 : Int64) (bk0 : ivL (-16383) 16383 k0) (hf0 : ¬ k0 = 0) (hf1 : (k1 : Int64).toInt.natAbs < (k0 : Int64).toInt.natAbs) : Ct l V yX10_common (.code yX10_common cX10_common 4 (some .long)) 28 [.long k0, .long k1] [] 0 0 (QL V (fun (r : Int64) (w : va_W) => (¬ r = 0) ∧ w = [])) := by
  refine Ct.of (by decide) (Nat.le_of_ble_eq_true rfl) (fun p e s m below meth c A ls hx hb hr hml hown hlk hnm hg hP hK hD hE hA hS hl => ?_)
  have hl : lv_has ls 4 [(0, .long k0), (2, .long k1)] := hl
  refine lv_lload_n hx hb dX10_common_0 rfl (lv_at hl 1 rfl) ?_
  refine lv_lconst (v := 0) hx hb dX10_common_1 (by decide) ?_
  refine W.lcmp hx hb dX10_common_2 ?_
  refine lv_if_ne (tgt := 10) hx hb dX10_common_3 (by decide) (fun c_1 => ?_) (fun c_1 => ?_)
  · replace c_1 : ¬ k1 = (0 : Int64) := fun z => c_1 ((lg_cmp_eq _ _).mpr z)
    refine lv_lload_n hx hb dX10_common_10 rfl (lv_at hl 1 rfl) ?_
    refine lv_lload_n hx hb dX10_common_11 rfl (lv_at hl 0 rfl) ?_
    refine lv_lload_n hx hb dX10_common_12 rfl (lv_at hl 1 rfl) ?_
    refine lv_lrem hx hb dX10_common_13 c_1 ?_
    refine lv_topl (fun j_2 ej_2 => ?_)
    have b_3 : ivL (-8191) 8191 j_2 := com_D (M := 16383) (K := 8191) ej_2 c_1 bk0 hf1 (by decide)
    refine jnL (wr := []) (rnS (rest := []) ⟨hx, hb, hml, hown, hg⟩ (k_X10_common_26 l V k1 j_2 b_3 (Or.inl c_1)) mt_X10_common q_8_124 ⟨Nat.le_of_ble_eq_true rfl, Nat.le_of_ble_eq_true rfl⟩ hK hP hD hS hA hE [] rfl rfl rfl hl.1 rfl (Nat.le_of_ble_eq_true rfl) dX10_common_14 ⟨Nat.le_of_ble_eq_true rfl, Nat.le_of_ble_eq_true rfl⟩) hP hD hS hA [] [] rfl rfl rfl (by decide) (fun r_4 w H locs hw hP hD hS => ?_)
    obtain ⟨g_5, rfl⟩ := hw
    have hP : va_P V.1 vwCl [] H := hP
    have hD := cpD hP hD
    exact fiL hx hb hr hlk hK hP hD hS dX10_common_17 (Nat.le_of_ble_eq_true rfl) (Nat.le_of_ble_eq_true rfl) (⟨g_5, rfl⟩)
  · replace c_1 : k1 = (0 : Int64) := (lg_cmp_eq _ _).mp c_1
    have b_6 : ivL 0 0 k1 := ivL_q c_1 (ivL_c (0 : Int64) (a := 0) (b := 0) (by decide))
    refine lv_lload_n hx hb dX10_common_6 rfl (lv_at hl 0 rfl) ?_
    refine lv_goto (tgt := 17) hx hb dX10_common_7 (by decide) ?_
    exact fiL hx hb hr hlk hK hP hD hS dX10_common_17 (Nat.le_of_ble_eq_true rfl) (Nat.le_of_ble_eq_true rfl) (⟨hf0, rfl⟩)
set_option maxHeartbeats 4000000 in
set_option maxRecDepth 100000 in
theorem k_X10_common_28 (l : Launch) (V : GV) (k0 : Int64) (k1 : Int64) (bk1 : ivL (-16383) 16383 k1) (hf0 : ¬ k0 = 0 ∨ ¬ k1 = 0) : Ct l V yX10_common (.code yX10_common cX10_common 4 (some .long)) 29 [.long k0, .long k1] [] 0 0 (QL V (fun (r : Int64) (w : va_W) => (¬ r = 0) ∧ w = [])) := by
  refine Ct.of (by decide) (Nat.le_of_ble_eq_true rfl) (fun p e s m below meth c A ls hx hb hr hml hown hlk hnm hg hP hK hD hE hA hS hl => ?_)
  have hl : lv_has ls 4 [(0, .long k0), (2, .long k1)] := hl
  refine lv_lload_n hx hb dX10_common_0 rfl (lv_at hl 1 rfl) ?_
  refine lv_lconst (v := 0) hx hb dX10_common_1 (by decide) ?_
  refine W.lcmp hx hb dX10_common_2 ?_
  refine lv_if_ne (tgt := 10) hx hb dX10_common_3 (by decide) (fun c_1 => ?_) (fun c_1 => ?_)
  · replace c_1 : ¬ k1 = (0 : Int64) := fun z => c_1 ((lg_cmp_eq _ _).mpr z)
    refine lv_lload_n hx hb dX10_common_10 rfl (lv_at hl 1 rfl) ?_
    refine lv_lload_n hx hb dX10_common_11 rfl (lv_at hl 0 rfl) ?_
    refine lv_lload_n hx hb dX10_common_12 rfl (lv_at hl 1 rfl) ?_
    refine lv_lrem hx hb dX10_common_13 c_1 ?_
    refine lv_topl (fun j_2 ej_2 => ?_)
    refine jnL (wr := []) (rnS (rest := []) ⟨hx, hb, hml, hown, hg⟩ (k_X10_common_27 l V k1 j_2 bk1 c_1 (com_C ej_2 c_1)) mt_X10_common q_8_124 ⟨Nat.le_of_ble_eq_true rfl, Nat.le_of_ble_eq_true rfl⟩ hK hP hD hS hA hE [] rfl rfl rfl hl.1 rfl (Nat.le_of_ble_eq_true rfl) dX10_common_14 ⟨Nat.le_of_ble_eq_true rfl, Nat.le_of_ble_eq_true rfl⟩) hP hD hS hA [] [] rfl rfl rfl (by decide) (fun r_3 w H locs hw hP hD hS => ?_)
    obtain ⟨g_4, rfl⟩ := hw
    have hP : va_P V.1 vwCl [] H := hP
    have hD := cpD hP hD
    exact fiL hx hb hr hlk hK hP hD hS dX10_common_17 (Nat.le_of_ble_eq_true rfl) (Nat.le_of_ble_eq_true rfl) (⟨g_4, rfl⟩)
  · replace c_1 : k1 = (0 : Int64) := (lg_cmp_eq _ _).mp c_1
    have b_5 : ivL 0 0 k1 := ivL_q c_1 (ivL_c (0 : Int64) (a := 0) (b := 0) (by decide))
    refine lv_lload_n hx hb dX10_common_6 rfl (lv_at hl 0 rfl) ?_
    refine lv_goto (tgt := 17) hx hb dX10_common_7 (by decide) ?_
    exact fiL hx hb hr hlk hK hP hD hS dX10_common_17 (Nat.le_of_ble_eq_true rfl) (Nat.le_of_ble_eq_true rfl) (⟨(hf0.elim id (fun q9 => absurd c_1 q9)), rfl⟩)
set_option maxHeartbeats 4000000 in
set_option maxRecDepth 100000 in
theorem k_X10_common_29 (l : Launch) (V : GV) (k0 : Int64) (k1 : Int64) (bk0 : ivL (-32767) 32767 k0) (hf0 : ¬ k0 = 0) (hf1 : (k1 : Int64).toInt.natAbs < (k0 : Int64).toInt.natAbs) : Ct l V yX10_common (.code yX10_common cX10_common 4 (some .long)) 30 [.long k0, .long k1] [] 0 0 (QL V (fun (r : Int64) (w : va_W) => (¬ r = 0) ∧ w = [])) := by
  refine Ct.of (by decide) (Nat.le_of_ble_eq_true rfl) (fun p e s m below meth c A ls hx hb hr hml hown hlk hnm hg hP hK hD hE hA hS hl => ?_)
  have hl : lv_has ls 4 [(0, .long k0), (2, .long k1)] := hl
  refine lv_lload_n hx hb dX10_common_0 rfl (lv_at hl 1 rfl) ?_
  refine lv_lconst (v := 0) hx hb dX10_common_1 (by decide) ?_
  refine W.lcmp hx hb dX10_common_2 ?_
  refine lv_if_ne (tgt := 10) hx hb dX10_common_3 (by decide) (fun c_1 => ?_) (fun c_1 => ?_)
  · replace c_1 : ¬ k1 = (0 : Int64) := fun z => c_1 ((lg_cmp_eq _ _).mpr z)
    refine lv_lload_n hx hb dX10_common_10 rfl (lv_at hl 1 rfl) ?_
    refine lv_lload_n hx hb dX10_common_11 rfl (lv_at hl 0 rfl) ?_
    refine lv_lload_n hx hb dX10_common_12 rfl (lv_at hl 1 rfl) ?_
    refine lv_lrem hx hb dX10_common_13 c_1 ?_
    refine lv_topl (fun j_2 ej_2 => ?_)
    have b_3 : ivL (-16383) 16383 j_2 := com_D (M := 32767) (K := 16383) ej_2 c_1 bk0 hf1 (by decide)
    refine jnL (wr := []) (rnS (rest := []) ⟨hx, hb, hml, hown, hg⟩ (k_X10_common_28 l V k1 j_2 b_3 (Or.inl c_1)) mt_X10_common q_8_124 ⟨Nat.le_of_ble_eq_true rfl, Nat.le_of_ble_eq_true rfl⟩ hK hP hD hS hA hE [] rfl rfl rfl hl.1 rfl (Nat.le_of_ble_eq_true rfl) dX10_common_14 ⟨Nat.le_of_ble_eq_true rfl, Nat.le_of_ble_eq_true rfl⟩) hP hD hS hA [] [] rfl rfl rfl (by decide) (fun r_4 w H locs hw hP hD hS => ?_)
    obtain ⟨g_5, rfl⟩ := hw
    have hP : va_P V.1 vwCl [] H := hP
    have hD := cpD hP hD
    exact fiL hx hb hr hlk hK hP hD hS dX10_common_17 (Nat.le_of_ble_eq_true rfl) (Nat.le_of_ble_eq_true rfl) (⟨g_5, rfl⟩)
  · replace c_1 : k1 = (0 : Int64) := (lg_cmp_eq _ _).mp c_1
    have b_6 : ivL 0 0 k1 := ivL_q c_1 (ivL_c (0 : Int64) (a := 0) (b := 0) (by decide))
    refine lv_lload_n hx hb dX10_common_6 rfl (lv_at hl 0 rfl) ?_
    refine lv_goto (tgt := 17) hx hb dX10_common_7 (by decide) ?_
    exact fiL hx hb hr hlk hK hP hD hS dX10_common_17 (Nat.le_of_ble_eq_true rfl) (Nat.le_of_ble_eq_true rfl) (⟨hf0, rfl⟩)
set_option maxHeartbeats 4000000 in
set_option maxRecDepth 100000 in
theorem k_X10_common_30 (l : Launch) (V : GV) (k0 : Int64) (k1 : Int64) (bk1 : ivL (-32767) 32767 k1) (hf0 : ¬ k0 = 0 ∨ ¬ k1 = 0) : Ct l V yX10_common (.code yX10_common cX10_common 4 (some .long)) 31 [.long k0, .long k1] [] 0 0 (QL V (fun (r : Int64) (w : va_W) => (¬ r = 0) ∧ w = [])) := by
  refine Ct.of (by decide) (Nat.le_of_ble_eq_true rfl) (fun p e s m below meth c A ls hx hb hr hml hown hlk hnm hg hP hK hD hE hA hS hl => ?_)
  have hl : lv_has ls 4 [(0, .long k0), (2, .long k1)] := hl
  refine lv_lload_n hx hb dX10_common_0 rfl (lv_at hl 1 rfl) ?_
  refine lv_lconst (v := 0) hx hb dX10_common_1 (by decide) ?_
  refine W.lcmp hx hb dX10_common_2 ?_
  refine lv_if_ne (tgt := 10) hx hb dX10_common_3 (by decide) (fun c_1 => ?_) (fun c_1 => ?_)
  · replace c_1 : ¬ k1 = (0 : Int64) := fun z => c_1 ((lg_cmp_eq _ _).mpr z)
    refine lv_lload_n hx hb dX10_common_10 rfl (lv_at hl 1 rfl) ?_
    refine lv_lload_n hx hb dX10_common_11 rfl (lv_at hl 0 rfl) ?_
    refine lv_lload_n hx hb dX10_common_12 rfl (lv_at hl 1 rfl) ?_
    refine lv_lrem hx hb dX10_common_13 c_1 ?_
    refine lv_topl (fun j_2 ej_2 => ?_)
    refine jnL (wr := []) (rnS (rest := []) ⟨hx, hb, hml, hown, hg⟩ (k_X10_common_29 l V k1 j_2 bk1 c_1 (com_C ej_2 c_1)) mt_X10_common q_8_124 ⟨Nat.le_of_ble_eq_true rfl, Nat.le_of_ble_eq_true rfl⟩ hK hP hD hS hA hE [] rfl rfl rfl hl.1 rfl (Nat.le_of_ble_eq_true rfl) dX10_common_14 ⟨Nat.le_of_ble_eq_true rfl, Nat.le_of_ble_eq_true rfl⟩) hP hD hS hA [] [] rfl rfl rfl (by decide) (fun r_3 w H locs hw hP hD hS => ?_)
    obtain ⟨g_4, rfl⟩ := hw
    have hP : va_P V.1 vwCl [] H := hP
    have hD := cpD hP hD
    exact fiL hx hb hr hlk hK hP hD hS dX10_common_17 (Nat.le_of_ble_eq_true rfl) (Nat.le_of_ble_eq_true rfl) (⟨g_4, rfl⟩)
  · replace c_1 : k1 = (0 : Int64) := (lg_cmp_eq _ _).mp c_1
    have b_5 : ivL 0 0 k1 := ivL_q c_1 (ivL_c (0 : Int64) (a := 0) (b := 0) (by decide))
    refine lv_lload_n hx hb dX10_common_6 rfl (lv_at hl 0 rfl) ?_
    refine lv_goto (tgt := 17) hx hb dX10_common_7 (by decide) ?_
    exact fiL hx hb hr hlk hK hP hD hS dX10_common_17 (Nat.le_of_ble_eq_true rfl) (Nat.le_of_ble_eq_true rfl) (⟨(hf0.elim id (fun q9 => absurd c_1 q9)), rfl⟩)
set_option maxHeartbeats 4000000 in
set_option maxRecDepth 100000 in
theorem k_X10_common_31 (l : Launch) (V : GV) (k0 : Int64) (k1 : Int64) (bk0 : ivL (-65535) 65535 k0) (hf0 : ¬ k0 = 0) (hf1 : (k1 : Int64).toInt.natAbs < (k0 : Int64).toInt.natAbs) : Ct l V yX10_common (.code yX10_common cX10_common 4 (some .long)) 32 [.long k0, .long k1] [] 0 0 (QL V (fun (r : Int64) (w : va_W) => (¬ r = 0) ∧ w = [])) := by
  refine Ct.of (by decide) (Nat.le_of_ble_eq_true rfl) (fun p e s m below meth c A ls hx hb hr hml hown hlk hnm hg hP hK hD hE hA hS hl => ?_)
  have hl : lv_has ls 4 [(0, .long k0), (2, .long k1)] := hl
  refine lv_lload_n hx hb dX10_common_0 rfl (lv_at hl 1 rfl) ?_
  refine lv_lconst (v := 0) hx hb dX10_common_1 (by decide) ?_
  refine W.lcmp hx hb dX10_common_2 ?_
  refine lv_if_ne (tgt := 10) hx hb dX10_common_3 (by decide) (fun c_1 => ?_) (fun c_1 => ?_)
  · replace c_1 : ¬ k1 = (0 : Int64) := fun z => c_1 ((lg_cmp_eq _ _).mpr z)
    refine lv_lload_n hx hb dX10_common_10 rfl (lv_at hl 1 rfl) ?_
    refine lv_lload_n hx hb dX10_common_11 rfl (lv_at hl 0 rfl) ?_
    refine lv_lload_n hx hb dX10_common_12 rfl (lv_at hl 1 rfl) ?_
    refine lv_lrem hx hb dX10_common_13 c_1 ?_
    refine lv_topl (fun j_2 ej_2 => ?_)
    have b_3 : ivL (-32767) 32767 j_2 := com_D (M := 65535) (K := 32767) ej_2 c_1 bk0 hf1 (by decide)
    refine jnL (wr := []) (rnS (rest := []) ⟨hx, hb, hml, hown, hg⟩ (k_X10_common_30 l V k1 j_2 b_3 (Or.inl c_1)) mt_X10_common q_8_124 ⟨Nat.le_of_ble_eq_true rfl, Nat.le_of_ble_eq_true rfl⟩ hK hP hD hS hA hE [] rfl rfl rfl hl.1 rfl (Nat.le_of_ble_eq_true rfl) dX10_common_14 ⟨Nat.le_of_ble_eq_true rfl, Nat.le_of_ble_eq_true rfl⟩) hP hD hS hA [] [] rfl rfl rfl (by decide) (fun r_4 w H locs hw hP hD hS => ?_)
    obtain ⟨g_5, rfl⟩ := hw
    have hP : va_P V.1 vwCl [] H := hP
    have hD := cpD hP hD
    exact fiL hx hb hr hlk hK hP hD hS dX10_common_17 (Nat.le_of_ble_eq_true rfl) (Nat.le_of_ble_eq_true rfl) (⟨g_5, rfl⟩)
  · replace c_1 : k1 = (0 : Int64) := (lg_cmp_eq _ _).mp c_1
    have b_6 : ivL 0 0 k1 := ivL_q c_1 (ivL_c (0 : Int64) (a := 0) (b := 0) (by decide))
    refine lv_lload_n hx hb dX10_common_6 rfl (lv_at hl 0 rfl) ?_
    refine lv_goto (tgt := 17) hx hb dX10_common_7 (by decide) ?_
    exact fiL hx hb hr hlk hK hP hD hS dX10_common_17 (Nat.le_of_ble_eq_true rfl) (Nat.le_of_ble_eq_true rfl) (⟨hf0, rfl⟩)
set_option maxHeartbeats 4000000 in
set_option maxRecDepth 100000 in
theorem k_X10_common_32 (l : Launch) (V : GV) (k0 : Int64) (k1 : Int64) (bk1 : ivL (-65535) 65535 k1) (hf0 : ¬ k0 = 0 ∨ ¬ k1 = 0) : Ct l V yX10_common (.code yX10_common cX10_common 4 (some .long)) 33 [.long k0, .long k1] [] 0 0 (QL V (fun (r : Int64) (w : va_W) => (¬ r = 0) ∧ w = [])) := by
  refine Ct.of (by decide) (Nat.le_of_ble_eq_true rfl) (fun p e s m below meth c A ls hx hb hr hml hown hlk hnm hg hP hK hD hE hA hS hl => ?_)
  have hl : lv_has ls 4 [(0, .long k0), (2, .long k1)] := hl
  refine lv_lload_n hx hb dX10_common_0 rfl (lv_at hl 1 rfl) ?_
  refine lv_lconst (v := 0) hx hb dX10_common_1 (by decide) ?_
  refine W.lcmp hx hb dX10_common_2 ?_
  refine lv_if_ne (tgt := 10) hx hb dX10_common_3 (by decide) (fun c_1 => ?_) (fun c_1 => ?_)
  · replace c_1 : ¬ k1 = (0 : Int64) := fun z => c_1 ((lg_cmp_eq _ _).mpr z)
    refine lv_lload_n hx hb dX10_common_10 rfl (lv_at hl 1 rfl) ?_
    refine lv_lload_n hx hb dX10_common_11 rfl (lv_at hl 0 rfl) ?_
    refine lv_lload_n hx hb dX10_common_12 rfl (lv_at hl 1 rfl) ?_
    refine lv_lrem hx hb dX10_common_13 c_1 ?_
    refine lv_topl (fun j_2 ej_2 => ?_)
    refine jnL (wr := []) (rnS (rest := []) ⟨hx, hb, hml, hown, hg⟩ (k_X10_common_31 l V k1 j_2 bk1 c_1 (com_C ej_2 c_1)) mt_X10_common q_8_124 ⟨Nat.le_of_ble_eq_true rfl, Nat.le_of_ble_eq_true rfl⟩ hK hP hD hS hA hE [] rfl rfl rfl hl.1 rfl (Nat.le_of_ble_eq_true rfl) dX10_common_14 ⟨Nat.le_of_ble_eq_true rfl, Nat.le_of_ble_eq_true rfl⟩) hP hD hS hA [] [] rfl rfl rfl (by decide) (fun r_3 w H locs hw hP hD hS => ?_)
    obtain ⟨g_4, rfl⟩ := hw
    have hP : va_P V.1 vwCl [] H := hP
    have hD := cpD hP hD
    exact fiL hx hb hr hlk hK hP hD hS dX10_common_17 (Nat.le_of_ble_eq_true rfl) (Nat.le_of_ble_eq_true rfl) (⟨g_4, rfl⟩)
  · replace c_1 : k1 = (0 : Int64) := (lg_cmp_eq _ _).mp c_1
    have b_5 : ivL 0 0 k1 := ivL_q c_1 (ivL_c (0 : Int64) (a := 0) (b := 0) (by decide))
    refine lv_lload_n hx hb dX10_common_6 rfl (lv_at hl 0 rfl) ?_
    refine lv_goto (tgt := 17) hx hb dX10_common_7 (by decide) ?_
    exact fiL hx hb hr hlk hK hP hD hS dX10_common_17 (Nat.le_of_ble_eq_true rfl) (Nat.le_of_ble_eq_true rfl) (⟨(hf0.elim id (fun q9 => absurd c_1 q9)), rfl⟩)
set_option maxHeartbeats 4000000 in
set_option maxRecDepth 100000 in
theorem k_X10_common_33 (l : Launch) (V : GV) (k0 : Int64) (k1 : Int64) (bk0 : ivL (-131071) 131071 k0) (hf0 : ¬ k0 = 0) (hf1 : (k1 : Int64).toInt.natAbs < (k0 : Int64).toInt.natAbs) : Ct l V yX10_common (.code yX10_common cX10_common 4 (some .long)) 34 [.long k0, .long k1] [] 0 0 (QL V (fun (r : Int64) (w : va_W) => (¬ r = 0) ∧ w = [])) := by
  refine Ct.of (by decide) (Nat.le_of_ble_eq_true rfl) (fun p e s m below meth c A ls hx hb hr hml hown hlk hnm hg hP hK hD hE hA hS hl => ?_)
  have hl : lv_has ls 4 [(0, .long k0), (2, .long k1)] := hl
  refine lv_lload_n hx hb dX10_common_0 rfl (lv_at hl 1 rfl) ?_
  refine lv_lconst (v := 0) hx hb dX10_common_1 (by decide) ?_
  refine W.lcmp hx hb dX10_common_2 ?_
  refine lv_if_ne (tgt := 10) hx hb dX10_common_3 (by decide) (fun c_1 => ?_) (fun c_1 => ?_)
  · replace c_1 : ¬ k1 = (0 : Int64) := fun z => c_1 ((lg_cmp_eq _ _).mpr z)
    refine lv_lload_n hx hb dX10_common_10 rfl (lv_at hl 1 rfl) ?_
    refine lv_lload_n hx hb dX10_common_11 rfl (lv_at hl 0 rfl) ?_
    refine lv_lload_n hx hb dX10_common_12 rfl (lv_at hl 1 rfl) ?_
    refine lv_lrem hx hb dX10_common_13 c_1 ?_
    refine lv_topl (fun j_2 ej_2 => ?_)
    have b_3 : ivL (-65535) 65535 j_2 := com_D (M := 131071) (K := 65535) ej_2 c_1 bk0 hf1 (by decide)
    refine jnL (wr := []) (rnS (rest := []) ⟨hx, hb, hml, hown, hg⟩ (k_X10_common_32 l V k1 j_2 b_3 (Or.inl c_1)) mt_X10_common q_8_124 ⟨Nat.le_of_ble_eq_true rfl, Nat.le_of_ble_eq_true rfl⟩ hK hP hD hS hA hE [] rfl rfl rfl hl.1 rfl (Nat.le_of_ble_eq_true rfl) dX10_common_14 ⟨Nat.le_of_ble_eq_true rfl, Nat.le_of_ble_eq_true rfl⟩) hP hD hS hA [] [] rfl rfl rfl (by decide) (fun r_4 w H locs hw hP hD hS => ?_)
    obtain ⟨g_5, rfl⟩ := hw
    have hP : va_P V.1 vwCl [] H := hP
    have hD := cpD hP hD
    exact fiL hx hb hr hlk hK hP hD hS dX10_common_17 (Nat.le_of_ble_eq_true rfl) (Nat.le_of_ble_eq_true rfl) (⟨g_5, rfl⟩)
  · replace c_1 : k1 = (0 : Int64) := (lg_cmp_eq _ _).mp c_1
    have b_6 : ivL 0 0 k1 := ivL_q c_1 (ivL_c (0 : Int64) (a := 0) (b := 0) (by decide))
    refine lv_lload_n hx hb dX10_common_6 rfl (lv_at hl 0 rfl) ?_
    refine lv_goto (tgt := 17) hx hb dX10_common_7 (by decide) ?_
    exact fiL hx hb hr hlk hK hP hD hS dX10_common_17 (Nat.le_of_ble_eq_true rfl) (Nat.le_of_ble_eq_true rfl) (⟨hf0, rfl⟩)
set_option maxHeartbeats 4000000 in
set_option maxRecDepth 100000 in
theorem k_X10_common_34 (l : Launch) (V : GV) (k0 : Int64) (k1 : Int64) (bk1 : ivL (-131071) 131071 k1) (hf0 : ¬ k0 = 0 ∨ ¬ k1 = 0) : Ct l V yX10_common (.code yX10_common cX10_common 4 (some .long)) 35 [.long k0, .long k1] [] 0 0 (QL V (fun (r : Int64) (w : va_W) => (¬ r = 0) ∧ w = [])) := by
  refine Ct.of (by decide) (Nat.le_of_ble_eq_true rfl) (fun p e s m below meth c A ls hx hb hr hml hown hlk hnm hg hP hK hD hE hA hS hl => ?_)
  have hl : lv_has ls 4 [(0, .long k0), (2, .long k1)] := hl
  refine lv_lload_n hx hb dX10_common_0 rfl (lv_at hl 1 rfl) ?_
  refine lv_lconst (v := 0) hx hb dX10_common_1 (by decide) ?_
  refine W.lcmp hx hb dX10_common_2 ?_
  refine lv_if_ne (tgt := 10) hx hb dX10_common_3 (by decide) (fun c_1 => ?_) (fun c_1 => ?_)
  · replace c_1 : ¬ k1 = (0 : Int64) := fun z => c_1 ((lg_cmp_eq _ _).mpr z)
    refine lv_lload_n hx hb dX10_common_10 rfl (lv_at hl 1 rfl) ?_
    refine lv_lload_n hx hb dX10_common_11 rfl (lv_at hl 0 rfl) ?_
    refine lv_lload_n hx hb dX10_common_12 rfl (lv_at hl 1 rfl) ?_
    refine lv_lrem hx hb dX10_common_13 c_1 ?_
    refine lv_topl (fun j_2 ej_2 => ?_)
    refine jnL (wr := []) (rnS (rest := []) ⟨hx, hb, hml, hown, hg⟩ (k_X10_common_33 l V k1 j_2 bk1 c_1 (com_C ej_2 c_1)) mt_X10_common q_8_124 ⟨Nat.le_of_ble_eq_true rfl, Nat.le_of_ble_eq_true rfl⟩ hK hP hD hS hA hE [] rfl rfl rfl hl.1 rfl (Nat.le_of_ble_eq_true rfl) dX10_common_14 ⟨Nat.le_of_ble_eq_true rfl, Nat.le_of_ble_eq_true rfl⟩) hP hD hS hA [] [] rfl rfl rfl (by decide) (fun r_3 w H locs hw hP hD hS => ?_)
    obtain ⟨g_4, rfl⟩ := hw
    have hP : va_P V.1 vwCl [] H := hP
    have hD := cpD hP hD
    exact fiL hx hb hr hlk hK hP hD hS dX10_common_17 (Nat.le_of_ble_eq_true rfl) (Nat.le_of_ble_eq_true rfl) (⟨g_4, rfl⟩)
  · replace c_1 : k1 = (0 : Int64) := (lg_cmp_eq _ _).mp c_1
    have b_5 : ivL 0 0 k1 := ivL_q c_1 (ivL_c (0 : Int64) (a := 0) (b := 0) (by decide))
    refine lv_lload_n hx hb dX10_common_6 rfl (lv_at hl 0 rfl) ?_
    refine lv_goto (tgt := 17) hx hb dX10_common_7 (by decide) ?_
    exact fiL hx hb hr hlk hK hP hD hS dX10_common_17 (Nat.le_of_ble_eq_true rfl) (Nat.le_of_ble_eq_true rfl) (⟨(hf0.elim id (fun q9 => absurd c_1 q9)), rfl⟩)
set_option maxHeartbeats 4000000 in
set_option maxRecDepth 100000 in
theorem k_X10_common_35 (l : Launch) (V : GV) (k0 : Int64) (k1 : Int64) (bk0 : ivL (-262143) 262143 k0) (hf0 : ¬ k0 = 0) (hf1 : (k1 : Int64).toInt.natAbs < (k0 : Int64).toInt.natAbs) : Ct l V yX10_common (.code yX10_common cX10_common 4 (some .long)) 36 [.long k0, .long k1] [] 0 0 (QL V (fun (r : Int64) (w : va_W) => (¬ r = 0) ∧ w = [])) := by
  refine Ct.of (by decide) (Nat.le_of_ble_eq_true rfl) (fun p e s m below meth c A ls hx hb hr hml hown hlk hnm hg hP hK hD hE hA hS hl => ?_)
  have hl : lv_has ls 4 [(0, .long k0), (2, .long k1)] := hl
  refine lv_lload_n hx hb dX10_common_0 rfl (lv_at hl 1 rfl) ?_
  refine lv_lconst (v := 0) hx hb dX10_common_1 (by decide) ?_
  refine W.lcmp hx hb dX10_common_2 ?_
  refine lv_if_ne (tgt := 10) hx hb dX10_common_3 (by decide) (fun c_1 => ?_) (fun c_1 => ?_)
  · replace c_1 : ¬ k1 = (0 : Int64) := fun z => c_1 ((lg_cmp_eq _ _).mpr z)
    refine lv_lload_n hx hb dX10_common_10 rfl (lv_at hl 1 rfl) ?_
    refine lv_lload_n hx hb dX10_common_11 rfl (lv_at hl 0 rfl) ?_
    refine lv_lload_n hx hb dX10_common_12 rfl (lv_at hl 1 rfl) ?_
    refine lv_lrem hx hb dX10_common_13 c_1 ?_
    refine lv_topl (fun j_2 ej_2 => ?_)
    have b_3 : ivL (-131071) 131071 j_2 := com_D (M := 262143) (K := 131071) ej_2 c_1 bk0 hf1 (by decide)
    refine jnL (wr := []) (rnS (rest := []) ⟨hx, hb, hml, hown, hg⟩ (k_X10_common_34 l V k1 j_2 b_3 (Or.inl c_1)) mt_X10_common q_8_124 ⟨Nat.le_of_ble_eq_true rfl, Nat.le_of_ble_eq_true rfl⟩ hK hP hD hS hA hE [] rfl rfl rfl hl.1 rfl (Nat.le_of_ble_eq_true rfl) dX10_common_14 ⟨Nat.le_of_ble_eq_true rfl, Nat.le_of_ble_eq_true rfl⟩) hP hD hS hA [] [] rfl rfl rfl (by decide) (fun r_4 w H locs hw hP hD hS => ?_)
    obtain ⟨g_5, rfl⟩ := hw
    have hP : va_P V.1 vwCl [] H := hP
    have hD := cpD hP hD
    exact fiL hx hb hr hlk hK hP hD hS dX10_common_17 (Nat.le_of_ble_eq_true rfl) (Nat.le_of_ble_eq_true rfl) (⟨g_5, rfl⟩)
  · replace c_1 : k1 = (0 : Int64) := (lg_cmp_eq _ _).mp c_1
    have b_6 : ivL 0 0 k1 := ivL_q c_1 (ivL_c (0 : Int64) (a := 0) (b := 0) (by decide))
    refine lv_lload_n hx hb dX10_common_6 rfl (lv_at hl 0 rfl) ?_
    refine lv_goto (tgt := 17) hx hb dX10_common_7 (by decide) ?_
    exact fiL hx hb hr hlk hK hP hD hS dX10_common_17 (Nat.le_of_ble_eq_true rfl) (Nat.le_of_ble_eq_true rfl) (⟨hf0, rfl⟩)
set_option maxHeartbeats 4000000 in
set_option maxRecDepth 100000 in
theorem k_X10_common_36 (l : Launch) (V : GV) (k0 : Int64) (k1 : Int64) (bk1 : ivL (-262143) 262143 k1) (hf0 : ¬ k0 = 0 ∨ ¬ k1 = 0) : Ct l V yX10_common (.code yX10_common cX10_common 4 (some .long)) 37 [.long k0, .long k1] [] 0 0 (QL V (fun (r : Int64) (w : va_W) => (¬ r = 0) ∧ w = [])) := by
  refine Ct.of (by decide) (Nat.le_of_ble_eq_true rfl) (fun p e s m below meth c A ls hx hb hr hml hown hlk hnm hg hP hK hD hE hA hS hl => ?_)
  have hl : lv_has ls 4 [(0, .long k0), (2, .long k1)] := hl
  refine lv_lload_n hx hb dX10_common_0 rfl (lv_at hl 1 rfl) ?_
  refine lv_lconst (v := 0) hx hb dX10_common_1 (by decide) ?_
  refine W.lcmp hx hb dX10_common_2 ?_
  refine lv_if_ne (tgt := 10) hx hb dX10_common_3 (by decide) (fun c_1 => ?_) (fun c_1 => ?_)
  · replace c_1 : ¬ k1 = (0 : Int64) := fun z => c_1 ((lg_cmp_eq _ _).mpr z)
    refine lv_lload_n hx hb dX10_common_10 rfl (lv_at hl 1 rfl) ?_
    refine lv_lload_n hx hb dX10_common_11 rfl (lv_at hl 0 rfl) ?_
    refine lv_lload_n hx hb dX10_common_12 rfl (lv_at hl 1 rfl) ?_
    refine lv_lrem hx hb dX10_common_13 c_1 ?_
    refine lv_topl (fun j_2 ej_2 => ?_)
    refine jnL (wr := []) (rnS (rest := []) ⟨hx, hb, hml, hown, hg⟩ (k_X10_common_35 l V k1 j_2 bk1 c_1 (com_C ej_2 c_1)) mt_X10_common q_8_124 ⟨Nat.le_of_ble_eq_true rfl, Nat.le_of_ble_eq_true rfl⟩ hK hP hD hS hA hE [] rfl rfl rfl hl.1 rfl (Nat.le_of_ble_eq_true rfl) dX10_common_14 ⟨Nat.le_of_ble_eq_true rfl, Nat.le_of_ble_eq_true rfl⟩) hP hD hS hA [] [] rfl rfl rfl (by decide) (fun r_3 w H locs hw hP hD hS => ?_)
    obtain ⟨g_4, rfl⟩ := hw
    have hP : va_P V.1 vwCl [] H := hP
    have hD := cpD hP hD
    exact fiL hx hb hr hlk hK hP hD hS dX10_common_17 (Nat.le_of_ble_eq_true rfl) (Nat.le_of_ble_eq_true rfl) (⟨g_4, rfl⟩)
  · replace c_1 : k1 = (0 : Int64) := (lg_cmp_eq _ _).mp c_1
    have b_5 : ivL 0 0 k1 := ivL_q c_1 (ivL_c (0 : Int64) (a := 0) (b := 0) (by decide))
    refine lv_lload_n hx hb dX10_common_6 rfl (lv_at hl 0 rfl) ?_
    refine lv_goto (tgt := 17) hx hb dX10_common_7 (by decide) ?_
    exact fiL hx hb hr hlk hK hP hD hS dX10_common_17 (Nat.le_of_ble_eq_true rfl) (Nat.le_of_ble_eq_true rfl) (⟨(hf0.elim id (fun q9 => absurd c_1 q9)), rfl⟩)
set_option maxHeartbeats 4000000 in
set_option maxRecDepth 100000 in
theorem k_X10_common_37 (l : Launch) (V : GV) (k0 : Int64) (k1 : Int64) (bk0 : ivL (-524287) 524287 k0) (hf0 : ¬ k0 = 0) (hf1 : (k1 : Int64).toInt.natAbs < (k0 : Int64).toInt.natAbs) : Ct l V yX10_common (.code yX10_common cX10_common 4 (some .long)) 38 [.long k0, .long k1] [] 0 0 (QL V (fun (r : Int64) (w : va_W) => (¬ r = 0) ∧ w = [])) := by
  refine Ct.of (by decide) (Nat.le_of_ble_eq_true rfl) (fun p e s m below meth c A ls hx hb hr hml hown hlk hnm hg hP hK hD hE hA hS hl => ?_)
  have hl : lv_has ls 4 [(0, .long k0), (2, .long k1)] := hl
  refine lv_lload_n hx hb dX10_common_0 rfl (lv_at hl 1 rfl) ?_
  refine lv_lconst (v := 0) hx hb dX10_common_1 (by decide) ?_
  refine W.lcmp hx hb dX10_common_2 ?_
  refine lv_if_ne (tgt := 10) hx hb dX10_common_3 (by decide) (fun c_1 => ?_) (fun c_1 => ?_)
  · replace c_1 : ¬ k1 = (0 : Int64) := fun z => c_1 ((lg_cmp_eq _ _).mpr z)
    refine lv_lload_n hx hb dX10_common_10 rfl (lv_at hl 1 rfl) ?_
    refine lv_lload_n hx hb dX10_common_11 rfl (lv_at hl 0 rfl) ?_
    refine lv_lload_n hx hb dX10_common_12 rfl (lv_at hl 1 rfl) ?_
    refine lv_lrem hx hb dX10_common_13 c_1 ?_
    refine lv_topl (fun j_2 ej_2 => ?_)
    have b_3 : ivL (-262143) 262143 j_2 := com_D (M := 524287) (K := 262143) ej_2 c_1 bk0 hf1 (by decide)
    refine jnL (wr := []) (rnS (rest := []) ⟨hx, hb, hml, hown, hg⟩ (k_X10_common_36 l V k1 j_2 b_3 (Or.inl c_1)) mt_X10_common q_8_124 ⟨Nat.le_of_ble_eq_true rfl, Nat.le_of_ble_eq_true rfl⟩ hK hP hD hS hA hE [] rfl rfl rfl hl.1 rfl (Nat.le_of_ble_eq_true rfl) dX10_common_14 ⟨Nat.le_of_ble_eq_true rfl, Nat.le_of_ble_eq_true rfl⟩) hP hD hS hA [] [] rfl rfl rfl (by decide) (fun r_4 w H locs hw hP hD hS => ?_)
    obtain ⟨g_5, rfl⟩ := hw
    have hP : va_P V.1 vwCl [] H := hP
    have hD := cpD hP hD
    exact fiL hx hb hr hlk hK hP hD hS dX10_common_17 (Nat.le_of_ble_eq_true rfl) (Nat.le_of_ble_eq_true rfl) (⟨g_5, rfl⟩)
  · replace c_1 : k1 = (0 : Int64) := (lg_cmp_eq _ _).mp c_1
    have b_6 : ivL 0 0 k1 := ivL_q c_1 (ivL_c (0 : Int64) (a := 0) (b := 0) (by decide))
    refine lv_lload_n hx hb dX10_common_6 rfl (lv_at hl 0 rfl) ?_
    refine lv_goto (tgt := 17) hx hb dX10_common_7 (by decide) ?_
    exact fiL hx hb hr hlk hK hP hD hS dX10_common_17 (Nat.le_of_ble_eq_true rfl) (Nat.le_of_ble_eq_true rfl) (⟨hf0, rfl⟩)
set_option maxHeartbeats 4000000 in
set_option maxRecDepth 100000 in
theorem k_X10_common_38 (l : Launch) (V : GV) (k0 : Int64) (k1 : Int64) (bk1 : ivL (-524287) 524287 k1) (hf0 : ¬ k0 = 0 ∨ ¬ k1 = 0) : Ct l V yX10_common (.code yX10_common cX10_common 4 (some .long)) 39 [.long k0, .long k1] [] 0 0 (QL V (fun (r : Int64) (w : va_W) => (¬ r = 0) ∧ w = [])) := by
  refine Ct.of (by decide) (Nat.le_of_ble_eq_true rfl) (fun p e s m below meth c A ls hx hb hr hml hown hlk hnm hg hP hK hD hE hA hS hl => ?_)
  have hl : lv_has ls 4 [(0, .long k0), (2, .long k1)] := hl
  refine lv_lload_n hx hb dX10_common_0 rfl (lv_at hl 1 rfl) ?_
  refine lv_lconst (v := 0) hx hb dX10_common_1 (by decide) ?_
  refine W.lcmp hx hb dX10_common_2 ?_
  refine lv_if_ne (tgt := 10) hx hb dX10_common_3 (by decide) (fun c_1 => ?_) (fun c_1 => ?_)
  · replace c_1 : ¬ k1 = (0 : Int64) := fun z => c_1 ((lg_cmp_eq _ _).mpr z)
    refine lv_lload_n hx hb dX10_common_10 rfl (lv_at hl 1 rfl) ?_
    refine lv_lload_n hx hb dX10_common_11 rfl (lv_at hl 0 rfl) ?_
    refine lv_lload_n hx hb dX10_common_12 rfl (lv_at hl 1 rfl) ?_
    refine lv_lrem hx hb dX10_common_13 c_1 ?_
    refine lv_topl (fun j_2 ej_2 => ?_)
    refine jnL (wr := []) (rnS (rest := []) ⟨hx, hb, hml, hown, hg⟩ (k_X10_common_37 l V k1 j_2 bk1 c_1 (com_C ej_2 c_1)) mt_X10_common q_8_124 ⟨Nat.le_of_ble_eq_true rfl, Nat.le_of_ble_eq_true rfl⟩ hK hP hD hS hA hE [] rfl rfl rfl hl.1 rfl (Nat.le_of_ble_eq_true rfl) dX10_common_14 ⟨Nat.le_of_ble_eq_true rfl, Nat.le_of_ble_eq_true rfl⟩) hP hD hS hA [] [] rfl rfl rfl (by decide) (fun r_3 w H locs hw hP hD hS => ?_)
    obtain ⟨g_4, rfl⟩ := hw
    have hP : va_P V.1 vwCl [] H := hP
    have hD := cpD hP hD
    exact fiL hx hb hr hlk hK hP hD hS dX10_common_17 (Nat.le_of_ble_eq_true rfl) (Nat.le_of_ble_eq_true rfl) (⟨g_4, rfl⟩)
  · replace c_1 : k1 = (0 : Int64) := (lg_cmp_eq _ _).mp c_1
    have b_5 : ivL 0 0 k1 := ivL_q c_1 (ivL_c (0 : Int64) (a := 0) (b := 0) (by decide))
    refine lv_lload_n hx hb dX10_common_6 rfl (lv_at hl 0 rfl) ?_
    refine lv_goto (tgt := 17) hx hb dX10_common_7 (by decide) ?_
    exact fiL hx hb hr hlk hK hP hD hS dX10_common_17 (Nat.le_of_ble_eq_true rfl) (Nat.le_of_ble_eq_true rfl) (⟨(hf0.elim id (fun q9 => absurd c_1 q9)), rfl⟩)
set_option maxHeartbeats 4000000 in
set_option maxRecDepth 100000 in
theorem k_X10_common_39 (l : Launch) (V : GV) (k0 : Int64) (k1 : Int64) (bk0 : ivL (-1048575) 1048575 k0) (hf0 : ¬ k0 = 0) (hf1 : (k1 : Int64).toInt.natAbs < (k0 : Int64).toInt.natAbs) : Ct l V yX10_common (.code yX10_common cX10_common 4 (some .long)) 40 [.long k0, .long k1] [] 0 0 (QL V (fun (r : Int64) (w : va_W) => (¬ r = 0) ∧ w = [])) := by
  refine Ct.of (by decide) (Nat.le_of_ble_eq_true rfl) (fun p e s m below meth c A ls hx hb hr hml hown hlk hnm hg hP hK hD hE hA hS hl => ?_)
  have hl : lv_has ls 4 [(0, .long k0), (2, .long k1)] := hl
  refine lv_lload_n hx hb dX10_common_0 rfl (lv_at hl 1 rfl) ?_
  refine lv_lconst (v := 0) hx hb dX10_common_1 (by decide) ?_
  refine W.lcmp hx hb dX10_common_2 ?_
  refine lv_if_ne (tgt := 10) hx hb dX10_common_3 (by decide) (fun c_1 => ?_) (fun c_1 => ?_)
  · replace c_1 : ¬ k1 = (0 : Int64) := fun z => c_1 ((lg_cmp_eq _ _).mpr z)
    refine lv_lload_n hx hb dX10_common_10 rfl (lv_at hl 1 rfl) ?_
    refine lv_lload_n hx hb dX10_common_11 rfl (lv_at hl 0 rfl) ?_
    refine lv_lload_n hx hb dX10_common_12 rfl (lv_at hl 1 rfl) ?_
    refine lv_lrem hx hb dX10_common_13 c_1 ?_
    refine lv_topl (fun j_2 ej_2 => ?_)
    have b_3 : ivL (-524287) 524287 j_2 := com_D (M := 1048575) (K := 524287) ej_2 c_1 bk0 hf1 (by decide)
    refine jnL (wr := []) (rnS (rest := []) ⟨hx, hb, hml, hown, hg⟩ (k_X10_common_38 l V k1 j_2 b_3 (Or.inl c_1)) mt_X10_common q_8_124 ⟨Nat.le_of_ble_eq_true rfl, Nat.le_of_ble_eq_true rfl⟩ hK hP hD hS hA hE [] rfl rfl rfl hl.1 rfl (Nat.le_of_ble_eq_true rfl) dX10_common_14 ⟨Nat.le_of_ble_eq_true rfl, Nat.le_of_ble_eq_true rfl⟩) hP hD hS hA [] [] rfl rfl rfl (by decide) (fun r_4 w H locs hw hP hD hS => ?_)
    obtain ⟨g_5, rfl⟩ := hw
    have hP : va_P V.1 vwCl [] H := hP
    have hD := cpD hP hD
    exact fiL hx hb hr hlk hK hP hD hS dX10_common_17 (Nat.le_of_ble_eq_true rfl) (Nat.le_of_ble_eq_true rfl) (⟨g_5, rfl⟩)
  · replace c_1 : k1 = (0 : Int64) := (lg_cmp_eq _ _).mp c_1
    have b_6 : ivL 0 0 k1 := ivL_q c_1 (ivL_c (0 : Int64) (a := 0) (b := 0) (by decide))
    refine lv_lload_n hx hb dX10_common_6 rfl (lv_at hl 0 rfl) ?_
    refine lv_goto (tgt := 17) hx hb dX10_common_7 (by decide) ?_
    exact fiL hx hb hr hlk hK hP hD hS dX10_common_17 (Nat.le_of_ble_eq_true rfl) (Nat.le_of_ble_eq_true rfl) (⟨hf0, rfl⟩)
set_option maxHeartbeats 4000000 in
set_option maxRecDepth 100000 in
theorem k_X10_common_40 (l : Launch) (V : GV) (k0 : Int64) (k1 : Int64) (bk1 : ivL (-1048575) 1048575 k1) (hf0 : ¬ k0 = 0 ∨ ¬ k1 = 0) : Ct l V yX10_common (.code yX10_common cX10_common 4 (some .long)) 41 [.long k0, .long k1] [] 0 0 (QL V (fun (r : Int64) (w : va_W) => (¬ r = 0) ∧ w = [])) := by
  refine Ct.of (by decide) (Nat.le_of_ble_eq_true rfl) (fun p e s m below meth c A ls hx hb hr hml hown hlk hnm hg hP hK hD hE hA hS hl => ?_)
  have hl : lv_has ls 4 [(0, .long k0), (2, .long k1)] := hl
  refine lv_lload_n hx hb dX10_common_0 rfl (lv_at hl 1 rfl) ?_
  refine lv_lconst (v := 0) hx hb dX10_common_1 (by decide) ?_
  refine W.lcmp hx hb dX10_common_2 ?_
  refine lv_if_ne (tgt := 10) hx hb dX10_common_3 (by decide) (fun c_1 => ?_) (fun c_1 => ?_)
  · replace c_1 : ¬ k1 = (0 : Int64) := fun z => c_1 ((lg_cmp_eq _ _).mpr z)
    refine lv_lload_n hx hb dX10_common_10 rfl (lv_at hl 1 rfl) ?_
    refine lv_lload_n hx hb dX10_common_11 rfl (lv_at hl 0 rfl) ?_
    refine lv_lload_n hx hb dX10_common_12 rfl (lv_at hl 1 rfl) ?_
    refine lv_lrem hx hb dX10_common_13 c_1 ?_
    refine lv_topl (fun j_2 ej_2 => ?_)
    refine jnL (wr := []) (rnS (rest := []) ⟨hx, hb, hml, hown, hg⟩ (k_X10_common_39 l V k1 j_2 bk1 c_1 (com_C ej_2 c_1)) mt_X10_common q_8_124 ⟨Nat.le_of_ble_eq_true rfl, Nat.le_of_ble_eq_true rfl⟩ hK hP hD hS hA hE [] rfl rfl rfl hl.1 rfl (Nat.le_of_ble_eq_true rfl) dX10_common_14 ⟨Nat.le_of_ble_eq_true rfl, Nat.le_of_ble_eq_true rfl⟩) hP hD hS hA [] [] rfl rfl rfl (by decide) (fun r_3 w H locs hw hP hD hS => ?_)
    obtain ⟨g_4, rfl⟩ := hw
    have hP : va_P V.1 vwCl [] H := hP
    have hD := cpD hP hD
    exact fiL hx hb hr hlk hK hP hD hS dX10_common_17 (Nat.le_of_ble_eq_true rfl) (Nat.le_of_ble_eq_true rfl) (⟨g_4, rfl⟩)
  · replace c_1 : k1 = (0 : Int64) := (lg_cmp_eq _ _).mp c_1
    have b_5 : ivL 0 0 k1 := ivL_q c_1 (ivL_c (0 : Int64) (a := 0) (b := 0) (by decide))
    refine lv_lload_n hx hb dX10_common_6 rfl (lv_at hl 0 rfl) ?_
    refine lv_goto (tgt := 17) hx hb dX10_common_7 (by decide) ?_
    exact fiL hx hb hr hlk hK hP hD hS dX10_common_17 (Nat.le_of_ble_eq_true rfl) (Nat.le_of_ble_eq_true rfl) (⟨(hf0.elim id (fun q9 => absurd c_1 q9)), rfl⟩)
set_option maxHeartbeats 4000000 in
set_option maxRecDepth 100000 in
theorem k_X10_common_41 (l : Launch) (V : GV) (k0 : Int64) (k1 : Int64) (bk0 : ivL (-2097151) 2097151 k0) (hf0 : ¬ k0 = 0) (hf1 : (k1 : Int64).toInt.natAbs < (k0 : Int64).toInt.natAbs) : Ct l V yX10_common (.code yX10_common cX10_common 4 (some .long)) 42 [.long k0, .long k1] [] 0 0 (QL V (fun (r : Int64) (w : va_W) => (¬ r = 0) ∧ w = [])) := by
  refine Ct.of (by decide) (Nat.le_of_ble_eq_true rfl) (fun p e s m below meth c A ls hx hb hr hml hown hlk hnm hg hP hK hD hE hA hS hl => ?_)
  have hl : lv_has ls 4 [(0, .long k0), (2, .long k1)] := hl
  refine lv_lload_n hx hb dX10_common_0 rfl (lv_at hl 1 rfl) ?_
  refine lv_lconst (v := 0) hx hb dX10_common_1 (by decide) ?_
  refine W.lcmp hx hb dX10_common_2 ?_
  refine lv_if_ne (tgt := 10) hx hb dX10_common_3 (by decide) (fun c_1 => ?_) (fun c_1 => ?_)
  · replace c_1 : ¬ k1 = (0 : Int64) := fun z => c_1 ((lg_cmp_eq _ _).mpr z)
    refine lv_lload_n hx hb dX10_common_10 rfl (lv_at hl 1 rfl) ?_
    refine lv_lload_n hx hb dX10_common_11 rfl (lv_at hl 0 rfl) ?_
    refine lv_lload_n hx hb dX10_common_12 rfl (lv_at hl 1 rfl) ?_
    refine lv_lrem hx hb dX10_common_13 c_1 ?_
    refine lv_topl (fun j_2 ej_2 => ?_)
    have b_3 : ivL (-1048575) 1048575 j_2 := com_D (M := 2097151) (K := 1048575) ej_2 c_1 bk0 hf1 (by decide)
    refine jnL (wr := []) (rnS (rest := []) ⟨hx, hb, hml, hown, hg⟩ (k_X10_common_40 l V k1 j_2 b_3 (Or.inl c_1)) mt_X10_common q_8_124 ⟨Nat.le_of_ble_eq_true rfl, Nat.le_of_ble_eq_true rfl⟩ hK hP hD hS hA hE [] rfl rfl rfl hl.1 rfl (Nat.le_of_ble_eq_true rfl) dX10_common_14 ⟨Nat.le_of_ble_eq_true rfl, Nat.le_of_ble_eq_true rfl⟩) hP hD hS hA [] [] rfl rfl rfl (by decide) (fun r_4 w H locs hw hP hD hS => ?_)
    obtain ⟨g_5, rfl⟩ := hw
    have hP : va_P V.1 vwCl [] H := hP
    have hD := cpD hP hD
    exact fiL hx hb hr hlk hK hP hD hS dX10_common_17 (Nat.le_of_ble_eq_true rfl) (Nat.le_of_ble_eq_true rfl) (⟨g_5, rfl⟩)
  · replace c_1 : k1 = (0 : Int64) := (lg_cmp_eq _ _).mp c_1
    have b_6 : ivL 0 0 k1 := ivL_q c_1 (ivL_c (0 : Int64) (a := 0) (b := 0) (by decide))
    refine lv_lload_n hx hb dX10_common_6 rfl (lv_at hl 0 rfl) ?_
    refine lv_goto (tgt := 17) hx hb dX10_common_7 (by decide) ?_
    exact fiL hx hb hr hlk hK hP hD hS dX10_common_17 (Nat.le_of_ble_eq_true rfl) (Nat.le_of_ble_eq_true rfl) (⟨hf0, rfl⟩)
set_option maxHeartbeats 4000000 in
set_option maxRecDepth 100000 in
theorem k_X10_common_42 (l : Launch) (V : GV) (k0 : Int64) (k1 : Int64) (bk1 : ivL (-2097151) 2097151 k1) (hf0 : ¬ k0 = 0 ∨ ¬ k1 = 0) : Ct l V yX10_common (.code yX10_common cX10_common 4 (some .long)) 43 [.long k0, .long k1] [] 0 0 (QL V (fun (r : Int64) (w : va_W) => (¬ r = 0) ∧ w = [])) := by
  refine Ct.of (by decide) (Nat.le_of_ble_eq_true rfl) (fun p e s m below meth c A ls hx hb hr hml hown hlk hnm hg hP hK hD hE hA hS hl => ?_)
  have hl : lv_has ls 4 [(0, .long k0), (2, .long k1)] := hl
  refine lv_lload_n hx hb dX10_common_0 rfl (lv_at hl 1 rfl) ?_
  refine lv_lconst (v := 0) hx hb dX10_common_1 (by decide) ?_
  refine W.lcmp hx hb dX10_common_2 ?_
  refine lv_if_ne (tgt := 10) hx hb dX10_common_3 (by decide) (fun c_1 => ?_) (fun c_1 => ?_)
  · replace c_1 : ¬ k1 = (0 : Int64) := fun z => c_1 ((lg_cmp_eq _ _).mpr z)
    refine lv_lload_n hx hb dX10_common_10 rfl (lv_at hl 1 rfl) ?_
    refine lv_lload_n hx hb dX10_common_11 rfl (lv_at hl 0 rfl) ?_
    refine lv_lload_n hx hb dX10_common_12 rfl (lv_at hl 1 rfl) ?_
    refine lv_lrem hx hb dX10_common_13 c_1 ?_
    refine lv_topl (fun j_2 ej_2 => ?_)
    refine jnL (wr := []) (rnS (rest := []) ⟨hx, hb, hml, hown, hg⟩ (k_X10_common_41 l V k1 j_2 bk1 c_1 (com_C ej_2 c_1)) mt_X10_common q_8_124 ⟨Nat.le_of_ble_eq_true rfl, Nat.le_of_ble_eq_true rfl⟩ hK hP hD hS hA hE [] rfl rfl rfl hl.1 rfl (Nat.le_of_ble_eq_true rfl) dX10_common_14 ⟨Nat.le_of_ble_eq_true rfl, Nat.le_of_ble_eq_true rfl⟩) hP hD hS hA [] [] rfl rfl rfl (by decide) (fun r_3 w H locs hw hP hD hS => ?_)
    obtain ⟨g_4, rfl⟩ := hw
    have hP : va_P V.1 vwCl [] H := hP
    have hD := cpD hP hD
    exact fiL hx hb hr hlk hK hP hD hS dX10_common_17 (Nat.le_of_ble_eq_true rfl) (Nat.le_of_ble_eq_true rfl) (⟨g_4, rfl⟩)
  · replace c_1 : k1 = (0 : Int64) := (lg_cmp_eq _ _).mp c_1
    have b_5 : ivL 0 0 k1 := ivL_q c_1 (ivL_c (0 : Int64) (a := 0) (b := 0) (by decide))
    refine lv_lload_n hx hb dX10_common_6 rfl (lv_at hl 0 rfl) ?_
    refine lv_goto (tgt := 17) hx hb dX10_common_7 (by decide) ?_
    exact fiL hx hb hr hlk hK hP hD hS dX10_common_17 (Nat.le_of_ble_eq_true rfl) (Nat.le_of_ble_eq_true rfl) (⟨(hf0.elim id (fun q9 => absurd c_1 q9)), rfl⟩)
set_option maxHeartbeats 4000000 in
set_option maxRecDepth 100000 in
theorem k_X10_common_43 (l : Launch) (V : GV) (k0 : Int64) (k1 : Int64) (bk0 : ivL (-4194303) 4194303 k0) (hf0 : ¬ k0 = 0) (hf1 : (k1 : Int64).toInt.natAbs < (k0 : Int64).toInt.natAbs) : Ct l V yX10_common (.code yX10_common cX10_common 4 (some .long)) 44 [.long k0, .long k1] [] 0 0 (QL V (fun (r : Int64) (w : va_W) => (¬ r = 0) ∧ w = [])) := by
  refine Ct.of (by decide) (Nat.le_of_ble_eq_true rfl) (fun p e s m below meth c A ls hx hb hr hml hown hlk hnm hg hP hK hD hE hA hS hl => ?_)
  have hl : lv_has ls 4 [(0, .long k0), (2, .long k1)] := hl
  refine lv_lload_n hx hb dX10_common_0 rfl (lv_at hl 1 rfl) ?_
  refine lv_lconst (v := 0) hx hb dX10_common_1 (by decide) ?_
  refine W.lcmp hx hb dX10_common_2 ?_
  refine lv_if_ne (tgt := 10) hx hb dX10_common_3 (by decide) (fun c_1 => ?_) (fun c_1 => ?_)
  · replace c_1 : ¬ k1 = (0 : Int64) := fun z => c_1 ((lg_cmp_eq _ _).mpr z)
    refine lv_lload_n hx hb dX10_common_10 rfl (lv_at hl 1 rfl) ?_
    refine lv_lload_n hx hb dX10_common_11 rfl (lv_at hl 0 rfl) ?_
    refine lv_lload_n hx hb dX10_common_12 rfl (lv_at hl 1 rfl) ?_
    refine lv_lrem hx hb dX10_common_13 c_1 ?_
    refine lv_topl (fun j_2 ej_2 => ?_)
    have b_3 : ivL (-2097151) 2097151 j_2 := com_D (M := 4194303) (K := 2097151) ej_2 c_1 bk0 hf1 (by decide)
    refine jnL (wr := []) (rnS (rest := []) ⟨hx, hb, hml, hown, hg⟩ (k_X10_common_42 l V k1 j_2 b_3 (Or.inl c_1)) mt_X10_common q_8_124 ⟨Nat.le_of_ble_eq_true rfl, Nat.le_of_ble_eq_true rfl⟩ hK hP hD hS hA hE [] rfl rfl rfl hl.1 rfl (Nat.le_of_ble_eq_true rfl) dX10_common_14 ⟨Nat.le_of_ble_eq_true rfl, Nat.le_of_ble_eq_true rfl⟩) hP hD hS hA [] [] rfl rfl rfl (by decide) (fun r_4 w H locs hw hP hD hS => ?_)
    obtain ⟨g_5, rfl⟩ := hw
    have hP : va_P V.1 vwCl [] H := hP
    have hD := cpD hP hD
    exact fiL hx hb hr hlk hK hP hD hS dX10_common_17 (Nat.le_of_ble_eq_true rfl) (Nat.le_of_ble_eq_true rfl) (⟨g_5, rfl⟩)
  · replace c_1 : k1 = (0 : Int64) := (lg_cmp_eq _ _).mp c_1
    have b_6 : ivL 0 0 k1 := ivL_q c_1 (ivL_c (0 : Int64) (a := 0) (b := 0) (by decide))
    refine lv_lload_n hx hb dX10_common_6 rfl (lv_at hl 0 rfl) ?_
    refine lv_goto (tgt := 17) hx hb dX10_common_7 (by decide) ?_
    exact fiL hx hb hr hlk hK hP hD hS dX10_common_17 (Nat.le_of_ble_eq_true rfl) (Nat.le_of_ble_eq_true rfl) (⟨hf0, rfl⟩)
set_option maxHeartbeats 4000000 in
set_option maxRecDepth 100000 in
theorem k_X10_common_44 (l : Launch) (V : GV) (k0 : Int64) (k1 : Int64) (bk1 : ivL (-4194303) 4194303 k1) (hf0 : ¬ k0 = 0 ∨ ¬ k1 = 0) : Ct l V yX10_common (.code yX10_common cX10_common 4 (some .long)) 45 [.long k0, .long k1] [] 0 0 (QL V (fun (r : Int64) (w : va_W) => (¬ r = 0) ∧ w = [])) := by
  refine Ct.of (by decide) (Nat.le_of_ble_eq_true rfl) (fun p e s m below meth c A ls hx hb hr hml hown hlk hnm hg hP hK hD hE hA hS hl => ?_)
  have hl : lv_has ls 4 [(0, .long k0), (2, .long k1)] := hl
  refine lv_lload_n hx hb dX10_common_0 rfl (lv_at hl 1 rfl) ?_
  refine lv_lconst (v := 0) hx hb dX10_common_1 (by decide) ?_
  refine W.lcmp hx hb dX10_common_2 ?_
  refine lv_if_ne (tgt := 10) hx hb dX10_common_3 (by decide) (fun c_1 => ?_) (fun c_1 => ?_)
  · replace c_1 : ¬ k1 = (0 : Int64) := fun z => c_1 ((lg_cmp_eq _ _).mpr z)
    refine lv_lload_n hx hb dX10_common_10 rfl (lv_at hl 1 rfl) ?_
    refine lv_lload_n hx hb dX10_common_11 rfl (lv_at hl 0 rfl) ?_
    refine lv_lload_n hx hb dX10_common_12 rfl (lv_at hl 1 rfl) ?_
    refine lv_lrem hx hb dX10_common_13 c_1 ?_
    refine lv_topl (fun j_2 ej_2 => ?_)
    refine jnL (wr := []) (rnS (rest := []) ⟨hx, hb, hml, hown, hg⟩ (k_X10_common_43 l V k1 j_2 bk1 c_1 (com_C ej_2 c_1)) mt_X10_common q_8_124 ⟨Nat.le_of_ble_eq_true rfl, Nat.le_of_ble_eq_true rfl⟩ hK hP hD hS hA hE [] rfl rfl rfl hl.1 rfl (Nat.le_of_ble_eq_true rfl) dX10_common_14 ⟨Nat.le_of_ble_eq_true rfl, Nat.le_of_ble_eq_true rfl⟩) hP hD hS hA [] [] rfl rfl rfl (by decide) (fun r_3 w H locs hw hP hD hS => ?_)
    obtain ⟨g_4, rfl⟩ := hw
    have hP : va_P V.1 vwCl [] H := hP
    have hD := cpD hP hD
    exact fiL hx hb hr hlk hK hP hD hS dX10_common_17 (Nat.le_of_ble_eq_true rfl) (Nat.le_of_ble_eq_true rfl) (⟨g_4, rfl⟩)
  · replace c_1 : k1 = (0 : Int64) := (lg_cmp_eq _ _).mp c_1
    have b_5 : ivL 0 0 k1 := ivL_q c_1 (ivL_c (0 : Int64) (a := 0) (b := 0) (by decide))
    refine lv_lload_n hx hb dX10_common_6 rfl (lv_at hl 0 rfl) ?_
    refine lv_goto (tgt := 17) hx hb dX10_common_7 (by decide) ?_
    exact fiL hx hb hr hlk hK hP hD hS dX10_common_17 (Nat.le_of_ble_eq_true rfl) (Nat.le_of_ble_eq_true rfl) (⟨(hf0.elim id (fun q9 => absurd c_1 q9)), rfl⟩)
set_option maxHeartbeats 4000000 in
set_option maxRecDepth 100000 in
theorem k_X10_common_45 (l : Launch) (V : GV) (k0 : Int64) (k1 : Int64) (bk0 : ivL (-8388607) 8388607 k0) (hf0 : ¬ k0 = 0) (hf1 : (k1 : Int64).toInt.natAbs < (k0 : Int64).toInt.natAbs) : Ct l V yX10_common (.code yX10_common cX10_common 4 (some .long)) 46 [.long k0, .long k1] [] 0 0 (QL V (fun (r : Int64) (w : va_W) => (¬ r = 0) ∧ w = [])) := by
  refine Ct.of (by decide) (Nat.le_of_ble_eq_true rfl) (fun p e s m below meth c A ls hx hb hr hml hown hlk hnm hg hP hK hD hE hA hS hl => ?_)
  have hl : lv_has ls 4 [(0, .long k0), (2, .long k1)] := hl
  refine lv_lload_n hx hb dX10_common_0 rfl (lv_at hl 1 rfl) ?_
  refine lv_lconst (v := 0) hx hb dX10_common_1 (by decide) ?_
  refine W.lcmp hx hb dX10_common_2 ?_
  refine lv_if_ne (tgt := 10) hx hb dX10_common_3 (by decide) (fun c_1 => ?_) (fun c_1 => ?_)
  · replace c_1 : ¬ k1 = (0 : Int64) := fun z => c_1 ((lg_cmp_eq _ _).mpr z)
    refine lv_lload_n hx hb dX10_common_10 rfl (lv_at hl 1 rfl) ?_
    refine lv_lload_n hx hb dX10_common_11 rfl (lv_at hl 0 rfl) ?_
    refine lv_lload_n hx hb dX10_common_12 rfl (lv_at hl 1 rfl) ?_
    refine lv_lrem hx hb dX10_common_13 c_1 ?_
    refine lv_topl (fun j_2 ej_2 => ?_)
    have b_3 : ivL (-4194303) 4194303 j_2 := com_D (M := 8388607) (K := 4194303) ej_2 c_1 bk0 hf1 (by decide)
    refine jnL (wr := []) (rnS (rest := []) ⟨hx, hb, hml, hown, hg⟩ (k_X10_common_44 l V k1 j_2 b_3 (Or.inl c_1)) mt_X10_common q_8_124 ⟨Nat.le_of_ble_eq_true rfl, Nat.le_of_ble_eq_true rfl⟩ hK hP hD hS hA hE [] rfl rfl rfl hl.1 rfl (Nat.le_of_ble_eq_true rfl) dX10_common_14 ⟨Nat.le_of_ble_eq_true rfl, Nat.le_of_ble_eq_true rfl⟩) hP hD hS hA [] [] rfl rfl rfl (by decide) (fun r_4 w H locs hw hP hD hS => ?_)
    obtain ⟨g_5, rfl⟩ := hw
    have hP : va_P V.1 vwCl [] H := hP
    have hD := cpD hP hD
    exact fiL hx hb hr hlk hK hP hD hS dX10_common_17 (Nat.le_of_ble_eq_true rfl) (Nat.le_of_ble_eq_true rfl) (⟨g_5, rfl⟩)
  · replace c_1 : k1 = (0 : Int64) := (lg_cmp_eq _ _).mp c_1
    have b_6 : ivL 0 0 k1 := ivL_q c_1 (ivL_c (0 : Int64) (a := 0) (b := 0) (by decide))
    refine lv_lload_n hx hb dX10_common_6 rfl (lv_at hl 0 rfl) ?_
    refine lv_goto (tgt := 17) hx hb dX10_common_7 (by decide) ?_
    exact fiL hx hb hr hlk hK hP hD hS dX10_common_17 (Nat.le_of_ble_eq_true rfl) (Nat.le_of_ble_eq_true rfl) (⟨hf0, rfl⟩)
set_option maxHeartbeats 4000000 in
set_option maxRecDepth 100000 in
theorem k_X10_common_46 (l : Launch) (V : GV) (k0 : Int64) (k1 : Int64) (bk1 : ivL (-8388607) 8388607 k1) (hf0 : ¬ k0 = 0 ∨ ¬ k1 = 0) : Ct l V yX10_common (.code yX10_common cX10_common 4 (some .long)) 47 [.long k0, .long k1] [] 0 0 (QL V (fun (r : Int64) (w : va_W) => (¬ r = 0) ∧ w = [])) := by
  refine Ct.of (by decide) (Nat.le_of_ble_eq_true rfl) (fun p e s m below meth c A ls hx hb hr hml hown hlk hnm hg hP hK hD hE hA hS hl => ?_)
  have hl : lv_has ls 4 [(0, .long k0), (2, .long k1)] := hl
  refine lv_lload_n hx hb dX10_common_0 rfl (lv_at hl 1 rfl) ?_
  refine lv_lconst (v := 0) hx hb dX10_common_1 (by decide) ?_
  refine W.lcmp hx hb dX10_common_2 ?_
  refine lv_if_ne (tgt := 10) hx hb dX10_common_3 (by decide) (fun c_1 => ?_) (fun c_1 => ?_)
  · replace c_1 : ¬ k1 = (0 : Int64) := fun z => c_1 ((lg_cmp_eq _ _).mpr z)
    refine lv_lload_n hx hb dX10_common_10 rfl (lv_at hl 1 rfl) ?_
    refine lv_lload_n hx hb dX10_common_11 rfl (lv_at hl 0 rfl) ?_
    refine lv_lload_n hx hb dX10_common_12 rfl (lv_at hl 1 rfl) ?_
    refine lv_lrem hx hb dX10_common_13 c_1 ?_
    refine lv_topl (fun j_2 ej_2 => ?_)
    refine jnL (wr := []) (rnS (rest := []) ⟨hx, hb, hml, hown, hg⟩ (k_X10_common_45 l V k1 j_2 bk1 c_1 (com_C ej_2 c_1)) mt_X10_common q_8_124 ⟨Nat.le_of_ble_eq_true rfl, Nat.le_of_ble_eq_true rfl⟩ hK hP hD hS hA hE [] rfl rfl rfl hl.1 rfl (Nat.le_of_ble_eq_true rfl) dX10_common_14 ⟨Nat.le_of_ble_eq_true rfl, Nat.le_of_ble_eq_true rfl⟩) hP hD hS hA [] [] rfl rfl rfl (by decide) (fun r_3 w H locs hw hP hD hS => ?_)
    obtain ⟨g_4, rfl⟩ := hw
    have hP : va_P V.1 vwCl [] H := hP
    have hD := cpD hP hD
    exact fiL hx hb hr hlk hK hP hD hS dX10_common_17 (Nat.le_of_ble_eq_true rfl) (Nat.le_of_ble_eq_true rfl) (⟨g_4, rfl⟩)
  · replace c_1 : k1 = (0 : Int64) := (lg_cmp_eq _ _).mp c_1
    have b_5 : ivL 0 0 k1 := ivL_q c_1 (ivL_c (0 : Int64) (a := 0) (b := 0) (by decide))
    refine lv_lload_n hx hb dX10_common_6 rfl (lv_at hl 0 rfl) ?_
    refine lv_goto (tgt := 17) hx hb dX10_common_7 (by decide) ?_
    exact fiL hx hb hr hlk hK hP hD hS dX10_common_17 (Nat.le_of_ble_eq_true rfl) (Nat.le_of_ble_eq_true rfl) (⟨(hf0.elim id (fun q9 => absurd c_1 q9)), rfl⟩)
set_option maxHeartbeats 4000000 in
set_option maxRecDepth 100000 in
theorem k_X10_common_47 (l : Launch) (V : GV) (k0 : Int64) (k1 : Int64) (bk0 : ivL (-16777215) 16777215 k0) (hf0 : ¬ k0 = 0) (hf1 : (k1 : Int64).toInt.natAbs < (k0 : Int64).toInt.natAbs) : Ct l V yX10_common (.code yX10_common cX10_common 4 (some .long)) 48 [.long k0, .long k1] [] 0 0 (QL V (fun (r : Int64) (w : va_W) => (¬ r = 0) ∧ w = [])) := by
  refine Ct.of (by decide) (Nat.le_of_ble_eq_true rfl) (fun p e s m below meth c A ls hx hb hr hml hown hlk hnm hg hP hK hD hE hA hS hl => ?_)
  have hl : lv_has ls 4 [(0, .long k0), (2, .long k1)] := hl
  refine lv_lload_n hx hb dX10_common_0 rfl (lv_at hl 1 rfl) ?_
  refine lv_lconst (v := 0) hx hb dX10_common_1 (by decide) ?_
  refine W.lcmp hx hb dX10_common_2 ?_
  refine lv_if_ne (tgt := 10) hx hb dX10_common_3 (by decide) (fun c_1 => ?_) (fun c_1 => ?_)
  · replace c_1 : ¬ k1 = (0 : Int64) := fun z => c_1 ((lg_cmp_eq _ _).mpr z)
    refine lv_lload_n hx hb dX10_common_10 rfl (lv_at hl 1 rfl) ?_
    refine lv_lload_n hx hb dX10_common_11 rfl (lv_at hl 0 rfl) ?_
    refine lv_lload_n hx hb dX10_common_12 rfl (lv_at hl 1 rfl) ?_
    refine lv_lrem hx hb dX10_common_13 c_1 ?_
    refine lv_topl (fun j_2 ej_2 => ?_)
    have b_3 : ivL (-8388607) 8388607 j_2 := com_D (M := 16777215) (K := 8388607) ej_2 c_1 bk0 hf1 (by decide)
    refine jnL (wr := []) (rnS (rest := []) ⟨hx, hb, hml, hown, hg⟩ (k_X10_common_46 l V k1 j_2 b_3 (Or.inl c_1)) mt_X10_common q_8_124 ⟨Nat.le_of_ble_eq_true rfl, Nat.le_of_ble_eq_true rfl⟩ hK hP hD hS hA hE [] rfl rfl rfl hl.1 rfl (Nat.le_of_ble_eq_true rfl) dX10_common_14 ⟨Nat.le_of_ble_eq_true rfl, Nat.le_of_ble_eq_true rfl⟩) hP hD hS hA [] [] rfl rfl rfl (by decide) (fun r_4 w H locs hw hP hD hS => ?_)
    obtain ⟨g_5, rfl⟩ := hw
    have hP : va_P V.1 vwCl [] H := hP
    have hD := cpD hP hD
    exact fiL hx hb hr hlk hK hP hD hS dX10_common_17 (Nat.le_of_ble_eq_true rfl) (Nat.le_of_ble_eq_true rfl) (⟨g_5, rfl⟩)
  · replace c_1 : k1 = (0 : Int64) := (lg_cmp_eq _ _).mp c_1
    have b_6 : ivL 0 0 k1 := ivL_q c_1 (ivL_c (0 : Int64) (a := 0) (b := 0) (by decide))
    refine lv_lload_n hx hb dX10_common_6 rfl (lv_at hl 0 rfl) ?_
    refine lv_goto (tgt := 17) hx hb dX10_common_7 (by decide) ?_
    exact fiL hx hb hr hlk hK hP hD hS dX10_common_17 (Nat.le_of_ble_eq_true rfl) (Nat.le_of_ble_eq_true rfl) (⟨hf0, rfl⟩)
set_option maxHeartbeats 4000000 in
set_option maxRecDepth 100000 in
theorem k_X10_common_48 (l : Launch) (V : GV) (k0 : Int64) (k1 : Int64) (bk1 : ivL (-16777215) 16777215 k1) (hf0 : ¬ k0 = 0 ∨ ¬ k1 = 0) : Ct l V yX10_common (.code yX10_common cX10_common 4 (some .long)) 49 [.long k0, .long k1] [] 0 0 (QL V (fun (r : Int64) (w : va_W) => (¬ r = 0) ∧ w = [])) := by
  refine Ct.of (by decide) (Nat.le_of_ble_eq_true rfl) (fun p e s m below meth c A ls hx hb hr hml hown hlk hnm hg hP hK hD hE hA hS hl => ?_)
  have hl : lv_has ls 4 [(0, .long k0), (2, .long k1)] := hl
  refine lv_lload_n hx hb dX10_common_0 rfl (lv_at hl 1 rfl) ?_
  refine lv_lconst (v := 0) hx hb dX10_common_1 (by decide) ?_
  refine W.lcmp hx hb dX10_common_2 ?_
  refine lv_if_ne (tgt := 10) hx hb dX10_common_3 (by decide) (fun c_1 => ?_) (fun c_1 => ?_)
  · replace c_1 : ¬ k1 = (0 : Int64) := fun z => c_1 ((lg_cmp_eq _ _).mpr z)
    refine lv_lload_n hx hb dX10_common_10 rfl (lv_at hl 1 rfl) ?_
    refine lv_lload_n hx hb dX10_common_11 rfl (lv_at hl 0 rfl) ?_
    refine lv_lload_n hx hb dX10_common_12 rfl (lv_at hl 1 rfl) ?_
    refine lv_lrem hx hb dX10_common_13 c_1 ?_
    refine lv_topl (fun j_2 ej_2 => ?_)
    refine jnL (wr := []) (rnS (rest := []) ⟨hx, hb, hml, hown, hg⟩ (k_X10_common_47 l V k1 j_2 bk1 c_1 (com_C ej_2 c_1)) mt_X10_common q_8_124 ⟨Nat.le_of_ble_eq_true rfl, Nat.le_of_ble_eq_true rfl⟩ hK hP hD hS hA hE [] rfl rfl rfl hl.1 rfl (Nat.le_of_ble_eq_true rfl) dX10_common_14 ⟨Nat.le_of_ble_eq_true rfl, Nat.le_of_ble_eq_true rfl⟩) hP hD hS hA [] [] rfl rfl rfl (by decide) (fun r_3 w H locs hw hP hD hS => ?_)
    obtain ⟨g_4, rfl⟩ := hw
    have hP : va_P V.1 vwCl [] H := hP
    have hD := cpD hP hD
    exact fiL hx hb hr hlk hK hP hD hS dX10_common_17 (Nat.le_of_ble_eq_true rfl) (Nat.le_of_ble_eq_true rfl) (⟨g_4, rfl⟩)
  · replace c_1 : k1 = (0 : Int64) := (lg_cmp_eq _ _).mp c_1
    have b_5 : ivL 0 0 k1 := ivL_q c_1 (ivL_c (0 : Int64) (a := 0) (b := 0) (by decide))
    refine lv_lload_n hx hb dX10_common_6 rfl (lv_at hl 0 rfl) ?_
    refine lv_goto (tgt := 17) hx hb dX10_common_7 (by decide) ?_
    exact fiL hx hb hr hlk hK hP hD hS dX10_common_17 (Nat.le_of_ble_eq_true rfl) (Nat.le_of_ble_eq_true rfl) (⟨(hf0.elim id (fun q9 => absurd c_1 q9)), rfl⟩)
theorem dX10_part_0 : decode cX10_part 0 = .ok (.iload 4, 2) := by decide +kernel
theorem dX10_part_2 : decode cX10_part 2 = .ok (.ifCond .ne 7, 3) := by decide +kernel
theorem dX10_part_9 : decode cX10_part 9 = .ok (.lload_n 2, 1) := by decide +kernel
theorem dX10_part_10 : decode cX10_part 10 = .ok (.lload_n 0, 1) := by decide +kernel
theorem dX10_part_11 : decode cX10_part 11 = .ok (.lload_n 2, 1) := by decide +kernel
theorem dX10_part_12 : decode cX10_part 12 = .ok (.invokestatic 447, 3) := by decide +kernel
theorem dX10_part_15 : decode cX10_part 15 = .ok (.ldiv, 1) := by decide +kernel
theorem dX10_part_16 : decode cX10_part 16 = .ok (.l2i, 1) := by decide +kernel
theorem dX10_part_17 : decode cX10_part 17 = .ok (.ireturn, 1) := by decide +kernel
theorem dX10_part_5 : decode cX10_part 5 = .ok (.lload_n 0, 1) := by decide +kernel
theorem dX10_part_6 : decode cX10_part 6 = .ok (.goto 4, 3) := by decide +kernel
set_option maxHeartbeats 4000000 in
set_option maxRecDepth 100000 in
theorem k_X10_part_0 (l : Launch) (V : GV) (k0 : Int64) (k1 : Int64) (a2 : Int32) (bk1 : ivL 1 10000000 k1) : Ct l V yX10_part (.code yX10_part cX10_part 5 (some .int)) 50 [.long k0, .long k1, .int a2] [] 0 0 (QI V (fun (r : Int32) (w : va_W) => w = [])) := by
  refine Ct.of (by decide) (Nat.le_of_ble_eq_true rfl) (fun p e s m below meth c A ls hx hb hr hml hown hlk hnm hg hP hK hD hE hA hS hl => ?_)
  have hl : lv_has ls 5 [(0, .long k0), (2, .long k1), (4, .int a2)] := hl
  refine lv_iload hx hb dX10_part_0 (lv_at hl 2 rfl) ?_
  refine lv_if_ne (tgt := 9) hx hb dX10_part_2 (by decide) (fun c_1 => ?_) (fun c_1 => ?_)
  · refine lv_lload_n hx hb dX10_part_9 rfl (lv_at hl 1 rfl) ?_
    refine lv_lload_n hx hb dX10_part_10 rfl (lv_at hl 0 rfl) ?_
    refine lv_lload_n hx hb dX10_part_11 rfl (lv_at hl 1 rfl) ?_
    refine jnL (wr := []) (rnS (rest := [.long k1]) ⟨hx, hb, hml, hown, hg⟩ (k_X10_common_48 l V k0 k1 (ivL_w bk1 (by decide)) (Or.inr (ivL_nz bk1 (by decide)))) mt_X10_common q_8_124 ⟨Nat.le_of_ble_eq_true rfl, Nat.le_of_ble_eq_true rfl⟩ hK hP hD hS hA hE [] rfl rfl rfl hl.1 rfl (Nat.le_of_ble_eq_true rfl) dX10_part_12 ⟨Nat.le_of_ble_eq_true rfl, Nat.le_of_ble_eq_true rfl⟩) hP hD hS hA [] [] rfl rfl rfl (by decide) (fun r_2 w H locs hw hP hD hS => ?_)
    obtain ⟨g_3, rfl⟩ := hw
    have hP : va_P V.1 vwCl [] H := hP
    have hD := cpD hP hD
    refine lv_ldiv hx hb dX10_part_15 g_3 ?_
    refine lv_topl (fun j_4 ej_4 => ?_)
    refine lv_l2i hx hb dX10_part_16 rfl ?_
    refine lv_topi (fun x_5 ex_5 => ?_)
    exact fiI hx hb hr hlk hK hP hD hS dX10_part_17 (Nat.le_of_ble_eq_true rfl) (Nat.le_of_ble_eq_true rfl) (rfl)
  · have b_6 : iv 0 0 a2 := iv_q c_1 (iv_c (0 : Int32) (a := 0) (b := 0) (by decide))
    refine lv_lload_n hx hb dX10_part_5 rfl (lv_at hl 0 rfl) ?_
    refine lv_goto (tgt := 10) hx hb dX10_part_6 (by decide) ?_
    refine lv_lload_n hx hb dX10_part_10 rfl (lv_at hl 0 rfl) ?_
    refine lv_lload_n hx hb dX10_part_11 rfl (lv_at hl 1 rfl) ?_
    refine jnL (wr := []) (rnS (rest := [.long k0]) ⟨hx, hb, hml, hown, hg⟩ (k_X10_common_48 l V k0 k1 (ivL_w bk1 (by decide)) (Or.inr (ivL_nz bk1 (by decide)))) mt_X10_common q_8_124 ⟨Nat.le_of_ble_eq_true rfl, Nat.le_of_ble_eq_true rfl⟩ hK hP hD hS hA hE [] rfl rfl rfl hl.1 rfl (Nat.le_of_ble_eq_true rfl) dX10_part_12 ⟨Nat.le_of_ble_eq_true rfl, Nat.le_of_ble_eq_true rfl⟩) hP hD hS hA [] [] rfl rfl rfl (by decide) (fun r_7 w H locs hw hP hD hS => ?_)
    obtain ⟨g_8, rfl⟩ := hw
    have hP : va_P V.1 vwCl [] H := hP
    have hD := cpD hP hD
    refine lv_ldiv hx hb dX10_part_15 g_8 ?_
    refine lv_topl (fun j_9 ej_9 => ?_)
    refine lv_l2i hx hb dX10_part_16 rfl ?_
    refine lv_topi (fun x_10 ex_10 => ?_)
    exact fiI hx hb hr hlk hK hP hD hS dX10_part_17 (Nat.le_of_ble_eq_true rfl) (Nat.le_of_ble_eq_true rfl) (rfl)
theorem dX10_chance_0 : decode cX10_chance 0 = .ok (.aload_n 0, 1) := by decide +kernel
theorem dX10_chance_1 : decode cX10_chance 1 = .ok (.iconst 0, 1) := by decide +kernel
theorem dX10_chance_2 : decode cX10_chance 2 = .ok (.putfield 1, 3) := by decide +kernel
theorem dX10_chance_5 : decode cX10_chance 5 = .ok (.aload_n 0, 1) := by decide +kernel
theorem dX10_chance_6 : decode cX10_chance 6 = .ok (.iload_n 1, 1) := by decide +kernel
theorem dX10_chance_7 : decode cX10_chance 7 = .ok (.i2l, 1) := by decide +kernel
theorem dX10_chance_8 : decode cX10_chance 8 = .ok (.invokevirtual 262, 3) := by decide +kernel
theorem dX10_chance_11 : decode cX10_chance 11 = .ok (.ifCond .eq 14, 3) := by decide +kernel
theorem dX10_chance_25 : decode cX10_chance 25 = .ok (.bipush (-2), 2) := by decide +kernel
theorem dX10_chance_27 : decode cX10_chance 27 = .ok (.ireturn, 1) := by decide +kernel
theorem dX10_chance_14 : decode cX10_chance 14 = .ok (.iload 4, 2) := by decide +kernel
theorem dX10_chance_16 : decode cX10_chance 16 = .ok (.i2l, 1) := by decide +kernel
theorem dX10_chance_17 : decode cX10_chance 17 = .ok (.lconst 0, 1) := by decide +kernel
theorem dX10_chance_18 : decode cX10_chance 18 = .ok (.lconst 1, 1) := by decide +kernel
theorem dX10_chance_19 : decode cX10_chance 19 = .ok (.invokestatic 159, 3) := by decide +kernel
theorem dX10_chance_22 : decode cX10_chance 22 = .ok (.ifCond .ne 6, 3) := by decide +kernel
theorem dX10_chance_28 : decode cX10_chance 28 = .ok (.iload_n 2, 1) := by decide +kernel
theorem dX10_chance_29 : decode cX10_chance 29 = .ok (.invokestatic 370, 3) := by decide +kernel
theorem dX10_chance_32 : decode cX10_chance 32 = .ok (.ifCond .eq 15, 3) := by decide +kernel
theorem dX10_chance_47 : decode cX10_chance 47 = .ok (.bipush (-3), 2) := by decide +kernel
theorem dX10_chance_49 : decode cX10_chance 49 = .ok (.ireturn, 1) := by decide +kernel
theorem dX10_chance_35 : decode cX10_chance 35 = .ok (.iload_n 3, 1) := by decide +kernel
theorem dX10_chance_36 : decode cX10_chance 36 = .ok (.i2l, 1) := by decide +kernel
theorem dX10_chance_37 : decode cX10_chance 37 = .ok (.lconst 0, 1) := by decide +kernel
theorem q_8_113 : Cond.constantLong "BeaconDelayModel" 451 (7 : Int64) ∈ gw := gw_8 (i := 113) (by decide +kernel) rfl
theorem dX10_chance_38 : decode cX10_chance 38 = .ok (.ldc2_w 451, 3) := by decide +kernel
theorem dX10_chance_41 : decode cX10_chance 41 = .ok (.invokestatic 159, 3) := by decide +kernel
theorem dX10_chance_44 : decode cX10_chance 44 = .ok (.ifCond .ne 6, 3) := by decide +kernel
theorem dX10_chance_50 : decode cX10_chance 50 = .ok (.aload_n 0, 1) := by decide +kernel
theorem dX10_chance_51 : decode cX10_chance 51 = .ok (.iload_n 3, 1) := by decide +kernel
theorem q_8_117 : Cond.code yX10_laysLikely prog_12_method_122_code 4 none ∈ gw := gw_8 (i := 117) (rfl) rfl
theorem q_8_116 : Cond.instanceMethod yX10_laysLikely ∈ gw := gw_8 (i := 116) (by decide +kernel) rfl
theorem q_s_125 : Cond.selects "BeaconDelayModel" yX10_laysLikely yX10_laysLikely ∈ gw := gw_s (i := 125) (by decide +kernel) rfl
theorem mt_X10_laysLikely : MtV yX10_laysLikely cX10_laysLikely 4 none 1 := ⟨⟨q_8_117, q_1_9, by decide +kernel, by decide +kernel, by decide +kernel⟩, q_8_116, q_s_125⟩
theorem q_8_114 : Cond.methodLink "BeaconDelayModel" 453 yX10_laysLikely ∈ gw := gw_8 (i := 114) (by decide +kernel) rfl
theorem dX10_chance_52 : decode cX10_chance 52 = .ok (.invokevirtual 453, 3) := by decide +kernel
theorem dX10_chance_55 : decode cX10_chance 55 = .ok (.lconst 0, 1) := by decide +kernel
theorem dX10_chance_56 : decode cX10_chance 56 = .ok (.lstore 5, 2) := by decide +kernel
theorem dX10_chance_58 : decode cX10_chance 58 = .ok (.iconst 0, 1) := by decide +kernel
theorem dX10_chance_59 : decode cX10_chance 59 = .ok (.istore 7, 2) := by decide +kernel
theorem dX10_chance_61 : decode cX10_chance 61 = .ok (.iload 7, 2) := by decide +kernel
theorem dX10_chance_63 : decode cX10_chance 63 = .ok (.aload_n 0, 1) := by decide +kernel
theorem dX10_chance_64 : decode cX10_chance 64 = .ok (.getfield 355, 3) := by decide +kernel
theorem dX10_chance_67 : decode cX10_chance 67 = .ok (.if_icmp .ge 45, 3) := by decide +kernel
theorem dX10_chance_112 : decode cX10_chance 112 = .ok (.lload 5, 2) := by decide +kernel
theorem dX10_chance_114 : decode cX10_chance 114 = .ok (.iload_n 3, 1) := by decide +kernel
theorem q_8_120 : Cond.code yX10_wholeOf prog_12_method_123_code 4 (some FieldType.long) ∈ gw := gw_8 (i := 120) (rfl) rfl
theorem q_8_119 : Cond.static yX10_wholeOf ∈ gw := gw_8 (i := 119) (by decide +kernel) rfl
theorem mt_X10_wholeOf : MtS yX10_wholeOf cX10_wholeOf 4 (some .long) 1 := ⟨⟨q_8_120, q_1_9, by decide +kernel, by decide +kernel, by decide +kernel⟩, q_8_119⟩
theorem q_8_118 : Cond.methodLink "BeaconDelayModel" 456 yX10_wholeOf ∈ gw := gw_8 (i := 118) (by decide +kernel) rfl
theorem dX10_chance_115 : decode cX10_chance 115 = .ok (.invokestatic 456, 3) := by decide +kernel
theorem dX10_chance_118 : decode cX10_chance 118 = .ok (.iload 4, 2) := by decide +kernel
theorem q_8_123 : Cond.code yX10_part prog_12_method_125_code 5 (some FieldType.int) ∈ gw := gw_8 (i := 123) (rfl) rfl
theorem q_8_122 : Cond.static yX10_part ∈ gw := gw_8 (i := 122) (by decide +kernel) rfl
theorem mt_X10_part : MtS yX10_part cX10_part 5 (some .int) 3 := ⟨⟨q_8_123, q_1_9, by decide +kernel, by decide +kernel, by decide +kernel⟩, q_8_122⟩
theorem q_8_121 : Cond.methodLink "BeaconDelayModel" 460 yX10_part ∈ gw := gw_8 (i := 121) (by decide +kernel) rfl
theorem dX10_chance_120 : decode cX10_chance 120 = .ok (.invokestatic 460, 3) := by decide +kernel
theorem dX10_chance_123 : decode cX10_chance 123 = .ok (.ireturn, 1) := by decide +kernel
theorem dX10_chance_70 : decode cX10_chance 70 = .ok (.lload 5, 2) := by decide +kernel
theorem dX10_chance_72 : decode cX10_chance 72 = .ok (.aload_n 0, 1) := by decide +kernel
theorem dX10_chance_73 : decode cX10_chance 73 = .ok (.getfield 45, 3) := by decide +kernel
theorem dX10_chance_76 : decode cX10_chance 76 = .ok (.iload 7, 2) := by decide +kernel
theorem dX10_chance_78 : decode cX10_chance 78 = .ok (.iaload, 1) := by decide +kernel
theorem dX10_chance_79 : decode cX10_chance 79 = .ok (.iload_n 1, 1) := by decide +kernel
theorem dX10_chance_80 : decode cX10_chance 80 = .ok (.invokestatic 231, 3) := by decide +kernel
theorem dX10_chance_83 : decode cX10_chance 83 = .ok (.iload_n 2, 1) := by decide +kernel
theorem dX10_chance_84 : decode cX10_chance 84 = .ok (.if_icmp .lt 18, 3) := by decide +kernel
theorem dX10_chance_102 : decode cX10_chance 102 = .ok (.lconst 0, 1) := by decide +kernel
theorem dX10_chance_103 : decode cX10_chance 103 = .ok (.ladd, 1) := by decide +kernel
theorem dX10_chance_104 : decode cX10_chance 104 = .ok (.lstore 5, 2) := by decide +kernel
theorem dX10_chance_106 : decode cX10_chance 106 = .ok (.iinc 7 1, 3) := by decide +kernel
theorem dX10_chance_109 : decode cX10_chance 109 = .ok (.goto (-48), 3) := by decide +kernel
theorem dX10_chance_87 : decode cX10_chance 87 = .ok (.aload_n 0, 1) := by decide +kernel
theorem dX10_chance_88 : decode cX10_chance 88 = .ok (.getfield 61, 3) := by decide +kernel
theorem dX10_chance_91 : decode cX10_chance 91 = .ok (.aload_n 0, 1) := by decide +kernel
theorem dX10_chance_92 : decode cX10_chance 92 = .ok (.getfield 45, 3) := by decide +kernel
theorem dX10_chance_95 : decode cX10_chance 95 = .ok (.iload 7, 2) := by decide +kernel
theorem dX10_chance_97 : decode cX10_chance 97 = .ok (.iaload, 1) := by decide +kernel
theorem dX10_chance_98 : decode cX10_chance 98 = .ok (.laload, 1) := by decide +kernel
theorem dX10_chance_99 : decode cX10_chance 99 = .ok (.goto 4, 3) := by decide +kernel
set_option maxHeartbeats 4000000 in
set_option maxRecDepth 100000 in
theorem k_X10_chance_0 (l : Launch) (V : GV) (z : Nat → Nat) (a1 : Int32) (a2 : Int32) (a3 : Int32) (a4 : Int32) (pz0_0 : Int32) (pz0_5 : Int32) (pz0_6 : Int32) (pz0_7 : Int32) (pz0_8 : Int32) (pz0_9 : Int32) (pz0_10 : Int32) (pz0_11 : Int32) (pz0_12 : Int32) (pz0_13 : Int32) (pz0_14 : Int32) (pz0_18 : Int32) (pz0_19 : Int32) (pz0_22 : Int32) (pz0_23 : Int32) (pz0_29 : Int32) (fz1 : Nat → Int32) (fz15 : Nat → Int32) (fz16 : Nat → Int32) (fz24 : Nat → Int32) (fz25 : Nat → Int32) (fz28 : Nat → Int32) (fz30 : Nat → Int64) (fz31 : Nat → Int64) (bpz0_5 : iv 0 900 pz0_5) (bpz0_6 : iv 0 900 pz0_6) (bpz0_7 : iv 0 900 pz0_7) (bpz0_8 : iv 0 900 pz0_8) (bpz0_10 : iv 0 999 pz0_10) (bpz0_11 : iv 0 4 pz0_11) (bpz0_12 : iv 0 900 pz0_12) (bpz0_13 : iv 0 4 pz0_13) (bpz0_14 : iv (-1) 900 pz0_14) (bpz0_18 : iv 0 2 pz0_18) (bpz0_22 : iv 0 9999 pz0_22) (bpz0_29 : iv 0 10000 pz0_29) (tfz1 : ivT tA fz1) (tfz16 : ivT tW fz16) (tfz24 : ∀ j, iv 0 9999 (fz24 j)) (tfz25 : ∀ j, iv (-1) 9999 (fz25 j)) (hf0 : RW fz1) : Ct l V yX10_chance (.code yX10_chance cX10_chance 8 (some .int)) 51 [.ref (z 0), .int a1, .int a2, .int a3, .int a4] [(z 0, .inr (10, mo z pz0_0 pz0_5 pz0_6 pz0_7 pz0_8 pz0_9 pz0_10 pz0_11 pz0_12 pz0_13 pz0_14 pz0_18 pz0_19 pz0_22 pz0_23 pz0_29)), (z 1, aI V 3075 fz1), (z 15, aI V 900 fz15), (z 16, aI V 6 fz16), (z 24, aI V 10000 fz24), (z 25, aI V 40000 fz25), (z 28, aZ V 10000 fz28), (z 30, aJ V 10000 fz30), (z 31, aJ V 10000 fz31)] 0 0 (QI V (fun (r : Int32) (w : va_W) => ∃ (v0 : Int32) (v1 : Int32) (g2 : Nat → Int32) (g3 : Nat → Int32) (g4 : Nat → Int32) (g5 : Nat → Int32) (g6 : Nat → Int32) (g7 : Nat → Int64) (g8 : Nat → Int64), iv 0 10000 v1 ∧ (ivT tW g3) ∧ (∀ j, iv 0 9999 (g4 j)) ∧ (∀ j, iv (-1) 9999 (g5 j)) ∧ (RW fz1) ∧ w = [(z 0, .inr (10, mo z v0 pz0_5 pz0_6 pz0_7 pz0_8 pz0_9 pz0_10 pz0_11 pz0_12 pz0_13 pz0_14 pz0_18 pz0_19 pz0_22 pz0_23 v1)), (z 1, aI V 3075 fz1), (z 15, aI V 900 g2), (z 16, aI V 6 g3), (z 24, aI V 10000 g4), (z 25, aI V 40000 g5), (z 28, aZ V 10000 g6), (z 30, aJ V 10000 g7), (z 31, aJ V 10000 g8)])) := by
  refine Ct.of (by decide) (Nat.le_of_ble_eq_true rfl) (fun p e s m below meth c A ls hx hb hr hml hown hlk hnm hg hP hK hD hE hA hS hl => ?_)
  have hl : lv_has ls 8 [(0, .ref (z 0)), (1, .int a1), (2, .int a2), (3, .int a3), (4, .int a4)] := hl
  refine lv_aload_n hx hb dX10_chance_0 rfl (lv_at hl 0 rfl) ?_
  refine lv_iconst (v := 0) hx hb dX10_chance_1 (by decide) ?_
  refine va_put (ci := 10) (v := .int 0) (ty := .int) (C := RX10) (T := TX10) (N := 40) hx hb hg inX10 tyX10 tyX10_ok nmX10 hown hK hP hD hS 0 rfl rfl 0 (by decide) (hg _ q_5_224) (fun _ h9 => h9) rfl (by decide +kernel) rfl rfl (Nat.le_of_ble_eq_true rfl) dX10_chance_2 (fun H locs hP hD hS => ?_)
  have hP : va_P V.1 vwCl [(z 0, .inr (10, mo z 0 pz0_5 pz0_6 pz0_7 pz0_8 pz0_9 pz0_10 pz0_11 pz0_12 pz0_13 pz0_14 pz0_18 pz0_19 pz0_22 pz0_23 pz0_29)), (z 1, aI V 3075 fz1), (z 15, aI V 900 fz15), (z 16, aI V 6 fz16), (z 24, aI V 10000 fz24), (z 25, aI V 40000 fz25), (z 28, aZ V 10000 fz28), (z 30, aJ V 10000 fz30), (z 31, aJ V 10000 fz31)] H := hP
  have hD := cpD hP hD
  refine lv_aload_n hx hb dX10_chance_5 rfl (lv_at hl 0 rfl) ?_
  refine lv_iload_n hx hb dX10_chance_6 rfl (lv_at hl 1 rfl) ?_
  refine lv_i2l hx hb dX10_chance_7 rfl ?_
  refine lv_topl (fun j_1 ej_1 => ?_)
  refine jnI (wr := [(z 15, aI V 900 fz15), (z 16, aI V 6 fz16), (z 24, aI V 10000 fz24), (z 25, aI V 40000 fz25), (z 28, aZ V 10000 fz28), (z 30, aJ V 10000 fz30), (z 31, aJ V 10000 fz31)]) (rnV (rest := []) ⟨hx, hb, hml, hown, hg⟩ (k_X10_isHill_0 l V z j_1 0 pz0_5 pz0_6 pz0_7 pz0_8 pz0_9 pz0_10 pz0_11 pz0_12 pz0_13 pz0_14 pz0_18 pz0_19 pz0_22 pz0_23 pz0_29 fz1 bpz0_5 bpz0_6 bpz0_7 bpz0_8 bpz0_10 bpz0_11 bpz0_12 bpz0_13 bpz0_14 bpz0_18 bpz0_22 bpz0_29 tfz1) mt_X10_isHill q_6_235 ⟨Nat.le_of_ble_eq_true rfl, Nat.le_of_ble_eq_true rfl⟩ hK hP hD hS hA hE [0, 1] rfl rfl 0 rfl rfl rfl rfl hl.1 rfl (Nat.le_of_ble_eq_true rfl) dX10_chance_8 ⟨Nat.le_of_ble_eq_true rfl, Nat.le_of_ble_eq_true rfl⟩) hP hD hS hA [0, 1] [2, 3, 4, 5, 6, 7, 8] rfl rfl rfl (by decide) (fun r_2 w H locs hw hP hD hS => ?_)
  obtain ⟨br_2, g_3, et_4, rfl⟩ := hw
  have hP : va_P V.1 vwCl [(z 15, aI V 900 fz15), (z 16, aI V 6 fz16), (z 24, aI V 10000 fz24), (z 25, aI V 40000 fz25), (z 28, aZ V 10000 fz28), (z 30, aJ V 10000 fz30), (z 31, aJ V 10000 fz31), (z 0, .inr (10, mo z 0 pz0_5 pz0_6 pz0_7 pz0_8 pz0_9 pz0_10 pz0_11 pz0_12 pz0_13 pz0_14 pz0_18 pz0_19 pz0_22 pz0_23 pz0_29)), (z 1, aI V 3075 fz1)] H := hP
  have hD := cpD hP hD
  refine lv_if_eq (tgt := 25) hx hb dX10_chance_11 (by decide) (fun c_5 => ?_) (fun c_5 => ?_)
  · have b_6 : iv 0 0 r_2 := iv_q c_5 (iv_c (0 : Int32) (a := 0) (b := 0) (by decide))
    refine lv_bipush (v := (-2)) hx hb dX10_chance_25 (by decide) ?_
    have hP := subP (ws' := [(z 0, .inr (10, mo z 0 pz0_5 pz0_6 pz0_7 pz0_8 pz0_9 pz0_10 pz0_11 pz0_12 pz0_13 pz0_14 pz0_18 pz0_19 pz0_22 pz0_23 pz0_29)), (z 1, aI V 3075 fz1), (z 15, aI V 900 fz15), (z 16, aI V 6 fz16), (z 24, aI V 10000 fz24), (z 25, aI V 40000 fz25), (z 28, aZ V 10000 fz28), (z 30, aJ V 10000 fz30), (z 31, aJ V 10000 fz31)]) hP [7, 8, 0, 1, 2, 3, 4, 5, 6] rfl
    have hD := subD hP hD [7, 8, 0, 1, 2, 3, 4, 5, 6] rfl rfl
    exact fiI hx hb hr hlk hK hP hD hS dX10_chance_27 (Nat.le_of_ble_eq_true rfl) (Nat.le_of_ble_eq_true rfl) (⟨0, pz0_29, fz15, fz16, fz24, fz25, fz28, fz30, fz31, bpz0_29, tfz16, tfz24, tfz25, hf0, rfl⟩)
  · have b_7 : iv 1 1 r_2 := iv_n0 c_5 br_2 (iv_c (0 : Int32) (a := 0) (b := 0) (by decide)) (by decide)
    have b_8 : ivL 0 3 j_1 := ivL_cap (g_3 (iv_eqp b_7 (iv_c (1 : Int32) (by decide)))) (ivL_top j_1) (by decide)
    have b_9 : iv 0 3 a1 := iv_cap (ivL_i ej_1 b_8) (iv_top a1) (by decide)
    refine lv_iload hx hb dX10_chance_14 (lv_at hl 4 rfl) ?_
    refine lv_i2l hx hb dX10_chance_16 rfl ?_
    refine lv_topl (fun j_10 ej_10 => ?_)
    refine lv_lconst (v := 0) hx hb dX10_chance_17 (by decide) ?_
    refine lv_lconst (v := 1) hx hb dX10_chance_18 (by decide) ?_
    refine jnI (wr := [(z 15, aI V 900 fz15), (z 16, aI V 6 fz16), (z 24, aI V 10000 fz24), (z 25, aI V 40000 fz25), (z 28, aZ V 10000 fz28), (z 30, aJ V 10000 fz30), (z 31, aJ V 10000 fz31), (z 0, .inr (10, mo z 0 pz0_5 pz0_6 pz0_7 pz0_8 pz0_9 pz0_10 pz0_11 pz0_12 pz0_13 pz0_14 pz0_18 pz0_19 pz0_22 pz0_23 pz0_29)), (z 1, aI V 3075 fz1)]) (rnS (rest := []) ⟨hx, hb, hml, hown, hg⟩ (k_X10_within_0 l V j_10 0 1) mt_X10_within q_6_114 ⟨Nat.le_of_ble_eq_true rfl, Nat.le_of_ble_eq_true rfl⟩ hK hP hD hS hA hE [] rfl rfl rfl hl.1 rfl (Nat.le_of_ble_eq_true rfl) dX10_chance_19 ⟨Nat.le_of_ble_eq_true rfl, Nat.le_of_ble_eq_true rfl⟩) hP hD hS hA [] [0, 1, 2, 3, 4, 5, 6, 7, 8] rfl rfl rfl (by decide) (fun r_11 w H locs hw hP hD hS => ?_)
    obtain ⟨br_11, g_12, g_13, g_14, et_15, rfl⟩ := hw
    have hP : va_P V.1 vwCl [(z 15, aI V 900 fz15), (z 16, aI V 6 fz16), (z 24, aI V 10000 fz24), (z 25, aI V 40000 fz25), (z 28, aZ V 10000 fz28), (z 30, aJ V 10000 fz30), (z 31, aJ V 10000 fz31), (z 0, .inr (10, mo z 0 pz0_5 pz0_6 pz0_7 pz0_8 pz0_9 pz0_10 pz0_11 pz0_12 pz0_13 pz0_14 pz0_18 pz0_19 pz0_22 pz0_23 pz0_29)), (z 1, aI V 3075 fz1)] H := hP
    have hD := cpD hP hD
    refine lv_if_ne (tgt := 28) hx hb dX10_chance_22 (by decide) (fun c_16 => ?_) (fun c_16 => ?_)
    · have b_17 : iv 1 1 r_11 := iv_n0 c_16 br_11 (iv_c (0 : Int32) (a := 0) (b := 0) (by decide)) (by decide)
      have c_18 : (0 : Int64) ≤ j_10 := (g_13 (iv_eqp b_17 (iv_c (1 : Int32) (by decide))))
      have b_19 : ivL 0 9223372036854775807 j_10 := ivL_e2 c_18 (ivL_c (0 : Int64) (a := 0) (b := 0) (by decide)) (ivL_top j_10) (by decide)
      have b_20 : iv 0 2147483647 a4 := iv_cap (ivL_i ej_10 b_19) (iv_top a4) (by decide)
      have c_21 : j_10 ≤ 1 := (g_14 (iv_eqp b_17 (iv_c (1 : Int32) (by decide))))
      have b_22 : ivL 0 1 j_10 := ivL_e1 c_21 b_19 (ivL_c (1 : Int64) (a := 1) (b := 1) (by decide)) (by decide)
      have b_23 : iv 0 1 a4 := iv_cap (ivL_i ej_10 b_22) b_20 (by decide)
      refine lv_iload_n hx hb dX10_chance_28 rfl (lv_at hl 2 rfl) ?_
      refine jnI (wr := [(z 15, aI V 900 fz15), (z 16, aI V 6 fz16), (z 24, aI V 10000 fz24), (z 25, aI V 40000 fz25), (z 28, aZ V 10000 fz28), (z 30, aJ V 10000 fz30), (z 31, aJ V 10000 fz31), (z 0, .inr (10, mo z 0 pz0_5 pz0_6 pz0_7 pz0_8 pz0_9 pz0_10 pz0_11 pz0_12 pz0_13 pz0_14 pz0_18 pz0_19 pz0_22 pz0_23 pz0_29)), (z 1, aI V 3075 fz1)]) (rnS (rest := []) ⟨hx, hb, hml, hown, hg⟩ (k_X10_isHigh_0 l V a2) mt_X10_isHigh q_7_186 ⟨Nat.le_of_ble_eq_true rfl, Nat.le_of_ble_eq_true rfl⟩ hK hP hD hS hA hE [] rfl rfl rfl hl.1 rfl (Nat.le_of_ble_eq_true rfl) dX10_chance_29 ⟨Nat.le_of_ble_eq_true rfl, Nat.le_of_ble_eq_true rfl⟩) hP hD hS hA [] [0, 1, 2, 3, 4, 5, 6, 7, 8] rfl rfl rfl (by decide) (fun r_24 w H locs hw hP hD hS => ?_)
      obtain ⟨br_24, g_25, rfl⟩ := hw
      have hP : va_P V.1 vwCl [(z 15, aI V 900 fz15), (z 16, aI V 6 fz16), (z 24, aI V 10000 fz24), (z 25, aI V 40000 fz25), (z 28, aZ V 10000 fz28), (z 30, aJ V 10000 fz30), (z 31, aJ V 10000 fz31), (z 0, .inr (10, mo z 0 pz0_5 pz0_6 pz0_7 pz0_8 pz0_9 pz0_10 pz0_11 pz0_12 pz0_13 pz0_14 pz0_18 pz0_19 pz0_22 pz0_23 pz0_29)), (z 1, aI V 3075 fz1)] H := hP
      have hD := cpD hP hD
      refine lv_if_eq (tgt := 47) hx hb dX10_chance_32 (by decide) (fun c_26 => ?_) (fun c_26 => ?_)
      · have b_27 : iv 0 0 r_24 := iv_q c_26 (iv_c (0 : Int32) (a := 0) (b := 0) (by decide))
        refine lv_bipush (v := (-3)) hx hb dX10_chance_47 (by decide) ?_
        have hP := subP (ws' := [(z 0, .inr (10, mo z 0 pz0_5 pz0_6 pz0_7 pz0_8 pz0_9 pz0_10 pz0_11 pz0_12 pz0_13 pz0_14 pz0_18 pz0_19 pz0_22 pz0_23 pz0_29)), (z 1, aI V 3075 fz1), (z 15, aI V 900 fz15), (z 16, aI V 6 fz16), (z 24, aI V 10000 fz24), (z 25, aI V 40000 fz25), (z 28, aZ V 10000 fz28), (z 30, aJ V 10000 fz30), (z 31, aJ V 10000 fz31)]) hP [7, 8, 0, 1, 2, 3, 4, 5, 6] rfl
        have hD := subD hP hD [7, 8, 0, 1, 2, 3, 4, 5, 6] rfl rfl
        exact fiI hx hb hr hlk hK hP hD hS dX10_chance_49 (Nat.le_of_ble_eq_true rfl) (Nat.le_of_ble_eq_true rfl) (⟨0, pz0_29, fz15, fz16, fz24, fz25, fz28, fz30, fz31, bpz0_29, tfz16, tfz24, tfz25, hf0, rfl⟩)
      · have b_28 : iv 1 1 r_24 := iv_n0 c_26 br_24 (iv_c (0 : Int32) (a := 0) (b := 0) (by decide)) (by decide)
        have b_29 : iv 0 4 a2 := iv_cap (g_25 (iv_eqp b_28 (iv_c (1 : Int32) (by decide)))) (iv_top a2) (by decide)
        refine lv_iload_n hx hb dX10_chance_35 rfl (lv_at hl 3 rfl) ?_
        refine lv_i2l hx hb dX10_chance_36 rfl ?_
        refine lv_topl (fun j_30 ej_30 => ?_)
        refine lv_lconst (v := 0) hx hb dX10_chance_37 (by decide) ?_
        refine lv_ldc2 (v := 7) hx hb hown (hg _ q_8_113) dX10_chance_38 ?_
        refine jnI (wr := [(z 15, aI V 900 fz15), (z 16, aI V 6 fz16), (z 24, aI V 10000 fz24), (z 25, aI V 40000 fz25), (z 28, aZ V 10000 fz28), (z 30, aJ V 10000 fz30), (z 31, aJ V 10000 fz31), (z 0, .inr (10, mo z 0 pz0_5 pz0_6 pz0_7 pz0_8 pz0_9 pz0_10 pz0_11 pz0_12 pz0_13 pz0_14 pz0_18 pz0_19 pz0_22 pz0_23 pz0_29)), (z 1, aI V 3075 fz1)]) (rnS (rest := []) ⟨hx, hb, hml, hown, hg⟩ (k_X10_within_0 l V j_30 0 7) mt_X10_within q_6_114 ⟨Nat.le_of_ble_eq_true rfl, Nat.le_of_ble_eq_true rfl⟩ hK hP hD hS hA hE [] rfl rfl rfl hl.1 rfl (Nat.le_of_ble_eq_true rfl) dX10_chance_41 ⟨Nat.le_of_ble_eq_true rfl, Nat.le_of_ble_eq_true rfl⟩) hP hD hS hA [] [0, 1, 2, 3, 4, 5, 6, 7, 8] rfl rfl rfl (by decide) (fun r_31 w H locs hw hP hD hS => ?_)
        obtain ⟨br_31, g_32, g_33, g_34, et_35, rfl⟩ := hw
        have hP : va_P V.1 vwCl [(z 15, aI V 900 fz15), (z 16, aI V 6 fz16), (z 24, aI V 10000 fz24), (z 25, aI V 40000 fz25), (z 28, aZ V 10000 fz28), (z 30, aJ V 10000 fz30), (z 31, aJ V 10000 fz31), (z 0, .inr (10, mo z 0 pz0_5 pz0_6 pz0_7 pz0_8 pz0_9 pz0_10 pz0_11 pz0_12 pz0_13 pz0_14 pz0_18 pz0_19 pz0_22 pz0_23 pz0_29)), (z 1, aI V 3075 fz1)] H := hP
        have hD := cpD hP hD
        refine lv_if_ne (tgt := 50) hx hb dX10_chance_44 (by decide) (fun c_36 => ?_) (fun c_36 => ?_)
        · have b_37 : iv 1 1 r_31 := iv_n0 c_36 br_31 (iv_c (0 : Int32) (a := 0) (b := 0) (by decide)) (by decide)
          have c_38 : (0 : Int64) ≤ j_30 := (g_33 (iv_eqp b_37 (iv_c (1 : Int32) (by decide))))
          have b_39 : ivL 0 9223372036854775807 j_30 := ivL_e2 c_38 (ivL_c (0 : Int64) (a := 0) (b := 0) (by decide)) (ivL_top j_30) (by decide)
          have b_40 : iv 0 2147483647 a3 := iv_cap (ivL_i ej_30 b_39) (iv_top a3) (by decide)
          have c_41 : j_30 ≤ 7 := (g_34 (iv_eqp b_37 (iv_c (1 : Int32) (by decide))))
          have b_42 : ivL 0 7 j_30 := ivL_e1 c_41 b_39 (ivL_c (7 : Int64) (a := 7) (b := 7) (by decide)) (by decide)
          have b_43 : iv 0 7 a3 := iv_cap (ivL_i ej_30 b_42) b_40 (by decide)
          refine lv_aload_n hx hb dX10_chance_50 rfl (lv_at hl 0 rfl) ?_
          refine lv_iload_n hx hb dX10_chance_51 rfl (lv_at hl 3 rfl) ?_
          refine jnV (wr := []) (rnV (rest := []) ⟨hx, hb, hml, hown, hg⟩ (k_X10_laysLikely_0 l V z a3 fz15 fz16 fz24 fz25 fz28 fz30 fz31 0 pz0_5 pz0_6 pz0_7 pz0_8 pz0_9 pz0_10 pz0_11 pz0_12 pz0_13 pz0_14 pz0_18 pz0_19 pz0_22 pz0_23 pz0_29 fz1 tfz16 tfz24 tfz25 bpz0_5 bpz0_6 bpz0_7 bpz0_8 bpz0_10 bpz0_11 bpz0_12 bpz0_13 bpz0_14 bpz0_18 bpz0_22 bpz0_29 tfz1 hf0) mt_X10_laysLikely q_8_114 ⟨Nat.le_of_ble_eq_true rfl, Nat.le_of_ble_eq_true rfl⟩ hK hP hD hS hA hE [0, 1, 2, 3, 4, 5, 6, 7, 8] rfl rfl 7 rfl rfl rfl rfl hl.1 rfl (Nat.le_of_ble_eq_true rfl) dX10_chance_52 ⟨Nat.le_of_ble_eq_true rfl, Nat.le_of_ble_eq_true rfl⟩) hP hD hS hA [0, 1, 2, 3, 4, 5, 6, 7, 8] [] rfl rfl rfl (by decide) (fun  w H locs hw hP hD hS => ?_)
          obtain ⟨f_44, f_45, f_46, f_47, f_48, f_49, f_50, v_51, tf_45, tf_46, tf_47, bv_51, g_52, rfl⟩ := hw
          have hP : va_P V.1 vwCl [(z 15, aI V 900 f_44), (z 16, aI V 6 f_45), (z 24, aI V 10000 f_46), (z 25, aI V 40000 f_47), (z 28, aZ V 10000 f_48), (z 30, aJ V 10000 f_49), (z 31, aJ V 10000 f_50), (z 0, .inr (10, mo z 0 pz0_5 pz0_6 pz0_7 pz0_8 pz0_9 pz0_10 pz0_11 pz0_12 pz0_13 pz0_14 pz0_18 pz0_19 pz0_22 pz0_23 v_51)), (z 1, aI V 3075 fz1)] H := hP
          have hD := cpD hP hD
          refine lv_lconst (v := 0) hx hb dX10_chance_55 (by decide) ?_
          refine lv_lstore (lv' := [(5, .long 0), (0, .ref (z 0)), (1, .int a1), (2, .int a2), (3, .int a3), (4, .int a4)]) hx hb dX10_chance_56 hl (by decide) rfl (fun ls hl => ?_)
          refine lv_iconst (v := 0) hx hb dX10_chance_58 (by decide) ?_
          refine lv_istore (lv' := [(7, .int 0), (5, .long 0), (0, .ref (z 0)), (1, .int a1), (2, .int a2), (3, .int a3), (4, .int a4)]) hx hb dX10_chance_59 hl (by decide) rfl (fun ls hl => ?_)
          refine loopF (X := fun (n_55 : Nat) (H : Heap) (locs : List Loc) (ls : Array Slot) => ∃ (u_53 : Int32) (w_54 : Int64), (iv 0 2147483647 u_53) ∧ (RW fz1) ∧ n_55 = (2147483647 - (u_53 : Int32).toInt).toNat ∧ va_P V.1 vwCl [(z 15, aI V 900 f_44), (z 16, aI V 6 f_45), (z 24, aI V 10000 f_46), (z 25, aI V 40000 f_47), (z 28, aZ V 10000 f_48), (z 30, aJ V 10000 f_49), (z 31, aJ V 10000 f_50), (z 0, .inr (10, mo z 0 pz0_5 pz0_6 pz0_7 pz0_8 pz0_9 pz0_10 pz0_11 pz0_12 pz0_13 pz0_14 pz0_18 pz0_19 pz0_22 pz0_23 v_51)), (z 1, aI V 3075 fz1)] H ∧ va_D A [(z 15, aI V 900 f_44), (z 16, aI V 6 f_45), (z 24, aI V 10000 f_46), (z 25, aI V 40000 f_47), (z 28, aZ V 10000 f_48), (z 30, aJ V 10000 f_49), (z 31, aJ V 10000 f_50), (z 0, .inr (10, mo z 0 pz0_5 pz0_6 pz0_7 pz0_8 pz0_9 pz0_10 pz0_11 pz0_12 pz0_13 pz0_14 pz0_18 pz0_19 pz0_22 pz0_23 v_51)), (z 1, aI V 3075 fz1)] ∧ va_S A s.heap H locs ∧ lv_has ls 8 [(7, .int u_53), (5, .long w_54), (0, .ref (z 0)), (1, .int a1), (2, .int a2), (3, .int a3), (4, .int a4)]) (g := fun ls => F0 m 61 ls []) (fun n_55 H locs ls hX ihn_55 => ?_) _ ⟨0, 0, (iv_c (0 : Int32) (by decide)), g_52, rfl, hP, hD, hS, lv_sub hl [0, 1, 2, 3, 4, 5, 6] rfl⟩
          obtain ⟨u_53, w_54, bu_53, inn_55_0, en_55, hP, hD, hS, hl⟩ := hX
          refine lv_iload hx hb dX10_chance_61 (lv_at hl 0 rfl) ?_
          refine lv_aload_n hx hb dX10_chance_63 rfl (lv_at hl 2 rfl) ?_
          refine va_get (ci := 10) (v := .int v_51) (C := RX10) (T := TX10) (N := 40) hx hb hg inX10 hown hK hP 7 rfl rfl 29 (by decide) (hg _ q_6_13) (fun _ h9 => h9) rfl dX10_chance_64 ?_
          refine lv_icmp_ge (tgt := 112) hx hb dX10_chance_67 (by decide) (fun c_56 => ?_) (fun c_56 => ?_)
          · refine lv_lload hx hb dX10_chance_112 (lv_at hl 1 rfl) ?_
            refine lv_iload_n hx hb dX10_chance_114 rfl (lv_at hl 5 rfl) ?_
            refine jnL (wr := [(z 15, aI V 900 f_44), (z 16, aI V 6 f_45), (z 24, aI V 10000 f_46), (z 25, aI V 40000 f_47), (z 28, aZ V 10000 f_48), (z 30, aJ V 10000 f_49), (z 31, aJ V 10000 f_50), (z 0, .inr (10, mo z 0 pz0_5 pz0_6 pz0_7 pz0_8 pz0_9 pz0_10 pz0_11 pz0_12 pz0_13 pz0_14 pz0_18 pz0_19 pz0_22 pz0_23 v_51)), (z 1, aI V 3075 fz1)]) (rnS (rest := [.long w_54]) ⟨hx, hb, hml, hown, hg⟩ (k_X10_wholeOf_0 l V a3 b_43) mt_X10_wholeOf q_8_118 ⟨Nat.le_of_ble_eq_true rfl, Nat.le_of_ble_eq_true rfl⟩ hK hP hD hS hA hE [] rfl rfl rfl hl.1 rfl (Nat.le_of_ble_eq_true rfl) dX10_chance_115 ⟨Nat.le_of_ble_eq_true rfl, Nat.le_of_ble_eq_true rfl⟩) hP hD hS hA [] [0, 1, 2, 3, 4, 5, 6, 7, 8] rfl rfl rfl (by decide) (fun r_57 w H locs hw hP hD hS => ?_)
            obtain ⟨g_58, rfl⟩ := hw
            have hP : va_P V.1 vwCl [(z 15, aI V 900 f_44), (z 16, aI V 6 f_45), (z 24, aI V 10000 f_46), (z 25, aI V 40000 f_47), (z 28, aZ V 10000 f_48), (z 30, aJ V 10000 f_49), (z 31, aJ V 10000 f_50), (z 0, .inr (10, mo z 0 pz0_5 pz0_6 pz0_7 pz0_8 pz0_9 pz0_10 pz0_11 pz0_12 pz0_13 pz0_14 pz0_18 pz0_19 pz0_22 pz0_23 v_51)), (z 1, aI V 3075 fz1)] H := hP
            have hD := cpD hP hD
            refine lv_iload hx hb dX10_chance_118 (lv_at hl 6 rfl) ?_
            refine jnI (wr := [(z 15, aI V 900 f_44), (z 16, aI V 6 f_45), (z 24, aI V 10000 f_46), (z 25, aI V 40000 f_47), (z 28, aZ V 10000 f_48), (z 30, aJ V 10000 f_49), (z 31, aJ V 10000 f_50), (z 0, .inr (10, mo z 0 pz0_5 pz0_6 pz0_7 pz0_8 pz0_9 pz0_10 pz0_11 pz0_12 pz0_13 pz0_14 pz0_18 pz0_19 pz0_22 pz0_23 v_51)), (z 1, aI V 3075 fz1)]) (rnS (rest := []) ⟨hx, hb, hml, hown, hg⟩ (k_X10_part_0 l V w_54 r_57 a4 g_58) mt_X10_part q_8_121 ⟨Nat.le_of_ble_eq_true rfl, Nat.le_of_ble_eq_true rfl⟩ hK hP hD hS hA hE [] rfl rfl rfl hl.1 rfl (Nat.le_of_ble_eq_true rfl) dX10_chance_120 ⟨Nat.le_of_ble_eq_true rfl, Nat.le_of_ble_eq_true rfl⟩) hP hD hS hA [] [0, 1, 2, 3, 4, 5, 6, 7, 8] rfl rfl rfl (by decide) (fun r_59 w H locs hw hP hD hS => ?_)
            subst hw
            have hP : va_P V.1 vwCl [(z 15, aI V 900 f_44), (z 16, aI V 6 f_45), (z 24, aI V 10000 f_46), (z 25, aI V 40000 f_47), (z 28, aZ V 10000 f_48), (z 30, aJ V 10000 f_49), (z 31, aJ V 10000 f_50), (z 0, .inr (10, mo z 0 pz0_5 pz0_6 pz0_7 pz0_8 pz0_9 pz0_10 pz0_11 pz0_12 pz0_13 pz0_14 pz0_18 pz0_19 pz0_22 pz0_23 v_51)), (z 1, aI V 3075 fz1)] H := hP
            have hD := cpD hP hD
            have hP := subP (ws' := [(z 0, .inr (10, mo z 0 pz0_5 pz0_6 pz0_7 pz0_8 pz0_9 pz0_10 pz0_11 pz0_12 pz0_13 pz0_14 pz0_18 pz0_19 pz0_22 pz0_23 v_51)), (z 1, aI V 3075 fz1), (z 15, aI V 900 f_44), (z 16, aI V 6 f_45), (z 24, aI V 10000 f_46), (z 25, aI V 40000 f_47), (z 28, aZ V 10000 f_48), (z 30, aJ V 10000 f_49), (z 31, aJ V 10000 f_50)]) hP [7, 8, 0, 1, 2, 3, 4, 5, 6] rfl
            have hD := subD hP hD [7, 8, 0, 1, 2, 3, 4, 5, 6] rfl rfl
            exact fiI hx hb hr hlk hK hP hD hS dX10_chance_123 (Nat.le_of_ble_eq_true rfl) (Nat.le_of_ble_eq_true rfl) (⟨0, v_51, f_44, f_45, f_46, f_47, f_48, f_49, f_50, bv_51, tf_45, tf_46, tf_47, inn_55_0, rfl⟩)
          · have b_60 : iv 0 9999 u_53 := iv_l1 (Int32.not_le.mp c_56) bu_53 bv_51 (by decide)
            have b_61 : iv 1 10000 v_51 := iv_l2 (Int32.not_le.mp c_56) bu_53 bv_51 (by decide)
            refine lv_lload hx hb dX10_chance_70 (lv_at hl 1 rfl) ?_
            refine lv_aload_n hx hb dX10_chance_72 rfl (lv_at hl 2 rfl) ?_
            refine va_get (ci := 10) (v := .ref (z 24)) (C := RX10) (T := TX10) (N := 40) hx hb hg inX10 hown hK hP 7 rfl rfl 24 (by decide) (hg _ q_6_8) (fun _ h9 => h9) rfl dX10_chance_73 ?_
            refine lv_iload hx hb dX10_chance_76 (lv_at hl 0 rfl) ?_
            refine va_iald hx hb hK hP 2 0 rfl rfl (iv_in b_60 (by decide)) dX10_chance_78 ?_
            refine lv_topi (fun x_62 ex_62 => ?_)
            have bx_62 : iv 0 9999 x_62 := by rw [ex_62]; exact tf_46 _
            refine lv_iload_n hx hb dX10_chance_79 rfl (lv_at hl 3 rfl) ?_
            refine jnI (wr := [(z 15, aI V 900 f_44), (z 16, aI V 6 f_45), (z 24, aI V 10000 f_46), (z 25, aI V 40000 f_47), (z 28, aZ V 10000 f_48), (z 30, aJ V 10000 f_49), (z 31, aJ V 10000 f_50), (z 0, .inr (10, mo z 0 pz0_5 pz0_6 pz0_7 pz0_8 pz0_9 pz0_10 pz0_11 pz0_12 pz0_13 pz0_14 pz0_18 pz0_19 pz0_22 pz0_23 v_51)), (z 1, aI V 3075 fz1)]) (rnS (rest := [.long w_54]) ⟨hx, hb, hml, hown, hg⟩ (k_X10_stackIn_0 l V x_62 a1 bx_62 b_9) mt_X10_stackIn q_7_26 ⟨Nat.le_of_ble_eq_true rfl, Nat.le_of_ble_eq_true rfl⟩ hK hP hD hS hA hE [] rfl rfl rfl hl.1 rfl (Nat.le_of_ble_eq_true rfl) dX10_chance_80 ⟨Nat.le_of_ble_eq_true rfl, Nat.le_of_ble_eq_true rfl⟩) hP hD hS hA [] [0, 1, 2, 3, 4, 5, 6, 7, 8] rfl rfl rfl (by decide) (fun r_63 w H locs hw hP hD hS => ?_)
            obtain ⟨br_63, er_63, et_64, rfl⟩ := hw
            have hP : va_P V.1 vwCl [(z 15, aI V 900 f_44), (z 16, aI V 6 f_45), (z 24, aI V 10000 f_46), (z 25, aI V 40000 f_47), (z 28, aZ V 10000 f_48), (z 30, aJ V 10000 f_49), (z 31, aJ V 10000 f_50), (z 0, .inr (10, mo z 0 pz0_5 pz0_6 pz0_7 pz0_8 pz0_9 pz0_10 pz0_11 pz0_12 pz0_13 pz0_14 pz0_18 pz0_19 pz0_22 pz0_23 v_51)), (z 1, aI V 3075 fz1)] H := hP
            have hD := cpD hP hD
            refine lv_iload_n hx hb dX10_chance_83 rfl (lv_at hl 4 rfl) ?_
            refine lv_icmp_lt (tgt := 102) hx hb dX10_chance_84 (by decide) (fun c_65 => ?_) (fun c_65 => ?_)
            · have b_66 : iv 0 3 r_63 := iv_l1 c_65 br_63 b_29 (by decide)
              have b_67 : iv 1 4 a2 := iv_l2 c_65 br_63 b_29 (by decide)
              refine lv_lconst (v := 0) hx hb dX10_chance_102 (by decide) ?_
              refine lv_ladd hx hb dX10_chance_103 ?_
              refine lv_topl (fun j_68 ej_68 => ?_)
              refine lv_lstore (lv' := [(5, .long j_68), (7, .int u_53), (0, .ref (z 0)), (1, .int a1), (2, .int a2), (3, .int a3), (4, .int a4)]) hx hb dX10_chance_104 hl (by decide) rfl (fun ls hl => ?_)
              obtain ⟨x_69, ex_69⟩ : ∃ z9 : Int32, z9 = u_53 + 1 := ⟨_, rfl⟩
              have bx_69 : iv 1 10000 x_69 := by rw [ex_69]; exact iv_add b_60 (iv_c (1 : Int32) (a := 1) (b := 1) (by decide)) (by decide)
              refine lv_iinc (v := x_69) (lv' := [(7, .int x_69), (5, .long j_68), (0, .ref (z 0)), (1, .int a1), (2, .int a2), (3, .int a3), (4, .int a4)]) hx hb dX10_chance_106 hl (k := 1) rfl (by rw [ex_69]; rfl) (by decide) rfl (fun ls hl => ?_)
              refine lv_goto (tgt := 61) hx hb dX10_chance_109 (by decide) ?_
              exact ihn_55 _ _ _ _ (by rw [en_55, ex_69]; exact mu_up b_60 (by decide)) ⟨x_69, j_68, (iv_w bx_69 (by decide)), inn_55_0, rfl, hP, hD, hS, lv_sub hl [0, 1, 2, 3, 4, 5, 6] rfl⟩
            · refine lv_aload_n hx hb dX10_chance_87 rfl (lv_at hl 2 rfl) ?_
              refine va_get (ci := 10) (v := .ref (z 30)) (C := RX10) (T := TX10) (N := 40) hx hb hg inX10 hown hK hP 7 rfl rfl 30 (by decide) (hg _ q_6_14) (fun _ h9 => h9) rfl dX10_chance_88 ?_
              refine lv_aload_n hx hb dX10_chance_91 rfl (lv_at hl 2 rfl) ?_
              refine va_get (ci := 10) (v := .ref (z 24)) (C := RX10) (T := TX10) (N := 40) hx hb hg inX10 hown hK hP 7 rfl rfl 24 (by decide) (hg _ q_6_8) (fun _ h9 => h9) rfl dX10_chance_92 ?_
              refine lv_iload hx hb dX10_chance_95 (lv_at hl 0 rfl) ?_
              refine va_iald hx hb hK hP 2 0 rfl rfl (iv_in b_60 (by decide)) dX10_chance_97 ?_
              refine tpi (y := x_62) ex_62.symm ?_
              refine va_lald hx hb hK hP 5 2 rfl rfl (iv_in bx_62 (by decide)) dX10_chance_98 ?_
              refine lv_topl (fun j_70 ej_70 => ?_)
              refine lv_goto (tgt := 103) hx hb dX10_chance_99 (by decide) ?_
              refine lv_ladd hx hb dX10_chance_103 ?_
              refine lv_topl (fun j_71 ej_71 => ?_)
              refine lv_lstore (lv' := [(5, .long j_71), (7, .int u_53), (0, .ref (z 0)), (1, .int a1), (2, .int a2), (3, .int a3), (4, .int a4)]) hx hb dX10_chance_104 hl (by decide) rfl (fun ls hl => ?_)
              obtain ⟨x_72, ex_72⟩ : ∃ z9 : Int32, z9 = u_53 + 1 := ⟨_, rfl⟩
              have bx_72 : iv 1 10000 x_72 := by rw [ex_72]; exact iv_add b_60 (iv_c (1 : Int32) (a := 1) (b := 1) (by decide)) (by decide)
              refine lv_iinc (v := x_72) (lv' := [(7, .int x_72), (5, .long j_71), (0, .ref (z 0)), (1, .int a1), (2, .int a2), (3, .int a3), (4, .int a4)]) hx hb dX10_chance_106 hl (k := 1) rfl (by rw [ex_72]; rfl) (by decide) rfl (fun ls hl => ?_)
              refine lv_goto (tgt := 61) hx hb dX10_chance_109 (by decide) ?_
              exact ihn_55 _ _ _ _ (by rw [en_55, ex_72]; exact mu_up b_60 (by decide)) ⟨x_72, j_71, (iv_w bx_72 (by decide)), inn_55_0, rfl, hP, hD, hS, lv_sub hl [0, 1, 2, 3, 4, 5, 6] rfl⟩
        · have b_73 : iv 0 0 r_31 := iv_q c_36 (iv_c (0 : Int32) (a := 0) (b := 0) (by decide))
          refine lv_bipush (v := (-3)) hx hb dX10_chance_47 (by decide) ?_
          have hP := subP (ws' := [(z 0, .inr (10, mo z 0 pz0_5 pz0_6 pz0_7 pz0_8 pz0_9 pz0_10 pz0_11 pz0_12 pz0_13 pz0_14 pz0_18 pz0_19 pz0_22 pz0_23 pz0_29)), (z 1, aI V 3075 fz1), (z 15, aI V 900 fz15), (z 16, aI V 6 fz16), (z 24, aI V 10000 fz24), (z 25, aI V 40000 fz25), (z 28, aZ V 10000 fz28), (z 30, aJ V 10000 fz30), (z 31, aJ V 10000 fz31)]) hP [7, 8, 0, 1, 2, 3, 4, 5, 6] rfl
          have hD := subD hP hD [7, 8, 0, 1, 2, 3, 4, 5, 6] rfl rfl
          exact fiI hx hb hr hlk hK hP hD hS dX10_chance_49 (Nat.le_of_ble_eq_true rfl) (Nat.le_of_ble_eq_true rfl) (⟨0, pz0_29, fz15, fz16, fz24, fz25, fz28, fz30, fz31, bpz0_29, tfz16, tfz24, tfz25, hf0, rfl⟩)
    · have b_74 : iv 0 0 r_11 := iv_q c_16 (iv_c (0 : Int32) (a := 0) (b := 0) (by decide))
      refine lv_bipush (v := (-2)) hx hb dX10_chance_25 (by decide) ?_
      have hP := subP (ws' := [(z 0, .inr (10, mo z 0 pz0_5 pz0_6 pz0_7 pz0_8 pz0_9 pz0_10 pz0_11 pz0_12 pz0_13 pz0_14 pz0_18 pz0_19 pz0_22 pz0_23 pz0_29)), (z 1, aI V 3075 fz1), (z 15, aI V 900 fz15), (z 16, aI V 6 fz16), (z 24, aI V 10000 fz24), (z 25, aI V 40000 fz25), (z 28, aZ V 10000 fz28), (z 30, aJ V 10000 fz30), (z 31, aJ V 10000 fz31)]) hP [7, 8, 0, 1, 2, 3, 4, 5, 6] rfl
      have hD := subD hP hD [7, 8, 0, 1, 2, 3, 4, 5, 6] rfl rfl
      exact fiI hx hb hr hlk hK hP hD hS dX10_chance_27 (Nat.le_of_ble_eq_true rfl) (Nat.le_of_ble_eq_true rfl) (⟨0, pz0_29, fz15, fz16, fz24, fz25, fz28, fz30, fz31, bpz0_29, tfz16, tfz24, tfz25, hf0, rfl⟩)
theorem dX10_mean_0 : decode cX10_mean 0 = .ok (.aload_n 0, 1) := by decide +kernel
theorem dX10_mean_1 : decode cX10_mean 1 = .ok (.iconst 0, 1) := by decide +kernel
theorem dX10_mean_2 : decode cX10_mean 2 = .ok (.putfield 1, 3) := by decide +kernel
theorem dX10_mean_5 : decode cX10_mean 5 = .ok (.iload_n 2, 1) := by decide +kernel
theorem dX10_mean_6 : decode cX10_mean 6 = .ok (.i2l, 1) := by decide +kernel
theorem dX10_mean_7 : decode cX10_mean 7 = .ok (.lconst 0, 1) := by decide +kernel
theorem dX10_mean_8 : decode cX10_mean 8 = .ok (.lconst 1, 1) := by decide +kernel
theorem dX10_mean_9 : decode cX10_mean 9 = .ok (.invokestatic 159, 3) := by decide +kernel
theorem dX10_mean_12 : decode cX10_mean 12 = .ok (.ifCond .ne 6, 3) := by decide +kernel
theorem dX10_mean_18 : decode cX10_mean 18 = .ok (.iload_n 1, 1) := by decide +kernel
theorem dX10_mean_19 : decode cX10_mean 19 = .ok (.i2l, 1) := by decide +kernel
theorem dX10_mean_20 : decode cX10_mean 20 = .ok (.lconst 0, 1) := by decide +kernel
theorem dX10_mean_21 : decode cX10_mean 21 = .ok (.ldc2_w 451, 3) := by decide +kernel
theorem dX10_mean_24 : decode cX10_mean 24 = .ok (.invokestatic 159, 3) := by decide +kernel
theorem dX10_mean_27 : decode cX10_mean 27 = .ok (.ifCond .ne 6, 3) := by decide +kernel
theorem dX10_mean_33 : decode cX10_mean 33 = .ok (.aload_n 0, 1) := by decide +kernel
theorem dX10_mean_34 : decode cX10_mean 34 = .ok (.iload_n 1, 1) := by decide +kernel
theorem dX10_mean_35 : decode cX10_mean 35 = .ok (.invokevirtual 453, 3) := by decide +kernel
theorem dX10_mean_38 : decode cX10_mean 38 = .ok (.lconst 0, 1) := by decide +kernel
theorem dX10_mean_39 : decode cX10_mean 39 = .ok (.lstore_n 3, 1) := by decide +kernel
theorem dX10_mean_40 : decode cX10_mean 40 = .ok (.iconst 0, 1) := by decide +kernel
theorem dX10_mean_41 : decode cX10_mean 41 = .ok (.istore 5, 2) := by decide +kernel
theorem dX10_mean_43 : decode cX10_mean 43 = .ok (.iload 5, 2) := by decide +kernel
theorem dX10_mean_45 : decode cX10_mean 45 = .ok (.aload_n 0, 1) := by decide +kernel
theorem dX10_mean_46 : decode cX10_mean 46 = .ok (.getfield 355, 3) := by decide +kernel
theorem dX10_mean_49 : decode cX10_mean 49 = .ok (.if_icmp .ge 37, 3) := by decide +kernel
theorem dX10_mean_86 : decode cX10_mean 86 = .ok (.lload_n 3, 1) := by decide +kernel
theorem dX10_mean_87 : decode cX10_mean 87 = .ok (.iload_n 1, 1) := by decide +kernel
theorem dX10_mean_88 : decode cX10_mean 88 = .ok (.invokestatic 456, 3) := by decide +kernel
theorem dX10_mean_91 : decode cX10_mean 91 = .ok (.iload_n 2, 1) := by decide +kernel
theorem dX10_mean_92 : decode cX10_mean 92 = .ok (.invokestatic 460, 3) := by decide +kernel
theorem dX10_mean_95 : decode cX10_mean 95 = .ok (.ireturn, 1) := by decide +kernel
theorem dX10_mean_52 : decode cX10_mean 52 = .ok (.lload_n 3, 1) := by decide +kernel
theorem dX10_mean_53 : decode cX10_mean 53 = .ok (.aload_n 0, 1) := by decide +kernel
theorem dX10_mean_54 : decode cX10_mean 54 = .ok (.getfield 61, 3) := by decide +kernel
theorem dX10_mean_57 : decode cX10_mean 57 = .ok (.aload_n 0, 1) := by decide +kernel
theorem dX10_mean_58 : decode cX10_mean 58 = .ok (.getfield 45, 3) := by decide +kernel
theorem dX10_mean_61 : decode cX10_mean 61 = .ok (.iload 5, 2) := by decide +kernel
theorem dX10_mean_63 : decode cX10_mean 63 = .ok (.iaload, 1) := by decide +kernel
theorem dX10_mean_64 : decode cX10_mean 64 = .ok (.laload, 1) := by decide +kernel
theorem dX10_mean_65 : decode cX10_mean 65 = .ok (.aload_n 0, 1) := by decide +kernel
theorem dX10_mean_66 : decode cX10_mean 66 = .ok (.aload_n 0, 1) := by decide +kernel
theorem dX10_mean_67 : decode cX10_mean 67 = .ok (.getfield 45, 3) := by decide +kernel
theorem dX10_mean_70 : decode cX10_mean 70 = .ok (.iload 5, 2) := by decide +kernel
theorem dX10_mean_72 : decode cX10_mean 72 = .ok (.iaload, 1) := by decide +kernel
theorem dX10_mean_73 : decode cX10_mean 73 = .ok (.invokevirtual 326, 3) := by decide +kernel
theorem dX10_mean_76 : decode cX10_mean 76 = .ok (.i2l, 1) := by decide +kernel
theorem dX10_mean_77 : decode cX10_mean 77 = .ok (.lmul, 1) := by decide +kernel
theorem dX10_mean_78 : decode cX10_mean 78 = .ok (.ladd, 1) := by decide +kernel
theorem dX10_mean_79 : decode cX10_mean 79 = .ok (.lstore_n 3, 1) := by decide +kernel
theorem dX10_mean_80 : decode cX10_mean 80 = .ok (.iinc 5 1, 3) := by decide +kernel
theorem dX10_mean_83 : decode cX10_mean 83 = .ok (.goto (-40), 3) := by decide +kernel
theorem dX10_mean_30 : decode cX10_mean 30 = .ok (.bipush (-3), 2) := by decide +kernel
theorem dX10_mean_32 : decode cX10_mean 32 = .ok (.ireturn, 1) := by decide +kernel
theorem dX10_mean_15 : decode cX10_mean 15 = .ok (.bipush (-2), 2) := by decide +kernel
theorem dX10_mean_17 : decode cX10_mean 17 = .ok (.ireturn, 1) := by decide +kernel
set_option maxHeartbeats 4000000 in
set_option maxRecDepth 100000 in
theorem k_X10_mean_0 (l : Launch) (V : GV) (z : Nat → Nat) (a1 : Int32) (a2 : Int32) (pz0_0 : Int32) (pz0_5 : Int32) (pz0_6 : Int32) (pz0_7 : Int32) (pz0_8 : Int32) (pz0_9 : Int32) (pz0_10 : Int32) (pz0_11 : Int32) (pz0_12 : Int32) (pz0_13 : Int32) (pz0_14 : Int32) (pz0_18 : Int32) (pz0_19 : Int32) (pz0_22 : Int32) (pz0_23 : Int32) (pz0_29 : Int32) (fz1 : Nat → Int32) (fz15 : Nat → Int32) (fz16 : Nat → Int32) (fz24 : Nat → Int32) (fz25 : Nat → Int32) (fz28 : Nat → Int32) (fz30 : Nat → Int64) (fz31 : Nat → Int64) (bpz0_5 : iv 0 900 pz0_5) (bpz0_6 : iv 0 900 pz0_6) (bpz0_7 : iv 0 900 pz0_7) (bpz0_8 : iv 0 900 pz0_8) (bpz0_10 : iv 0 999 pz0_10) (bpz0_11 : iv 0 4 pz0_11) (bpz0_12 : iv 0 900 pz0_12) (bpz0_13 : iv 0 4 pz0_13) (bpz0_14 : iv (-1) 900 pz0_14) (bpz0_18 : iv 0 2 pz0_18) (bpz0_22 : iv 0 9999 pz0_22) (bpz0_29 : iv 0 10000 pz0_29) (tfz1 : ivT tA fz1) (tfz16 : ivT tW fz16) (tfz24 : ∀ j, iv 0 9999 (fz24 j)) (tfz25 : ∀ j, iv (-1) 9999 (fz25 j)) (hf0 : RW fz1) : Ct l V yX10_mean (.code yX10_mean cX10_mean 6 (some .int)) 51 [.ref (z 0), .int a1, .int a2] [(z 0, .inr (10, mo z pz0_0 pz0_5 pz0_6 pz0_7 pz0_8 pz0_9 pz0_10 pz0_11 pz0_12 pz0_13 pz0_14 pz0_18 pz0_19 pz0_22 pz0_23 pz0_29)), (z 1, aI V 3075 fz1), (z 15, aI V 900 fz15), (z 16, aI V 6 fz16), (z 24, aI V 10000 fz24), (z 25, aI V 40000 fz25), (z 28, aZ V 10000 fz28), (z 30, aJ V 10000 fz30), (z 31, aJ V 10000 fz31)] 0 0 (QI V (fun (r : Int32) (w : va_W) => ∃ (v0 : Int32) (v1 : Int32) (g2 : Nat → Int32) (g3 : Nat → Int32) (g4 : Nat → Int32) (g5 : Nat → Int32) (g6 : Nat → Int32) (g7 : Nat → Int64) (g8 : Nat → Int64), iv 0 10000 v1 ∧ (ivT tW g3) ∧ (∀ j, iv 0 9999 (g4 j)) ∧ (∀ j, iv (-1) 9999 (g5 j)) ∧ (RW fz1) ∧ w = [(z 0, .inr (10, mo z v0 pz0_5 pz0_6 pz0_7 pz0_8 pz0_9 pz0_10 pz0_11 pz0_12 pz0_13 pz0_14 pz0_18 pz0_19 pz0_22 pz0_23 v1)), (z 1, aI V 3075 fz1), (z 15, aI V 900 g2), (z 16, aI V 6 g3), (z 24, aI V 10000 g4), (z 25, aI V 40000 g5), (z 28, aZ V 10000 g6), (z 30, aJ V 10000 g7), (z 31, aJ V 10000 g8)])) := by
  refine Ct.of (by decide) (Nat.le_of_ble_eq_true rfl) (fun p e s m below meth c A ls hx hb hr hml hown hlk hnm hg hP hK hD hE hA hS hl => ?_)
  have hl : lv_has ls 6 [(0, .ref (z 0)), (1, .int a1), (2, .int a2)] := hl
  refine lv_aload_n hx hb dX10_mean_0 rfl (lv_at hl 0 rfl) ?_
  refine lv_iconst (v := 0) hx hb dX10_mean_1 (by decide) ?_
  refine va_put (ci := 10) (v := .int 0) (ty := .int) (C := RX10) (T := TX10) (N := 40) hx hb hg inX10 tyX10 tyX10_ok nmX10 hown hK hP hD hS 0 rfl rfl 0 (by decide) (hg _ q_5_224) (fun _ h9 => h9) rfl (by decide +kernel) rfl rfl (Nat.le_of_ble_eq_true rfl) dX10_mean_2 (fun H locs hP hD hS => ?_)
  have hP : va_P V.1 vwCl [(z 0, .inr (10, mo z 0 pz0_5 pz0_6 pz0_7 pz0_8 pz0_9 pz0_10 pz0_11 pz0_12 pz0_13 pz0_14 pz0_18 pz0_19 pz0_22 pz0_23 pz0_29)), (z 1, aI V 3075 fz1), (z 15, aI V 900 fz15), (z 16, aI V 6 fz16), (z 24, aI V 10000 fz24), (z 25, aI V 40000 fz25), (z 28, aZ V 10000 fz28), (z 30, aJ V 10000 fz30), (z 31, aJ V 10000 fz31)] H := hP
  have hD := cpD hP hD
  refine lv_iload_n hx hb dX10_mean_5 rfl (lv_at hl 2 rfl) ?_
  refine lv_i2l hx hb dX10_mean_6 rfl ?_
  refine lv_topl (fun j_1 ej_1 => ?_)
  refine lv_lconst (v := 0) hx hb dX10_mean_7 (by decide) ?_
  refine lv_lconst (v := 1) hx hb dX10_mean_8 (by decide) ?_
  refine jnI (wr := [(z 0, .inr (10, mo z 0 pz0_5 pz0_6 pz0_7 pz0_8 pz0_9 pz0_10 pz0_11 pz0_12 pz0_13 pz0_14 pz0_18 pz0_19 pz0_22 pz0_23 pz0_29)), (z 1, aI V 3075 fz1), (z 15, aI V 900 fz15), (z 16, aI V 6 fz16), (z 24, aI V 10000 fz24), (z 25, aI V 40000 fz25), (z 28, aZ V 10000 fz28), (z 30, aJ V 10000 fz30), (z 31, aJ V 10000 fz31)]) (rnS (rest := []) ⟨hx, hb, hml, hown, hg⟩ (k_X10_within_0 l V j_1 0 1) mt_X10_within q_6_114 ⟨Nat.le_of_ble_eq_true rfl, Nat.le_of_ble_eq_true rfl⟩ hK hP hD hS hA hE [] rfl rfl rfl hl.1 rfl (Nat.le_of_ble_eq_true rfl) dX10_mean_9 ⟨Nat.le_of_ble_eq_true rfl, Nat.le_of_ble_eq_true rfl⟩) hP hD hS hA [] [0, 1, 2, 3, 4, 5, 6, 7, 8] rfl rfl rfl (by decide) (fun r_2 w H locs hw hP hD hS => ?_)
  obtain ⟨br_2, g_3, g_4, g_5, et_6, rfl⟩ := hw
  have hP : va_P V.1 vwCl [(z 0, .inr (10, mo z 0 pz0_5 pz0_6 pz0_7 pz0_8 pz0_9 pz0_10 pz0_11 pz0_12 pz0_13 pz0_14 pz0_18 pz0_19 pz0_22 pz0_23 pz0_29)), (z 1, aI V 3075 fz1), (z 15, aI V 900 fz15), (z 16, aI V 6 fz16), (z 24, aI V 10000 fz24), (z 25, aI V 40000 fz25), (z 28, aZ V 10000 fz28), (z 30, aJ V 10000 fz30), (z 31, aJ V 10000 fz31)] H := hP
  have hD := cpD hP hD
  refine lv_if_ne (tgt := 18) hx hb dX10_mean_12 (by decide) (fun c_7 => ?_) (fun c_7 => ?_)
  · have b_8 : iv 1 1 r_2 := iv_n0 c_7 br_2 (iv_c (0 : Int32) (a := 0) (b := 0) (by decide)) (by decide)
    have c_9 : (0 : Int64) ≤ j_1 := (g_4 (iv_eqp b_8 (iv_c (1 : Int32) (by decide))))
    have b_10 : ivL 0 9223372036854775807 j_1 := ivL_e2 c_9 (ivL_c (0 : Int64) (a := 0) (b := 0) (by decide)) (ivL_top j_1) (by decide)
    have b_11 : iv 0 2147483647 a2 := iv_cap (ivL_i ej_1 b_10) (iv_top a2) (by decide)
    have c_12 : j_1 ≤ 1 := (g_5 (iv_eqp b_8 (iv_c (1 : Int32) (by decide))))
    have b_13 : ivL 0 1 j_1 := ivL_e1 c_12 b_10 (ivL_c (1 : Int64) (a := 1) (b := 1) (by decide)) (by decide)
    have b_14 : iv 0 1 a2 := iv_cap (ivL_i ej_1 b_13) b_11 (by decide)
    refine lv_iload_n hx hb dX10_mean_18 rfl (lv_at hl 1 rfl) ?_
    refine lv_i2l hx hb dX10_mean_19 rfl ?_
    refine lv_topl (fun j_15 ej_15 => ?_)
    refine lv_lconst (v := 0) hx hb dX10_mean_20 (by decide) ?_
    refine lv_ldc2 (v := 7) hx hb hown (hg _ q_8_113) dX10_mean_21 ?_
    refine jnI (wr := [(z 0, .inr (10, mo z 0 pz0_5 pz0_6 pz0_7 pz0_8 pz0_9 pz0_10 pz0_11 pz0_12 pz0_13 pz0_14 pz0_18 pz0_19 pz0_22 pz0_23 pz0_29)), (z 1, aI V 3075 fz1), (z 15, aI V 900 fz15), (z 16, aI V 6 fz16), (z 24, aI V 10000 fz24), (z 25, aI V 40000 fz25), (z 28, aZ V 10000 fz28), (z 30, aJ V 10000 fz30), (z 31, aJ V 10000 fz31)]) (rnS (rest := []) ⟨hx, hb, hml, hown, hg⟩ (k_X10_within_0 l V j_15 0 7) mt_X10_within q_6_114 ⟨Nat.le_of_ble_eq_true rfl, Nat.le_of_ble_eq_true rfl⟩ hK hP hD hS hA hE [] rfl rfl rfl hl.1 rfl (Nat.le_of_ble_eq_true rfl) dX10_mean_24 ⟨Nat.le_of_ble_eq_true rfl, Nat.le_of_ble_eq_true rfl⟩) hP hD hS hA [] [0, 1, 2, 3, 4, 5, 6, 7, 8] rfl rfl rfl (by decide) (fun r_16 w H locs hw hP hD hS => ?_)
    obtain ⟨br_16, g_17, g_18, g_19, et_20, rfl⟩ := hw
    have hP : va_P V.1 vwCl [(z 0, .inr (10, mo z 0 pz0_5 pz0_6 pz0_7 pz0_8 pz0_9 pz0_10 pz0_11 pz0_12 pz0_13 pz0_14 pz0_18 pz0_19 pz0_22 pz0_23 pz0_29)), (z 1, aI V 3075 fz1), (z 15, aI V 900 fz15), (z 16, aI V 6 fz16), (z 24, aI V 10000 fz24), (z 25, aI V 40000 fz25), (z 28, aZ V 10000 fz28), (z 30, aJ V 10000 fz30), (z 31, aJ V 10000 fz31)] H := hP
    have hD := cpD hP hD
    refine lv_if_ne (tgt := 33) hx hb dX10_mean_27 (by decide) (fun c_21 => ?_) (fun c_21 => ?_)
    · have b_22 : iv 1 1 r_16 := iv_n0 c_21 br_16 (iv_c (0 : Int32) (a := 0) (b := 0) (by decide)) (by decide)
      have c_23 : (0 : Int64) ≤ j_15 := (g_18 (iv_eqp b_22 (iv_c (1 : Int32) (by decide))))
      have b_24 : ivL 0 9223372036854775807 j_15 := ivL_e2 c_23 (ivL_c (0 : Int64) (a := 0) (b := 0) (by decide)) (ivL_top j_15) (by decide)
      have b_25 : iv 0 2147483647 a1 := iv_cap (ivL_i ej_15 b_24) (iv_top a1) (by decide)
      have c_26 : j_15 ≤ 7 := (g_19 (iv_eqp b_22 (iv_c (1 : Int32) (by decide))))
      have b_27 : ivL 0 7 j_15 := ivL_e1 c_26 b_24 (ivL_c (7 : Int64) (a := 7) (b := 7) (by decide)) (by decide)
      have b_28 : iv 0 7 a1 := iv_cap (ivL_i ej_15 b_27) b_25 (by decide)
      refine lv_aload_n hx hb dX10_mean_33 rfl (lv_at hl 0 rfl) ?_
      refine lv_iload_n hx hb dX10_mean_34 rfl (lv_at hl 1 rfl) ?_
      refine jnV (wr := []) (rnV (rest := []) ⟨hx, hb, hml, hown, hg⟩ (k_X10_laysLikely_0 l V z a1 fz15 fz16 fz24 fz25 fz28 fz30 fz31 0 pz0_5 pz0_6 pz0_7 pz0_8 pz0_9 pz0_10 pz0_11 pz0_12 pz0_13 pz0_14 pz0_18 pz0_19 pz0_22 pz0_23 pz0_29 fz1 tfz16 tfz24 tfz25 bpz0_5 bpz0_6 bpz0_7 bpz0_8 bpz0_10 bpz0_11 bpz0_12 bpz0_13 bpz0_14 bpz0_18 bpz0_22 bpz0_29 tfz1 hf0) mt_X10_laysLikely q_8_114 ⟨Nat.le_of_ble_eq_true rfl, Nat.le_of_ble_eq_true rfl⟩ hK hP hD hS hA hE [2, 3, 4, 5, 6, 7, 8, 0, 1] rfl rfl 0 rfl rfl rfl rfl hl.1 rfl (Nat.le_of_ble_eq_true rfl) dX10_mean_35 ⟨Nat.le_of_ble_eq_true rfl, Nat.le_of_ble_eq_true rfl⟩) hP hD hS hA [2, 3, 4, 5, 6, 7, 8, 0, 1] [] rfl rfl rfl (by decide) (fun  w H locs hw hP hD hS => ?_)
      obtain ⟨f_29, f_30, f_31, f_32, f_33, f_34, f_35, v_36, tf_30, tf_31, tf_32, bv_36, g_37, rfl⟩ := hw
      have hP : va_P V.1 vwCl [(z 15, aI V 900 f_29), (z 16, aI V 6 f_30), (z 24, aI V 10000 f_31), (z 25, aI V 40000 f_32), (z 28, aZ V 10000 f_33), (z 30, aJ V 10000 f_34), (z 31, aJ V 10000 f_35), (z 0, .inr (10, mo z 0 pz0_5 pz0_6 pz0_7 pz0_8 pz0_9 pz0_10 pz0_11 pz0_12 pz0_13 pz0_14 pz0_18 pz0_19 pz0_22 pz0_23 v_36)), (z 1, aI V 3075 fz1)] H := hP
      have hD := cpD hP hD
      refine lv_lconst (v := 0) hx hb dX10_mean_38 (by decide) ?_
      refine lv_lstore_n (lv' := [(3, .long 0), (0, .ref (z 0)), (1, .int a1), (2, .int a2)]) hx hb dX10_mean_39 rfl hl (by decide) rfl (fun ls hl => ?_)
      refine lv_iconst (v := 0) hx hb dX10_mean_40 (by decide) ?_
      refine lv_istore (lv' := [(5, .int 0), (3, .long 0), (0, .ref (z 0)), (1, .int a1), (2, .int a2)]) hx hb dX10_mean_41 hl (by decide) rfl (fun ls hl => ?_)
      refine loopF (X := fun (n_40 : Nat) (H : Heap) (locs : List Loc) (ls : Array Slot) => ∃ (u_38 : Int32) (w_39 : Int64), (iv 0 2147483647 u_38) ∧ (RW fz1) ∧ n_40 = (2147483647 - (u_38 : Int32).toInt).toNat ∧ va_P V.1 vwCl [(z 15, aI V 900 f_29), (z 16, aI V 6 f_30), (z 24, aI V 10000 f_31), (z 25, aI V 40000 f_32), (z 28, aZ V 10000 f_33), (z 30, aJ V 10000 f_34), (z 31, aJ V 10000 f_35), (z 0, .inr (10, mo z 0 pz0_5 pz0_6 pz0_7 pz0_8 pz0_9 pz0_10 pz0_11 pz0_12 pz0_13 pz0_14 pz0_18 pz0_19 pz0_22 pz0_23 v_36)), (z 1, aI V 3075 fz1)] H ∧ va_D A [(z 15, aI V 900 f_29), (z 16, aI V 6 f_30), (z 24, aI V 10000 f_31), (z 25, aI V 40000 f_32), (z 28, aZ V 10000 f_33), (z 30, aJ V 10000 f_34), (z 31, aJ V 10000 f_35), (z 0, .inr (10, mo z 0 pz0_5 pz0_6 pz0_7 pz0_8 pz0_9 pz0_10 pz0_11 pz0_12 pz0_13 pz0_14 pz0_18 pz0_19 pz0_22 pz0_23 v_36)), (z 1, aI V 3075 fz1)] ∧ va_S A s.heap H locs ∧ lv_has ls 6 [(5, .int u_38), (3, .long w_39), (0, .ref (z 0)), (1, .int a1), (2, .int a2)]) (g := fun ls => F0 m 43 ls []) (fun n_40 H locs ls hX ihn_40 => ?_) _ ⟨0, 0, (iv_c (0 : Int32) (by decide)), g_37, rfl, hP, hD, hS, lv_sub hl [0, 1, 2, 3, 4] rfl⟩
      obtain ⟨u_38, w_39, bu_38, inn_40_0, en_40, hP, hD, hS, hl⟩ := hX
      refine lv_iload hx hb dX10_mean_43 (lv_at hl 0 rfl) ?_
      refine lv_aload_n hx hb dX10_mean_45 rfl (lv_at hl 2 rfl) ?_
      refine va_get (ci := 10) (v := .int v_36) (C := RX10) (T := TX10) (N := 40) hx hb hg inX10 hown hK hP 7 rfl rfl 29 (by decide) (hg _ q_6_13) (fun _ h9 => h9) rfl dX10_mean_46 ?_
      refine lv_icmp_ge (tgt := 86) hx hb dX10_mean_49 (by decide) (fun c_41 => ?_) (fun c_41 => ?_)
      · refine lv_lload_n hx hb dX10_mean_86 rfl (lv_at hl 1 rfl) ?_
        refine lv_iload_n hx hb dX10_mean_87 rfl (lv_at hl 3 rfl) ?_
        refine jnL (wr := [(z 15, aI V 900 f_29), (z 16, aI V 6 f_30), (z 24, aI V 10000 f_31), (z 25, aI V 40000 f_32), (z 28, aZ V 10000 f_33), (z 30, aJ V 10000 f_34), (z 31, aJ V 10000 f_35), (z 0, .inr (10, mo z 0 pz0_5 pz0_6 pz0_7 pz0_8 pz0_9 pz0_10 pz0_11 pz0_12 pz0_13 pz0_14 pz0_18 pz0_19 pz0_22 pz0_23 v_36)), (z 1, aI V 3075 fz1)]) (rnS (rest := [.long w_39]) ⟨hx, hb, hml, hown, hg⟩ (k_X10_wholeOf_0 l V a1 b_28) mt_X10_wholeOf q_8_118 ⟨Nat.le_of_ble_eq_true rfl, Nat.le_of_ble_eq_true rfl⟩ hK hP hD hS hA hE [] rfl rfl rfl hl.1 rfl (Nat.le_of_ble_eq_true rfl) dX10_mean_88 ⟨Nat.le_of_ble_eq_true rfl, Nat.le_of_ble_eq_true rfl⟩) hP hD hS hA [] [0, 1, 2, 3, 4, 5, 6, 7, 8] rfl rfl rfl (by decide) (fun r_42 w H locs hw hP hD hS => ?_)
        obtain ⟨g_43, rfl⟩ := hw
        have hP : va_P V.1 vwCl [(z 15, aI V 900 f_29), (z 16, aI V 6 f_30), (z 24, aI V 10000 f_31), (z 25, aI V 40000 f_32), (z 28, aZ V 10000 f_33), (z 30, aJ V 10000 f_34), (z 31, aJ V 10000 f_35), (z 0, .inr (10, mo z 0 pz0_5 pz0_6 pz0_7 pz0_8 pz0_9 pz0_10 pz0_11 pz0_12 pz0_13 pz0_14 pz0_18 pz0_19 pz0_22 pz0_23 v_36)), (z 1, aI V 3075 fz1)] H := hP
        have hD := cpD hP hD
        refine lv_iload_n hx hb dX10_mean_91 rfl (lv_at hl 4 rfl) ?_
        refine jnI (wr := [(z 15, aI V 900 f_29), (z 16, aI V 6 f_30), (z 24, aI V 10000 f_31), (z 25, aI V 40000 f_32), (z 28, aZ V 10000 f_33), (z 30, aJ V 10000 f_34), (z 31, aJ V 10000 f_35), (z 0, .inr (10, mo z 0 pz0_5 pz0_6 pz0_7 pz0_8 pz0_9 pz0_10 pz0_11 pz0_12 pz0_13 pz0_14 pz0_18 pz0_19 pz0_22 pz0_23 v_36)), (z 1, aI V 3075 fz1)]) (rnS (rest := []) ⟨hx, hb, hml, hown, hg⟩ (k_X10_part_0 l V w_39 r_42 a2 g_43) mt_X10_part q_8_121 ⟨Nat.le_of_ble_eq_true rfl, Nat.le_of_ble_eq_true rfl⟩ hK hP hD hS hA hE [] rfl rfl rfl hl.1 rfl (Nat.le_of_ble_eq_true rfl) dX10_mean_92 ⟨Nat.le_of_ble_eq_true rfl, Nat.le_of_ble_eq_true rfl⟩) hP hD hS hA [] [0, 1, 2, 3, 4, 5, 6, 7, 8] rfl rfl rfl (by decide) (fun r_44 w H locs hw hP hD hS => ?_)
        subst hw
        have hP : va_P V.1 vwCl [(z 15, aI V 900 f_29), (z 16, aI V 6 f_30), (z 24, aI V 10000 f_31), (z 25, aI V 40000 f_32), (z 28, aZ V 10000 f_33), (z 30, aJ V 10000 f_34), (z 31, aJ V 10000 f_35), (z 0, .inr (10, mo z 0 pz0_5 pz0_6 pz0_7 pz0_8 pz0_9 pz0_10 pz0_11 pz0_12 pz0_13 pz0_14 pz0_18 pz0_19 pz0_22 pz0_23 v_36)), (z 1, aI V 3075 fz1)] H := hP
        have hD := cpD hP hD
        have hP := subP (ws' := [(z 0, .inr (10, mo z 0 pz0_5 pz0_6 pz0_7 pz0_8 pz0_9 pz0_10 pz0_11 pz0_12 pz0_13 pz0_14 pz0_18 pz0_19 pz0_22 pz0_23 v_36)), (z 1, aI V 3075 fz1), (z 15, aI V 900 f_29), (z 16, aI V 6 f_30), (z 24, aI V 10000 f_31), (z 25, aI V 40000 f_32), (z 28, aZ V 10000 f_33), (z 30, aJ V 10000 f_34), (z 31, aJ V 10000 f_35)]) hP [7, 8, 0, 1, 2, 3, 4, 5, 6] rfl
        have hD := subD hP hD [7, 8, 0, 1, 2, 3, 4, 5, 6] rfl rfl
        exact fiI hx hb hr hlk hK hP hD hS dX10_mean_95 (Nat.le_of_ble_eq_true rfl) (Nat.le_of_ble_eq_true rfl) (⟨0, v_36, f_29, f_30, f_31, f_32, f_33, f_34, f_35, bv_36, tf_30, tf_31, tf_32, inn_40_0, rfl⟩)
      · have b_45 : iv 0 9999 u_38 := iv_l1 (Int32.not_le.mp c_41) bu_38 bv_36 (by decide)
        have b_46 : iv 1 10000 v_36 := iv_l2 (Int32.not_le.mp c_41) bu_38 bv_36 (by decide)
        refine lv_lload_n hx hb dX10_mean_52 rfl (lv_at hl 1 rfl) ?_
        refine lv_aload_n hx hb dX10_mean_53 rfl (lv_at hl 2 rfl) ?_
        refine va_get (ci := 10) (v := .ref (z 30)) (C := RX10) (T := TX10) (N := 40) hx hb hg inX10 hown hK hP 7 rfl rfl 30 (by decide) (hg _ q_6_14) (fun _ h9 => h9) rfl dX10_mean_54 ?_
        refine lv_aload_n hx hb dX10_mean_57 rfl (lv_at hl 2 rfl) ?_
        refine va_get (ci := 10) (v := .ref (z 24)) (C := RX10) (T := TX10) (N := 40) hx hb hg inX10 hown hK hP 7 rfl rfl 24 (by decide) (hg _ q_6_8) (fun _ h9 => h9) rfl dX10_mean_58 ?_
        refine lv_iload hx hb dX10_mean_61 (lv_at hl 0 rfl) ?_
        refine va_iald hx hb hK hP 2 0 rfl rfl (iv_in b_45 (by decide)) dX10_mean_63 ?_
        refine lv_topi (fun x_47 ex_47 => ?_)
        have bx_47 : iv 0 9999 x_47 := by rw [ex_47]; exact tf_31 _
        refine va_lald hx hb hK hP 5 2 rfl rfl (iv_in bx_47 (by decide)) dX10_mean_64 ?_
        refine lv_topl (fun j_48 ej_48 => ?_)
        refine lv_aload_n hx hb dX10_mean_65 rfl (lv_at hl 2 rfl) ?_
        refine lv_aload_n hx hb dX10_mean_66 rfl (lv_at hl 2 rfl) ?_
        refine va_get (ci := 10) (v := .ref (z 24)) (C := RX10) (T := TX10) (N := 40) hx hb hg inX10 hown hK hP 7 rfl rfl 24 (by decide) (hg _ q_6_8) (fun _ h9 => h9) rfl dX10_mean_67 ?_
        refine lv_iload hx hb dX10_mean_70 (lv_at hl 0 rfl) ?_
        refine va_iald hx hb hK hP 2 0 rfl rfl (iv_in b_45 (by decide)) dX10_mean_72 ?_
        refine tpi (y := x_47) ex_47.symm ?_
        refine jnI (wr := [(z 15, aI V 900 f_29), (z 16, aI V 6 f_30), (z 24, aI V 10000 f_31), (z 25, aI V 40000 f_32), (z 28, aZ V 10000 f_33), (z 30, aJ V 10000 f_34), (z 31, aJ V 10000 f_35)]) (rnV (rest := [.long j_48, .long w_39]) ⟨hx, hb, hml, hown, hg⟩ (k_X10_sumIn_0 l V z x_47 0 pz0_5 pz0_6 pz0_7 pz0_8 pz0_9 pz0_10 pz0_11 pz0_12 pz0_13 pz0_14 pz0_18 pz0_19 pz0_22 pz0_23 v_36 fz1 bx_47 bpz0_5 bpz0_6 bpz0_7 bpz0_8 bpz0_10 bpz0_11 bpz0_12 bpz0_13 bpz0_14 bpz0_18 bpz0_22 (iv_w b_46 (by decide)) tfz1) mt_X10_sumIn q_7_131 ⟨Nat.le_of_ble_eq_true rfl, Nat.le_of_ble_eq_true rfl⟩ hK hP hD hS hA hE [7, 8] rfl rfl 7 rfl rfl rfl rfl hl.1 rfl (Nat.le_of_ble_eq_true rfl) dX10_mean_73 ⟨Nat.le_of_ble_eq_true rfl, Nat.le_of_ble_eq_true rfl⟩) hP hD hS hA [7, 8] [0, 1, 2, 3, 4, 5, 6] rfl rfl rfl (by decide) (fun r_49 w H locs hw hP hD hS => ?_)
        obtain ⟨et_50, rfl⟩ := hw
        have hP : va_P V.1 vwCl [(z 15, aI V 900 f_29), (z 16, aI V 6 f_30), (z 24, aI V 10000 f_31), (z 25, aI V 40000 f_32), (z 28, aZ V 10000 f_33), (z 30, aJ V 10000 f_34), (z 31, aJ V 10000 f_35), (z 0, .inr (10, mo z 0 pz0_5 pz0_6 pz0_7 pz0_8 pz0_9 pz0_10 pz0_11 pz0_12 pz0_13 pz0_14 pz0_18 pz0_19 pz0_22 pz0_23 v_36)), (z 1, aI V 3075 fz1)] H := hP
        have hD := cpD hP hD
        refine lv_i2l hx hb dX10_mean_76 rfl ?_
        refine lv_topl (fun j_51 ej_51 => ?_)
        refine lv_lmul hx hb dX10_mean_77 ?_
        refine lv_topl (fun j_52 ej_52 => ?_)
        refine lv_ladd hx hb dX10_mean_78 ?_
        refine lv_topl (fun j_53 ej_53 => ?_)
        refine lv_lstore_n (lv' := [(3, .long j_53), (5, .int u_38), (0, .ref (z 0)), (1, .int a1), (2, .int a2)]) hx hb dX10_mean_79 rfl hl (by decide) rfl (fun ls hl => ?_)
        obtain ⟨x_54, ex_54⟩ : ∃ z9 : Int32, z9 = u_38 + 1 := ⟨_, rfl⟩
        have bx_54 : iv 1 10000 x_54 := by rw [ex_54]; exact iv_add b_45 (iv_c (1 : Int32) (a := 1) (b := 1) (by decide)) (by decide)
        refine lv_iinc (v := x_54) (lv' := [(5, .int x_54), (3, .long j_53), (0, .ref (z 0)), (1, .int a1), (2, .int a2)]) hx hb dX10_mean_80 hl (k := 1) rfl (by rw [ex_54]; rfl) (by decide) rfl (fun ls hl => ?_)
        refine lv_goto (tgt := 43) hx hb dX10_mean_83 (by decide) ?_
        exact ihn_40 _ _ _ _ (by rw [en_40, ex_54]; exact mu_up b_45 (by decide)) ⟨x_54, j_53, (iv_w bx_54 (by decide)), inn_40_0, rfl, hP, hD, hS, lv_sub hl [0, 1, 2, 3, 4] rfl⟩
    · have b_55 : iv 0 0 r_16 := iv_q c_21 (iv_c (0 : Int32) (a := 0) (b := 0) (by decide))
      refine lv_bipush (v := (-3)) hx hb dX10_mean_30 (by decide) ?_
      exact fiI hx hb hr hlk hK hP hD hS dX10_mean_32 (Nat.le_of_ble_eq_true rfl) (Nat.le_of_ble_eq_true rfl) (⟨0, pz0_29, fz15, fz16, fz24, fz25, fz28, fz30, fz31, bpz0_29, tfz16, tfz24, tfz25, hf0, rfl⟩)
  · have b_56 : iv 0 0 r_2 := iv_q c_7 (iv_c (0 : Int32) (a := 0) (b := 0) (by decide))
    refine lv_bipush (v := (-2)) hx hb dX10_mean_15 (by decide) ?_
    exact fiI hx hb hr hlk hK hP hD hS dX10_mean_17 (Nat.le_of_ble_eq_true rfl) (Nat.le_of_ble_eq_true rfl) (⟨0, pz0_29, fz15, fz16, fz24, fz25, fz28, fz30, fz31, bpz0_29, tfz16, tfz24, tfz25, hf0, rfl⟩)
theorem dX10_numbers_0 : decode cX10_numbers 0 = .ok (.aload_n 0, 1) := by decide +kernel
theorem dX10_numbers_1 : decode cX10_numbers 1 = .ok (.iconst 0, 1) := by decide +kernel
theorem dX10_numbers_2 : decode cX10_numbers 2 = .ok (.putfield 1, 3) := by decide +kernel
theorem dX10_numbers_5 : decode cX10_numbers 5 = .ok (.iload_n 1, 1) := by decide +kernel
theorem dX10_numbers_6 : decode cX10_numbers 6 = .ok (.i2l, 1) := by decide +kernel
theorem dX10_numbers_7 : decode cX10_numbers 7 = .ok (.lconst 0, 1) := by decide +kernel
theorem dX10_numbers_8 : decode cX10_numbers 8 = .ok (.ldc2_w 315, 3) := by decide +kernel
theorem dX10_numbers_11 : decode cX10_numbers 11 = .ok (.invokestatic 159, 3) := by decide +kernel
theorem dX10_numbers_14 : decode cX10_numbers 14 = .ok (.ifCond .eq 15, 3) := by decide +kernel
theorem dX10_numbers_29 : decode cX10_numbers 29 = .ok (.bipush (-2), 2) := by decide +kernel
theorem dX10_numbers_31 : decode cX10_numbers 31 = .ok (.ireturn, 1) := by decide +kernel
theorem dX10_numbers_17 : decode cX10_numbers 17 = .ok (.iload_n 2, 1) := by decide +kernel
theorem dX10_numbers_18 : decode cX10_numbers 18 = .ok (.i2l, 1) := by decide +kernel
theorem dX10_numbers_19 : decode cX10_numbers 19 = .ok (.lconst 0, 1) := by decide +kernel
theorem dX10_numbers_20 : decode cX10_numbers 20 = .ok (.ldc2_w 315, 3) := by decide +kernel
theorem dX10_numbers_23 : decode cX10_numbers 23 = .ok (.invokestatic 159, 3) := by decide +kernel
theorem dX10_numbers_26 : decode cX10_numbers 26 = .ok (.ifCond .ne 6, 3) := by decide +kernel
theorem dX10_numbers_32 : decode cX10_numbers 32 = .ok (.iload_n 3, 1) := by decide +kernel
theorem dX10_numbers_33 : decode cX10_numbers 33 = .ok (.i2l, 1) := by decide +kernel
theorem dX10_numbers_34 : decode cX10_numbers 34 = .ok (.lconst 0, 1) := by decide +kernel
theorem dX10_numbers_35 : decode cX10_numbers 35 = .ok (.ldc2_w 336, 3) := by decide +kernel
theorem dX10_numbers_38 : decode cX10_numbers 38 = .ok (.invokestatic 159, 3) := by decide +kernel
theorem dX10_numbers_41 : decode cX10_numbers 41 = .ok (.ifCond .ne 6, 3) := by decide +kernel
theorem dX10_numbers_47 : decode cX10_numbers 47 = .ok (.aload_n 0, 1) := by decide +kernel
theorem dX10_numbers_48 : decode cX10_numbers 48 = .ok (.getfield 84, 3) := by decide +kernel
theorem dX10_numbers_51 : decode cX10_numbers 51 = .ok (.iload_n 1, 1) := by decide +kernel
theorem dX10_numbers_52 : decode cX10_numbers 52 = .ok (.iload_n 2, 1) := by decide +kernel
theorem dX10_numbers_53 : decode cX10_numbers 53 = .ok (.iastore, 1) := by decide +kernel
theorem dX10_numbers_54 : decode cX10_numbers 54 = .ok (.aload_n 0, 1) := by decide +kernel
theorem dX10_numbers_55 : decode cX10_numbers 55 = .ok (.getfield 87, 3) := by decide +kernel
theorem dX10_numbers_58 : decode cX10_numbers 58 = .ok (.iload_n 1, 1) := by decide +kernel
theorem dX10_numbers_59 : decode cX10_numbers 59 = .ok (.iload_n 3, 1) := by decide +kernel
theorem dX10_numbers_60 : decode cX10_numbers 60 = .ok (.iastore, 1) := by decide +kernel
theorem dX10_numbers_61 : decode cX10_numbers 61 = .ok (.iconst 0, 1) := by decide +kernel
theorem dX10_numbers_62 : decode cX10_numbers 62 = .ok (.istore 4, 2) := by decide +kernel
theorem dX10_numbers_64 : decode cX10_numbers 64 = .ok (.iload 4, 2) := by decide +kernel
theorem dX10_numbers_66 : decode cX10_numbers 66 = .ok (.iload_n 3, 1) := by decide +kernel
theorem dX10_numbers_67 : decode cX10_numbers 67 = .ok (.if_icmp .ge 22, 3) := by decide +kernel
theorem dX10_numbers_89 : decode cX10_numbers 89 = .ok (.iconst 0, 1) := by decide +kernel
theorem dX10_numbers_90 : decode cX10_numbers 90 = .ok (.ireturn, 1) := by decide +kernel
theorem dX10_numbers_70 : decode cX10_numbers 70 = .ok (.aload_n 0, 1) := by decide +kernel
theorem dX10_numbers_71 : decode cX10_numbers 71 = .ok (.getfield 90, 3) := by decide +kernel
theorem dX10_numbers_74 : decode cX10_numbers 74 = .ok (.bipush 40, 2) := by decide +kernel
theorem dX10_numbers_76 : decode cX10_numbers 76 = .ok (.iload_n 1, 1) := by decide +kernel
theorem dX10_numbers_77 : decode cX10_numbers 77 = .ok (.imul, 1) := by decide +kernel
theorem dX10_numbers_78 : decode cX10_numbers 78 = .ok (.iload 4, 2) := by decide +kernel
theorem dX10_numbers_80 : decode cX10_numbers 80 = .ok (.iadd, 1) := by decide +kernel
theorem dX10_numbers_81 : decode cX10_numbers 81 = .ok (.lconst 0, 1) := by decide +kernel
theorem dX10_numbers_82 : decode cX10_numbers 82 = .ok (.lastore, 1) := by decide +kernel
theorem dX10_numbers_83 : decode cX10_numbers 83 = .ok (.iinc 4 1, 3) := by decide +kernel
theorem dX10_numbers_86 : decode cX10_numbers 86 = .ok (.goto (-22), 3) := by decide +kernel
theorem dX10_numbers_44 : decode cX10_numbers 44 = .ok (.bipush (-3), 2) := by decide +kernel
theorem dX10_numbers_46 : decode cX10_numbers 46 = .ok (.ireturn, 1) := by decide +kernel
set_option maxRecDepth 100000 in
noncomputable def B_k_X10_numbers_0_1 (a1 : Int32) (a3 : Int32) (f_47 : Nat → Int32) (f_48 : Nat → Int32) (u_49 : Int32) (f_50 : Nat → Int64) : (Int32 × (Nat → Int64)) ⊕ (Int32 × Int32 × (Nat → Int32) × (Nat → Int32) × (Nat → Int64)) := if a3 ≤ u_49 then (Sum.inr (((0 : Int32), (0 : Int32), f_47, f_48, f_50))) else (bnd ((40 : Int32) * a1 : Int32) fun (x_55 : Int32) => bnd (x_55 + u_49 : Int32) fun (x_56 : Int32) => bnd ((vp_updL f_50 (x_56 : Int32).toNatClampNeg 0) : Nat → Int64) fun (f_57 : Nat → Int64) => bnd (u_49 + 1 : Int32) fun (x_58 : Int32) => Sum.inl (x_58, f_57))
noncomputable def L_k_X10_numbers_0_1 (a1 : Int32) (a3 : Int32) (f_47 : Nat → Int32) (f_48 : Nat → Int32) (q9 : Int32 × (Nat → Int64)) : (Int32 × (Nat → Int64)) ⊕ (Int32 × Int32 × (Nat → Int32) × (Nat → Int32) × (Nat → Int64)) := B_k_X10_numbers_0_1 a1 a3 f_47 f_48 q9.1 q9.2
set_option maxRecDepth 100000 in
noncomputable def F_k_X10_numbers_0 (a1 : Int32) (a2 : Int32) (a3 : Int32) (fz37 : Nat → Int32) (fz38 : Nat → Int32) (fz39 : Nat → Int64) : Int32 × Int32 × (Nat → Int32) × (Nat → Int32) × (Nat → Int64) := bnd (a1.toInt64 : Int64) fun (j_1 : Int64) => bnd (F_k_X10_within_0 j_1 (0 : Int64) (3 : Int64) : Int32) fun (r_2 : Int32) => if r_2 = (0 : Int32) then ((((-2) : Int32), (0 : Int32), fz37, fz38, fz39)) else (bnd (a2.toInt64 : Int64) fun (j_17 : Int64) => bnd (F_k_X10_within_0 j_17 (0 : Int64) (3 : Int64) : Int32) fun (r_18 : Int32) => if r_18 = (0 : Int32) then ((((-2) : Int32), (0 : Int32), fz37, fz38, fz39)) else (bnd (a3.toInt64 : Int64) fun (j_32 : Int64) => bnd (F_k_X10_within_0 j_32 (0 : Int64) (40 : Int64) : Int32) fun (r_33 : Int32) => if r_33 = (0 : Int32) then ((((-3) : Int32), (0 : Int32), fz37, fz38, fz39)) else (bnd ((upd fz37 (a1 : Int32).toNatClampNeg a2) : Nat → Int32) fun (f_47 : Nat → Int32) => bnd ((upd fz38 (a1 : Int32).toNatClampNeg a3) : Nat → Int32) fun (f_48 : Nat → Int32) => W9 (L_k_X10_numbers_0_1 a1 a3 f_47 f_48) (0, fz39))))
set_option maxHeartbeats 4000000 in
set_option maxRecDepth 100000 in
theorem k_X10_numbers_0 (l : Launch) (V : GV) (z : Nat → Nat) (a1 : Int32) (a2 : Int32) (a3 : Int32) (pz0_0 : Int32) (pz0_5 : Int32) (pz0_6 : Int32) (pz0_7 : Int32) (pz0_8 : Int32) (pz0_9 : Int32) (pz0_10 : Int32) (pz0_11 : Int32) (pz0_12 : Int32) (pz0_13 : Int32) (pz0_14 : Int32) (pz0_18 : Int32) (pz0_19 : Int32) (pz0_22 : Int32) (pz0_23 : Int32) (pz0_29 : Int32) (fz37 : Nat → Int32) (fz38 : Nat → Int32) (fz39 : Nat → Int64) (bpz0_5 : iv 0 900 pz0_5) (bpz0_6 : iv 0 900 pz0_6) (bpz0_7 : iv 0 900 pz0_7) (bpz0_8 : iv 0 900 pz0_8) (bpz0_10 : iv 0 999 pz0_10) (bpz0_11 : iv 0 4 pz0_11) (bpz0_12 : iv 0 900 pz0_12) (bpz0_13 : iv 0 4 pz0_13) (bpz0_14 : iv (-1) 900 pz0_14) (bpz0_18 : iv 0 2 pz0_18) (bpz0_22 : iv 0 9999 pz0_22) (bpz0_29 : iv 0 10000 pz0_29) (tfz37 : ∀ j, iv (-1) 3 (fz37 j)) (tfz38 : ∀ j, iv 0 40 (fz38 j)) : Ct l V yX10_numbers (.code yX10_numbers cX10_numbers 5 (some .int)) 2 [.ref (z 0), .int a1, .int a2, .int a3] [(z 0, .inr (10, mo z pz0_0 pz0_5 pz0_6 pz0_7 pz0_8 pz0_9 pz0_10 pz0_11 pz0_12 pz0_13 pz0_14 pz0_18 pz0_19 pz0_22 pz0_23 pz0_29)), (z 37, aI V 4 fz37), (z 38, aI V 4 fz38), (z 39, aJ V 160 fz39)] 0 0 (QI V (fun (r : Int32) (w : va_W) => ∃ (v0 : Int32) (g1 : Nat → Int32) (g2 : Nat → Int32) (g3 : Nat → Int64), (∀ j, iv (-1) 3 (g1 j)) ∧ (∀ j, iv 0 40 (g2 j)) ∧ iv (-3) 0 r ∧ r = nuF a1 a2 a3 ∧ r = (F_k_X10_numbers_0 a1 a2 a3 fz37 fz38 fz39).1 ∧ v0 = (F_k_X10_numbers_0 a1 a2 a3 fz37 fz38 fz39).2.1 ∧ g1 = (F_k_X10_numbers_0 a1 a2 a3 fz37 fz38 fz39).2.2.1 ∧ g2 = (F_k_X10_numbers_0 a1 a2 a3 fz37 fz38 fz39).2.2.2.1 ∧ g3 = (F_k_X10_numbers_0 a1 a2 a3 fz37 fz38 fz39).2.2.2.2 ∧ w = [(z 0, .inr (10, mo z v0 pz0_5 pz0_6 pz0_7 pz0_8 pz0_9 pz0_10 pz0_11 pz0_12 pz0_13 pz0_14 pz0_18 pz0_19 pz0_22 pz0_23 pz0_29)), (z 37, aI V 4 g1), (z 38, aI V 4 g2), (z 39, aJ V 160 g3)])) := by
  refine Ct.of (by decide) (Nat.le_of_ble_eq_true rfl) (fun p e s m below meth c A ls hx hb hr hml hown hlk hnm hg hP hK hD hE hA hS hl => ?_)
  have hl : lv_has ls 5 [(0, .ref (z 0)), (1, .int a1), (2, .int a2), (3, .int a3)] := hl
  obtain ⟨T0, hT0⟩ : ∃ T9, T9 = F_k_X10_numbers_0 a1 a2 a3 fz37 fz38 fz39 := ⟨_, rfl⟩
  have hR := hT0.trans (F_k_X10_numbers_0.eq_1 ..)
  refine lv_aload_n hx hb dX10_numbers_0 rfl (lv_at hl 0 rfl) ?_
  refine lv_iconst (v := 0) hx hb dX10_numbers_1 (by decide) ?_
  refine va_put (ci := 10) (v := .int 0) (ty := .int) (C := RX10) (T := TX10) (N := 40) hx hb hg inX10 tyX10 tyX10_ok nmX10 hown hK hP hD hS 0 rfl rfl 0 (by decide) (hg _ q_5_224) (fun _ h9 => h9) rfl (by decide +kernel) rfl rfl (Nat.le_of_ble_eq_true rfl) dX10_numbers_2 (fun H locs hP hD hS => ?_)
  have hP : va_P V.1 vwCl [(z 0, .inr (10, mo z 0 pz0_5 pz0_6 pz0_7 pz0_8 pz0_9 pz0_10 pz0_11 pz0_12 pz0_13 pz0_14 pz0_18 pz0_19 pz0_22 pz0_23 pz0_29)), (z 37, aI V 4 fz37), (z 38, aI V 4 fz38), (z 39, aJ V 160 fz39)] H := hP
  have hD := cpD hP hD
  refine lv_iload_n hx hb dX10_numbers_5 rfl (lv_at hl 1 rfl) ?_
  refine lv_i2l hx hb dX10_numbers_6 rfl ?_
  refine lv_topl (fun j_1 ej_1 => ?_)
  replace hR := tb hR ej_1
  refine lv_lconst (v := 0) hx hb dX10_numbers_7 (by decide) ?_
  refine lv_ldc2 (v := 3) hx hb hown (hg _ q_7_107) dX10_numbers_8 ?_
  refine jnI (wr := [(z 0, .inr (10, mo z 0 pz0_5 pz0_6 pz0_7 pz0_8 pz0_9 pz0_10 pz0_11 pz0_12 pz0_13 pz0_14 pz0_18 pz0_19 pz0_22 pz0_23 pz0_29)), (z 37, aI V 4 fz37), (z 38, aI V 4 fz38), (z 39, aJ V 160 fz39)]) (rnS (rest := []) ⟨hx, hb, hml, hown, hg⟩ (k_X10_within_0 l V j_1 0 3) mt_X10_within q_6_114 ⟨Nat.le_of_ble_eq_true rfl, Nat.le_of_ble_eq_true rfl⟩ hK hP hD hS hA hE [] rfl rfl rfl hl.1 rfl (Nat.le_of_ble_eq_true rfl) dX10_numbers_11 ⟨Nat.le_of_ble_eq_true rfl, Nat.le_of_ble_eq_true rfl⟩) hP hD hS hA [] [0, 1, 2, 3] rfl rfl rfl (by decide) (fun r_2 w H locs hw hP hD hS => ?_)
  obtain ⟨br_2, g_3, g_4, g_5, et_6, rfl⟩ := hw
  replace hR := tb hR et_6
  have hP : va_P V.1 vwCl [(z 0, .inr (10, mo z 0 pz0_5 pz0_6 pz0_7 pz0_8 pz0_9 pz0_10 pz0_11 pz0_12 pz0_13 pz0_14 pz0_18 pz0_19 pz0_22 pz0_23 pz0_29)), (z 37, aI V 4 fz37), (z 38, aI V 4 fz38), (z 39, aJ V 160 fz39)] H := hP
  have hD := cpD hP hD
  refine lv_if_eq (tgt := 29) hx hb dX10_numbers_14 (by decide) (fun c_8 => ?_) (fun c_8 => ?_)
  · replace hR := ti hR c_8
    have b_9 : iv 0 0 r_2 := iv_q c_8 (iv_c (0 : Int32) (a := 0) (b := 0) (by decide))
    refine lv_bipush (v := (-2)) hx hb dX10_numbers_29 (by decide) ?_
    exact fiI hx hb hr hlk hK hP hD hS dX10_numbers_31 (Nat.le_of_ble_eq_true rfl) (Nat.le_of_ble_eq_true rfl) (⟨0, fz37, fz38, fz39, tfz37, tfz38, (iv_c ((-2) : Int32) (by decide)), (nu_2 (by have z_0 := congrArg Int32.toInt c_8; have k_0 : (0 : Int32).toInt = 0 := (by decide); have kk_0 : (0 : Int32).toInt = 0 := (by decide); have kk_1 : (1 : Int32).toInt = 1 := (by decide); have kk_2 : (2 : Int32).toInt = 2 := (by decide); have kk_3 : (3 : Int32).toInt = 3 := (by decide); have w_r_2 := wi_0 (a := 0) (b := 3) ej_1 (g_3 (iv_eqp b_9 (iv_c (0 : Int32) (by decide)))) (by decide) (by decide); omega)), (congrArg Prod.fst (hR.symm.trans hT0)), (congrArg Prod.fst (congrArg Prod.snd (hR.symm.trans hT0))), (congrArg Prod.fst (congrArg Prod.snd (congrArg Prod.snd (hR.symm.trans hT0)))), (congrArg Prod.fst (congrArg Prod.snd (congrArg Prod.snd (congrArg Prod.snd (hR.symm.trans hT0))))), (congrArg Prod.snd (congrArg Prod.snd (congrArg Prod.snd (congrArg Prod.snd (hR.symm.trans hT0))))), rfl⟩)
  · replace hR := te hR c_8
    have b_10 : iv 1 1 r_2 := iv_n0 c_8 br_2 (iv_c (0 : Int32) (a := 0) (b := 0) (by decide)) (by decide)
    have c_11 : (0 : Int64) ≤ j_1 := (g_4 (iv_eqp b_10 (iv_c (1 : Int32) (by decide))))
    have b_12 : ivL 0 9223372036854775807 j_1 := ivL_e2 c_11 (ivL_c (0 : Int64) (a := 0) (b := 0) (by decide)) (ivL_top j_1) (by decide)
    have b_13 : iv 0 2147483647 a1 := iv_cap (ivL_i ej_1 b_12) (iv_top a1) (by decide)
    have c_14 : j_1 ≤ 3 := (g_5 (iv_eqp b_10 (iv_c (1 : Int32) (by decide))))
    have b_15 : ivL 0 3 j_1 := ivL_e1 c_14 b_12 (ivL_c (3 : Int64) (a := 3) (b := 3) (by decide)) (by decide)
    have b_16 : iv 0 3 a1 := iv_cap (ivL_i ej_1 b_15) b_13 (by decide)
    refine lv_iload_n hx hb dX10_numbers_17 rfl (lv_at hl 2 rfl) ?_
    refine lv_i2l hx hb dX10_numbers_18 rfl ?_
    refine lv_topl (fun j_17 ej_17 => ?_)
    replace hR := tb hR ej_17
    refine lv_lconst (v := 0) hx hb dX10_numbers_19 (by decide) ?_
    refine lv_ldc2 (v := 3) hx hb hown (hg _ q_7_107) dX10_numbers_20 ?_
    refine jnI (wr := [(z 0, .inr (10, mo z 0 pz0_5 pz0_6 pz0_7 pz0_8 pz0_9 pz0_10 pz0_11 pz0_12 pz0_13 pz0_14 pz0_18 pz0_19 pz0_22 pz0_23 pz0_29)), (z 37, aI V 4 fz37), (z 38, aI V 4 fz38), (z 39, aJ V 160 fz39)]) (rnS (rest := []) ⟨hx, hb, hml, hown, hg⟩ (k_X10_within_0 l V j_17 0 3) mt_X10_within q_6_114 ⟨Nat.le_of_ble_eq_true rfl, Nat.le_of_ble_eq_true rfl⟩ hK hP hD hS hA hE [] rfl rfl rfl hl.1 rfl (Nat.le_of_ble_eq_true rfl) dX10_numbers_23 ⟨Nat.le_of_ble_eq_true rfl, Nat.le_of_ble_eq_true rfl⟩) hP hD hS hA [] [0, 1, 2, 3] rfl rfl rfl (by decide) (fun r_18 w H locs hw hP hD hS => ?_)
    obtain ⟨br_18, g_19, g_20, g_21, et_22, rfl⟩ := hw
    replace hR := tb hR et_22
    have hP : va_P V.1 vwCl [(z 0, .inr (10, mo z 0 pz0_5 pz0_6 pz0_7 pz0_8 pz0_9 pz0_10 pz0_11 pz0_12 pz0_13 pz0_14 pz0_18 pz0_19 pz0_22 pz0_23 pz0_29)), (z 37, aI V 4 fz37), (z 38, aI V 4 fz38), (z 39, aJ V 160 fz39)] H := hP
    have hD := cpD hP hD
    refine lv_if_ne (tgt := 32) hx hb dX10_numbers_26 (by decide) (fun c_24 => ?_) (fun c_24 => ?_)
    · replace hR := te hR c_24
      have b_25 : iv 1 1 r_18 := iv_n0 c_24 br_18 (iv_c (0 : Int32) (a := 0) (b := 0) (by decide)) (by decide)
      have c_26 : (0 : Int64) ≤ j_17 := (g_20 (iv_eqp b_25 (iv_c (1 : Int32) (by decide))))
      have b_27 : ivL 0 9223372036854775807 j_17 := ivL_e2 c_26 (ivL_c (0 : Int64) (a := 0) (b := 0) (by decide)) (ivL_top j_17) (by decide)
      have b_28 : iv 0 2147483647 a2 := iv_cap (ivL_i ej_17 b_27) (iv_top a2) (by decide)
      have c_29 : j_17 ≤ 3 := (g_21 (iv_eqp b_25 (iv_c (1 : Int32) (by decide))))
      have b_30 : ivL 0 3 j_17 := ivL_e1 c_29 b_27 (ivL_c (3 : Int64) (a := 3) (b := 3) (by decide)) (by decide)
      have b_31 : iv 0 3 a2 := iv_cap (ivL_i ej_17 b_30) b_28 (by decide)
      refine lv_iload_n hx hb dX10_numbers_32 rfl (lv_at hl 3 rfl) ?_
      refine lv_i2l hx hb dX10_numbers_33 rfl ?_
      refine lv_topl (fun j_32 ej_32 => ?_)
      replace hR := tb hR ej_32
      refine lv_lconst (v := 0) hx hb dX10_numbers_34 (by decide) ?_
      refine lv_ldc2 (v := 40) hx hb hown (hg _ q_7_143) dX10_numbers_35 ?_
      refine jnI (wr := [(z 0, .inr (10, mo z 0 pz0_5 pz0_6 pz0_7 pz0_8 pz0_9 pz0_10 pz0_11 pz0_12 pz0_13 pz0_14 pz0_18 pz0_19 pz0_22 pz0_23 pz0_29)), (z 37, aI V 4 fz37), (z 38, aI V 4 fz38), (z 39, aJ V 160 fz39)]) (rnS (rest := []) ⟨hx, hb, hml, hown, hg⟩ (k_X10_within_0 l V j_32 0 40) mt_X10_within q_6_114 ⟨Nat.le_of_ble_eq_true rfl, Nat.le_of_ble_eq_true rfl⟩ hK hP hD hS hA hE [] rfl rfl rfl hl.1 rfl (Nat.le_of_ble_eq_true rfl) dX10_numbers_38 ⟨Nat.le_of_ble_eq_true rfl, Nat.le_of_ble_eq_true rfl⟩) hP hD hS hA [] [0, 1, 2, 3] rfl rfl rfl (by decide) (fun r_33 w H locs hw hP hD hS => ?_)
      obtain ⟨br_33, g_34, g_35, g_36, et_37, rfl⟩ := hw
      replace hR := tb hR et_37
      have hP : va_P V.1 vwCl [(z 0, .inr (10, mo z 0 pz0_5 pz0_6 pz0_7 pz0_8 pz0_9 pz0_10 pz0_11 pz0_12 pz0_13 pz0_14 pz0_18 pz0_19 pz0_22 pz0_23 pz0_29)), (z 37, aI V 4 fz37), (z 38, aI V 4 fz38), (z 39, aJ V 160 fz39)] H := hP
      have hD := cpD hP hD
      refine lv_if_ne (tgt := 47) hx hb dX10_numbers_41 (by decide) (fun c_39 => ?_) (fun c_39 => ?_)
      · replace hR := te hR c_39
        have b_40 : iv 1 1 r_33 := iv_n0 c_39 br_33 (iv_c (0 : Int32) (a := 0) (b := 0) (by decide)) (by decide)
        have c_41 : (0 : Int64) ≤ j_32 := (g_35 (iv_eqp b_40 (iv_c (1 : Int32) (by decide))))
        have b_42 : ivL 0 9223372036854775807 j_32 := ivL_e2 c_41 (ivL_c (0 : Int64) (a := 0) (b := 0) (by decide)) (ivL_top j_32) (by decide)
        have b_43 : iv 0 2147483647 a3 := iv_cap (ivL_i ej_32 b_42) (iv_top a3) (by decide)
        have c_44 : j_32 ≤ 40 := (g_36 (iv_eqp b_40 (iv_c (1 : Int32) (by decide))))
        have b_45 : ivL 0 40 j_32 := ivL_e1 c_44 b_42 (ivL_c (40 : Int64) (a := 40) (b := 40) (by decide)) (by decide)
        have b_46 : iv 0 40 a3 := iv_cap (ivL_i ej_32 b_45) b_43 (by decide)
        refine lv_aload_n hx hb dX10_numbers_47 rfl (lv_at hl 0 rfl) ?_
        refine va_get (ci := 10) (v := .ref (z 37)) (C := RX10) (T := TX10) (N := 40) hx hb hg inX10 hown hK hP 0 rfl rfl 37 (by decide) (hg _ q_6_21) (fun _ h9 => h9) rfl dX10_numbers_48 ?_
        refine lv_iload_n hx hb dX10_numbers_51 rfl (lv_at hl 1 rfl) ?_
        refine lv_iload_n hx hb dX10_numbers_52 rfl (lv_at hl 2 rfl) ?_
        refine va_iast hx hb hK hP hD hS 1 0 rfl rfl (iv_in b_16 (by decide)) dX10_numbers_53 (fun H locs hP hD hS => ?_)
        obtain ⟨f_47, ef_47, tf_47, hP, hD⟩ : ∃ f_47 : Nat → Int32, f_47 = (upd fz37 (a1 : Int32).toNatClampNeg a2) ∧ (∀ j, iv (-1) 3 (f_47 j)) ∧ va_P V.1 vwCl [(z 0, .inr (10, mo z 0 pz0_5 pz0_6 pz0_7 pz0_8 pz0_9 pz0_10 pz0_11 pz0_12 pz0_13 pz0_14 pz0_18 pz0_19 pz0_22 pz0_23 pz0_29)), (z 37, aI V 4 f_47), (z 38, aI V 4 fz38), (z 39, aJ V 160 fz39)] H ∧ va_D A [(z 0, .inr (10, mo z 0 pz0_5 pz0_6 pz0_7 pz0_8 pz0_9 pz0_10 pz0_11 pz0_12 pz0_13 pz0_14 pz0_18 pz0_19 pz0_22 pz0_23 pz0_29)), (z 37, aI V 4 f_47), (z 38, aI V 4 fz38), (z 39, aJ V 160 fz39)] := ⟨_, rfl, ivU tfz37 _ (iv_w b_31 (by decide)), hP, hD⟩
        replace hR := tb hR ef_47
        refine lv_aload_n hx hb dX10_numbers_54 rfl (lv_at hl 0 rfl) ?_
        refine va_get (ci := 10) (v := .ref (z 38)) (C := RX10) (T := TX10) (N := 40) hx hb hg inX10 hown hK hP 0 rfl rfl 38 (by decide) (hg _ q_6_22) (fun _ h9 => h9) rfl dX10_numbers_55 ?_
        refine lv_iload_n hx hb dX10_numbers_58 rfl (lv_at hl 1 rfl) ?_
        refine lv_iload_n hx hb dX10_numbers_59 rfl (lv_at hl 3 rfl) ?_
        refine va_iast hx hb hK hP hD hS 2 0 rfl rfl (iv_in b_16 (by decide)) dX10_numbers_60 (fun H locs hP hD hS => ?_)
        obtain ⟨f_48, ef_48, tf_48, hP, hD⟩ : ∃ f_48 : Nat → Int32, f_48 = (upd fz38 (a1 : Int32).toNatClampNeg a3) ∧ (∀ j, iv 0 40 (f_48 j)) ∧ va_P V.1 vwCl [(z 0, .inr (10, mo z 0 pz0_5 pz0_6 pz0_7 pz0_8 pz0_9 pz0_10 pz0_11 pz0_12 pz0_13 pz0_14 pz0_18 pz0_19 pz0_22 pz0_23 pz0_29)), (z 37, aI V 4 f_47), (z 38, aI V 4 f_48), (z 39, aJ V 160 fz39)] H ∧ va_D A [(z 0, .inr (10, mo z 0 pz0_5 pz0_6 pz0_7 pz0_8 pz0_9 pz0_10 pz0_11 pz0_12 pz0_13 pz0_14 pz0_18 pz0_19 pz0_22 pz0_23 pz0_29)), (z 37, aI V 4 f_47), (z 38, aI V 4 f_48), (z 39, aJ V 160 fz39)] := ⟨_, rfl, ivU tfz38 _ b_46, hP, hD⟩
        replace hR := tb hR ef_48
        refine lv_iconst (v := 0) hx hb dX10_numbers_61 (by decide) ?_
        refine lv_istore (lv' := [(4, .int 0), (0, .ref (z 0)), (1, .int a1), (2, .int a2), (3, .int a3)]) hx hb dX10_numbers_62 hl (by decide) rfl (fun ls hl => ?_)
        refine loopF (X := fun (n_51 : Nat) (H : Heap) (locs : List Loc) (ls : Array Slot) => ∃ (u_49 : Int32) (f_50 : Nat → Int64), (iv 0 2147483647 u_49) ∧ T0 = W9 (L_k_X10_numbers_0_1 a1 a3 f_47 f_48) (u_49, f_50) ∧ n_51 = (2147483647 - (u_49 : Int32).toInt).toNat ∧ va_P V.1 vwCl [(z 0, .inr (10, mo z 0 pz0_5 pz0_6 pz0_7 pz0_8 pz0_9 pz0_10 pz0_11 pz0_12 pz0_13 pz0_14 pz0_18 pz0_19 pz0_22 pz0_23 pz0_29)), (z 37, aI V 4 f_47), (z 38, aI V 4 f_48), (z 39, aJ V 160 f_50)] H ∧ va_D A [(z 0, .inr (10, mo z 0 pz0_5 pz0_6 pz0_7 pz0_8 pz0_9 pz0_10 pz0_11 pz0_12 pz0_13 pz0_14 pz0_18 pz0_19 pz0_22 pz0_23 pz0_29)), (z 37, aI V 4 f_47), (z 38, aI V 4 f_48), (z 39, aJ V 160 f_50)] ∧ va_S A s.heap H locs ∧ lv_has ls 5 [(4, .int u_49), (0, .ref (z 0)), (1, .int a1), (2, .int a2), (3, .int a3)]) (g := fun ls => F0 m 64 ls []) (fun n_51 H locs ls hX ihn_51 => ?_) _ ⟨0, fz39, (iv_c (0 : Int32) (by decide)), hR, rfl, hP, hD, hS, lv_sub hl [0, 1, 2, 3, 4] rfl⟩
        obtain ⟨u_49, f_50, bu_49, hR, en_51, hP, hD, hS, hl⟩ := hX
        obtain ⟨Tn_51, hR, hAn_51⟩ := tw hR
        replace hR : Tn_51 = B_k_X10_numbers_0_1 a1 a3 f_47 f_48 u_49 f_50 := hR
        replace hR := hR.trans (B_k_X10_numbers_0_1.eq_1 ..)
        refine lv_iload hx hb dX10_numbers_64 (lv_at hl 0 rfl) ?_
        refine lv_iload_n hx hb dX10_numbers_66 rfl (lv_at hl 4 rfl) ?_
        refine lv_icmp_ge (tgt := 89) hx hb dX10_numbers_67 (by decide) (fun c_52 => ?_) (fun c_52 => ?_)
        · replace hR := ti hR c_52
          refine lv_iconst (v := 0) hx hb dX10_numbers_89 (by decide) ?_
          exact fiI hx hb hr hlk hK hP hD hS dX10_numbers_90 (Nat.le_of_ble_eq_true rfl) (Nat.le_of_ble_eq_true rfl) (⟨0, f_47, f_48, f_50, tf_47, tf_48, (iv_c (0 : Int32) (by decide)), (nu_0 (by have z_0 : ¬ ((r_2 : Int32).toInt = (0 : Int32).toInt) := fun q9 => c_8 (Int32.toInt_inj.mp q9); have z_1 : ¬ ((r_18 : Int32).toInt = (0 : Int32).toInt) := fun q9 => c_24 (Int32.toInt_inj.mp q9); have z_2 : ¬ ((r_33 : Int32).toInt = (0 : Int32).toInt) := fun q9 => c_39 (Int32.toInt_inj.mp q9); have z_3 := Int32.le_iff_toInt_le.mp c_52; have k_0 : (0 : Int32).toInt = 0 := (by decide); have kk_0 : (0 : Int32).toInt = 0 := (by decide); have kk_1 : (1 : Int32).toInt = 1 := (by decide); have kk_2 : (2 : Int32).toInt = 2 := (by decide); have kk_3 : (3 : Int32).toInt = 3 := (by decide); have iv_1 := b_16; unfold iv at iv_1; have iv_2 := b_31; unfold iv at iv_2; have iv_3 := b_46; unfold iv at iv_3; omega) (by have z_0 : ¬ ((r_2 : Int32).toInt = (0 : Int32).toInt) := fun q9 => c_8 (Int32.toInt_inj.mp q9); have z_1 : ¬ ((r_18 : Int32).toInt = (0 : Int32).toInt) := fun q9 => c_24 (Int32.toInt_inj.mp q9); have z_2 : ¬ ((r_33 : Int32).toInt = (0 : Int32).toInt) := fun q9 => c_39 (Int32.toInt_inj.mp q9); have z_3 := Int32.le_iff_toInt_le.mp c_52; have k_0 : (0 : Int32).toInt = 0 := (by decide); have kk_0 : (0 : Int32).toInt = 0 := (by decide); have kk_1 : (1 : Int32).toInt = 1 := (by decide); have kk_2 : (2 : Int32).toInt = 2 := (by decide); have kk_3 : (3 : Int32).toInt = 3 := (by decide); have iv_1 := b_16; unfold iv at iv_1; have iv_2 := b_31; unfold iv at iv_2; have iv_3 := b_46; unfold iv at iv_3; omega)), (congrArg Prod.fst ((tx hAn_51 hR).symm.trans hT0)), (congrArg Prod.fst (congrArg Prod.snd ((tx hAn_51 hR).symm.trans hT0))), (congrArg Prod.fst (congrArg Prod.snd (congrArg Prod.snd ((tx hAn_51 hR).symm.trans hT0)))), (congrArg Prod.fst (congrArg Prod.snd (congrArg Prod.snd (congrArg Prod.snd ((tx hAn_51 hR).symm.trans hT0))))), (congrArg Prod.snd (congrArg Prod.snd (congrArg Prod.snd (congrArg Prod.snd ((tx hAn_51 hR).symm.trans hT0))))), rfl⟩)
        · replace hR := te hR c_52
          have b_53 : iv 0 39 u_49 := iv_l1 (Int32.not_le.mp c_52) bu_49 b_46 (by decide)
          have b_54 : iv 1 40 a3 := iv_l2 (Int32.not_le.mp c_52) bu_49 b_46 (by decide)
          refine lv_aload_n hx hb dX10_numbers_70 rfl (lv_at hl 1 rfl) ?_
          refine va_get (ci := 10) (v := .ref (z 39)) (C := RX10) (T := TX10) (N := 40) hx hb hg inX10 hown hK hP 0 rfl rfl 39 (by decide) (hg _ q_6_23) (fun _ h9 => h9) rfl dX10_numbers_71 ?_
          refine lv_bipush (v := 40) hx hb dX10_numbers_74 (by decide) ?_
          refine lv_iload_n hx hb dX10_numbers_76 rfl (lv_at hl 2 rfl) ?_
          refine lv_imul hx hb dX10_numbers_77 ?_
          refine lv_topi (fun x_55 ex_55 => ?_)
          have bx_55 : iv 0 120 x_55 := by rw [ex_55]; exact iv_cmul (iv_c (40 : Int32) (a := 40) (b := 40) (by decide)) b_16 (by decide)
          replace hR := tb hR ex_55
          refine lv_iload hx hb dX10_numbers_78 (lv_at hl 0 rfl) ?_
          refine lv_iadd hx hb dX10_numbers_80 ?_
          refine lv_topi (fun x_56 ex_56 => ?_)
          have bx_56 : iv 0 159 x_56 := by rw [ex_56]; exact iv_add bx_55 b_53 (by decide)
          replace hR := tb hR ex_56
          refine lv_lconst (v := 0) hx hb dX10_numbers_81 (by decide) ?_
          refine va_last hx hb hK hP hD hS 3 2 rfl rfl (iv_in bx_56 (by decide)) dX10_numbers_82 (fun H locs hP hD hS => ?_)
          obtain ⟨f_57, ef_57, hP, hD⟩ : ∃ f_57 : Nat → Int64, f_57 = (vp_updL f_50 (x_56 : Int32).toNatClampNeg 0) ∧ va_P V.1 vwCl [(z 0, .inr (10, mo z 0 pz0_5 pz0_6 pz0_7 pz0_8 pz0_9 pz0_10 pz0_11 pz0_12 pz0_13 pz0_14 pz0_18 pz0_19 pz0_22 pz0_23 pz0_29)), (z 37, aI V 4 f_47), (z 38, aI V 4 f_48), (z 39, aJ V 160 f_57)] H ∧ va_D A [(z 0, .inr (10, mo z 0 pz0_5 pz0_6 pz0_7 pz0_8 pz0_9 pz0_10 pz0_11 pz0_12 pz0_13 pz0_14 pz0_18 pz0_19 pz0_22 pz0_23 pz0_29)), (z 37, aI V 4 f_47), (z 38, aI V 4 f_48), (z 39, aJ V 160 f_57)] := ⟨_, rfl, hP, hD⟩
          replace hR := tb hR ef_57
          obtain ⟨x_58, ex_58⟩ : ∃ z9 : Int32, z9 = u_49 + 1 := ⟨_, rfl⟩
          have bx_58 : iv 1 40 x_58 := by rw [ex_58]; exact iv_add b_53 (iv_c (1 : Int32) (a := 1) (b := 1) (by decide)) (by decide)
          replace hR := tb hR ex_58
          refine lv_iinc (v := x_58) (lv' := [(4, .int x_58), (0, .ref (z 0)), (1, .int a1), (2, .int a2), (3, .int a3)]) hx hb dX10_numbers_83 hl (k := 0) rfl (by rw [ex_58]; rfl) (by decide) rfl (fun ls hl => ?_)
          refine lv_goto (tgt := 64) hx hb dX10_numbers_86 (by decide) ?_
          exact ihn_51 _ _ _ _ (by rw [en_51, ex_58]; exact mu_up b_53 (by decide)) ⟨x_58, f_57, (iv_w bx_58 (by decide)), (tbk hAn_51 hR), rfl, hP, hD, hS, lv_sub hl [0, 1, 2, 3, 4] rfl⟩
      · replace hR := ti hR c_39
        have b_59 : iv 0 0 r_33 := iv_q c_39 (iv_c (0 : Int32) (a := 0) (b := 0) (by decide))
        refine lv_bipush (v := (-3)) hx hb dX10_numbers_44 (by decide) ?_
        exact fiI hx hb hr hlk hK hP hD hS dX10_numbers_46 (Nat.le_of_ble_eq_true rfl) (Nat.le_of_ble_eq_true rfl) (⟨0, fz37, fz38, fz39, tfz37, tfz38, (iv_c ((-3) : Int32) (by decide)), (nu_3 (by have z_0 : ¬ ((r_2 : Int32).toInt = (0 : Int32).toInt) := fun q9 => c_8 (Int32.toInt_inj.mp q9); have z_1 : ¬ ((r_18 : Int32).toInt = (0 : Int32).toInt) := fun q9 => c_24 (Int32.toInt_inj.mp q9); have z_2 := congrArg Int32.toInt c_39; have k_0 : (0 : Int32).toInt = 0 := (by decide); have kk_0 : (0 : Int32).toInt = 0 := (by decide); have kk_1 : (1 : Int32).toInt = 1 := (by decide); have kk_2 : (2 : Int32).toInt = 2 := (by decide); have kk_3 : (3 : Int32).toInt = 3 := (by decide); have iv_1 := b_16; unfold iv at iv_1; have iv_2 := b_31; unfold iv at iv_2; have w_r_33 := wi_0 (a := 0) (b := 40) ej_32 (g_34 (iv_eqp b_59 (iv_c (0 : Int32) (by decide)))) (by decide) (by decide); omega) (by have z_0 : ¬ ((r_2 : Int32).toInt = (0 : Int32).toInt) := fun q9 => c_8 (Int32.toInt_inj.mp q9); have z_1 : ¬ ((r_18 : Int32).toInt = (0 : Int32).toInt) := fun q9 => c_24 (Int32.toInt_inj.mp q9); have z_2 := congrArg Int32.toInt c_39; have k_0 : (0 : Int32).toInt = 0 := (by decide); have kk_0 : (0 : Int32).toInt = 0 := (by decide); have kk_1 : (1 : Int32).toInt = 1 := (by decide); have kk_2 : (2 : Int32).toInt = 2 := (by decide); have kk_3 : (3 : Int32).toInt = 3 := (by decide); have iv_1 := b_16; unfold iv at iv_1; have iv_2 := b_31; unfold iv at iv_2; have w_r_33 := wi_0 (a := 0) (b := 40) ej_32 (g_34 (iv_eqp b_59 (iv_c (0 : Int32) (by decide)))) (by decide) (by decide); omega)), (congrArg Prod.fst (hR.symm.trans hT0)), (congrArg Prod.fst (congrArg Prod.snd (hR.symm.trans hT0))), (congrArg Prod.fst (congrArg Prod.snd (congrArg Prod.snd (hR.symm.trans hT0)))), (congrArg Prod.fst (congrArg Prod.snd (congrArg Prod.snd (congrArg Prod.snd (hR.symm.trans hT0))))), (congrArg Prod.snd (congrArg Prod.snd (congrArg Prod.snd (congrArg Prod.snd (hR.symm.trans hT0))))), rfl⟩)
    · replace hR := ti hR c_24
      have b_60 : iv 0 0 r_18 := iv_q c_24 (iv_c (0 : Int32) (a := 0) (b := 0) (by decide))
      refine lv_bipush (v := (-2)) hx hb dX10_numbers_29 (by decide) ?_
      exact fiI hx hb hr hlk hK hP hD hS dX10_numbers_31 (Nat.le_of_ble_eq_true rfl) (Nat.le_of_ble_eq_true rfl) (⟨0, fz37, fz38, fz39, tfz37, tfz38, (iv_c ((-2) : Int32) (by decide)), (nu_2 (by have z_0 : ¬ ((r_2 : Int32).toInt = (0 : Int32).toInt) := fun q9 => c_8 (Int32.toInt_inj.mp q9); have z_1 := congrArg Int32.toInt c_24; have k_0 : (0 : Int32).toInt = 0 := (by decide); have kk_0 : (0 : Int32).toInt = 0 := (by decide); have kk_1 : (1 : Int32).toInt = 1 := (by decide); have kk_2 : (2 : Int32).toInt = 2 := (by decide); have kk_3 : (3 : Int32).toInt = 3 := (by decide); have iv_1 := b_16; unfold iv at iv_1; have w_r_18 := wi_0 (a := 0) (b := 3) ej_17 (g_19 (iv_eqp b_60 (iv_c (0 : Int32) (by decide)))) (by decide) (by decide); omega)), (congrArg Prod.fst (hR.symm.trans hT0)), (congrArg Prod.fst (congrArg Prod.snd (hR.symm.trans hT0))), (congrArg Prod.fst (congrArg Prod.snd (congrArg Prod.snd (hR.symm.trans hT0)))), (congrArg Prod.fst (congrArg Prod.snd (congrArg Prod.snd (congrArg Prod.snd (hR.symm.trans hT0))))), (congrArg Prod.snd (congrArg Prod.snd (congrArg Prod.snd (congrArg Prod.snd (hR.symm.trans hT0))))), rfl⟩)
