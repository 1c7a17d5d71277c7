theorem dX10_readFlag_0 : decode cX10_readFlag 0 = .ok (.aload_n 0, 1) := by decide +kernel
theorem dX10_readFlag_1 : decode cX10_readFlag 1 = .ok (.iconst 5, 1) := by decide +kernel
theorem dX10_readFlag_2 : decode cX10_readFlag 2 = .ok (.invokevirtual 175, 3) := by decide +kernel
theorem dX10_readFlag_5 : decode cX10_readFlag 5 = .ok (.ifCond .eq 22, 3) := by decide +kernel
theorem dX10_readFlag_27 : decode cX10_readFlag 27 = .ok (.aload_n 0, 1) := by decide +kernel
theorem dX10_readFlag_28 : decode cX10_readFlag 28 = .ok (.bipush 6, 2) := by decide +kernel
theorem dX10_readFlag_30 : decode cX10_readFlag 30 = .ok (.invokevirtual 175, 3) := by decide +kernel
theorem dX10_readFlag_33 : decode cX10_readFlag 33 = .ok (.ifCond .eq 19, 3) := by decide +kernel
theorem dX10_readFlag_52 : decode cX10_readFlag 52 = .ok (.iconst 0, 1) := by decide +kernel
theorem dX10_readFlag_53 : decode cX10_readFlag 53 = .ok (.ireturn, 1) := by decide +kernel
theorem dX10_readFlag_36 : decode cX10_readFlag 36 = .ok (.aload_n 0, 1) := by decide +kernel
theorem dX10_readFlag_37 : decode cX10_readFlag 37 = .ok (.getfield 24, 3) := by decide +kernel
theorem dX10_readFlag_40 : decode cX10_readFlag 40 = .ok (.bipush 50, 2) := by decide +kernel
theorem dX10_readFlag_42 : decode cX10_readFlag 42 = .ok (.dup2, 1) := by decide +kernel
theorem dX10_readFlag_43 : decode cX10_readFlag 43 = .ok (.iaload, 1) := by decide +kernel
theorem dX10_readFlag_44 : decode cX10_readFlag 44 = .ok (.iconst 1, 1) := by decide +kernel
theorem dX10_readFlag_45 : decode cX10_readFlag 45 = .ok (.iload_n 1, 1) := by decide +kernel
theorem dX10_readFlag_46 : decode cX10_readFlag 46 = .ok (.ishl, 1) := by decide +kernel
theorem dX10_readFlag_47 : decode cX10_readFlag 47 = .ok (.ior, 1) := by decide +kernel
theorem dX10_readFlag_48 : decode cX10_readFlag 48 = .ok (.iastore, 1) := by decide +kernel
theorem dX10_readFlag_49 : decode cX10_readFlag 49 = .ok (.goto 5, 3) := by decide +kernel
theorem dX10_readFlag_54 : decode cX10_readFlag 54 = .ok (.aload_n 0, 1) := by decide +kernel
theorem dX10_readFlag_55 : decode cX10_readFlag 55 = .ok (.getfield 143, 3) := by decide +kernel
theorem dX10_readFlag_58 : decode cX10_readFlag 58 = .ok (.ifCond .ne 7, 3) := by decide +kernel
theorem dX10_readFlag_61 : decode cX10_readFlag 61 = .ok (.iconst 1, 1) := by decide +kernel
theorem dX10_readFlag_62 : decode cX10_readFlag 62 = .ok (.goto 4, 3) := by decide +kernel
theorem dX10_readFlag_66 : decode cX10_readFlag 66 = .ok (.ireturn, 1) := by decide +kernel
theorem dX10_readFlag_8 : decode cX10_readFlag 8 = .ok (.aload_n 0, 1) := by decide +kernel
theorem dX10_readFlag_9 : decode cX10_readFlag 9 = .ok (.getfield 24, 3) := by decide +kernel
theorem dX10_readFlag_12 : decode cX10_readFlag 12 = .ok (.bipush 14, 2) := by decide +kernel
theorem dX10_readFlag_14 : decode cX10_readFlag 14 = .ok (.iload_n 1, 1) := by decide +kernel
theorem dX10_readFlag_15 : decode cX10_readFlag 15 = .ok (.iadd, 1) := by decide +kernel
theorem dX10_readFlag_16 : decode cX10_readFlag 16 = .ok (.aload_n 0, 1) := by decide +kernel
theorem dX10_readFlag_17 : decode cX10_readFlag 17 = .ok (.iconst 0, 1) := by decide +kernel
theorem dX10_readFlag_18 : decode cX10_readFlag 18 = .ok (.bipush 9, 2) := by decide +kernel
theorem dX10_readFlag_20 : decode cX10_readFlag 20 = .ok (.invokevirtual 196, 3) := by decide +kernel
theorem dX10_readFlag_23 : decode cX10_readFlag 23 = .ok (.iastore, 1) := by decide +kernel
theorem dX10_readFlag_24 : decode cX10_readFlag 24 = .ok (.goto 30, 3) := by decide +kernel
theorem dX10_readFlag_65 : decode cX10_readFlag 65 = .ok (.iconst 0, 1) := by decide +kernel
set_option maxHeartbeats 4000000 in
set_option maxRecDepth 100000 in
theorem k_X10_readFlag_0 (l : Launch) (V : GV) (z : Nat → Nat) (a1 : Int32) (fz4 : Nat → Int32) (pz0_0 : Int32) (pz0_5 : Int32) (pz0_6 : Int32) (pz0_7 : Int32) (pz0_8 : Int32) (pz0_9 : Int32) (pz0_10 : Int32) (pz0_11 : Int32) (pz0_12 : Int32) (pz0_13 : Int32) (pz0_14 : Int32) (pz0_18 : Int32) (pz0_19 : Int32) (pz0_22 : Int32) (pz0_23 : Int32) (pz0_29 : Int32) (fz3 : Nat → Int32) (ba1 : iv 0 3 a1) (tfz4 : ivT tF fz4) (bpz0_5 : iv 0 900 pz0_5) (bpz0_6 : iv 0 900 pz0_6) (bpz0_7 : iv 0 900 pz0_7) (bpz0_8 : iv 0 900 pz0_8) (bpz0_10 : iv 0 999 pz0_10) (bpz0_11 : iv 0 4 pz0_11) (bpz0_12 : iv 0 900 pz0_12) (bpz0_13 : iv 0 4 pz0_13) (bpz0_14 : iv (-1) 900 pz0_14) (bpz0_18 : iv 0 2 pz0_18) (bpz0_22 : iv 0 9999 pz0_22) (bpz0_29 : iv 0 10000 pz0_29) (hf0 : PT pz0_6 pz0_7 pz0_8 pz0_9) (hf1 : PS pz0_11 pz0_6 fz4) : Ct l V yX10_readFlag (.code yX10_readFlag cX10_readFlag 2 (some .boolean)) 8 [.ref (z 0), .int a1] [(z 4, aI V 1025 fz4), (z 0, .inr (10, mo z pz0_0 pz0_5 pz0_6 pz0_7 pz0_8 pz0_9 pz0_10 pz0_11 pz0_12 pz0_13 pz0_14 pz0_18 pz0_19 pz0_22 pz0_23 pz0_29)), (z 3, aI V 900 fz3)] 0 0 (QI V (fun (r : Int32) (w : va_W) => ∃ (g0 : Nat → Int32) (v1 : Int32) (v2 : Int32) (v3 : Int32) (v4 : Int32) (v5 : Int32) (v6 : Int32), (ivT tF g0) ∧ iv 0 900 v1 ∧ iv 0 900 v2 ∧ iv 0 999 v4 ∧ iv 0 4 v5 ∧ iv 0 900 v6 ∧ iv 0 1 r ∧ (PT v1 v2 pz0_8 v3) ∧ (PS v5 v1 g0) ∧ ((pz0_6 : Int32).toInt ≤ (v1 : Int32).toInt) ∧ (v5 = 0 → pz0_11 = 0) ∧ (r = 1 → v5 = 0) ∧ (r = 1 → (pz0_6 : Int32).toInt + 1 ≤ (v1 : Int32).toInt) ∧ (g0 (1 : Int32).toNatClampNeg = fz4 (1 : Int32).toNatClampNeg) ∧ w = [(z 4, aI V 1025 g0), (z 0, .inr (10, mo z pz0_0 pz0_5 v1 v2 pz0_8 v3 v4 v5 v6 pz0_13 pz0_14 pz0_18 pz0_19 pz0_22 pz0_23 pz0_29)), (z 3, aI V 900 fz3)])) := by
  refine Ct.of (by decide) (Nat.le_of_ble_eq_true rfl) (fun p e s m below meth c A ls hx hb hr hml hown hlk hnm hg hP hK hD hE hA hS hl => ?_)
  have hl : lv_has ls 2 [(0, .ref (z 0)), (1, .int a1)] := hl
  refine lv_aload_n hx hb dX10_readFlag_0 rfl (lv_at hl 0 rfl) ?_
  refine lv_iconst (v := 5) hx hb dX10_readFlag_1 (by decide) ?_
  refine jnI (wr := [(z 4, aI V 1025 fz4)]) (rnV (rest := []) ⟨hx, hb, hml, hown, hg⟩ (k_X10_eats_16 l V z pz0_0 pz0_5 pz0_6 pz0_7 pz0_8 pz0_9 pz0_10 pz0_11 pz0_12 pz0_13 pz0_14 pz0_18 pz0_19 pz0_22 pz0_23 pz0_29 fz3 bpz0_5 bpz0_6 bpz0_7 bpz0_8 bpz0_10 bpz0_11 bpz0_12 bpz0_13 bpz0_14 bpz0_18 bpz0_22 bpz0_29 hf0) mt_X10_eats q_6_139 ⟨Nat.le_of_ble_eq_true rfl, Nat.le_of_ble_eq_true rfl⟩ hK hP hD hS hA hE [1, 2] rfl rfl 1 rfl rfl rfl rfl hl.1 rfl (Nat.le_of_ble_eq_true rfl) dX10_readFlag_2 ⟨Nat.le_of_ble_eq_true rfl, Nat.le_of_ble_eq_true rfl⟩) hP hD hS hA [1, 2] [0] rfl rfl rfl (by decide) (fun r_1 w H locs hw hP hD hS => ?_)
  obtain ⟨v_2, v_3, v_4, v_5, bv_2, bv_3, bv_5, br_1, g_6, g_7, g_8, g_9, rfl⟩ := hw
  have hP : va_P V.1 vwCl [(z 4, aI V 1025 fz4), (z 0, .inr (10, mo z pz0_0 pz0_5 v_2 v_3 pz0_8 v_4 v_5 pz0_11 pz0_12 pz0_13 pz0_14 pz0_18 pz0_19 pz0_22 pz0_23 pz0_29)), (z 3, aI V 900 fz3)] H := hP
  have hD : va_D A [(z 4, aI V 1025 fz4), (z 0, .inr (10, mo z pz0_0 pz0_5 v_2 v_3 pz0_8 v_4 v_5 pz0_11 pz0_12 pz0_13 pz0_14 pz0_18 pz0_19 pz0_22 pz0_23 pz0_29)), (z 3, aI V 900 fz3)] := hD
  refine lv_if_eq (tgt := 27) hx hb dX10_readFlag_5 (by decide) (fun c_10 => ?_) (fun c_10 => ?_)
  · have b_11 : iv 0 0 r_1 := iv_q c_10 (iv_c (0 : Int32) (a := 0) (b := 0) (by decide))
    refine lv_aload_n hx hb dX10_readFlag_27 rfl (lv_at hl 0 rfl) ?_
    refine lv_bipush (v := 6) hx hb dX10_readFlag_28 (by decide) ?_
    refine jnI (wr := [(z 4, aI V 1025 fz4)]) (rnV (rest := []) ⟨hx, hb, hml, hown, hg⟩ (k_X10_eats_17 l V z pz0_0 pz0_5 v_2 v_3 pz0_8 v_4 v_5 pz0_11 pz0_12 pz0_13 pz0_14 pz0_18 pz0_19 pz0_22 pz0_23 pz0_29 fz3 bpz0_5 bv_2 bv_3 bpz0_8 bv_5 bpz0_11 bpz0_12 bpz0_13 bpz0_14 bpz0_18 bpz0_22 bpz0_29 g_6) mt_X10_eats q_6_139 ⟨Nat.le_of_ble_eq_true rfl, Nat.le_of_ble_eq_true rfl⟩ hK hP hD hS hA hE [1, 2] rfl rfl 1 rfl rfl rfl rfl hl.1 rfl (Nat.le_of_ble_eq_true rfl) dX10_readFlag_30 ⟨Nat.le_of_ble_eq_true rfl, Nat.le_of_ble_eq_true rfl⟩) hP hD hS hA [1, 2] [0] rfl rfl rfl (by decide) (fun r_12 w H locs hw hP hD hS => ?_)
    obtain ⟨v_13, v_14, v_15, v_16, bv_13, bv_14, bv_16, br_12, g_17, g_18, g_19, g_20, rfl⟩ := hw
    have hP : va_P V.1 vwCl [(z 4, aI V 1025 fz4), (z 0, .inr (10, mo z pz0_0 pz0_5 v_13 v_14 pz0_8 v_15 v_16 pz0_11 pz0_12 pz0_13 pz0_14 pz0_18 pz0_19 pz0_22 pz0_23 pz0_29)), (z 3, aI V 900 fz3)] H := hP
    have hD : va_D A [(z 4, aI V 1025 fz4), (z 0, .inr (10, mo z pz0_0 pz0_5 v_13 v_14 pz0_8 v_15 v_16 pz0_11 pz0_12 pz0_13 pz0_14 pz0_18 pz0_19 pz0_22 pz0_23 pz0_29)), (z 3, aI V 900 fz3)] := hD
    refine lv_if_eq (tgt := 52) hx hb dX10_readFlag_33 (by decide) (fun c_21 => ?_) (fun c_21 => ?_)
    · have b_22 : iv 0 0 r_12 := iv_q c_21 (iv_c (0 : Int32) (a := 0) (b := 0) (by decide))
      refine lv_iconst (v := 0) hx hb dX10_readFlag_52 (by decide) ?_
      exact fiZ rfl hx hb hr hlk hK hP hD hS dX10_readFlag_53 (Nat.le_of_ble_eq_true rfl) (Nat.le_of_ble_eq_true rfl) (⟨fz4, v_13, v_14, v_15, v_16, pz0_11, pz0_12, tfz4, bv_13, bv_14, bv_16, bpz0_11, bpz0_12, (iv_c (0 : Int32) (by decide)), g_17, (PS_a hf1 (fun q9 => q9) (by have z_0 := g_7; have z_1 := g_18;have y_0 := hf0.1; have y_1 := g_6.1; have y_2 := g_17.1; omega)), (by have z_0 := g_7; have z_1 := g_18;have y_0 := hf0.1; have y_1 := g_6.1; have y_2 := g_17.1; omega), (fun q9 => q9), (fun q9 => absurd q9 (by decide)), (fun q9 => absurd q9 (by decide)), rfl, rfl⟩)
    · have b_23 : iv 1 1 r_12 := iv_n0 c_21 br_12 (iv_c (0 : Int32) (a := 0) (b := 0) (by decide)) (by decide)
      have c_24 : pz0_11 = 0 := (g_19 (iv_eqp b_23 (iv_c (1 : Int32) (by decide))))
      have b_25 : iv 0 0 pz0_11 := iv_q c_24 (iv_c (0 : Int32) (a := 0) (b := 0) (by decide))
      refine lv_aload_n hx hb dX10_readFlag_36 rfl (lv_at hl 0 rfl) ?_
      refine va_get (ci := 10) (v := .ref (z 4)) (C := RX10) (T := TX10) (N := 40) hx hb hg inX10 hown hK hP 1 rfl rfl 4 (by decide) (hg _ q_5_228) (fun _ h9 => h9) rfl dX10_readFlag_37 ?_
      refine lv_bipush (v := 50) hx hb dX10_readFlag_40 (by decide) ?_
      refine lv_dup2_11 hx hb dX10_readFlag_42 rfl rfl ?_
      refine va_iald hx hb hK hP 0 0 rfl rfl (vin (by decide +kernel)) dX10_readFlag_43 ?_
      refine lv_topi (fun x_26 ex_26 => ?_)
      refine lv_iconst (v := 1) hx hb dX10_readFlag_44 (by decide) ?_
      refine lv_iload_n hx hb dX10_readFlag_45 rfl (lv_at hl 1 rfl) ?_
      refine lv_ishl hx hb dX10_readFlag_46 ?_
      refine lv_topi (fun x_27 ex_27 => ?_)
      have bx_27 : iv 1 8 x_27 := by rw [ex_27]; exact iv_shl1 ba1 (by decide)
      refine lv_ior hx hb dX10_readFlag_47 ?_
      refine lv_topi (fun x_28 ex_28 => ?_)
      refine va_iast hx hb hK hP hD hS 0 0 rfl rfl (vin (by decide +kernel)) dX10_readFlag_48 (fun H locs hP hD hS => ?_)
      obtain ⟨f_29, ef_29, tf_29, hP, hD⟩ : ∃ f_29 : Nat → Int32, f_29 = (upd fz4 (50 : Int32).toNatClampNeg x_28) ∧ (ivT tF f_29) ∧ va_P V.1 vwCl [(z 4, aI V 1025 f_29), (z 0, .inr (10, mo z pz0_0 pz0_5 v_13 v_14 pz0_8 v_15 v_16 pz0_11 pz0_12 pz0_13 pz0_14 pz0_18 pz0_19 pz0_22 pz0_23 pz0_29)), (z 3, aI V 900 fz3)] H ∧ va_D A [(z 4, aI V 1025 f_29), (z 0, .inr (10, mo z pz0_0 pz0_5 v_13 v_14 pz0_8 v_15 v_16 pz0_11 pz0_12 pz0_13 pz0_14 pz0_18 pz0_19 pz0_22 pz0_23 pz0_29)), (z 3, aI V 900 fz3)] := ⟨_, rfl, upT (lo := (-2147483648)) (hi := 2147483647) (a := 50) (n := 1) tfz4 (iv_c (50 : Int32) (a := 50) (b := 50) (by decide)) (by decide) (iv_top x_28) (by decide +kernel), hP, hD⟩
      refine lv_goto (tgt := 54) hx hb dX10_readFlag_49 (by decide) ?_
      refine lv_aload_n hx hb dX10_readFlag_54 rfl (lv_at hl 0 rfl) ?_
      refine va_get (ci := 10) (v := .int pz0_11) (C := RX10) (T := TX10) (N := 40) hx hb hg inX10 hown hK hP 1 rfl rfl 11 (by decide) (hg _ q_5_235) (fun _ h9 => h9) rfl dX10_readFlag_55 ?_
      refine lv_if_ne (tgt := 65) hx hb dX10_readFlag_58 (by decide) (fun c_31 => absurd c_24 c_31) (fun _ => ?_)
      refine lv_iconst (v := 1) hx hb dX10_readFlag_61 (by decide) ?_
      refine lv_goto (tgt := 66) hx hb dX10_readFlag_62 (by decide) ?_
      exact fiZ rfl hx hb hr hlk hK hP hD hS dX10_readFlag_66 (Nat.le_of_ble_eq_true rfl) (Nat.le_of_ble_eq_true rfl) (⟨f_29, v_13, v_14, v_15, v_16, pz0_11, pz0_12, tf_29, bv_13, bv_14, bv_16, (iv_w b_25 (by decide)), bpz0_12, (iv_c (1 : Int32) (by decide)), g_17, (PS_up (lo := 0) (hi := 15) (c := 0) (k := 1) (i := 50) (n := 1) (PS_a hf1 (fun q9 => q9) (by have z_0 := g_7; have z_1 := g_18;have y_0 := hf0.1; have y_1 := g_6.1; have y_2 := g_17.1; omega)) ef_29 (show (50 : Int32).toInt = 0 + 1 * (50 : Int32).toInt from (by omega)) (iv_c (50 : Int32) (a := 50) (b := 50) (by decide)) (by decide) (by decide +kernel) (fun q7 => by rw [ex_28]; exact iv_or15 (show iv 0 15 x_26 from (by have q8 := ((PS_a hf1 (fun q9 => q9) (by have z_0 := g_7; have z_1 := g_18;have y_0 := hf0.1; have y_1 := g_6.1; have y_2 := g_17.1; omega)) q7).1 50 (by decide); rw [ex_26]; exact q8)) bx_27 (by decide)) (iv_c (50 : Int32) (a := 50) (b := 50) (by decide)) (by decide)), (by have z_0 := g_7; have z_1 := g_18;have y_0 := hf0.1; have y_1 := g_6.1; have y_2 := g_17.1; omega), (fun q9 => q9), (fun _ => iv_eqp b_25 (iv_c (0 : Int32) (by decide))), (fun _ => by have z_0 := g_7; have z_1 := g_18; have z_2 := (g_20 (iv_eqp b_23 (iv_c (1 : Int32) (by decide)))); omega), (show f_29 (1 : Int32).toNatClampNeg = fz4 (1 : Int32).toNatClampNeg from by rw [ef_29]; exact upd_ne (cl_ne (iv_c (1 : Int32) (a := 1) (b := 1) (by decide)) (iv_c (50 : Int32) (a := 50) (b := 50) (by decide)) (by decide))), rfl⟩)
  · have b_32 : iv 1 1 r_1 := iv_n0 c_10 br_1 (iv_c (0 : Int32) (a := 0) (b := 0) (by decide)) (by decide)
    have c_33 : pz0_11 = 0 := (g_8 (iv_eqp b_32 (iv_c (1 : Int32) (by decide))))
    have b_34 : iv 0 0 pz0_11 := iv_q c_33 (iv_c (0 : Int32) (a := 0) (b := 0) (by decide))
    refine lv_aload_n hx hb dX10_readFlag_8 rfl (lv_at hl 0 rfl) ?_
    refine va_get (ci := 10) (v := .ref (z 4)) (C := RX10) (T := TX10) (N := 40) hx hb hg inX10 hown hK hP 1 rfl rfl 4 (by decide) (hg _ q_5_228) (fun _ h9 => h9) rfl dX10_readFlag_9 ?_
    refine lv_bipush (v := 14) hx hb dX10_readFlag_12 (by decide) ?_
    refine lv_iload_n hx hb dX10_readFlag_14 rfl (lv_at hl 1 rfl) ?_
    refine lv_iadd hx hb dX10_readFlag_15 ?_
    refine lv_topi (fun x_35 ex_35 => ?_)
    have bx_35 : iv 14 17 x_35 := by rw [ex_35]; exact iv_add (iv_c (14 : Int32) (a := 14) (b := 14) (by decide)) ba1 (by decide)
    refine lv_aload_n hx hb dX10_readFlag_16 rfl (lv_at hl 0 rfl) ?_
    refine lv_iconst (v := 0) hx hb dX10_readFlag_17 (by decide) ?_
    refine lv_bipush (v := 9) hx hb dX10_readFlag_18 (by decide) ?_
    refine jnI (wr := [(z 4, aI V 1025 fz4)]) (rnV (rest := [.int x_35, .ref (z 4)]) ⟨hx, hb, hml, hown, hg⟩ (k_X10_takesOne_0 l V z 0 9 pz0_0 pz0_5 v_2 v_3 pz0_8 v_4 v_5 pz0_11 pz0_12 pz0_13 pz0_14 pz0_18 pz0_19 pz0_22 pz0_23 pz0_29 fz3 bpz0_5 bv_2 bv_3 bpz0_8 bv_5 (iv_w b_34 (by decide)) bpz0_12 bpz0_13 bpz0_14 bpz0_18 bpz0_22 bpz0_29 g_6) mt_X10_takesOne q_6_155 ⟨Nat.le_of_ble_eq_true rfl, Nat.le_of_ble_eq_true rfl⟩ hK hP hD hS hA hE [1, 2] rfl rfl 1 rfl rfl rfl rfl hl.1 rfl (Nat.le_of_ble_eq_true rfl) dX10_readFlag_20 ⟨Nat.le_of_ble_eq_true rfl, Nat.le_of_ble_eq_true rfl⟩) hP hD hS hA [1, 2] [0] rfl rfl rfl (by decide) (fun r_36 w H locs hw hP hD hS => ?_)
    obtain ⟨v_37, v_38, v_39, v_40, v_41, v_42, bv_37, bv_38, bv_40, bv_41, bv_42, br_36, g_43, g_44, g_45, g_46, rfl⟩ := hw
    have hP : va_P V.1 vwCl [(z 4, aI V 1025 fz4), (z 0, .inr (10, mo z pz0_0 pz0_5 v_37 v_38 pz0_8 v_39 v_40 v_41 v_42 pz0_13 pz0_14 pz0_18 pz0_19 pz0_22 pz0_23 pz0_29)), (z 3, aI V 900 fz3)] H := hP
    have hD : va_D A [(z 4, aI V 1025 fz4), (z 0, .inr (10, mo z pz0_0 pz0_5 v_37 v_38 pz0_8 v_39 v_40 v_41 v_42 pz0_13 pz0_14 pz0_18 pz0_19 pz0_22 pz0_23 pz0_29)), (z 3, aI V 900 fz3)] := hD
    refine va_iast hx hb hK hP hD hS 0 0 rfl rfl (iv_in bx_35 (by decide)) dX10_readFlag_23 (fun H locs hP hD hS => ?_)
    obtain ⟨f_47, ef_47, tf_47, hP, hD⟩ : ∃ f_47 : Nat → Int32, f_47 = (upd fz4 (x_35 : Int32).toNatClampNeg r_36) ∧ (ivT tF f_47) ∧ va_P V.1 vwCl [(z 4, aI V 1025 f_47), (z 0, .inr (10, mo z pz0_0 pz0_5 v_37 v_38 pz0_8 v_39 v_40 v_41 v_42 pz0_13 pz0_14 pz0_18 pz0_19 pz0_22 pz0_23 pz0_29)), (z 3, aI V 900 fz3)] H ∧ va_D A [(z 4, aI V 1025 f_47), (z 0, .inr (10, mo z pz0_0 pz0_5 v_37 v_38 pz0_8 v_39 v_40 v_41 v_42 pz0_13 pz0_14 pz0_18 pz0_19 pz0_22 pz0_23 pz0_29)), (z 3, aI V 900 fz3)] := ⟨_, rfl, upT (lo := (-2147483648)) (hi := 2147483647) (a := 14) (n := 4) tfz4 bx_35 (by decide) (iv_w br_36 (by decide)) (by decide +kernel), hP, hD⟩
    refine lv_goto (tgt := 54) hx hb dX10_readFlag_24 (by decide) ?_
    refine lv_aload_n hx hb dX10_readFlag_54 rfl (lv_at hl 0 rfl) ?_
    refine va_get (ci := 10) (v := .int v_41) (C := RX10) (T := TX10) (N := 40) hx hb hg inX10 hown hK hP 1 rfl rfl 11 (by decide) (hg _ q_5_235) (fun _ h9 => h9) rfl dX10_readFlag_55 ?_
    refine lv_if_ne (tgt := 65) hx hb dX10_readFlag_58 (by decide) (fun c_48 => ?_) (fun c_48 => ?_)
    · have b_49 : iv 1 4 v_41 := iv_n0 c_48 bv_41 (iv_c (0 : Int32) (a := 0) (b := 0) (by decide)) (by decide)
      refine lv_iconst (v := 0) hx hb dX10_readFlag_65 (by decide) ?_
      exact fiZ rfl hx hb hr hlk hK hP hD hS dX10_readFlag_66 (Nat.le_of_ble_eq_true rfl) (Nat.le_of_ble_eq_true rfl) (⟨f_47, v_37, v_38, v_39, v_40, v_41, v_42, tf_47, bv_37, bv_38, bv_40, (iv_w b_49 (by decide)), bv_42, (iv_c (0 : Int32) (by decide)), g_43, (PS_f b_49 (by decide)), (by have z_0 := g_7; have z_1 := g_44;have y_0 := hf0.1; have y_1 := g_6.1; have y_2 := g_43.1; omega), (fun q9 => ((fun q8 => absurd q8 (iv_nz b_49 (by decide))) q9)), (fun q9 => absurd q9 (by decide)), (fun q9 => absurd q9 (by decide)), (show f_47 (1 : Int32).toNatClampNeg = fz4 (1 : Int32).toNatClampNeg from by rw [ef_47]; exact upd_ne (cl_ne (iv_c (1 : Int32) (a := 1) (b := 1) (by decide)) bx_35 (by decide))), rfl⟩)
    · have b_50 : iv 0 0 v_41 := iv_q c_48 (iv_c (0 : Int32) (a := 0) (b := 0) (by decide))
      refine lv_iconst (v := 1) hx hb dX10_readFlag_61 (by decide) ?_
      refine lv_goto (tgt := 66) hx hb dX10_readFlag_62 (by decide) ?_
      exact fiZ rfl hx hb hr hlk hK hP hD hS dX10_readFlag_66 (Nat.le_of_ble_eq_true rfl) (Nat.le_of_ble_eq_true rfl) (⟨f_47, v_37, v_38, v_39, v_40, v_41, v_42, tf_47, bv_37, bv_38, bv_40, (iv_w b_50 (by decide)), bv_42, (iv_c (1 : Int32) (by decide)), g_43, (PS_up (lo := 0) (hi := 9) (c := 14) (k := 1) (i := 0) (n := 4) (PS_a hf1 (fun q9 => ((g_45) q9)) (by have z_0 := g_7; have z_1 := g_44;have y_0 := hf0.1; have y_1 := g_6.1; have y_2 := g_43.1; omega)) ef_47 (show (x_35 : Int32).toInt = 14 + 1 * (a1 : Int32).toInt from (by have q_x_35 := toInt_add ex_35 (iv_c (14 : Int32) (a := 14) (b := 14) (by decide)) ba1 (by decide); have k_x_35 : (14 : Int32).toInt = 14 := (by decide); omega)) ba1 (by decide) (by decide +kernel) (fun q7 => by have q8 := g_46 ((fun q9 => q9) q7); have z_0 : (0 : Int32).toInt = 0 := (by decide); have z_9 : (9 : Int32).toInt = 9 := (by decide); exact ⟨by omega, by omega⟩) bx_35 (by decide)), (by have z_0 := g_7; have z_1 := g_44;have y_0 := hf0.1; have y_1 := g_6.1; have y_2 := g_43.1; omega), (fun q9 => ((g_45) q9)), (fun _ => iv_eqp b_50 (iv_c (0 : Int32) (by decide))), (fun _ => by have z_0 := g_7; have z_1 := g_44; have z_2 := (g_9 (iv_eqp b_32 (iv_c (1 : Int32) (by decide)))); omega), (show f_47 (1 : Int32).toNatClampNeg = fz4 (1 : Int32).toNatClampNeg from by rw [ef_47]; exact upd_ne (cl_ne (iv_c (1 : Int32) (a := 1) (b := 1) (by decide)) bx_35 (by decide))), rfl⟩)
theorem dX10_readHill_0 : decode cX10_readHill 0 = .ok (.aload_n 0, 1) := by decide +kernel
theorem dX10_readHill_1 : decode cX10_readHill 1 = .ok (.getfield 24, 3) := by decide +kernel
theorem dX10_readHill_4 : decode cX10_readHill 4 = .ok (.iconst 1, 1) := by decide +kernel
theorem dX10_readHill_5 : decode cX10_readHill 5 = .ok (.iaload, 1) := by decide +kernel
theorem dX10_readHill_6 : decode cX10_readHill 6 = .ok (.istore_n 1, 1) := by decide +kernel
theorem dX10_readHill_7 : decode cX10_readHill 7 = .ok (.iload_n 1, 1) := by decide +kernel
theorem dX10_readHill_8 : decode cX10_readHill 8 = .ok (.iconst 4, 1) := by decide +kernel
theorem dX10_readHill_9 : decode cX10_readHill 9 = .ok (.if_icmp .ne 8, 3) := by decide +kernel
theorem dX10_readHill_17 : decode cX10_readHill 17 = .ok (.aload_n 0, 1) := by decide +kernel
theorem dX10_readHill_18 : decode cX10_readHill 18 = .ok (.getfield 143, 3) := by decide +kernel
theorem dX10_readHill_21 : decode cX10_readHill 21 = .ok (.ifCond .eq 4, 3) := by decide +kernel
theorem dX10_readHill_25 : decode cX10_readHill 25 = .ok (.aload_n 0, 1) := by decide +kernel
theorem dX10_readHill_26 : decode cX10_readHill 26 = .ok (.invokevirtual 152, 3) := by decide +kernel
theorem dX10_readHill_29 : decode cX10_readHill 29 = .ok (.aload_n 0, 1) := by decide +kernel
theorem dX10_readHill_30 : decode cX10_readHill 30 = .ok (.getfield 24, 3) := by decide +kernel
theorem dX10_readHill_33 : decode cX10_readHill 33 = .ok (.bipush 46, 2) := by decide +kernel
theorem dX10_readHill_35 : decode cX10_readHill 35 = .ok (.iload_n 1, 1) := by decide +kernel
theorem dX10_readHill_36 : decode cX10_readHill 36 = .ok (.iadd, 1) := by decide +kernel
theorem dX10_readHill_37 : decode cX10_readHill 37 = .ok (.aload_n 0, 1) := by decide +kernel
theorem dX10_readHill_38 : decode cX10_readHill 38 = .ok (.iconst 3, 1) := by decide +kernel
theorem dX10_readHill_39 : decode cX10_readHill 39 = .ok (.iconst 0, 1) := by decide +kernel
theorem dX10_readHill_40 : decode cX10_readHill 40 = .ok (.iconst 4, 1) := by decide +kernel
theorem dX10_readHill_41 : decode cX10_readHill 41 = .ok (.invokevirtual 200, 3) := by decide +kernel
theorem dX10_readHill_44 : decode cX10_readHill 44 = .ok (.iastore, 1) := by decide +kernel
theorem dX10_readHill_45 : decode cX10_readHill 45 = .ok (.aload_n 0, 1) := by decide +kernel
theorem dX10_readHill_46 : decode cX10_readHill 46 = .ok (.getfield 24, 3) := by decide +kernel
theorem dX10_readHill_49 : decode cX10_readHill 49 = .ok (.bipush 10, 2) := by decide +kernel
theorem dX10_readHill_51 : decode cX10_readHill 51 = .ok (.iload_n 1, 1) := by decide +kernel
theorem dX10_readHill_52 : decode cX10_readHill 52 = .ok (.iadd, 1) := by decide +kernel
theorem dX10_readHill_53 : decode cX10_readHill 53 = .ok (.aload_n 0, 1) := by decide +kernel
theorem dX10_readHill_54 : decode cX10_readHill 54 = .ok (.iconst 4, 1) := by decide +kernel
theorem dX10_readHill_55 : decode cX10_readHill 55 = .ok (.iconst 0, 1) := by decide +kernel
theorem dX10_readHill_56 : decode cX10_readHill 56 = .ok (.bipush 9, 2) := by decide +kernel
theorem dX10_readHill_58 : decode cX10_readHill 58 = .ok (.invokevirtual 200, 3) := by decide +kernel
theorem dX10_readHill_61 : decode cX10_readHill 61 = .ok (.iastore, 1) := by decide +kernel
theorem dX10_readHill_62 : decode cX10_readHill 62 = .ok (.aload_n 0, 1) := by decide +kernel
theorem dX10_readHill_63 : decode cX10_readHill 63 = .ok (.getfield 24, 3) := by decide +kernel
theorem dX10_readHill_66 : decode cX10_readHill 66 = .ok (.bipush 14, 2) := by decide +kernel
theorem dX10_readHill_68 : decode cX10_readHill 68 = .ok (.iload_n 1, 1) := by decide +kernel
theorem dX10_readHill_69 : decode cX10_readHill 69 = .ok (.iadd, 1) := by decide +kernel
theorem dX10_readHill_70 : decode cX10_readHill 70 = .ok (.iconst 1, 1) := by decide +kernel
theorem dX10_readHill_71 : decode cX10_readHill 71 = .ok (.iastore, 1) := by decide +kernel
theorem dX10_readHill_72 : decode cX10_readHill 72 = .ok (.aload_n 0, 1) := by decide +kernel
theorem dX10_readHill_73 : decode cX10_readHill 73 = .ok (.getfield 143, 3) := by decide +kernel
theorem dX10_readHill_76 : decode cX10_readHill 76 = .ok (.ifCond .ne 14, 3) := by decide +kernel
theorem dX10_readHill_90 : decode cX10_readHill 90 = .ok (.aload_n 0, 1) := by decide +kernel
theorem dX10_readHill_91 : decode cX10_readHill 91 = .ok (.getfield 143, 3) := by decide +kernel
theorem dX10_readHill_94 : decode cX10_readHill 94 = .ok (.ifCond .ne 13, 3) := by decide +kernel
theorem dX10_readHill_107 : decode cX10_readHill 107 = .ok (.return_, 1) := by decide +kernel
theorem dX10_readHill_79 : decode cX10_readHill 79 = .ok (.aload_n 0, 1) := by decide +kernel
theorem dX10_readHill_80 : decode cX10_readHill 80 = .ok (.iload_n 1, 1) := by decide +kernel
theorem q_6_174 : Cond.code yX10_readFlag prog_12_method_26_code 2 (some FieldType.boolean) ∈ gw := gw_6 (i := 174) (rfl) rfl
theorem q_6_173 : Cond.instanceMethod yX10_readFlag ∈ gw := gw_6 (i := 173) (by decide +kernel) rfl
theorem q_s_65 : Cond.selects "BeaconDelayModel" yX10_readFlag yX10_readFlag ∈ gw := gw_s (i := 65) (by decide +kernel) rfl
theorem mt_X10_readFlag : MtV yX10_readFlag cX10_readFlag 2 (some .boolean) 1 := ⟨⟨q_6_174, q_1_9, by decide +kernel, by decide +kernel, by decide +kernel⟩, q_6_173, q_s_65⟩
theorem q_6_171 : Cond.methodLink "BeaconDelayModel" 204 yX10_readFlag ∈ gw := gw_6 (i := 171) (by decide +kernel) rfl
theorem dX10_readHill_81 : decode cX10_readHill 81 = .ok (.invokevirtual 204, 3) := by decide +kernel
theorem dX10_readHill_84 : decode cX10_readHill 84 = .ok (.ifCond .eq 6, 3) := by decide +kernel
theorem dX10_readHill_97 : decode cX10_readHill 97 = .ok (.aload_n 0, 1) := by decide +kernel
theorem dX10_readHill_98 : decode cX10_readHill 98 = .ok (.getfield 24, 3) := by decide +kernel
theorem dX10_readHill_101 : decode cX10_readHill 101 = .ok (.iconst 1, 1) := by decide +kernel
theorem dX10_readHill_102 : decode cX10_readHill 102 = .ok (.dup2, 1) := by decide +kernel
theorem dX10_readHill_103 : decode cX10_readHill 103 = .ok (.iaload, 1) := by decide +kernel
theorem dX10_readHill_104 : decode cX10_readHill 104 = .ok (.iconst 1, 1) := by decide +kernel
theorem dX10_readHill_105 : decode cX10_readHill 105 = .ok (.iadd, 1) := by decide +kernel
theorem dX10_readHill_106 : decode cX10_readHill 106 = .ok (.iastore, 1) := by decide +kernel
theorem dX10_readHill_87 : decode cX10_readHill 87 = .ok (.goto (-15), 3) := by decide +kernel
theorem dX10_readHill_24 : decode cX10_readHill 24 = .ok (.return_, 1) := by decide +kernel
theorem dX10_readHill_12 : decode cX10_readHill 12 = .ok (.aload_n 0, 1) := by decide +kernel
theorem dX10_readHill_13 : decode cX10_readHill 13 = .ok (.iconst 4, 1) := by decide +kernel
theorem dX10_readHill_14 : decode cX10_readHill 14 = .ok (.invokevirtual 155, 3) := by decide +kernel
set_option maxHeartbeats 4000000 in
set_option maxRecDepth 100000 in
theorem k_X10_readHill_0 (l : Launch) (V : GV) (z : Nat → Nat) (fz4 : Nat → Int32) (fz3 : Nat → Int32) (pz0_0 : Int32) (pz0_5 : Int32) (pz0_6 : Int32) (pz0_7 : Int32) (pz0_8 : Int32) (pz0_9 : Int32) (pz0_10 : Int32) (pz0_11 : Int32) (pz0_12 : Int32) (pz0_13 : Int32) (pz0_14 : Int32) (pz0_18 : Int32) (pz0_19 : Int32) (pz0_22 : Int32) (pz0_23 : Int32) (pz0_29 : Int32) (tfz4 : ivT tF fz4) (bpz0_5 : iv 0 900 pz0_5) (bpz0_6 : iv 0 900 pz0_6) (bpz0_7 : iv 0 900 pz0_7) (bpz0_8 : iv 0 900 pz0_8) (bpz0_10 : iv 0 999 pz0_10) (bpz0_11 : iv 0 4 pz0_11) (bpz0_12 : iv 0 900 pz0_12) (bpz0_13 : iv 0 4 pz0_13) (bpz0_14 : iv (-1) 900 pz0_14) (bpz0_18 : iv 0 2 pz0_18) (bpz0_22 : iv 0 9999 pz0_22) (bpz0_29 : iv 0 10000 pz0_29) (hf0 : PT pz0_6 pz0_7 pz0_8 pz0_9) (hf1 : PS pz0_11 pz0_6 fz4) : Ct l V yX10_readHill (.code yX10_readHill cX10_readHill 2 none) 9 [.ref (z 0)] [(z 4, aI V 1025 fz4), (z 3, aI V 900 fz3), (z 0, .inr (10, mo z pz0_0 pz0_5 pz0_6 pz0_7 pz0_8 pz0_9 pz0_10 pz0_11 pz0_12 pz0_13 pz0_14 pz0_18 pz0_19 pz0_22 pz0_23 pz0_29))] 0 0 (QV V (fun (w : va_W) => ∃ (g0 : Nat → Int32) (v1 : Int32) (v2 : Int32) (v3 : Int32) (v4 : Int32) (v5 : Int32) (v6 : Int32), (ivT tF g0) ∧ iv 0 900 v1 ∧ iv 0 900 v2 ∧ iv 0 999 v4 ∧ iv 0 4 v5 ∧ iv 0 900 v6 ∧ (PT v1 v2 pz0_8 v3) ∧ (PS v5 v1 g0) ∧ ((pz0_6 : Int32).toInt ≤ (v1 : Int32).toInt) ∧ (v5 = 0 → pz0_11 = 0) ∧ w = [(z 4, aI V 1025 g0), (z 3, aI V 900 fz3), (z 0, .inr (10, mo z pz0_0 pz0_5 v1 v2 pz0_8 v3 v4 v5 v6 pz0_13 pz0_14 pz0_18 pz0_19 pz0_22 pz0_23 pz0_29))])) := by
  refine Ct.of (by decide) (Nat.le_of_ble_eq_true rfl) (fun p e s m below meth c A ls hx hb hr hml hown hlk hnm hg hP hK hD hE hA hS hl => ?_)
  have hl : lv_has ls 2 [(0, .ref (z 0))] := hl
  refine lv_aload_n hx hb dX10_readHill_0 rfl (lv_at hl 0 rfl) ?_
  refine va_get (ci := 10) (v := .ref (z 4)) (C := RX10) (T := TX10) (N := 40) hx hb hg inX10 hown hK hP 2 rfl rfl 4 (by decide) (hg _ q_5_228) (fun _ h9 => h9) rfl dX10_readHill_1 ?_
  refine lv_iconst (v := 1) hx hb dX10_readHill_4 (by decide) ?_
  refine va_iald hx hb hK hP 0 0 rfl rfl (vin (by decide +kernel)) dX10_readHill_5 ?_
  refine lv_topi (fun x_1 ex_1 => ?_)
  have bx_1 : iv 0 4 x_1 := by rw [ex_1]; exact rdT (a := 1) (n := 1) tfz4 (iv_c (1 : Int32) (a := 1) (b := 1) (by decide)) (by decide) (by decide +kernel)
  refine lv_istore_n (lv' := [(1, .int x_1), (0, .ref (z 0))]) hx hb dX10_readHill_6 rfl hl (by decide) rfl (fun ls hl => ?_)
  refine lv_iload_n hx hb dX10_readHill_7 rfl (lv_at hl 0 rfl) ?_
  refine lv_iconst (v := 4) hx hb dX10_readHill_8 (by decide) ?_
  refine lv_icmp_ne (tgt := 17) hx hb dX10_readHill_9 (by decide) (fun c_2 => ?_) (fun c_2 => ?_)
  · have b_3 : iv 0 3 x_1 := iv_n1 c_2 bx_1 (iv_c (4 : Int32) (a := 4) (b := 4) (by decide)) (by decide)
    refine lv_aload_n hx hb dX10_readHill_17 rfl (lv_at hl 1 rfl) ?_
    refine va_get (ci := 10) (v := .int pz0_11) (C := RX10) (T := TX10) (N := 40) hx hb hg inX10 hown hK hP 2 rfl rfl 11 (by decide) (hg _ q_5_235) (fun _ h9 => h9) rfl dX10_readHill_18 ?_
    refine lv_if_eq (tgt := 25) hx hb dX10_readHill_21 (by decide) (fun c_4 => ?_) (fun c_4 => ?_)
    · have b_5 : iv 0 0 pz0_11 := iv_q c_4 (iv_c (0 : Int32) (a := 0) (b := 0) (by decide))
      refine lv_aload_n hx hb dX10_readHill_25 rfl (lv_at hl 1 rfl) ?_
      refine jnV (wr := [(z 4, aI V 1025 fz4)]) (rnV (rest := []) ⟨hx, hb, hml, hown, hg⟩ (k_X10_next_0 l V z pz0_0 pz0_5 pz0_6 pz0_7 pz0_8 pz0_9 pz0_10 pz0_11 pz0_12 pz0_13 pz0_14 pz0_18 pz0_19 pz0_22 pz0_23 pz0_29 fz3 bpz0_5 bpz0_6 bpz0_7 bpz0_8 bpz0_10 (iv_w b_5 (by decide)) bpz0_12 bpz0_13 bpz0_14 bpz0_18 bpz0_22 bpz0_29 hf0.2.1) mt_X10_next q_6_117 ⟨Nat.le_of_ble_eq_true rfl, Nat.le_of_ble_eq_true rfl⟩ hK hP hD hS hA hE [2, 1] rfl rfl 2 rfl rfl rfl rfl hl.1 rfl (Nat.le_of_ble_eq_true rfl) dX10_readHill_26 ⟨Nat.le_of_ble_eq_true rfl, Nat.le_of_ble_eq_true rfl⟩) hP hD hS hA [2, 1] [0] rfl rfl rfl (by decide) (fun  w H locs hw hP hD hS => ?_)
      obtain ⟨v_6, v_7, v_8, v_9, bv_6, bv_7, bv_9, g_10, g_11, rfl⟩ := hw
      have hP : va_P V.1 vwCl [(z 4, aI V 1025 fz4), (z 0, .inr (10, mo z pz0_0 pz0_5 v_6 v_7 pz0_8 v_8 v_9 pz0_11 pz0_12 pz0_13 pz0_14 pz0_18 pz0_19 pz0_22 pz0_23 pz0_29)), (z 3, aI V 900 fz3)] H := hP
      have hD : va_D A [(z 4, aI V 1025 fz4), (z 0, .inr (10, mo z pz0_0 pz0_5 v_6 v_7 pz0_8 v_8 v_9 pz0_11 pz0_12 pz0_13 pz0_14 pz0_18 pz0_19 pz0_22 pz0_23 pz0_29)), (z 3, aI V 900 fz3)] := hD
      refine lv_aload_n hx hb dX10_readHill_29 rfl (lv_at hl 1 rfl) ?_
      refine va_get (ci := 10) (v := .ref (z 4)) (C := RX10) (T := TX10) (N := 40) hx hb hg inX10 hown hK hP 1 rfl rfl 4 (by decide) (hg _ q_5_228) (fun _ h9 => h9) rfl dX10_readHill_30 ?_
      refine lv_bipush (v := 46) hx hb dX10_readHill_33 (by decide) ?_
      refine lv_iload_n hx hb dX10_readHill_35 rfl (lv_at hl 0 rfl) ?_
      refine lv_iadd hx hb dX10_readHill_36 ?_
      refine lv_topi (fun x_12 ex_12 => ?_)
      have bx_12 : iv 46 49 x_12 := by rw [ex_12]; exact iv_add (iv_c (46 : Int32) (a := 46) (b := 46) (by decide)) b_3 (by decide)
      refine lv_aload_n hx hb dX10_readHill_37 rfl (lv_at hl 1 rfl) ?_
      refine lv_iconst (v := 3) hx hb dX10_readHill_38 (by decide) ?_
      refine lv_iconst (v := 0) hx hb dX10_readHill_39 (by decide) ?_
      refine lv_iconst (v := 4) hx hb dX10_readHill_40 (by decide) ?_
      refine jnI (wr := [(z 4, aI V 1025 fz4)]) (rnV (rest := [.int x_12, .ref (z 4)]) ⟨hx, hb, hml, hown, hg⟩ (k_X10_named_3 l V z 0 4 pz0_0 pz0_5 v_6 v_7 pz0_8 v_8 v_9 pz0_11 pz0_12 pz0_13 pz0_14 pz0_18 pz0_19 pz0_22 pz0_23 pz0_29 fz3 bpz0_5 bv_6 bv_7 bpz0_8 bv_9 (iv_w b_5 (by decide)) bpz0_12 bpz0_13 bpz0_14 bpz0_18 bpz0_22 bpz0_29 g_10) mt_X10_named q_6_151 ⟨Nat.le_of_ble_eq_true rfl, Nat.le_of_ble_eq_true rfl⟩ hK hP hD hS hA hE [1, 2] rfl rfl 1 rfl rfl rfl rfl hl.1 rfl (Nat.le_of_ble_eq_true rfl) dX10_readHill_41 ⟨Nat.le_of_ble_eq_true rfl, Nat.le_of_ble_eq_true rfl⟩) hP hD hS hA [1, 2] [0] rfl rfl rfl (by decide) (fun r_13 w H locs hw hP hD hS => ?_)
      obtain ⟨v_14, v_15, v_16, v_17, v_18, v_19, bv_14, bv_15, bv_17, bv_18, bv_19, br_13, g_20, g_21, g_22, g_23, rfl⟩ := hw
      have hP : va_P V.1 vwCl [(z 4, aI V 1025 fz4), (z 0, .inr (10, mo z pz0_0 pz0_5 v_14 v_15 pz0_8 v_16 v_17 v_18 v_19 pz0_13 pz0_14 pz0_18 pz0_19 pz0_22 pz0_23 pz0_29)), (z 3, aI V 900 fz3)] H := hP
      have hD : va_D A [(z 4, aI V 1025 fz4), (z 0, .inr (10, mo z pz0_0 pz0_5 v_14 v_15 pz0_8 v_16 v_17 v_18 v_19 pz0_13 pz0_14 pz0_18 pz0_19 pz0_22 pz0_23 pz0_29)), (z 3, aI V 900 fz3)] := hD
      refine va_iast hx hb hK hP hD hS 0 0 rfl rfl (iv_in bx_12 (by decide)) dX10_readHill_44 (fun H locs hP hD hS => ?_)
      obtain ⟨f_24, ef_24, tf_24, hP, hD⟩ : ∃ f_24 : Nat → Int32, f_24 = (upd fz4 (x_12 : Int32).toNatClampNeg r_13) ∧ (ivT tF f_24) ∧ va_P V.1 vwCl [(z 4, aI V 1025 f_24), (z 0, .inr (10, mo z pz0_0 pz0_5 v_14 v_15 pz0_8 v_16 v_17 v_18 v_19 pz0_13 pz0_14 pz0_18 pz0_19 pz0_22 pz0_23 pz0_29)), (z 3, aI V 900 fz3)] H ∧ va_D A [(z 4, aI V 1025 f_24), (z 0, .inr (10, mo z pz0_0 pz0_5 v_14 v_15 pz0_8 v_16 v_17 v_18 v_19 pz0_13 pz0_14 pz0_18 pz0_19 pz0_22 pz0_23 pz0_29)), (z 3, aI V 900 fz3)] := ⟨_, rfl, upT (lo := (-2147483648)) (hi := 2147483647) (a := 46) (n := 4) tfz4 bx_12 (by decide) (iv_w br_13 (by decide)) (by decide +kernel), hP, hD⟩
      refine lv_aload_n hx hb dX10_readHill_45 rfl (lv_at hl 1 rfl) ?_
      refine va_get (ci := 10) (v := .ref (z 4)) (C := RX10) (T := TX10) (N := 40) hx hb hg inX10 hown hK hP 1 rfl rfl 4 (by decide) (hg _ q_5_228) (fun _ h9 => h9) rfl dX10_readHill_46 ?_
      refine lv_bipush (v := 10) hx hb dX10_readHill_49 (by decide) ?_
      refine lv_iload_n hx hb dX10_readHill_51 rfl (lv_at hl 0 rfl) ?_
      refine lv_iadd hx hb dX10_readHill_52 ?_
      refine lv_topi (fun x_25 ex_25 => ?_)
      have bx_25 : iv 10 13 x_25 := by rw [ex_25]; exact iv_add (iv_c (10 : Int32) (a := 10) (b := 10) (by decide)) b_3 (by decide)
      refine lv_aload_n hx hb dX10_readHill_53 rfl (lv_at hl 1 rfl) ?_
      refine lv_iconst (v := 4) hx hb dX10_readHill_54 (by decide) ?_
      refine lv_iconst (v := 0) hx hb dX10_readHill_55 (by decide) ?_
      refine lv_bipush (v := 9) hx hb dX10_readHill_56 (by decide) ?_
      refine jnI (wr := [(z 4, aI V 1025 f_24)]) (rnV (rest := [.int x_25, .ref (z 4)]) ⟨hx, hb, hml, hown, hg⟩ (k_X10_named_4 l V z 0 9 pz0_0 pz0_5 v_14 v_15 pz0_8 v_16 v_17 v_18 v_19 pz0_13 pz0_14 pz0_18 pz0_19 pz0_22 pz0_23 pz0_29 fz3 bpz0_5 bv_14 bv_15 bpz0_8 bv_17 bv_18 bv_19 bpz0_13 bpz0_14 bpz0_18 bpz0_22 bpz0_29 g_20) mt_X10_named q_6_151 ⟨Nat.le_of_ble_eq_true rfl, Nat.le_of_ble_eq_true rfl⟩ hK hP hD hS hA hE [1, 2] rfl rfl 1 rfl rfl rfl rfl hl.1 rfl (Nat.le_of_ble_eq_true rfl) dX10_readHill_58 ⟨Nat.le_of_ble_eq_true rfl, Nat.le_of_ble_eq_true rfl⟩) hP hD hS hA [1, 2] [0] rfl rfl rfl (by decide) (fun r_26 w H locs hw hP hD hS => ?_)
      obtain ⟨v_27, v_28, v_29, v_30, v_31, v_32, bv_27, bv_28, bv_30, bv_31, bv_32, br_26, g_33, g_34, g_35, g_36, rfl⟩ := hw
      have hP : va_P V.1 vwCl [(z 4, aI V 1025 f_24), (z 0, .inr (10, mo z pz0_0 pz0_5 v_27 v_28 pz0_8 v_29 v_30 v_31 v_32 pz0_13 pz0_14 pz0_18 pz0_19 pz0_22 pz0_23 pz0_29)), (z 3, aI V 900 fz3)] H := hP
      have hD : va_D A [(z 4, aI V 1025 f_24), (z 0, .inr (10, mo z pz0_0 pz0_5 v_27 v_28 pz0_8 v_29 v_30 v_31 v_32 pz0_13 pz0_14 pz0_18 pz0_19 pz0_22 pz0_23 pz0_29)), (z 3, aI V 900 fz3)] := hD
      refine va_iast hx hb hK hP hD hS 0 0 rfl rfl (iv_in bx_25 (by decide)) dX10_readHill_61 (fun H locs hP hD hS => ?_)
      obtain ⟨f_37, ef_37, tf_37, hP, hD⟩ : ∃ f_37 : Nat → Int32, f_37 = (upd f_24 (x_25 : Int32).toNatClampNeg r_26) ∧ (ivT tF f_37) ∧ va_P V.1 vwCl [(z 4, aI V 1025 f_37), (z 0, .inr (10, mo z pz0_0 pz0_5 v_27 v_28 pz0_8 v_29 v_30 v_31 v_32 pz0_13 pz0_14 pz0_18 pz0_19 pz0_22 pz0_23 pz0_29)), (z 3, aI V 900 fz3)] H ∧ va_D A [(z 4, aI V 1025 f_37), (z 0, .inr (10, mo z pz0_0 pz0_5 v_27 v_28 pz0_8 v_29 v_30 v_31 v_32 pz0_13 pz0_14 pz0_18 pz0_19 pz0_22 pz0_23 pz0_29)), (z 3, aI V 900 fz3)] := ⟨_, rfl, upT (lo := (-2147483648)) (hi := 2147483647) (a := 10) (n := 4) tf_24 bx_25 (by decide) (iv_w br_26 (by decide)) (by decide +kernel), hP, hD⟩
      refine lv_aload_n hx hb dX10_readHill_62 rfl (lv_at hl 1 rfl) ?_
      refine va_get (ci := 10) (v := .ref (z 4)) (C := RX10) (T := TX10) (N := 40) hx hb hg inX10 hown hK hP 1 rfl rfl 4 (by decide) (hg _ q_5_228) (fun _ h9 => h9) rfl dX10_readHill_63 ?_
      refine lv_bipush (v := 14) hx hb dX10_readHill_66 (by decide) ?_
      refine lv_iload_n hx hb dX10_readHill_68 rfl (lv_at hl 0 rfl) ?_
      refine lv_iadd hx hb dX10_readHill_69 ?_
      refine lv_topi (fun x_38 ex_38 => ?_)
      have bx_38 : iv 14 17 x_38 := by rw [ex_38]; exact iv_add (iv_c (14 : Int32) (a := 14) (b := 14) (by decide)) b_3 (by decide)
      refine lv_iconst (v := 1) hx hb dX10_readHill_70 (by decide) ?_
      refine va_iast hx hb hK hP hD hS 0 0 rfl rfl (iv_in bx_38 (by decide)) dX10_readHill_71 (fun H locs hP hD hS => ?_)
      obtain ⟨f_39, ef_39, tf_39, hP, hD⟩ : ∃ f_39 : Nat → Int32, f_39 = (upd f_37 (x_38 : Int32).toNatClampNeg 1) ∧ (ivT tF f_39) ∧ va_P V.1 vwCl [(z 4, aI V 1025 f_39), (z 0, .inr (10, mo z pz0_0 pz0_5 v_27 v_28 pz0_8 v_29 v_30 v_31 v_32 pz0_13 pz0_14 pz0_18 pz0_19 pz0_22 pz0_23 pz0_29)), (z 3, aI V 900 fz3)] H ∧ va_D A [(z 4, aI V 1025 f_39), (z 0, .inr (10, mo z pz0_0 pz0_5 v_27 v_28 pz0_8 v_29 v_30 v_31 v_32 pz0_13 pz0_14 pz0_18 pz0_19 pz0_22 pz0_23 pz0_29)), (z 3, aI V 900 fz3)] := ⟨_, rfl, upT (lo := (-2147483648)) (hi := 2147483647) (a := 14) (n := 4) tf_37 bx_38 (by decide) (iv_c (1 : Int32) (by decide)) (by decide +kernel), hP, hD⟩
      refine loopF (X := fun (n_47 : Nat) (H : Heap) (locs : List Loc) (ls : Array Slot) => ∃ (f_40 : Nat → Int32) (u_41 : Int32) (u_42 : Int32) (u_43 : Int32) (u_44 : Int32) (u_45 : Int32) (u_46 : Int32), (ivT tF f_40) ∧ (iv 0 900 u_41) ∧ (iv 0 900 u_42) ∧ (iv 0 999 u_44) ∧ (iv 0 4 u_45) ∧ (iv 0 900 u_46) ∧ ((pz0_6 : Int32).toInt ≤ (u_41 : Int32).toInt) ∧ (u_45 = 0 → pz0_11 = 0) ∧ (f_40 (1 : Int32).toNatClampNeg = x_1) ∧ (PT u_41 u_42 pz0_8 u_43) ∧ (PS u_45 u_41 f_40) ∧ n_47 = (900 - (u_41 : Int32).toInt).toNat ∧ va_P V.1 vwCl [(z 4, aI V 1025 f_40), (z 0, .inr (10, mo z pz0_0 pz0_5 u_41 u_42 pz0_8 u_43 u_44 u_45 u_46 pz0_13 pz0_14 pz0_18 pz0_19 pz0_22 pz0_23 pz0_29)), (z 3, aI V 900 fz3)] H ∧ va_D A [(z 4, aI V 1025 f_40), (z 0, .inr (10, mo z pz0_0 pz0_5 u_41 u_42 pz0_8 u_43 u_44 u_45 u_46 pz0_13 pz0_14 pz0_18 pz0_19 pz0_22 pz0_23 pz0_29)), (z 3, aI V 900 fz3)] ∧ va_S A s.heap H locs ∧ lv_has ls 2 [(1, .int x_1), (0, .ref (z 0))]) (g := fun ls => F0 m 72 ls []) (fun n_47 H locs ls hX ihn_47 => ?_) _ ⟨f_39, v_27, v_28, v_29, v_30, v_31, v_32, tf_39, bv_27, bv_28, bv_30, bv_31, bv_32, (by have z_0 := g_11; have z_1 := g_21; have z_2 := g_34;have y_0 := hf0.1; have y_1 := g_10.1; have y_2 := g_20.1; have y_3 := g_33.1; omega), (fun q9 => ((g_22) ((g_35) q9))), ((((show f_39 (1 : Int32).toNatClampNeg = f_37 (1 : Int32).toNatClampNeg from by rw [ef_39]; exact upd_ne (cl_ne (iv_c (1 : Int32) (a := 1) (b := 1) (by decide)) bx_38 (by decide))).trans (show f_37 (1 : Int32).toNatClampNeg = f_24 (1 : Int32).toNatClampNeg from by rw [ef_37]; exact upd_ne (cl_ne (iv_c (1 : Int32) (a := 1) (b := 1) (by decide)) bx_25 (by decide)))).trans (show f_24 (1 : Int32).toNatClampNeg = fz4 (1 : Int32).toNatClampNeg from by rw [ef_24]; exact upd_ne (cl_ne (iv_c (1 : Int32) (a := 1) (b := 1) (by decide)) bx_12 (by decide)))).trans ex_1.symm), g_33, (PS_up (lo := 0) (hi := 9) (c := 14) (k := 1) (i := 0) (n := 4) (PS_up (lo := 0) (hi := 9) (c := 10) (k := 1) (i := 0) (n := 4) (PS_up (lo := 0) (hi := 4) (c := 46) (k := 1) (i := 0) (n := 4) (PS_a hf1 (fun q9 => ((g_22) ((g_35) q9))) (by have z_0 := g_11; have z_1 := g_21; have z_2 := g_34;have y_0 := hf0.1; have y_1 := g_10.1; have y_2 := g_20.1; have y_3 := g_33.1; omega)) ef_24 (show (x_12 : Int32).toInt = 46 + 1 * (x_1 : Int32).toInt from (by have q_x_12 := toInt_add ex_12 (iv_c (46 : Int32) (a := 46) (b := 46) (by decide)) b_3 (by decide); have k_x_12 : (46 : Int32).toInt = 46 := (by decide); omega)) b_3 (by decide) (by decide +kernel) (fun q7 => by have q8 := g_23 ((fun q9 => ((g_35) q9)) q7); have z_0 : (0 : Int32).toInt = 0 := (by decide); have z_4 : (4 : Int32).toInt = 4 := (by decide); exact ⟨by omega, by omega⟩) bx_12 (by decide)) ef_37 (show (x_25 : Int32).toInt = 10 + 1 * (x_1 : Int32).toInt from (by have q_x_25 := toInt_add ex_25 (iv_c (10 : Int32) (a := 10) (b := 10) (by decide)) b_3 (by decide); have k_x_25 : (10 : Int32).toInt = 10 := (by decide); omega)) b_3 (by decide) (by decide +kernel) (fun q7 => by have q8 := g_36 ((fun q9 => q9) q7); have z_0 : (0 : Int32).toInt = 0 := (by decide); have z_9 : (9 : Int32).toInt = 9 := (by decide); exact ⟨by omega, by omega⟩) bx_25 (by decide)) ef_39 (show (x_38 : Int32).toInt = 14 + 1 * (x_1 : Int32).toInt from (by have q_x_38 := toInt_add ex_38 (iv_c (14 : Int32) (a := 14) (b := 14) (by decide)) b_3 (by decide); have k_x_38 : (14 : Int32).toInt = 14 := (by decide); omega)) b_3 (by decide) (by decide +kernel) (fun _ => (iv_c (1 : Int32) (by decide))) bx_38 (by decide)), rfl, hP, hD, hS, lv_sub hl [0, 1] rfl⟩
      obtain ⟨f_40, u_41, u_42, u_43, u_44, u_45, u_46, tf_40, bu_41, bu_42, bu_44, bu_45, bu_46, inn_47_0, inn_47_1, inn_47_2, inn_47_3, inn_47_4, en_47, hP, hD, hS, hl⟩ := hX
      refine lv_aload_n hx hb dX10_readHill_72 rfl (lv_at hl 1 rfl) ?_
      refine va_get (ci := 10) (v := .int u_45) (C := RX10) (T := TX10) (N := 40) hx hb hg inX10 hown hK hP 1 rfl rfl 11 (by decide) (hg _ q_5_235) (fun _ h9 => h9) rfl dX10_readHill_73 ?_
      refine lv_if_ne (tgt := 90) hx hb dX10_readHill_76 (by decide) (fun c_48 => ?_) (fun c_48 => ?_)
      · have b_49 : iv 1 4 u_45 := iv_n0 c_48 bu_45 (iv_c (0 : Int32) (a := 0) (b := 0) (by decide)) (by decide)
        refine lv_aload_n hx hb dX10_readHill_90 rfl (lv_at hl 1 rfl) ?_
        refine va_get (ci := 10) (v := .int u_45) (C := RX10) (T := TX10) (N := 40) hx hb hg inX10 hown hK hP 1 rfl rfl 11 (by decide) (hg _ q_5_235) (fun _ h9 => h9) rfl dX10_readHill_91 ?_
        refine lv_if_ne (tgt := 107) hx hb dX10_readHill_94 (by decide) (fun _ => ?_) (fun c_51 => absurd c_51 c_48)
        have hP := subP (ws' := [(z 4, aI V 1025 f_40), (z 3, aI V 900 fz3), (z 0, .inr (10, mo z pz0_0 pz0_5 u_41 u_42 pz0_8 u_43 u_44 u_45 u_46 pz0_13 pz0_14 pz0_18 pz0_19 pz0_22 pz0_23 pz0_29))]) hP [0, 2, 1] rfl
        have hD := hD.sub (ws' := [(z 4, aI V 1025 f_40), (z 3, aI V 900 fz3), (z 0, .inr (10, mo z pz0_0 pz0_5 u_41 u_42 pz0_8 u_43 u_44 u_45 u_46 pz0_13 pz0_14 pz0_18 pz0_19 pz0_22 pz0_23 pz0_29))]) [0, 2, 1] rfl rfl
        exact fiV hx hb hr hlk hK hP hD hS dX10_readHill_107 (Nat.le_of_ble_eq_true rfl) (Nat.le_of_ble_eq_true rfl) (⟨f_40, u_41, u_42, u_43, u_44, u_45, u_46, tf_40, bu_41, bu_42, bu_44, (iv_w b_49 (by decide)), bu_46, inn_47_3, inn_47_4, (by have z_0 := g_11; have z_1 := g_21; have z_2 := g_34; have z_3 := inn_47_0;have y_0 := hf0.1; have y_1 := g_10.1; have y_2 := g_20.1; have y_3 := g_33.1; have y_4 := inn_47_3.1; omega), (fun q9 => ((fun q8 => absurd q8 (iv_nz b_49 (by decide))) q9)), rfl⟩)
      · have b_52 : iv 0 0 u_45 := iv_q c_48 (iv_c (0 : Int32) (a := 0) (b := 0) (by decide))
        refine lv_aload_n hx hb dX10_readHill_79 rfl (lv_at hl 1 rfl) ?_
        refine lv_iload_n hx hb dX10_readHill_80 rfl (lv_at hl 0 rfl) ?_
        refine jnI (wr := []) (rnV (rest := []) ⟨hx, hb, hml, hown, hg⟩ (k_X10_readFlag_0 l V z x_1 f_40 pz0_0 pz0_5 u_41 u_42 pz0_8 u_43 u_44 u_45 u_46 pz0_13 pz0_14 pz0_18 pz0_19 pz0_22 pz0_23 pz0_29 fz3 b_3 tf_40 bpz0_5 bu_41 bu_42 bpz0_8 bu_44 (iv_w b_52 (by decide)) bu_46 bpz0_13 bpz0_14 bpz0_18 bpz0_22 bpz0_29 inn_47_3 inn_47_4) mt_X10_readFlag q_6_171 ⟨Nat.le_of_ble_eq_true rfl, Nat.le_of_ble_eq_true rfl⟩ hK hP hD hS hA hE [0, 1, 2] rfl rfl 1 rfl rfl rfl rfl hl.1 rfl (Nat.le_of_ble_eq_true rfl) dX10_readHill_81 ⟨Nat.le_of_ble_eq_true rfl, Nat.le_of_ble_eq_true rfl⟩) hP hD hS hA [0, 1, 2] [] rfl rfl rfl (by decide) (fun r_53 w H locs hw hP hD hS => ?_)
        obtain ⟨f_54, v_55, v_56, v_57, v_58, v_59, v_60, tf_54, bv_55, bv_56, bv_58, bv_59, bv_60, br_53, g_61, g_62, g_63, g_64, g_65, g_66, g_67, rfl⟩ := hw
        have hP : va_P V.1 vwCl [(z 4, aI V 1025 f_54), (z 0, .inr (10, mo z pz0_0 pz0_5 v_55 v_56 pz0_8 v_57 v_58 v_59 v_60 pz0_13 pz0_14 pz0_18 pz0_19 pz0_22 pz0_23 pz0_29)), (z 3, aI V 900 fz3)] H := hP
        have hD : va_D A [(z 4, aI V 1025 f_54), (z 0, .inr (10, mo z pz0_0 pz0_5 v_55 v_56 pz0_8 v_57 v_58 v_59 v_60 pz0_13 pz0_14 pz0_18 pz0_19 pz0_22 pz0_23 pz0_29)), (z 3, aI V 900 fz3)] := hD
        refine lv_if_eq (tgt := 90) hx hb dX10_readHill_84 (by decide) (fun c_68 => ?_) (fun c_68 => ?_)
        · have b_69 : iv 0 0 r_53 := iv_q c_68 (iv_c (0 : Int32) (a := 0) (b := 0) (by decide))
          refine lv_aload_n hx hb dX10_readHill_90 rfl (lv_at hl 1 rfl) ?_
          refine va_get (ci := 10) (v := .int v_59) (C := RX10) (T := TX10) (N := 40) hx hb hg inX10 hown hK hP 1 rfl rfl 11 (by decide) (hg _ q_5_235) (fun _ h9 => h9) rfl dX10_readHill_91 ?_
          refine lv_if_ne (tgt := 107) hx hb dX10_readHill_94 (by decide) (fun c_70 => ?_) (fun c_70 => ?_)
          · have b_71 : iv 1 4 v_59 := iv_n0 c_70 bv_59 (iv_c (0 : Int32) (a := 0) (b := 0) (by decide)) (by decide)
            have hP := subP (ws' := [(z 4, aI V 1025 f_54), (z 3, aI V 900 fz3), (z 0, .inr (10, mo z pz0_0 pz0_5 v_55 v_56 pz0_8 v_57 v_58 v_59 v_60 pz0_13 pz0_14 pz0_18 pz0_19 pz0_22 pz0_23 pz0_29))]) hP [0, 2, 1] rfl
            have hD := hD.sub (ws' := [(z 4, aI V 1025 f_54), (z 3, aI V 900 fz3), (z 0, .inr (10, mo z pz0_0 pz0_5 v_55 v_56 pz0_8 v_57 v_58 v_59 v_60 pz0_13 pz0_14 pz0_18 pz0_19 pz0_22 pz0_23 pz0_29))]) [0, 2, 1] rfl rfl
            exact fiV hx hb hr hlk hK hP hD hS dX10_readHill_107 (Nat.le_of_ble_eq_true rfl) (Nat.le_of_ble_eq_true rfl) (⟨f_54, v_55, v_56, v_57, v_58, v_59, v_60, tf_54, bv_55, bv_56, bv_58, (iv_w b_71 (by decide)), bv_60, g_61, g_62, (by have z_0 := g_11; have z_1 := g_21; have z_2 := g_34; have z_3 := inn_47_0; have z_4 := g_63;have y_0 := hf0.1; have y_1 := g_10.1; have y_2 := g_20.1; have y_3 := g_33.1; have y_4 := inn_47_3.1; have y_5 := g_61.1; omega), (fun q9 => ((fun q8 => absurd q8 (iv_nz b_71 (by decide))) q9)), rfl⟩)
          · have b_72 : iv 0 0 v_59 := iv_q c_70 (iv_c (0 : Int32) (a := 0) (b := 0) (by decide))
            refine lv_aload_n hx hb dX10_readHill_97 rfl (lv_at hl 1 rfl) ?_
            refine va_get (ci := 10) (v := .ref (z 4)) (C := RX10) (T := TX10) (N := 40) hx hb hg inX10 hown hK hP 1 rfl rfl 4 (by decide) (hg _ q_5_228) (fun _ h9 => h9) rfl dX10_readHill_98 ?_
            refine lv_iconst (v := 1) hx hb dX10_readHill_101 (by decide) ?_
            refine lv_dup2_11 hx hb dX10_readHill_102 rfl rfl ?_
            refine va_iald hx hb hK hP 0 0 rfl rfl (vin (by decide +kernel)) dX10_readHill_103 ?_
            refine lv_topi (fun x_73 ex_73 => ?_)
            have bx_73 : iv 0 4 x_73 := by rw [ex_73]; exact rdT (a := 1) (n := 1) tf_54 (iv_c (1 : Int32) (a := 1) (b := 1) (by decide)) (by decide) (by decide +kernel)
            have b_74 : iv 0 3 x_73 := by rw [ex_73, g_67, inn_47_2]; exact b_3
            refine lv_iconst (v := 1) hx hb dX10_readHill_104 (by decide) ?_
            refine lv_iadd hx hb dX10_readHill_105 ?_
            refine lv_topi (fun x_75 ex_75 => ?_)
            have bx_75 : iv 1 4 x_75 := by rw [ex_75]; exact iv_add b_74 (iv_c (1 : Int32) (a := 1) (b := 1) (by decide)) (by decide)
            refine va_iast hx hb hK hP hD hS 0 0 rfl rfl (vin (by decide +kernel)) dX10_readHill_106 (fun H locs hP hD hS => ?_)
            obtain ⟨f_76, ef_76, tf_76, hP, hD⟩ : ∃ f_76 : Nat → Int32, f_76 = (upd f_54 (1 : Int32).toNatClampNeg x_75) ∧ (ivT tF f_76) ∧ va_P V.1 vwCl [(z 4, aI V 1025 f_76), (z 0, .inr (10, mo z pz0_0 pz0_5 v_55 v_56 pz0_8 v_57 v_58 v_59 v_60 pz0_13 pz0_14 pz0_18 pz0_19 pz0_22 pz0_23 pz0_29)), (z 3, aI V 900 fz3)] H ∧ va_D A [(z 4, aI V 1025 f_76), (z 0, .inr (10, mo z pz0_0 pz0_5 v_55 v_56 pz0_8 v_57 v_58 v_59 v_60 pz0_13 pz0_14 pz0_18 pz0_19 pz0_22 pz0_23 pz0_29)), (z 3, aI V 900 fz3)] := ⟨_, rfl, upT (lo := 0) (hi := 4) (a := 1) (n := 1) tf_54 (iv_c (1 : Int32) (a := 1) (b := 1) (by decide)) (by decide) (iv_w bx_75 (by decide)) (by decide +kernel), hP, hD⟩
            have hP := subP (ws' := [(z 4, aI V 1025 f_76), (z 3, aI V 900 fz3), (z 0, .inr (10, mo z pz0_0 pz0_5 v_55 v_56 pz0_8 v_57 v_58 v_59 v_60 pz0_13 pz0_14 pz0_18 pz0_19 pz0_22 pz0_23 pz0_29))]) hP [0, 2, 1] rfl
            have hD := hD.sub (ws' := [(z 4, aI V 1025 f_76), (z 3, aI V 900 fz3), (z 0, .inr (10, mo z pz0_0 pz0_5 v_55 v_56 pz0_8 v_57 v_58 v_59 v_60 pz0_13 pz0_14 pz0_18 pz0_19 pz0_22 pz0_23 pz0_29))]) [0, 2, 1] rfl rfl
            exact fiV hx hb hr hlk hK hP hD hS dX10_readHill_107 (Nat.le_of_ble_eq_true rfl) (Nat.le_of_ble_eq_true rfl) (⟨f_76, v_55, v_56, v_57, v_58, v_59, v_60, tf_76, bv_55, bv_56, bv_58, (iv_w b_72 (by decide)), bv_60, g_61, (PS_up (lo := 0) (hi := 4) (c := 0) (k := 1) (i := 1) (n := 1) g_62 ef_76 (show (1 : Int32).toInt = 0 + 1 * (1 : Int32).toInt from (by omega)) (iv_c (1 : Int32) (a := 1) (b := 1) (by decide)) (by decide) (by decide +kernel) (fun _ => (iv_w bx_75 (by decide))) (iv_c (1 : Int32) (a := 1) (b := 1) (by decide)) (by decide)), (by have z_0 := g_11; have z_1 := g_21; have z_2 := g_34; have z_3 := inn_47_0; have z_4 := g_63;have y_0 := hf0.1; have y_1 := g_10.1; have y_2 := g_20.1; have y_3 := g_33.1; have y_4 := inn_47_3.1; have y_5 := g_61.1; omega), (fun q9 => ((inn_47_1) ((g_64) q9))), rfl⟩)
        · have b_77 : iv 1 1 r_53 := iv_n0 c_68 br_53 (iv_c (0 : Int32) (a := 0) (b := 0) (by decide)) (by decide)
          have c_78 : v_59 = 0 := (g_65 (iv_eqp b_77 (iv_c (1 : Int32) (by decide))))
          have b_79 : iv 0 0 v_59 := iv_q c_78 (iv_c (0 : Int32) (a := 0) (b := 0) (by decide))
          refine lv_goto (tgt := 72) hx hb dX10_readHill_87 (by decide) ?_
          exact ihn_47 _ _ _ _ (by rw [en_47]; have q9 := (g_66 (iv_eqp b_77 (iv_c (1 : Int32) (by decide)))); have q8 := bv_55; unfold iv at q8; omega) ⟨f_54, v_55, v_56, v_57, v_58, v_59, v_60, tf_54, bv_55, bv_56, bv_58, (iv_w b_79 (by decide)), bv_60, (by have z_0 := g_11; have z_1 := g_21; have z_2 := g_34; have z_3 := inn_47_0; have z_4 := g_63;have y_0 := hf0.1; have y_1 := g_10.1; have y_2 := g_20.1; have y_3 := g_33.1; have y_4 := inn_47_3.1; have y_5 := g_61.1; omega), (fun q9 => ((inn_47_1) ((g_64) q9))), (g_67.trans inn_47_2), g_61, g_62, rfl, hP, hD, hS, lv_sub hl [0, 1] rfl⟩
    · have b_80 : iv 1 4 pz0_11 := iv_n0 c_4 bpz0_11 (iv_c (0 : Int32) (a := 0) (b := 0) (by decide)) (by decide)
      exact fiV hx hb hr hlk hK hP hD hS dX10_readHill_24 (Nat.le_of_ble_eq_true rfl) (Nat.le_of_ble_eq_true rfl) (⟨fz4, pz0_6, pz0_7, pz0_9, pz0_10, pz0_11, pz0_12, tfz4, bpz0_6, bpz0_7, bpz0_10, (iv_w b_80 (by decide)), bpz0_12, hf0, hf1, (Int.le_refl _), (fun q9 => q9), rfl⟩)
  · have b_81 : iv 4 4 x_1 := iv_q c_2 (iv_c (4 : Int32) (a := 4) (b := 4) (by decide))
    refine lv_aload_n hx hb dX10_readHill_12 rfl (lv_at hl 1 rfl) ?_
    refine lv_iconst (v := 4) hx hb dX10_readHill_13 (by decide) ?_
    refine jnV (wr := [(z 4, aI V 1025 fz4), (z 3, aI V 900 fz3)]) (rnV (rest := []) ⟨hx, hb, hml, hown, hg⟩ (k_X10_fails_0 l V z 4 pz0_0 pz0_5 pz0_6 pz0_7 pz0_8 pz0_9 pz0_10 pz0_11 pz0_12 pz0_13 pz0_14 pz0_18 pz0_19 pz0_22 pz0_23 pz0_29 (iv_c (4 : Int32) (by decide)) bpz0_5 bpz0_6 bpz0_7 bpz0_8 bpz0_10 bpz0_11 bpz0_12 bpz0_13 bpz0_14 bpz0_18 bpz0_22 bpz0_29) mt_X10_fails q_6_147 ⟨Nat.le_of_ble_eq_true rfl, Nat.le_of_ble_eq_true rfl⟩ hK hP hD hS hA hE [2] rfl rfl 2 rfl rfl rfl rfl hl.1 rfl (Nat.le_of_ble_eq_true rfl) dX10_readHill_14 ⟨Nat.le_of_ble_eq_true rfl, Nat.le_of_ble_eq_true rfl⟩) hP hD hS hA [2] [0, 1] rfl rfl rfl (by decide) (fun  w H locs hw hP hD hS => ?_)
    obtain ⟨v_82, v_83, bv_82, bv_83, rfl⟩ := hw
    have hP : va_P V.1 vwCl [(z 4, aI V 1025 fz4), (z 3, aI V 900 fz3), (z 0, .inr (10, mo z pz0_0 pz0_5 pz0_6 pz0_7 pz0_8 pz0_9 pz0_10 v_82 v_83 pz0_13 pz0_14 pz0_18 pz0_19 pz0_22 pz0_23 pz0_29))] H := hP
    have hD : va_D A [(z 4, aI V 1025 fz4), (z 3, aI V 900 fz3), (z 0, .inr (10, mo z pz0_0 pz0_5 pz0_6 pz0_7 pz0_8 pz0_9 pz0_10 v_82 v_83 pz0_13 pz0_14 pz0_18 pz0_19 pz0_22 pz0_23 pz0_29))] := hD
    refine lv_aload_n hx hb dX10_readHill_17 rfl (lv_at hl 1 rfl) ?_
    refine va_get (ci := 10) (v := .int v_82) (C := RX10) (T := TX10) (N := 40) hx hb hg inX10 hown hK hP 2 rfl rfl 11 (by decide) (hg _ q_5_235) (fun _ h9 => h9) rfl dX10_readHill_18 ?_
    refine lv_if_eq (tgt := 25) hx hb dX10_readHill_21 (by decide) (fun c_84 => absurd c_84 (iv_ne bv_82 (iv_c (0 : Int32) (a := 0) (b := 0) (by decide)) (by decide))) (fun _ => ?_)
    exact fiV hx hb hr hlk hK hP hD hS dX10_readHill_24 (Nat.le_of_ble_eq_true rfl) (Nat.le_of_ble_eq_true rfl) (⟨fz4, pz0_6, pz0_7, pz0_9, pz0_10, v_82, v_83, tfz4, bpz0_6, bpz0_7, bpz0_10, (iv_w bv_82 (by decide)), bv_83, hf0, (PS_f bv_82 (by decide)), (Int.le_refl _), (fun q9 => ((fun q8 => absurd q8 (iv_nz bv_82 (by decide))) q9)), rfl⟩)
theorem dX10_readLine_0 : decode cX10_readLine 0 = .ok (.aload_n 0, 1) := by decide +kernel
theorem dX10_readLine_1 : decode cX10_readLine 1 = .ok (.getfield 143, 3) := by decide +kernel
theorem dX10_readLine_4 : decode cX10_readLine 4 = .ok (.ifCond .eq 4, 3) := by decide +kernel
theorem dX10_readLine_8 : decode cX10_readLine 8 = .ok (.aload_n 0, 1) := by decide +kernel
theorem dX10_readLine_9 : decode cX10_readLine 9 = .ok (.iconst 2, 1) := by decide +kernel
theorem dX10_readLine_10 : decode cX10_readLine 10 = .ok (.invokevirtual 149, 3) := by decide +kernel
theorem dX10_readLine_13 : decode cX10_readLine 13 = .ok (.ifCond .eq 10, 3) := by decide +kernel
theorem dX10_readLine_23 : decode cX10_readLine 23 = .ok (.aload_n 0, 1) := by decide +kernel
theorem dX10_readLine_24 : decode cX10_readLine 24 = .ok (.bipush 7, 2) := by decide +kernel
theorem dX10_readLine_26 : decode cX10_readLine 26 = .ok (.invokevirtual 149, 3) := by decide +kernel
theorem dX10_readLine_29 : decode cX10_readLine 29 = .ok (.ifCond .eq 10, 3) := by decide +kernel
theorem dX10_readLine_39 : decode cX10_readLine 39 = .ok (.aload_n 0, 1) := by decide +kernel
theorem dX10_readLine_40 : decode cX10_readLine 40 = .ok (.bipush 9, 2) := by decide +kernel
theorem dX10_readLine_42 : decode cX10_readLine 42 = .ok (.invokevirtual 149, 3) := by decide +kernel
theorem dX10_readLine_45 : decode cX10_readLine 45 = .ok (.ifCond .eq 10, 3) := by decide +kernel
theorem dX10_readLine_55 : decode cX10_readLine 55 = .ok (.aload_n 0, 1) := by decide +kernel
theorem dX10_readLine_56 : decode cX10_readLine 56 = .ok (.bipush 11, 2) := by decide +kernel
theorem dX10_readLine_58 : decode cX10_readLine 58 = .ok (.invokevirtual 149, 3) := by decide +kernel
theorem dX10_readLine_61 : decode cX10_readLine 61 = .ok (.ifCond .ne 12, 3) := by decide +kernel
theorem dX10_readLine_73 : decode cX10_readLine 73 = .ok (.aload_n 0, 1) := by decide +kernel
theorem dX10_readLine_74 : decode cX10_readLine 74 = .ok (.aload_n 0, 1) := by decide +kernel
theorem dX10_readLine_75 : decode cX10_readLine 75 = .ok (.getfield 125, 3) := by decide +kernel
theorem dX10_readLine_78 : decode cX10_readLine 78 = .ok (.bipush 11, 2) := by decide +kernel
theorem dX10_readLine_80 : decode cX10_readLine 80 = .ok (.isub, 1) := by decide +kernel
theorem q_6_186 : Cond.code yX10_readLaw prog_12_method_31_code 3 none ∈ gw := gw_6 (i := 186) (rfl) rfl
theorem q_6_185 : Cond.instanceMethod yX10_readLaw ∈ gw := gw_6 (i := 185) (by decide +kernel) rfl
theorem q_s_68 : Cond.selects "BeaconDelayModel" yX10_readLaw yX10_readLaw ∈ gw := gw_s (i := 68) (by decide +kernel) rfl
theorem mt_X10_readLaw : MtV yX10_readLaw cX10_readLaw 3 none 1 := ⟨⟨q_6_186, q_1_9, by decide +kernel, by decide +kernel, by decide +kernel⟩, q_6_185, q_s_68⟩
theorem q_6_183 : Cond.methodLink "BeaconDelayModel" 216 yX10_readLaw ∈ gw := gw_6 (i := 183) (by decide +kernel) rfl
theorem dX10_readLine_81 : decode cX10_readLine 81 = .ok (.invokevirtual 216, 3) := by decide +kernel
theorem dX10_readLine_84 : decode cX10_readLine 84 = .ok (.goto 8, 3) := by decide +kernel
theorem dX10_readLine_92 : decode cX10_readLine 92 = .ok (.return_, 1) := by decide +kernel
theorem dX10_readLine_64 : decode cX10_readLine 64 = .ok (.aload_n 0, 1) := by decide +kernel
theorem dX10_readLine_65 : decode cX10_readLine 65 = .ok (.bipush 12, 2) := by decide +kernel
theorem dX10_readLine_67 : decode cX10_readLine 67 = .ok (.invokevirtual 149, 3) := by decide +kernel
theorem dX10_readLine_70 : decode cX10_readLine 70 = .ok (.ifCond .eq 17, 3) := by decide +kernel
theorem dX10_readLine_87 : decode cX10_readLine 87 = .ok (.aload_n 0, 1) := by decide +kernel
theorem dX10_readLine_88 : decode cX10_readLine 88 = .ok (.iconst 2, 1) := by decide +kernel
theorem dX10_readLine_89 : decode cX10_readLine 89 = .ok (.invokevirtual 155, 3) := by decide +kernel
theorem dX10_readLine_48 : decode cX10_readLine 48 = .ok (.aload_n 0, 1) := by decide +kernel
theorem q_6_182 : Cond.code yX10_readRoad prog_12_method_30_code 2 none ∈ gw := gw_6 (i := 182) (rfl) rfl
theorem q_6_181 : Cond.instanceMethod yX10_readRoad ∈ gw := gw_6 (i := 181) (by decide +kernel) rfl
theorem q_s_67 : Cond.selects "BeaconDelayModel" yX10_readRoad yX10_readRoad ∈ gw := gw_s (i := 67) (by decide +kernel) rfl
theorem mt_X10_readRoad : MtV yX10_readRoad cX10_readRoad 2 none 0 := ⟨⟨q_6_182, q_1_9, by decide +kernel, by decide +kernel, by decide +kernel⟩, q_6_181, q_s_67⟩
theorem q_6_179 : Cond.methodLink "BeaconDelayModel" 213 yX10_readRoad ∈ gw := gw_6 (i := 179) (by decide +kernel) rfl
theorem dX10_readLine_49 : decode cX10_readLine 49 = .ok (.invokevirtual 213, 3) := by decide +kernel
theorem dX10_readLine_52 : decode cX10_readLine 52 = .ok (.goto 40, 3) := by decide +kernel
theorem dX10_readLine_32 : decode cX10_readLine 32 = .ok (.aload_n 0, 1) := by decide +kernel
theorem q_6_178 : Cond.code yX10_readVillage prog_12_method_29_code 1 none ∈ gw := gw_6 (i := 178) (rfl) rfl
theorem q_6_177 : Cond.instanceMethod yX10_readVillage ∈ gw := gw_6 (i := 177) (by decide +kernel) rfl
theorem q_s_66 : Cond.selects "BeaconDelayModel" yX10_readVillage yX10_readVillage ∈ gw := gw_s (i := 66) (by decide +kernel) rfl
theorem mt_X10_readVillage : MtV yX10_readVillage cX10_readVillage 1 none 0 := ⟨⟨q_6_178, q_1_9, by decide +kernel, by decide +kernel, by decide +kernel⟩, q_6_177, q_s_66⟩
theorem q_6_175 : Cond.methodLink "BeaconDelayModel" 210 yX10_readVillage ∈ gw := gw_6 (i := 175) (by decide +kernel) rfl
theorem dX10_readLine_33 : decode cX10_readLine 33 = .ok (.invokevirtual 210, 3) := by decide +kernel
theorem dX10_readLine_36 : decode cX10_readLine 36 = .ok (.goto 56, 3) := by decide +kernel
theorem dX10_readLine_16 : decode cX10_readLine 16 = .ok (.aload_n 0, 1) := by decide +kernel
theorem q_6_170 : Cond.code yX10_readHill prog_12_method_28_code 2 none ∈ gw := gw_6 (i := 170) (rfl) rfl
theorem q_6_169 : Cond.instanceMethod yX10_readHill ∈ gw := gw_6 (i := 169) (by decide +kernel) rfl
theorem q_s_64 : Cond.selects "BeaconDelayModel" yX10_readHill yX10_readHill ∈ gw := gw_s (i := 64) (by decide +kernel) rfl
theorem mt_X10_readHill : MtV yX10_readHill cX10_readHill 2 none 0 := ⟨⟨q_6_170, q_1_9, by decide +kernel, by decide +kernel, by decide +kernel⟩, q_6_169, q_s_64⟩
theorem q_6_167 : Cond.methodLink "BeaconDelayModel" 207 yX10_readHill ∈ gw := gw_6 (i := 167) (by decide +kernel) rfl
theorem dX10_readLine_17 : decode cX10_readLine 17 = .ok (.invokevirtual 207, 3) := by decide +kernel
theorem dX10_readLine_20 : decode cX10_readLine 20 = .ok (.goto 72, 3) := by decide +kernel
theorem dX10_readLine_7 : decode cX10_readLine 7 = .ok (.return_, 1) := by decide +kernel
set_option maxHeartbeats 4000000 in
set_option maxRecDepth 100000 in
theorem k_X10_readLine_0 (l : Launch) (V : GV) (z : Nat → Nat) (fz4 : Nat → Int32) (pz0_0 : Int32) (pz0_5 : Int32) (pz0_6 : Int32) (pz0_7 : Int32) (pz0_8 : Int32) (pz0_9 : Int32) (pz0_10 : Int32) (pz0_11 : Int32) (pz0_12 : Int32) (pz0_13 : Int32) (pz0_14 : Int32) (pz0_18 : Int32) (pz0_19 : Int32) (pz0_22 : Int32) (pz0_23 : Int32) (pz0_29 : Int32) (fz3 : Nat → Int32) (tfz4 : ivT tF fz4) (bpz0_5 : iv 0 900 pz0_5) (bpz0_6 : iv 0 900 pz0_6) (bpz0_7 : iv 0 900 pz0_7) (bpz0_8 : iv 0 900 pz0_8) (bpz0_10 : iv 0 999 pz0_10) (bpz0_11 : iv 0 4 pz0_11) (bpz0_12 : iv 0 900 pz0_12) (bpz0_13 : iv 0 4 pz0_13) (bpz0_14 : iv (-1) 900 pz0_14) (bpz0_18 : iv 0 2 pz0_18) (bpz0_22 : iv 0 9999 pz0_22) (bpz0_29 : iv 0 10000 pz0_29) (hf0 : PT pz0_6 pz0_7 pz0_8 pz0_9) (hf1 : PS pz0_11 pz0_6 fz4) : Ct l V yX10_readLine (.code yX10_readLine cX10_readLine 1 none) 56 [.ref (z 0)] [(z 4, aI V 1025 fz4), (z 0, .inr (10, mo z pz0_0 pz0_5 pz0_6 pz0_7 pz0_8 pz0_9 pz0_10 pz0_11 pz0_12 pz0_13 pz0_14 pz0_18 pz0_19 pz0_22 pz0_23 pz0_29)), (z 3, aI V 900 fz3)] 0 0 (QV V (fun (w : va_W) => ∃ (g0 : Nat → Int32) (v1 : Int32) (v2 : Int32) (v3 : Int32) (v4 : Int32) (v5 : Int32) (v6 : Int32), (ivT tF g0) ∧ iv 0 900 v1 ∧ iv 0 900 v2 ∧ iv 0 999 v4 ∧ iv 0 4 v5 ∧ iv 0 900 v6 ∧ (PT v1 v2 pz0_8 v3) ∧ (PS v5 v1 g0) ∧ ((pz0_6 : Int32).toInt ≤ (v1 : Int32).toInt) ∧ (v5 = 0 → pz0_11 = 0) ∧ w = [(z 4, aI V 1025 g0), (z 0, .inr (10, mo z pz0_0 pz0_5 v1 v2 pz0_8 v3 v4 v5 v6 pz0_13 pz0_14 pz0_18 pz0_19 pz0_22 pz0_23 pz0_29)), (z 3, aI V 900 fz3)])) := by
  refine Ct.of (by decide) (Nat.le_of_ble_eq_true rfl) (fun p e s m below meth c A ls hx hb hr hml hown hlk hnm hg hP hK hD hE hA hS hl => ?_)
  have hl : lv_has ls 1 [(0, .ref (z 0))] := hl
  refine lv_aload_n hx hb dX10_readLine_0 rfl (lv_at hl 0 rfl) ?_
  refine va_get (ci := 10) (v := .int pz0_11) (C := RX10) (T := TX10) (N := 40) hx hb hg inX10 hown hK hP 1 rfl rfl 11 (by decide) (hg _ q_5_235) (fun _ h9 => h9) rfl dX10_readLine_1 ?_
  refine lv_if_eq (tgt := 8) hx hb dX10_readLine_4 (by decide) (fun c_1 => ?_) (fun c_1 => ?_)
  · have b_2 : iv 0 0 pz0_11 := iv_q c_1 (iv_c (0 : Int32) (a := 0) (b := 0) (by decide))
    refine lv_aload_n hx hb dX10_readLine_8 rfl (lv_at hl 0 rfl) ?_
    refine lv_iconst (v := 2) hx hb dX10_readLine_9 (by decide) ?_
    refine jnI (wr := [(z 4, aI V 1025 fz4), (z 3, aI V 900 fz3)]) (rnV (rest := []) ⟨hx, hb, hml, hown, hg⟩ (k_X10_is_4 l V z pz0_0 pz0_5 pz0_6 pz0_7 pz0_8 pz0_9 pz0_10 pz0_11 pz0_12 pz0_13 pz0_14 pz0_18 pz0_19 pz0_22 pz0_23 pz0_29 bpz0_5 bpz0_6 bpz0_7 bpz0_8 bpz0_10 (iv_w b_2 (by decide)) bpz0_12 bpz0_13 bpz0_14 bpz0_18 bpz0_22 bpz0_29) mt_X10_is q_6_143 ⟨Nat.le_of_ble_eq_true rfl, Nat.le_of_ble_eq_true rfl⟩ hK hP hD hS hA hE [1] rfl rfl 1 rfl rfl rfl rfl hl.1 rfl (Nat.le_of_ble_eq_true rfl) dX10_readLine_10 ⟨Nat.le_of_ble_eq_true rfl, Nat.le_of_ble_eq_true rfl⟩) hP hD hS hA [1] [0, 2] rfl rfl rfl (by decide) (fun r_3 w H locs hw hP hD hS => ?_)
    obtain ⟨br_3, g_4, g_5, rfl⟩ := hw
    have hP : va_P V.1 vwCl [(z 4, aI V 1025 fz4), (z 3, aI V 900 fz3), (z 0, .inr (10, mo z pz0_0 pz0_5 pz0_6 pz0_7 pz0_8 pz0_9 pz0_10 pz0_11 pz0_12 pz0_13 pz0_14 pz0_18 pz0_19 pz0_22 pz0_23 pz0_29))] H := hP
    have hD : va_D A [(z 4, aI V 1025 fz4), (z 3, aI V 900 fz3), (z 0, .inr (10, mo z pz0_0 pz0_5 pz0_6 pz0_7 pz0_8 pz0_9 pz0_10 pz0_11 pz0_12 pz0_13 pz0_14 pz0_18 pz0_19 pz0_22 pz0_23 pz0_29))] := hD
    refine lv_if_eq (tgt := 23) hx hb dX10_readLine_13 (by decide) (fun c_6 => ?_) (fun c_6 => ?_)
    · have b_7 : iv 0 0 r_3 := iv_q c_6 (iv_c (0 : Int32) (a := 0) (b := 0) (by decide))
      refine lv_aload_n hx hb dX10_readLine_23 rfl (lv_at hl 0 rfl) ?_
      refine lv_bipush (v := 7) hx hb dX10_readLine_24 (by decide) ?_
      refine jnI (wr := [(z 4, aI V 1025 fz4), (z 3, aI V 900 fz3)]) (rnV (rest := []) ⟨hx, hb, hml, hown, hg⟩ (k_X10_is_5 l V z pz0_0 pz0_5 pz0_6 pz0_7 pz0_8 pz0_9 pz0_10 pz0_11 pz0_12 pz0_13 pz0_14 pz0_18 pz0_19 pz0_22 pz0_23 pz0_29 bpz0_5 bpz0_6 bpz0_7 bpz0_8 bpz0_10 (iv_w b_2 (by decide)) bpz0_12 bpz0_13 bpz0_14 bpz0_18 bpz0_22 bpz0_29) mt_X10_is q_6_143 ⟨Nat.le_of_ble_eq_true rfl, Nat.le_of_ble_eq_true rfl⟩ hK hP hD hS hA hE [2] rfl rfl 2 rfl rfl rfl rfl hl.1 rfl (Nat.le_of_ble_eq_true rfl) dX10_readLine_26 ⟨Nat.le_of_ble_eq_true rfl, Nat.le_of_ble_eq_true rfl⟩) hP hD hS hA [2] [0, 1] rfl rfl rfl (by decide) (fun r_8 w H locs hw hP hD hS => ?_)
      obtain ⟨br_8, g_9, g_10, rfl⟩ := hw
      have hP : va_P V.1 vwCl [(z 4, aI V 1025 fz4), (z 3, aI V 900 fz3), (z 0, .inr (10, mo z pz0_0 pz0_5 pz0_6 pz0_7 pz0_8 pz0_9 pz0_10 pz0_11 pz0_12 pz0_13 pz0_14 pz0_18 pz0_19 pz0_22 pz0_23 pz0_29))] H := hP
      have hD : va_D A [(z 4, aI V 1025 fz4), (z 3, aI V 900 fz3), (z 0, .inr (10, mo z pz0_0 pz0_5 pz0_6 pz0_7 pz0_8 pz0_9 pz0_10 pz0_11 pz0_12 pz0_13 pz0_14 pz0_18 pz0_19 pz0_22 pz0_23 pz0_29))] := hD
      refine lv_if_eq (tgt := 39) hx hb dX10_readLine_29 (by decide) (fun c_11 => ?_) (fun c_11 => ?_)
      · have b_12 : iv 0 0 r_8 := iv_q c_11 (iv_c (0 : Int32) (a := 0) (b := 0) (by decide))
        refine lv_aload_n hx hb dX10_readLine_39 rfl (lv_at hl 0 rfl) ?_
        refine lv_bipush (v := 9) hx hb dX10_readLine_40 (by decide) ?_
        refine jnI (wr := [(z 4, aI V 1025 fz4), (z 3, aI V 900 fz3)]) (rnV (rest := []) ⟨hx, hb, hml, hown, hg⟩ (k_X10_is_6 l V z pz0_0 pz0_5 pz0_6 pz0_7 pz0_8 pz0_9 pz0_10 pz0_11 pz0_12 pz0_13 pz0_14 pz0_18 pz0_19 pz0_22 pz0_23 pz0_29 bpz0_5 bpz0_6 bpz0_7 bpz0_8 bpz0_10 (iv_w b_2 (by decide)) bpz0_12 bpz0_13 bpz0_14 bpz0_18 bpz0_22 bpz0_29) mt_X10_is q_6_143 ⟨Nat.le_of_ble_eq_true rfl, Nat.le_of_ble_eq_true rfl⟩ hK hP hD hS hA hE [2] rfl rfl 2 rfl rfl rfl rfl hl.1 rfl (Nat.le_of_ble_eq_true rfl) dX10_readLine_42 ⟨Nat.le_of_ble_eq_true rfl, Nat.le_of_ble_eq_true rfl⟩) hP hD hS hA [2] [0, 1] rfl rfl rfl (by decide) (fun r_13 w H locs hw hP hD hS => ?_)
        obtain ⟨br_13, g_14, g_15, rfl⟩ := hw
        have hP : va_P V.1 vwCl [(z 4, aI V 1025 fz4), (z 3, aI V 900 fz3), (z 0, .inr (10, mo z pz0_0 pz0_5 pz0_6 pz0_7 pz0_8 pz0_9 pz0_10 pz0_11 pz0_12 pz0_13 pz0_14 pz0_18 pz0_19 pz0_22 pz0_23 pz0_29))] H := hP
        have hD : va_D A [(z 4, aI V 1025 fz4), (z 3, aI V 900 fz3), (z 0, .inr (10, mo z pz0_0 pz0_5 pz0_6 pz0_7 pz0_8 pz0_9 pz0_10 pz0_11 pz0_12 pz0_13 pz0_14 pz0_18 pz0_19 pz0_22 pz0_23 pz0_29))] := hD
        refine lv_if_eq (tgt := 55) hx hb dX10_readLine_45 (by decide) (fun c_16 => ?_) (fun c_16 => ?_)
        · have b_17 : iv 0 0 r_13 := iv_q c_16 (iv_c (0 : Int32) (a := 0) (b := 0) (by decide))
          refine lv_aload_n hx hb dX10_readLine_55 rfl (lv_at hl 0 rfl) ?_
          refine lv_bipush (v := 11) hx hb dX10_readLine_56 (by decide) ?_
          refine jnI (wr := [(z 4, aI V 1025 fz4), (z 3, aI V 900 fz3)]) (rnV (rest := []) ⟨hx, hb, hml, hown, hg⟩ (k_X10_is_7 l V z pz0_0 pz0_5 pz0_6 pz0_7 pz0_8 pz0_9 pz0_10 pz0_11 pz0_12 pz0_13 pz0_14 pz0_18 pz0_19 pz0_22 pz0_23 pz0_29 bpz0_5 bpz0_6 bpz0_7 bpz0_8 bpz0_10 (iv_w b_2 (by decide)) bpz0_12 bpz0_13 bpz0_14 bpz0_18 bpz0_22 bpz0_29) mt_X10_is q_6_143 ⟨Nat.le_of_ble_eq_true rfl, Nat.le_of_ble_eq_true rfl⟩ hK hP hD hS hA hE [2] rfl rfl 2 rfl rfl rfl rfl hl.1 rfl (Nat.le_of_ble_eq_true rfl) dX10_readLine_58 ⟨Nat.le_of_ble_eq_true rfl, Nat.le_of_ble_eq_true rfl⟩) hP hD hS hA [2] [0, 1] rfl rfl rfl (by decide) (fun r_18 w H locs hw hP hD hS => ?_)
          obtain ⟨br_18, g_19, g_20, rfl⟩ := hw
          have hP : va_P V.1 vwCl [(z 4, aI V 1025 fz4), (z 3, aI V 900 fz3), (z 0, .inr (10, mo z pz0_0 pz0_5 pz0_6 pz0_7 pz0_8 pz0_9 pz0_10 pz0_11 pz0_12 pz0_13 pz0_14 pz0_18 pz0_19 pz0_22 pz0_23 pz0_29))] H := hP
          have hD : va_D A [(z 4, aI V 1025 fz4), (z 3, aI V 900 fz3), (z 0, .inr (10, mo z pz0_0 pz0_5 pz0_6 pz0_7 pz0_8 pz0_9 pz0_10 pz0_11 pz0_12 pz0_13 pz0_14 pz0_18 pz0_19 pz0_22 pz0_23 pz0_29))] := hD
          refine lv_if_ne (tgt := 73) hx hb dX10_readLine_61 (by decide) (fun c_21 => ?_) (fun c_21 => ?_)
          · have b_22 : iv 1 1 r_18 := iv_n0 c_21 br_18 (iv_c (0 : Int32) (a := 0) (b := 0) (by decide)) (by decide)
            have c_23 : pz0_11 = 0 := (g_19 (iv_eqp b_22 (iv_c (1 : Int32) (by decide))))
            have c_24 : pz0_9 = 11 := (g_20 (iv_eqp b_22 (iv_c (1 : Int32) (by decide))))
            have b_25 : iv 11 11 pz0_9 := iv_q c_24 (iv_c (11 : Int32) (a := 11) (b := 11) (by decide))
            refine lv_aload_n hx hb dX10_readLine_73 rfl (lv_at hl 0 rfl) ?_
            refine lv_aload_n hx hb dX10_readLine_74 rfl (lv_at hl 0 rfl) ?_
            refine va_get (ci := 10) (v := .int pz0_9) (C := RX10) (T := TX10) (N := 40) hx hb hg inX10 hown hK hP 2 rfl rfl 9 (by decide) (hg _ q_5_233) (fun _ h9 => h9) rfl dX10_readLine_75 ?_
            refine lv_bipush (v := 11) hx hb dX10_readLine_78 (by decide) ?_
            refine lv_isub hx hb dX10_readLine_80 ?_
            refine lv_topi (fun x_26 ex_26 => ?_)
            have bx_26 : iv 0 0 x_26 := by rw [ex_26]; exact iv_sub b_25 (iv_c (11 : Int32) (a := 11) (b := 11) (by decide)) (by decide)
            refine tpi (y := 0) (iv_eqp bx_26 (iv_c (0 : Int32) (by decide))) ?_
            refine jnV (wr := []) (rnV (rest := []) ⟨hx, hb, hml, hown, hg⟩ (k_X10_readLaw_0 l V z fz4 fz3 pz0_0 pz0_5 pz0_6 pz0_7 pz0_8 pz0_9 pz0_10 pz0_11 pz0_12 pz0_13 pz0_14 pz0_18 pz0_19 pz0_22 pz0_23 pz0_29 tfz4 bpz0_5 bpz0_6 bpz0_7 bpz0_8 bpz0_10 (iv_w b_2 (by decide)) bpz0_12 bpz0_13 bpz0_14 bpz0_18 bpz0_22 bpz0_29 hf0 hf1) mt_X10_readLaw q_6_183 ⟨Nat.le_of_ble_eq_true rfl, Nat.le_of_ble_eq_true rfl⟩ hK hP hD hS hA hE [0, 1, 2] rfl rfl 2 rfl rfl rfl rfl hl.1 rfl (Nat.le_of_ble_eq_true rfl) dX10_readLine_81 ⟨Nat.le_of_ble_eq_true rfl, Nat.le_of_ble_eq_true rfl⟩) hP hD hS hA [0, 1, 2] [] rfl rfl rfl (by decide) (fun  w H locs hw hP hD hS => ?_)
            obtain ⟨f_27, v_28, v_29, v_30, v_31, v_32, v_33, tf_27, bv_28, bv_29, bv_31, bv_32, bv_33, g_34, g_35, g_36, g_37, rfl⟩ := hw
            have hP : va_P V.1 vwCl [(z 4, aI V 1025 f_27), (z 3, aI V 900 fz3), (z 0, .inr (10, mo z pz0_0 pz0_5 v_28 v_29 pz0_8 v_30 v_31 v_32 v_33 pz0_13 pz0_14 pz0_18 pz0_19 pz0_22 pz0_23 pz0_29))] H := hP
            have hD : va_D A [(z 4, aI V 1025 f_27), (z 3, aI V 900 fz3), (z 0, .inr (10, mo z pz0_0 pz0_5 v_28 v_29 pz0_8 v_30 v_31 v_32 v_33 pz0_13 pz0_14 pz0_18 pz0_19 pz0_22 pz0_23 pz0_29))] := hD
            refine lv_goto (tgt := 92) hx hb dX10_readLine_84 (by decide) ?_
            have hP := subP (ws' := [(z 4, aI V 1025 f_27), (z 0, .inr (10, mo z pz0_0 pz0_5 v_28 v_29 pz0_8 v_30 v_31 v_32 v_33 pz0_13 pz0_14 pz0_18 pz0_19 pz0_22 pz0_23 pz0_29)), (z 3, aI V 900 fz3)]) hP [0, 2, 1] rfl
            have hD := hD.sub (ws' := [(z 4, aI V 1025 f_27), (z 0, .inr (10, mo z pz0_0 pz0_5 v_28 v_29 pz0_8 v_30 v_31 v_32 v_33 pz0_13 pz0_14 pz0_18 pz0_19 pz0_22 pz0_23 pz0_29)), (z 3, aI V 900 fz3)]) [0, 2, 1] rfl rfl
            exact fiV hx hb hr hlk hK hP hD hS dX10_readLine_92 (Nat.le_of_ble_eq_true rfl) (Nat.le_of_ble_eq_true rfl) (⟨f_27, v_28, v_29, v_30, v_31, v_32, v_33, tf_27, bv_28, bv_29, bv_31, bv_32, bv_33, g_34, g_35, (by have z_0 := g_36;have y_0 := hf0.1; have y_1 := g_34.1; omega), (fun q9 => ((g_37) q9)), rfl⟩)
          · have b_38 : iv 0 0 r_18 := iv_q c_21 (iv_c (0 : Int32) (a := 0) (b := 0) (by decide))
            refine lv_aload_n hx hb dX10_readLine_64 rfl (lv_at hl 0 rfl) ?_
            refine lv_bipush (v := 12) hx hb dX10_readLine_65 (by decide) ?_
            refine jnI (wr := [(z 4, aI V 1025 fz4), (z 3, aI V 900 fz3)]) (rnV (rest := []) ⟨hx, hb, hml, hown, hg⟩ (k_X10_is_26 l V z pz0_0 pz0_5 pz0_6 pz0_7 pz0_8 pz0_9 pz0_10 pz0_11 pz0_12 pz0_13 pz0_14 pz0_18 pz0_19 pz0_22 pz0_23 pz0_29 bpz0_5 bpz0_6 bpz0_7 bpz0_8 bpz0_10 (iv_w b_2 (by decide)) bpz0_12 bpz0_13 bpz0_14 bpz0_18 bpz0_22 bpz0_29) mt_X10_is q_6_143 ⟨Nat.le_of_ble_eq_true rfl, Nat.le_of_ble_eq_true rfl⟩ hK hP hD hS hA hE [2] rfl rfl 2 rfl rfl rfl rfl hl.1 rfl (Nat.le_of_ble_eq_true rfl) dX10_readLine_67 ⟨Nat.le_of_ble_eq_true rfl, Nat.le_of_ble_eq_true rfl⟩) hP hD hS hA [2] [0, 1] rfl rfl rfl (by decide) (fun r_39 w H locs hw hP hD hS => ?_)
            obtain ⟨br_39, g_40, g_41, rfl⟩ := hw
            have hP : va_P V.1 vwCl [(z 4, aI V 1025 fz4), (z 3, aI V 900 fz3), (z 0, .inr (10, mo z pz0_0 pz0_5 pz0_6 pz0_7 pz0_8 pz0_9 pz0_10 pz0_11 pz0_12 pz0_13 pz0_14 pz0_18 pz0_19 pz0_22 pz0_23 pz0_29))] H := hP
            have hD : va_D A [(z 4, aI V 1025 fz4), (z 3, aI V 900 fz3), (z 0, .inr (10, mo z pz0_0 pz0_5 pz0_6 pz0_7 pz0_8 pz0_9 pz0_10 pz0_11 pz0_12 pz0_13 pz0_14 pz0_18 pz0_19 pz0_22 pz0_23 pz0_29))] := hD
            refine lv_if_eq (tgt := 87) hx hb dX10_readLine_70 (by decide) (fun c_42 => ?_) (fun c_42 => ?_)
            · have b_43 : iv 0 0 r_39 := iv_q c_42 (iv_c (0 : Int32) (a := 0) (b := 0) (by decide))
              refine lv_aload_n hx hb dX10_readLine_87 rfl (lv_at hl 0 rfl) ?_
              refine lv_iconst (v := 2) hx hb dX10_readLine_88 (by decide) ?_
              refine jnV (wr := [(z 4, aI V 1025 fz4), (z 3, aI V 900 fz3)]) (rnV (rest := []) ⟨hx, hb, hml, hown, hg⟩ (k_X10_fails_0 l V z 2 pz0_0 pz0_5 pz0_6 pz0_7 pz0_8 pz0_9 pz0_10 pz0_11 pz0_12 pz0_13 pz0_14 pz0_18 pz0_19 pz0_22 pz0_23 pz0_29 (iv_c (2 : Int32) (by decide)) bpz0_5 bpz0_6 bpz0_7 bpz0_8 bpz0_10 (iv_w b_2 (by decide)) bpz0_12 bpz0_13 bpz0_14 bpz0_18 bpz0_22 bpz0_29) mt_X10_fails q_6_147 ⟨Nat.le_of_ble_eq_true rfl, Nat.le_of_ble_eq_true rfl⟩ hK hP hD hS hA hE [2] rfl rfl 2 rfl rfl rfl rfl hl.1 rfl (Nat.le_of_ble_eq_true rfl) dX10_readLine_89 ⟨Nat.le_of_ble_eq_true rfl, Nat.le_of_ble_eq_true rfl⟩) hP hD hS hA [2] [0, 1] rfl rfl rfl (by decide) (fun  w H locs hw hP hD hS => ?_)
              obtain ⟨v_44, v_45, bv_44, bv_45, rfl⟩ := hw
              have hP : va_P V.1 vwCl [(z 4, aI V 1025 fz4), (z 3, aI V 900 fz3), (z 0, .inr (10, mo z pz0_0 pz0_5 pz0_6 pz0_7 pz0_8 pz0_9 pz0_10 v_44 v_45 pz0_13 pz0_14 pz0_18 pz0_19 pz0_22 pz0_23 pz0_29))] H := hP
              have hD : va_D A [(z 4, aI V 1025 fz4), (z 3, aI V 900 fz3), (z 0, .inr (10, mo z pz0_0 pz0_5 pz0_6 pz0_7 pz0_8 pz0_9 pz0_10 v_44 v_45 pz0_13 pz0_14 pz0_18 pz0_19 pz0_22 pz0_23 pz0_29))] := hD
              have hP := subP (ws' := [(z 4, aI V 1025 fz4), (z 0, .inr (10, mo z pz0_0 pz0_5 pz0_6 pz0_7 pz0_8 pz0_9 pz0_10 v_44 v_45 pz0_13 pz0_14 pz0_18 pz0_19 pz0_22 pz0_23 pz0_29)), (z 3, aI V 900 fz3)]) hP [0, 2, 1] rfl
              have hD := hD.sub (ws' := [(z 4, aI V 1025 fz4), (z 0, .inr (10, mo z pz0_0 pz0_5 pz0_6 pz0_7 pz0_8 pz0_9 pz0_10 v_44 v_45 pz0_13 pz0_14 pz0_18 pz0_19 pz0_22 pz0_23 pz0_29)), (z 3, aI V 900 fz3)]) [0, 2, 1] rfl rfl
              exact fiV hx hb hr hlk hK hP hD hS dX10_readLine_92 (Nat.le_of_ble_eq_true rfl) (Nat.le_of_ble_eq_true rfl) (⟨fz4, pz0_6, pz0_7, pz0_9, pz0_10, v_44, v_45, tfz4, bpz0_6, bpz0_7, bpz0_10, (iv_w bv_44 (by decide)), bv_45, hf0, (PS_f bv_44 (by decide)), (Int.le_refl _), (fun q9 => ((fun q8 => absurd q8 (iv_nz bv_44 (by decide))) q9)), rfl⟩)
            · have b_46 : iv 1 1 r_39 := iv_n0 c_42 br_39 (iv_c (0 : Int32) (a := 0) (b := 0) (by decide)) (by decide)
              have c_47 : pz0_11 = 0 := (g_40 (iv_eqp b_46 (iv_c (1 : Int32) (by decide))))
              have c_48 : pz0_9 = 12 := (g_41 (iv_eqp b_46 (iv_c (1 : Int32) (by decide))))
              have b_49 : iv 12 12 pz0_9 := iv_q c_48 (iv_c (12 : Int32) (a := 12) (b := 12) (by decide))
              refine lv_aload_n hx hb dX10_readLine_73 rfl (lv_at hl 0 rfl) ?_
              refine lv_aload_n hx hb dX10_readLine_74 rfl (lv_at hl 0 rfl) ?_
              refine va_get (ci := 10) (v := .int pz0_9) (C := RX10) (T := TX10) (N := 40) hx hb hg inX10 hown hK hP 2 rfl rfl 9 (by decide) (hg _ q_5_233) (fun _ h9 => h9) rfl dX10_readLine_75 ?_
              refine lv_bipush (v := 11) hx hb dX10_readLine_78 (by decide) ?_
              refine lv_isub hx hb dX10_readLine_80 ?_
              refine lv_topi (fun x_50 ex_50 => ?_)
              have bx_50 : iv 1 1 x_50 := by rw [ex_50]; exact iv_sub b_49 (iv_c (11 : Int32) (a := 11) (b := 11) (by decide)) (by decide)
              refine tpi (y := 1) (iv_eqp bx_50 (iv_c (1 : Int32) (by decide))) ?_
              refine jnV (wr := []) (rnV (rest := []) ⟨hx, hb, hml, hown, hg⟩ (k_X10_readLaw_1 l V z fz4 fz3 pz0_0 pz0_5 pz0_6 pz0_7 pz0_8 pz0_9 pz0_10 pz0_11 pz0_12 pz0_13 pz0_14 pz0_18 pz0_19 pz0_22 pz0_23 pz0_29 tfz4 bpz0_5 bpz0_6 bpz0_7 bpz0_8 bpz0_10 (iv_w b_2 (by decide)) bpz0_12 bpz0_13 bpz0_14 bpz0_18 bpz0_22 bpz0_29 hf0 hf1) mt_X10_readLaw q_6_183 ⟨Nat.le_of_ble_eq_true rfl, Nat.le_of_ble_eq_true rfl⟩ hK hP hD hS hA hE [0, 1, 2] rfl rfl 2 rfl rfl rfl rfl hl.1 rfl (Nat.le_of_ble_eq_true rfl) dX10_readLine_81 ⟨Nat.le_of_ble_eq_true rfl, Nat.le_of_ble_eq_true rfl⟩) hP hD hS hA [0, 1, 2] [] rfl rfl rfl (by decide) (fun  w H locs hw hP hD hS => ?_)
              obtain ⟨f_51, v_52, v_53, v_54, v_55, v_56, v_57, tf_51, bv_52, bv_53, bv_55, bv_56, bv_57, g_58, g_59, g_60, g_61, rfl⟩ := hw
              have hP : va_P V.1 vwCl [(z 4, aI V 1025 f_51), (z 3, aI V 900 fz3), (z 0, .inr (10, mo z pz0_0 pz0_5 v_52 v_53 pz0_8 v_54 v_55 v_56 v_57 pz0_13 pz0_14 pz0_18 pz0_19 pz0_22 pz0_23 pz0_29))] H := hP
              have hD : va_D A [(z 4, aI V 1025 f_51), (z 3, aI V 900 fz3), (z 0, .inr (10, mo z pz0_0 pz0_5 v_52 v_53 pz0_8 v_54 v_55 v_56 v_57 pz0_13 pz0_14 pz0_18 pz0_19 pz0_22 pz0_23 pz0_29))] := hD
              refine lv_goto (tgt := 92) hx hb dX10_readLine_84 (by decide) ?_
              have hP := subP (ws' := [(z 4, aI V 1025 f_51), (z 0, .inr (10, mo z pz0_0 pz0_5 v_52 v_53 pz0_8 v_54 v_55 v_56 v_57 pz0_13 pz0_14 pz0_18 pz0_19 pz0_22 pz0_23 pz0_29)), (z 3, aI V 900 fz3)]) hP [0, 2, 1] rfl
              have hD := hD.sub (ws' := [(z 4, aI V 1025 f_51), (z 0, .inr (10, mo z pz0_0 pz0_5 v_52 v_53 pz0_8 v_54 v_55 v_56 v_57 pz0_13 pz0_14 pz0_18 pz0_19 pz0_22 pz0_23 pz0_29)), (z 3, aI V 900 fz3)]) [0, 2, 1] rfl rfl
              exact fiV hx hb hr hlk hK hP hD hS dX10_readLine_92 (Nat.le_of_ble_eq_true rfl) (Nat.le_of_ble_eq_true rfl) (⟨f_51, v_52, v_53, v_54, v_55, v_56, v_57, tf_51, bv_52, bv_53, bv_55, bv_56, bv_57, g_58, g_59, (by have z_0 := g_60;have y_0 := hf0.1; have y_1 := g_58.1; omega), (fun q9 => ((g_61) q9)), rfl⟩)
        · have b_62 : iv 1 1 r_13 := iv_n0 c_16 br_13 (iv_c (0 : Int32) (a := 0) (b := 0) (by decide)) (by decide)
          have c_63 : pz0_11 = 0 := (g_14 (iv_eqp b_62 (iv_c (1 : Int32) (by decide))))
          have c_64 : pz0_9 = 9 := (g_15 (iv_eqp b_62 (iv_c (1 : Int32) (by decide))))
          have b_65 : iv 9 9 pz0_9 := iv_q c_64 (iv_c (9 : Int32) (a := 9) (b := 9) (by decide))
          refine lv_aload_n hx hb dX10_readLine_48 rfl (lv_at hl 0 rfl) ?_
          refine jnV (wr := []) (rnV (rest := []) ⟨hx, hb, hml, hown, hg⟩ (k_X10_readRoad_0 l V z fz4 fz3 pz0_0 pz0_5 pz0_6 pz0_7 pz0_8 pz0_9 pz0_10 pz0_11 pz0_12 pz0_13 pz0_14 pz0_18 pz0_19 pz0_22 pz0_23 pz0_29 tfz4 bpz0_5 bpz0_6 bpz0_7 bpz0_8 bpz0_10 (iv_w b_2 (by decide)) bpz0_12 bpz0_13 bpz0_14 bpz0_18 bpz0_22 bpz0_29 hf0 hf1) mt_X10_readRoad q_6_179 ⟨Nat.le_of_ble_eq_true rfl, Nat.le_of_ble_eq_true rfl⟩ hK hP hD hS hA hE [0, 1, 2] rfl rfl 2 rfl rfl rfl rfl hl.1 rfl (Nat.le_of_ble_eq_true rfl) dX10_readLine_49 ⟨Nat.le_of_ble_eq_true rfl, Nat.le_of_ble_eq_true rfl⟩) hP hD hS hA [0, 1, 2] [] rfl rfl rfl (by decide) (fun  w H locs hw hP hD hS => ?_)
          obtain ⟨f_66, v_67, v_68, v_69, v_70, v_71, v_72, tf_66, bv_67, bv_68, bv_70, bv_71, bv_72, g_73, g_74, g_75, g_76, rfl⟩ := hw
          have hP : va_P V.1 vwCl [(z 4, aI V 1025 f_66), (z 3, aI V 900 fz3), (z 0, .inr (10, mo z pz0_0 pz0_5 v_67 v_68 pz0_8 v_69 v_70 v_71 v_72 pz0_13 pz0_14 pz0_18 pz0_19 pz0_22 pz0_23 pz0_29))] H := hP
          have hD : va_D A [(z 4, aI V 1025 f_66), (z 3, aI V 900 fz3), (z 0, .inr (10, mo z pz0_0 pz0_5 v_67 v_68 pz0_8 v_69 v_70 v_71 v_72 pz0_13 pz0_14 pz0_18 pz0_19 pz0_22 pz0_23 pz0_29))] := hD
          refine lv_goto (tgt := 92) hx hb dX10_readLine_52 (by decide) ?_
          have hP := subP (ws' := [(z 4, aI V 1025 f_66), (z 0, .inr (10, mo z pz0_0 pz0_5 v_67 v_68 pz0_8 v_69 v_70 v_71 v_72 pz0_13 pz0_14 pz0_18 pz0_19 pz0_22 pz0_23 pz0_29)), (z 3, aI V 900 fz3)]) hP [0, 2, 1] rfl
          have hD := hD.sub (ws' := [(z 4, aI V 1025 f_66), (z 0, .inr (10, mo z pz0_0 pz0_5 v_67 v_68 pz0_8 v_69 v_70 v_71 v_72 pz0_13 pz0_14 pz0_18 pz0_19 pz0_22 pz0_23 pz0_29)), (z 3, aI V 900 fz3)]) [0, 2, 1] rfl rfl
          exact fiV hx hb hr hlk hK hP hD hS dX10_readLine_92 (Nat.le_of_ble_eq_true rfl) (Nat.le_of_ble_eq_true rfl) (⟨f_66, v_67, v_68, v_69, v_70, v_71, v_72, tf_66, bv_67, bv_68, bv_70, bv_71, bv_72, g_73, g_74, (by have z_0 := g_75;have y_0 := hf0.1; have y_1 := g_73.1; omega), (fun q9 => ((g_76) q9)), rfl⟩)
      · have b_77 : iv 1 1 r_8 := iv_n0 c_11 br_8 (iv_c (0 : Int32) (a := 0) (b := 0) (by decide)) (by decide)
        have c_78 : pz0_11 = 0 := (g_9 (iv_eqp b_77 (iv_c (1 : Int32) (by decide))))
        have c_79 : pz0_9 = 7 := (g_10 (iv_eqp b_77 (iv_c (1 : Int32) (by decide))))
        have b_80 : iv 7 7 pz0_9 := iv_q c_79 (iv_c (7 : Int32) (a := 7) (b := 7) (by decide))
        refine lv_aload_n hx hb dX10_readLine_32 rfl (lv_at hl 0 rfl) ?_
        refine jnV (wr := []) (rnV (rest := []) ⟨hx, hb, hml, hown, hg⟩ (k_X10_readVillage_0 l V z fz4 fz3 pz0_0 pz0_5 pz0_6 pz0_7 pz0_8 pz0_9 pz0_10 pz0_11 pz0_12 pz0_13 pz0_14 pz0_18 pz0_19 pz0_22 pz0_23 pz0_29 tfz4 bpz0_5 bpz0_6 bpz0_7 bpz0_8 bpz0_10 (iv_w b_2 (by decide)) bpz0_12 bpz0_13 bpz0_14 bpz0_18 bpz0_22 bpz0_29 hf0 hf1) mt_X10_readVillage q_6_175 ⟨Nat.le_of_ble_eq_true rfl, Nat.le_of_ble_eq_true rfl⟩ hK hP hD hS hA hE [0, 1, 2] rfl rfl 2 rfl rfl rfl rfl hl.1 rfl (Nat.le_of_ble_eq_true rfl) dX10_readLine_33 ⟨Nat.le_of_ble_eq_true rfl, Nat.le_of_ble_eq_true rfl⟩) hP hD hS hA [0, 1, 2] [] rfl rfl rfl (by decide) (fun  w H locs hw hP hD hS => ?_)
        obtain ⟨f_81, v_82, v_83, v_84, v_85, v_86, v_87, tf_81, bv_82, bv_83, bv_85, bv_86, bv_87, g_88, g_89, g_90, g_91, rfl⟩ := hw
        have hP : va_P V.1 vwCl [(z 4, aI V 1025 f_81), (z 3, aI V 900 fz3), (z 0, .inr (10, mo z pz0_0 pz0_5 v_82 v_83 pz0_8 v_84 v_85 v_86 v_87 pz0_13 pz0_14 pz0_18 pz0_19 pz0_22 pz0_23 pz0_29))] H := hP
        have hD : va_D A [(z 4, aI V 1025 f_81), (z 3, aI V 900 fz3), (z 0, .inr (10, mo z pz0_0 pz0_5 v_82 v_83 pz0_8 v_84 v_85 v_86 v_87 pz0_13 pz0_14 pz0_18 pz0_19 pz0_22 pz0_23 pz0_29))] := hD
        refine lv_goto (tgt := 92) hx hb dX10_readLine_36 (by decide) ?_
        have hP := subP (ws' := [(z 4, aI V 1025 f_81), (z 0, .inr (10, mo z pz0_0 pz0_5 v_82 v_83 pz0_8 v_84 v_85 v_86 v_87 pz0_13 pz0_14 pz0_18 pz0_19 pz0_22 pz0_23 pz0_29)), (z 3, aI V 900 fz3)]) hP [0, 2, 1] rfl
        have hD := hD.sub (ws' := [(z 4, aI V 1025 f_81), (z 0, .inr (10, mo z pz0_0 pz0_5 v_82 v_83 pz0_8 v_84 v_85 v_86 v_87 pz0_13 pz0_14 pz0_18 pz0_19 pz0_22 pz0_23 pz0_29)), (z 3, aI V 900 fz3)]) [0, 2, 1] rfl rfl
        exact fiV hx hb hr hlk hK hP hD hS dX10_readLine_92 (Nat.le_of_ble_eq_true rfl) (Nat.le_of_ble_eq_true rfl) (⟨f_81, v_82, v_83, v_84, v_85, v_86, v_87, tf_81, bv_82, bv_83, bv_85, bv_86, bv_87, g_88, g_89, (by have z_0 := g_90;have y_0 := hf0.1; have y_1 := g_88.1; omega), (fun q9 => ((g_91) q9)), rfl⟩)
    · have b_92 : iv 1 1 r_3 := iv_n0 c_6 br_3 (iv_c (0 : Int32) (a := 0) (b := 0) (by decide)) (by decide)
      have c_93 : pz0_11 = 0 := (g_4 (iv_eqp b_92 (iv_c (1 : Int32) (by decide))))
      have c_94 : pz0_9 = 2 := (g_5 (iv_eqp b_92 (iv_c (1 : Int32) (by decide))))
      have b_95 : iv 2 2 pz0_9 := iv_q c_94 (iv_c (2 : Int32) (a := 2) (b := 2) (by decide))
      refine lv_aload_n hx hb dX10_readLine_16 rfl (lv_at hl 0 rfl) ?_
      refine jnV (wr := []) (rnV (rest := []) ⟨hx, hb, hml, hown, hg⟩ (k_X10_readHill_0 l V z fz4 fz3 pz0_0 pz0_5 pz0_6 pz0_7 pz0_8 pz0_9 pz0_10 pz0_11 pz0_12 pz0_13 pz0_14 pz0_18 pz0_19 pz0_22 pz0_23 pz0_29 tfz4 bpz0_5 bpz0_6 bpz0_7 bpz0_8 bpz0_10 (iv_w b_2 (by decide)) bpz0_12 bpz0_13 bpz0_14 bpz0_18 bpz0_22 bpz0_29 hf0 hf1) mt_X10_readHill q_6_167 ⟨Nat.le_of_ble_eq_true rfl, Nat.le_of_ble_eq_true rfl⟩ hK hP hD hS hA hE [0, 1, 2] rfl rfl 2 rfl rfl rfl rfl hl.1 rfl (Nat.le_of_ble_eq_true rfl) dX10_readLine_17 ⟨Nat.le_of_ble_eq_true rfl, Nat.le_of_ble_eq_true rfl⟩) hP hD hS hA [0, 1, 2] [] rfl rfl rfl (by decide) (fun  w H locs hw hP hD hS => ?_)
      obtain ⟨f_96, v_97, v_98, v_99, v_100, v_101, v_102, tf_96, bv_97, bv_98, bv_100, bv_101, bv_102, g_103, g_104, g_105, g_106, rfl⟩ := hw
      have hP : va_P V.1 vwCl [(z 4, aI V 1025 f_96), (z 3, aI V 900 fz3), (z 0, .inr (10, mo z pz0_0 pz0_5 v_97 v_98 pz0_8 v_99 v_100 v_101 v_102 pz0_13 pz0_14 pz0_18 pz0_19 pz0_22 pz0_23 pz0_29))] H := hP
      have hD : va_D A [(z 4, aI V 1025 f_96), (z 3, aI V 900 fz3), (z 0, .inr (10, mo z pz0_0 pz0_5 v_97 v_98 pz0_8 v_99 v_100 v_101 v_102 pz0_13 pz0_14 pz0_18 pz0_19 pz0_22 pz0_23 pz0_29))] := hD
      refine lv_goto (tgt := 92) hx hb dX10_readLine_20 (by decide) ?_
      have hP := subP (ws' := [(z 4, aI V 1025 f_96), (z 0, .inr (10, mo z pz0_0 pz0_5 v_97 v_98 pz0_8 v_99 v_100 v_101 v_102 pz0_13 pz0_14 pz0_18 pz0_19 pz0_22 pz0_23 pz0_29)), (z 3, aI V 900 fz3)]) hP [0, 2, 1] rfl
      have hD := hD.sub (ws' := [(z 4, aI V 1025 f_96), (z 0, .inr (10, mo z pz0_0 pz0_5 v_97 v_98 pz0_8 v_99 v_100 v_101 v_102 pz0_13 pz0_14 pz0_18 pz0_19 pz0_22 pz0_23 pz0_29)), (z 3, aI V 900 fz3)]) [0, 2, 1] rfl rfl
      exact fiV hx hb hr hlk hK hP hD hS dX10_readLine_92 (Nat.le_of_ble_eq_true rfl) (Nat.le_of_ble_eq_true rfl) (⟨f_96, v_97, v_98, v_99, v_100, v_101, v_102, tf_96, bv_97, bv_98, bv_100, bv_101, bv_102, g_103, g_104, (by have z_0 := g_105;have y_0 := hf0.1; have y_1 := g_103.1; omega), (fun q9 => ((g_106) q9)), rfl⟩)
  · have b_107 : iv 1 4 pz0_11 := iv_n0 c_1 bpz0_11 (iv_c (0 : Int32) (a := 0) (b := 0) (by decide)) (by decide)
    exact fiV hx hb hr hlk hK hP hD hS dX10_readLine_7 (Nat.le_of_ble_eq_true rfl) (Nat.le_of_ble_eq_true rfl) (⟨fz4, pz0_6, pz0_7, pz0_9, pz0_10, pz0_11, pz0_12, tfz4, bpz0_6, bpz0_7, bpz0_10, (iv_w b_107 (by decide)), bpz0_12, hf0, hf1, (Int.le_refl _), (fun q9 => q9), rfl⟩)
theorem dX10_coast_0 : decode cX10_coast 0 = .ok (.aload_n 0, 1) := by decide +kernel
theorem dX10_coast_1 : decode cX10_coast 1 = .ok (.iconst 0, 1) := by decide +kernel
theorem dX10_coast_2 : decode cX10_coast 2 = .ok (.putfield 1, 3) := by decide +kernel
theorem dX10_coast_5 : decode cX10_coast 5 = .ok (.iload_n 1, 1) := by decide +kernel
theorem dX10_coast_6 : decode cX10_coast 6 = .ok (.i2l, 1) := by decide +kernel
theorem dX10_coast_7 : decode cX10_coast 7 = .ok (.lconst 0, 1) := by decide +kernel
theorem dX10_coast_8 : decode cX10_coast 8 = .ok (.aload_n 0, 1) := by decide +kernel
theorem dX10_coast_9 : decode cX10_coast 9 = .ok (.getfield 97, 3) := by decide +kernel
theorem dX10_coast_12 : decode cX10_coast 12 = .ok (.i2l, 1) := by decide +kernel
theorem dX10_coast_13 : decode cX10_coast 13 = .ok (.invokestatic 159, 3) := by decide +kernel
theorem dX10_coast_16 : decode cX10_coast 16 = .ok (.ifCond .ne 6, 3) := by decide +kernel
theorem dX10_coast_22 : decode cX10_coast 22 = .ok (.aload_n 0, 1) := by decide +kernel
theorem dX10_coast_23 : decode cX10_coast 23 = .ok (.iload_n 1, 1) := by decide +kernel
theorem dX10_coast_24 : decode cX10_coast 24 = .ok (.putfield 100, 3) := by decide +kernel
theorem dX10_coast_27 : decode cX10_coast 27 = .ok (.aload_n 0, 1) := by decide +kernel
theorem dX10_coast_28 : decode cX10_coast 28 = .ok (.iconst 0, 1) := by decide +kernel
theorem dX10_coast_29 : decode cX10_coast 29 = .ok (.putfield 97, 3) := by decide +kernel
theorem dX10_coast_32 : decode cX10_coast 32 = .ok (.aload_n 0, 1) := by decide +kernel
theorem dX10_coast_33 : decode cX10_coast 33 = .ok (.iconst 0, 1) := by decide +kernel
theorem dX10_coast_34 : decode cX10_coast 34 = .ok (.putfield 118, 3) := by decide +kernel
theorem dX10_coast_37 : decode cX10_coast 37 = .ok (.aload_n 0, 1) := by decide +kernel
theorem dX10_coast_38 : decode cX10_coast 38 = .ok (.iconst 0, 1) := by decide +kernel
theorem dX10_coast_39 : decode cX10_coast 39 = .ok (.putfield 143, 3) := by decide +kernel
theorem dX10_coast_42 : decode cX10_coast 42 = .ok (.aload_n 0, 1) := by decide +kernel
theorem dX10_coast_43 : decode cX10_coast 43 = .ok (.getfield 24, 3) := by decide +kernel
theorem q_5_223 : Cond.code yX10_plain prog_12_method_4_code 2 none ∈ gw := gw_5 (i := 223) (rfl) rfl
theorem q_5_222 : Cond.static yX10_plain ∈ gw := gw_5 (i := 222) (by decide +kernel) rfl
theorem mt_X10_plain : MtS yX10_plain cX10_plain 2 none 1 := ⟨⟨q_5_223, q_1_9, by decide +kernel, by decide +kernel, by decide +kernel⟩, q_5_222⟩
theorem q_5_221 : Cond.methodLink "BeaconDelayModel" 93 yX10_plain ∈ gw := gw_5 (i := 221) (by decide +kernel) rfl
theorem dX10_coast_46 : decode cX10_coast 46 = .ok (.invokestatic 93, 3) := by decide +kernel
theorem dX10_coast_49 : decode cX10_coast 49 = .ok (.aload_n 0, 1) := by decide +kernel
theorem dX10_coast_50 : decode cX10_coast 50 = .ok (.invokevirtual 152, 3) := by decide +kernel
theorem dX10_coast_53 : decode cX10_coast 53 = .ok (.aload_n 0, 1) := by decide +kernel
theorem dX10_coast_54 : decode cX10_coast 54 = .ok (.iconst 0, 1) := by decide +kernel
theorem dX10_coast_55 : decode cX10_coast 55 = .ok (.invokevirtual 175, 3) := by decide +kernel
theorem dX10_coast_58 : decode cX10_coast 58 = .ok (.ifCond .ne 8, 3) := by decide +kernel
theorem dX10_coast_66 : decode cX10_coast 66 = .ok (.aload_n 0, 1) := by decide +kernel
theorem dX10_coast_67 : decode cX10_coast 67 = .ok (.getfield 24, 3) := by decide +kernel
theorem dX10_coast_70 : decode cX10_coast 70 = .ok (.bipush 51, 2) := by decide +kernel
theorem dX10_coast_72 : decode cX10_coast 72 = .ok (.aload_n 0, 1) := by decide +kernel
theorem dX10_coast_73 : decode cX10_coast 73 = .ok (.iconst 1, 1) := by decide +kernel
theorem dX10_coast_74 : decode cX10_coast 74 = .ok (.iconst 0, 1) := by decide +kernel
theorem dX10_coast_75 : decode cX10_coast 75 = .ok (.bipush 9, 2) := by decide +kernel
theorem dX10_coast_77 : decode cX10_coast 77 = .ok (.invokevirtual 200, 3) := by decide +kernel
theorem dX10_coast_80 : decode cX10_coast 80 = .ok (.iastore, 1) := by decide +kernel
theorem dX10_coast_81 : decode cX10_coast 81 = .ok (.aload_n 0, 1) := by decide +kernel
theorem q_6_162 : Cond.code yX10_closes prog_12_method_33_code 1 none ∈ gw := gw_6 (i := 162) (rfl) rfl
theorem q_6_161 : Cond.instanceMethod yX10_closes ∈ gw := gw_6 (i := 161) (by decide +kernel) rfl
theorem q_s_62 : Cond.selects "BeaconDelayModel" yX10_closes yX10_closes ∈ gw := gw_s (i := 62) (by decide +kernel) rfl
theorem mt_X10_closes : MtV yX10_closes cX10_closes 1 none 0 := ⟨⟨q_6_162, q_1_9, by decide +kernel, by decide +kernel, by decide +kernel⟩, q_6_161, q_s_62⟩
theorem q_6_159 : Cond.methodLink "BeaconDelayModel" 219 yX10_closes ∈ gw := gw_6 (i := 159) (by decide +kernel) rfl
theorem dX10_coast_82 : decode cX10_coast 82 = .ok (.invokevirtual 219, 3) := by decide +kernel
theorem dX10_coast_85 : decode cX10_coast 85 = .ok (.aload_n 0, 1) := by decide +kernel
theorem dX10_coast_86 : decode cX10_coast 86 = .ok (.getfield 143, 3) := by decide +kernel
theorem dX10_coast_89 : decode cX10_coast 89 = .ok (.ifCond .ne 23, 3) := by decide +kernel
theorem dX10_coast_112 : decode cX10_coast 112 = .ok (.aload_n 0, 1) := by decide +kernel
theorem dX10_coast_113 : decode cX10_coast 113 = .ok (.aload_n 0, 1) := by decide +kernel
theorem dX10_coast_114 : decode cX10_coast 114 = .ok (.getfield 143, 3) := by decide +kernel
theorem q_5_237 : Cond.fieldLink "BeaconDelayModel" 225 "BeaconDelayModel" "faultKind" "I" ∈ gw := gw_5 (i := 237) (by decide +kernel) rfl
theorem dX10_coast_117 : decode cX10_coast 117 = .ok (.putfield 225, 3) := by decide +kernel
theorem dX10_coast_120 : decode cX10_coast 120 = .ok (.aload_n 0, 1) := by decide +kernel
theorem dX10_coast_121 : decode cX10_coast 121 = .ok (.aload_n 0, 1) := by decide +kernel
theorem dX10_coast_122 : decode cX10_coast 122 = .ok (.getfield 143, 3) := by decide +kernel
theorem dX10_coast_125 : decode cX10_coast 125 = .ok (.ifCond .ne 7, 3) := by decide +kernel
theorem dX10_coast_132 : decode cX10_coast 132 = .ok (.aload_n 0, 1) := by decide +kernel
theorem dX10_coast_133 : decode cX10_coast 133 = .ok (.getfield 146, 3) := by decide +kernel
theorem q_5_238 : Cond.fieldLink "BeaconDelayModel" 27 "BeaconDelayModel" "faultPlace" "I" ∈ gw := gw_5 (i := 238) (by decide +kernel) rfl
theorem dX10_coast_136 : decode cX10_coast 136 = .ok (.putfield 27, 3) := by decide +kernel
theorem dX10_coast_139 : decode cX10_coast 139 = .ok (.aload_n 0, 1) := by decide +kernel
theorem dX10_coast_140 : decode cX10_coast 140 = .ok (.getfield 143, 3) := by decide +kernel
theorem dX10_coast_143 : decode cX10_coast 143 = .ok (.ifCond .eq 11, 3) := by decide +kernel
theorem dX10_coast_146 : decode cX10_coast 146 = .ok (.bipush (-30), 2) := by decide +kernel
theorem dX10_coast_148 : decode cX10_coast 148 = .ok (.aload_n 0, 1) := by decide +kernel
theorem dX10_coast_149 : decode cX10_coast 149 = .ok (.getfield 143, 3) := by decide +kernel
theorem dX10_coast_152 : decode cX10_coast 152 = .ok (.isub, 1) := by decide +kernel
theorem dX10_coast_153 : decode cX10_coast 153 = .ok (.ireturn, 1) := by decide +kernel
theorem dX10_coast_92 : decode cX10_coast 92 = .ok (.aload_n 0, 1) := by decide +kernel
theorem dX10_coast_93 : decode cX10_coast 93 = .ok (.getfield 125, 3) := by decide +kernel
theorem dX10_coast_96 : decode cX10_coast 96 = .ok (.bipush 24, 2) := by decide +kernel
theorem dX10_coast_98 : decode cX10_coast 98 = .ok (.if_icmp .eq 14, 3) := by decide +kernel
theorem dX10_coast_128 : decode cX10_coast 128 = .ok (.iconst (-1), 1) := by decide +kernel
theorem dX10_coast_129 : decode cX10_coast 129 = .ok (.goto 7, 3) := by decide +kernel
theorem dX10_coast_154 : decode cX10_coast 154 = .ok (.iconst 0, 1) := by decide +kernel
theorem dX10_coast_155 : decode cX10_coast 155 = .ok (.istore_n 2, 1) := by decide +kernel
theorem dX10_coast_156 : decode cX10_coast 156 = .ok (.iload_n 2, 1) := by decide +kernel
theorem dX10_coast_157 : decode cX10_coast 157 = .ok (.sipush 1025, 3) := by decide +kernel
theorem dX10_coast_160 : decode cX10_coast 160 = .ok (.if_icmp .ge 21, 3) := by decide +kernel
theorem dX10_coast_181 : decode cX10_coast 181 = .ok (.aload_n 0, 1) := by decide +kernel
theorem q_5_225 : Cond.fieldLink "BeaconDelayModel" 13 "BeaconDelayModel" "all" "[I" ∈ gw := gw_5 (i := 225) (by decide +kernel) rfl
theorem dX10_coast_182 : decode cX10_coast 182 = .ok (.getfield 13, 3) := by decide +kernel
theorem dX10_coast_185 : decode cX10_coast 185 = .ok (.iconst 0, 1) := by decide +kernel
theorem dX10_coast_186 : decode cX10_coast 186 = .ok (.iaload, 1) := by decide +kernel
theorem dX10_coast_187 : decode cX10_coast 187 = .ok (.ireturn, 1) := by decide +kernel
theorem dX10_coast_163 : decode cX10_coast 163 = .ok (.aload_n 0, 1) := by decide +kernel
theorem dX10_coast_164 : decode cX10_coast 164 = .ok (.getfield 13, 3) := by decide +kernel
theorem dX10_coast_167 : decode cX10_coast 167 = .ok (.iload_n 2, 1) := by decide +kernel
theorem dX10_coast_168 : decode cX10_coast 168 = .ok (.aload_n 0, 1) := by decide +kernel
theorem dX10_coast_169 : decode cX10_coast 169 = .ok (.getfield 24, 3) := by decide +kernel
theorem dX10_coast_172 : decode cX10_coast 172 = .ok (.iload_n 2, 1) := by decide +kernel
theorem dX10_coast_173 : decode cX10_coast 173 = .ok (.iaload, 1) := by decide +kernel
theorem dX10_coast_174 : decode cX10_coast 174 = .ok (.iastore, 1) := by decide +kernel
theorem dX10_coast_175 : decode cX10_coast 175 = .ok (.iinc 2 1, 3) := by decide +kernel
theorem dX10_coast_178 : decode cX10_coast 178 = .ok (.goto (-22), 3) := by decide +kernel
theorem dX10_coast_101 : decode cX10_coast 101 = .ok (.aload_n 0, 1) := by decide +kernel
theorem q_6_166 : Cond.code yX10_readLine prog_12_method_32_code 1 none ∈ gw := gw_6 (i := 166) (rfl) rfl
theorem q_6_165 : Cond.instanceMethod yX10_readLine ∈ gw := gw_6 (i := 165) (by decide +kernel) rfl
theorem q_s_63 : Cond.selects "BeaconDelayModel" yX10_readLine yX10_readLine ∈ gw := gw_s (i := 63) (by decide +kernel) rfl
theorem mt_X10_readLine : MtV yX10_readLine cX10_readLine 1 none 0 := ⟨⟨q_6_166, q_1_9, by decide +kernel, by decide +kernel, by decide +kernel⟩, q_6_165, q_s_63⟩
theorem q_6_163 : Cond.methodLink "BeaconDelayModel" 222 yX10_readLine ∈ gw := gw_6 (i := 163) (by decide +kernel) rfl
theorem dX10_coast_102 : decode cX10_coast 102 = .ok (.invokevirtual 222, 3) := by decide +kernel
theorem dX10_coast_105 : decode cX10_coast 105 = .ok (.aload_n 0, 1) := by decide +kernel
theorem dX10_coast_106 : decode cX10_coast 106 = .ok (.invokevirtual 219, 3) := by decide +kernel
theorem dX10_coast_109 : decode cX10_coast 109 = .ok (.goto (-24), 3) := by decide +kernel
theorem dX10_coast_61 : decode cX10_coast 61 = .ok (.aload_n 0, 1) := by decide +kernel
theorem dX10_coast_62 : decode cX10_coast 62 = .ok (.iconst 2, 1) := by decide +kernel
theorem dX10_coast_63 : decode cX10_coast 63 = .ok (.invokevirtual 155, 3) := by decide +kernel
theorem dX10_coast_19 : decode cX10_coast 19 = .ok (.bipush (-3), 2) := by decide +kernel
theorem dX10_coast_21 : decode cX10_coast 21 = .ok (.ireturn, 1) := by decide +kernel
set_option maxHeartbeats 4000000 in
set_option maxRecDepth 100000 in
theorem k_X10_coast_0 (l : Launch) (V : GV) (z : Nat → Nat) (a1 : Int32) (pz0_0 : Int32) (pz0_5 : Int32) (pz0_6 : Int32) (pz0_7 : Int32) (pz0_8 : Int32) (pz0_9 : Int32) (pz0_10 : Int32) (pz0_11 : Int32) (pz0_12 : Int32) (pz0_13 : Int32) (pz0_14 : Int32) (pz0_18 : Int32) (pz0_19 : Int32) (pz0_22 : Int32) (pz0_23 : Int32) (pz0_29 : Int32) (fz1 : Nat → Int32) (fz3 : Nat → Int32) (fz4 : Nat → Int32) (bpz0_5 : iv 0 900 pz0_5) (bpz0_6 : iv 0 900 pz0_6) (bpz0_7 : iv 0 900 pz0_7) (bpz0_8 : iv 0 900 pz0_8) (bpz0_10 : iv 0 999 pz0_10) (bpz0_11 : iv 0 4 pz0_11) (bpz0_12 : iv 0 900 pz0_12) (bpz0_13 : iv 0 4 pz0_13) (bpz0_14 : iv (-1) 900 pz0_14) (bpz0_18 : iv 0 2 pz0_18) (bpz0_22 : iv 0 9999 pz0_22) (bpz0_29 : iv 0 10000 pz0_29) (tfz1 : ivT tA fz1) (tfz4 : ivT tF fz4) (hf0 : RW fz1) : Ct l V yX10_coast (.code yX10_coast cX10_coast 3 (some .int)) 57 [.ref (z 0), .int a1] [(z 0, .inr (10, mo z pz0_0 pz0_5 pz0_6 pz0_7 pz0_8 pz0_9 pz0_10 pz0_11 pz0_12 pz0_13 pz0_14 pz0_18 pz0_19 pz0_22 pz0_23 pz0_29)), (z 1, aI V 3075 fz1), (z 3, aI V 900 fz3), (z 4, aI V 1025 fz4)] 0 0 (QI V (fun (r : Int32) (w : va_W) => ∃ (v0 : Int32) (v1 : Int32) (v2 : Int32) (v3 : Int32) (v4 : Int32) (v5 : Int32) (v6 : Int32) (v7 : Int32) (v8 : Int32) (v9 : Int32) (v10 : Int32) (g11 : Nat → Int32) (g12 : Nat → Int32), iv 0 900 v1 ∧ iv 0 900 v2 ∧ iv 0 900 v3 ∧ iv 0 900 v4 ∧ iv 0 999 v6 ∧ iv 0 4 v7 ∧ iv 0 900 v8 ∧ iv 0 4 v9 ∧ iv (-1) 900 v10 ∧ (ivT tA g11) ∧ (ivT tF g12) ∧ (RW g11) ∧ w = [(z 0, .inr (10, mo z v0 v1 v2 v3 v4 v5 v6 v7 v8 v9 v10 pz0_18 pz0_19 pz0_22 pz0_23 pz0_29)), (z 1, aI V 3075 g11), (z 3, aI V 900 fz3), (z 4, aI V 1025 g12)])) := by
  refine Ct.of (by decide) (Nat.le_of_ble_eq_true rfl) (fun p e s m below meth c A ls hx hb hr hml hown hlk hnm hg hP hK hD hE hA hS hl => ?_)
  have hl : lv_has ls 3 [(0, .ref (z 0)), (1, .int a1)] := hl
  refine lv_aload_n hx hb dX10_coast_0 rfl (lv_at hl 0 rfl) ?_
  refine lv_iconst (v := 0) hx hb dX10_coast_1 (by decide) ?_
  refine va_put (ci := 10) (v := .int 0) (ty := .int) (C := RX10) (T := TX10) (N := 40) hx hb hg inX10 tyX10 tyX10_ok nmX10 hown hK hP hD hS 0 rfl rfl 0 (by decide) (hg _ q_5_224) (fun _ h9 => h9) rfl (by decide +kernel) rfl rfl (Nat.le_of_ble_eq_true rfl) dX10_coast_2 (fun H locs hP hD hS => ?_)
  have hP : va_P V.1 vwCl [(z 0, .inr (10, mo z 0 pz0_5 pz0_6 pz0_7 pz0_8 pz0_9 pz0_10 pz0_11 pz0_12 pz0_13 pz0_14 pz0_18 pz0_19 pz0_22 pz0_23 pz0_29)), (z 1, aI V 3075 fz1), (z 3, aI V 900 fz3), (z 4, aI V 1025 fz4)] H := hP
  have hD : va_D A [(z 0, .inr (10, mo z 0 pz0_5 pz0_6 pz0_7 pz0_8 pz0_9 pz0_10 pz0_11 pz0_12 pz0_13 pz0_14 pz0_18 pz0_19 pz0_22 pz0_23 pz0_29)), (z 1, aI V 3075 fz1), (z 3, aI V 900 fz3), (z 4, aI V 1025 fz4)] := hD
  refine lv_iload_n hx hb dX10_coast_5 rfl (lv_at hl 1 rfl) ?_
  refine lv_i2l hx hb dX10_coast_6 rfl ?_
  refine lv_topl (fun j_1 ej_1 => ?_)
  refine lv_lconst (v := 0) hx hb dX10_coast_7 (by decide) ?_
  refine lv_aload_n hx hb dX10_coast_8 rfl (lv_at hl 0 rfl) ?_
  refine va_get (ci := 10) (v := .int pz0_5) (C := RX10) (T := TX10) (N := 40) hx hb hg inX10 hown hK hP 0 rfl rfl 5 (by decide) (hg _ q_5_229) (fun _ h9 => h9) rfl dX10_coast_9 ?_
  refine lv_i2l hx hb dX10_coast_12 rfl ?_
  refine lv_topl (fun j_2 ej_2 => ?_)
  have bj_2 : ivL 0 900 j_2 := by rw [ej_2]; exact ivL_of bpz0_5
  refine jnI (wr := [(z 0, .inr (10, mo z 0 pz0_5 pz0_6 pz0_7 pz0_8 pz0_9 pz0_10 pz0_11 pz0_12 pz0_13 pz0_14 pz0_18 pz0_19 pz0_22 pz0_23 pz0_29)), (z 1, aI V 3075 fz1), (z 3, aI V 900 fz3), (z 4, aI V 1025 fz4)]) (rnS (rest := []) ⟨hx, hb, hml, hown, hg⟩ (k_X10_within_0 l V j_1 0 j_2) mt_X10_within q_6_114 ⟨Nat.le_of_ble_eq_true rfl, Nat.le_of_ble_eq_true rfl⟩ hK hP hD hS hA hE [] rfl rfl rfl hl.1 rfl (Nat.le_of_ble_eq_true rfl) dX10_coast_13 ⟨Nat.le_of_ble_eq_true rfl, Nat.le_of_ble_eq_true rfl⟩) hP hD hS hA [] [0, 1, 2, 3] rfl rfl rfl (by decide) (fun r_3 w H locs hw hP hD hS => ?_)
  obtain ⟨br_3, g_4, g_5, g_6, rfl⟩ := hw
  have hP : va_P V.1 vwCl [(z 0, .inr (10, mo z 0 pz0_5 pz0_6 pz0_7 pz0_8 pz0_9 pz0_10 pz0_11 pz0_12 pz0_13 pz0_14 pz0_18 pz0_19 pz0_22 pz0_23 pz0_29)), (z 1, aI V 3075 fz1), (z 3, aI V 900 fz3), (z 4, aI V 1025 fz4)] H := hP
  have hD : va_D A [(z 0, .inr (10, mo z 0 pz0_5 pz0_6 pz0_7 pz0_8 pz0_9 pz0_10 pz0_11 pz0_12 pz0_13 pz0_14 pz0_18 pz0_19 pz0_22 pz0_23 pz0_29)), (z 1, aI V 3075 fz1), (z 3, aI V 900 fz3), (z 4, aI V 1025 fz4)] := hD
  refine lv_if_ne (tgt := 22) hx hb dX10_coast_16 (by decide) (fun c_7 => ?_) (fun c_7 => ?_)
  · have b_8 : iv 1 1 r_3 := iv_n0 c_7 br_3 (iv_c (0 : Int32) (a := 0) (b := 0) (by decide)) (by decide)
    have c_9 : (0 : Int64) ≤ j_1 := (g_5 (iv_eqp b_8 (iv_c (1 : Int32) (by decide))))
    have b_10 : ivL 0 9223372036854775807 j_1 := ivL_e2 c_9 (ivL_c (0 : Int64) (a := 0) (b := 0) (by decide)) (ivL_top j_1) (by decide)
    have b_11 : iv 0 2147483647 a1 := iv_cap (ivL_i ej_1 b_10) (iv_top a1) (by decide)
    have c_12 : j_1 ≤ j_2 := (g_6 (iv_eqp b_8 (iv_c (1 : Int32) (by decide))))
    have b_13 : ivL 0 900 j_1 := ivL_e1 c_12 b_10 bj_2 (by decide)
    have b_14 : iv 0 900 a1 := iv_cap (ivL_i ej_1 b_13) b_11 (by decide)
    refine lv_aload_n hx hb dX10_coast_22 rfl (lv_at hl 0 rfl) ?_
    refine lv_iload_n hx hb dX10_coast_23 rfl (lv_at hl 1 rfl) ?_
    refine va_put (ci := 10) (v := .int a1) (ty := .int) (C := RX10) (T := TX10) (N := 40) hx hb hg inX10 tyX10 tyX10_ok nmX10 hown hK hP hD hS 0 rfl rfl 8 (by decide) (hg _ q_5_232) (fun _ h9 => h9) rfl (by decide +kernel) rfl rfl (Nat.le_of_ble_eq_true rfl) dX10_coast_24 (fun H locs hP hD hS => ?_)
    have hP : va_P V.1 vwCl [(z 0, .inr (10, mo z 0 pz0_5 pz0_6 pz0_7 a1 pz0_9 pz0_10 pz0_11 pz0_12 pz0_13 pz0_14 pz0_18 pz0_19 pz0_22 pz0_23 pz0_29)), (z 1, aI V 3075 fz1), (z 3, aI V 900 fz3), (z 4, aI V 1025 fz4)] H := hP
    have hD : va_D A [(z 0, .inr (10, mo z 0 pz0_5 pz0_6 pz0_7 a1 pz0_9 pz0_10 pz0_11 pz0_12 pz0_13 pz0_14 pz0_18 pz0_19 pz0_22 pz0_23 pz0_29)), (z 1, aI V 3075 fz1), (z 3, aI V 900 fz3), (z 4, aI V 1025 fz4)] := hD
    refine lv_aload_n hx hb dX10_coast_27 rfl (lv_at hl 0 rfl) ?_
    refine lv_iconst (v := 0) hx hb dX10_coast_28 (by decide) ?_
    refine va_put (ci := 10) (v := .int 0) (ty := .int) (C := RX10) (T := TX10) (N := 40) hx hb hg inX10 tyX10 tyX10_ok nmX10 hown hK hP hD hS 0 rfl rfl 5 (by decide) (hg _ q_5_229) (fun _ h9 => h9) rfl (by decide +kernel) rfl rfl (Nat.le_of_ble_eq_true rfl) dX10_coast_29 (fun H locs hP hD hS => ?_)
    have hP : va_P V.1 vwCl [(z 0, .inr (10, mo z 0 0 pz0_6 pz0_7 a1 pz0_9 pz0_10 pz0_11 pz0_12 pz0_13 pz0_14 pz0_18 pz0_19 pz0_22 pz0_23 pz0_29)), (z 1, aI V 3075 fz1), (z 3, aI V 900 fz3), (z 4, aI V 1025 fz4)] H := hP
    have hD : va_D A [(z 0, .inr (10, mo z 0 0 pz0_6 pz0_7 a1 pz0_9 pz0_10 pz0_11 pz0_12 pz0_13 pz0_14 pz0_18 pz0_19 pz0_22 pz0_23 pz0_29)), (z 1, aI V 3075 fz1), (z 3, aI V 900 fz3), (z 4, aI V 1025 fz4)] := hD
    refine lv_aload_n hx hb dX10_coast_32 rfl (lv_at hl 0 rfl) ?_
    refine lv_iconst (v := 0) hx hb dX10_coast_33 (by decide) ?_
    refine va_put (ci := 10) (v := .int 0) (ty := .int) (C := RX10) (T := TX10) (N := 40) hx hb hg inX10 tyX10 tyX10_ok nmX10 hown hK hP hD hS 0 rfl rfl 7 (by decide) (hg _ q_5_231) (fun _ h9 => h9) rfl (by decide +kernel) rfl rfl (Nat.le_of_ble_eq_true rfl) dX10_coast_34 (fun H locs hP hD hS => ?_)
    have hP : va_P V.1 vwCl [(z 0, .inr (10, mo z 0 0 pz0_6 0 a1 pz0_9 pz0_10 pz0_11 pz0_12 pz0_13 pz0_14 pz0_18 pz0_19 pz0_22 pz0_23 pz0_29)), (z 1, aI V 3075 fz1), (z 3, aI V 900 fz3), (z 4, aI V 1025 fz4)] H := hP
    have hD : va_D A [(z 0, .inr (10, mo z 0 0 pz0_6 0 a1 pz0_9 pz0_10 pz0_11 pz0_12 pz0_13 pz0_14 pz0_18 pz0_19 pz0_22 pz0_23 pz0_29)), (z 1, aI V 3075 fz1), (z 3, aI V 900 fz3), (z 4, aI V 1025 fz4)] := hD
    refine lv_aload_n hx hb dX10_coast_37 rfl (lv_at hl 0 rfl) ?_
    refine lv_iconst (v := 0) hx hb dX10_coast_38 (by decide) ?_
    refine va_put (ci := 10) (v := .int 0) (ty := .int) (C := RX10) (T := TX10) (N := 40) hx hb hg inX10 tyX10 tyX10_ok nmX10 hown hK hP hD hS 0 rfl rfl 11 (by decide) (hg _ q_5_235) (fun _ h9 => h9) rfl (by decide +kernel) rfl rfl (Nat.le_of_ble_eq_true rfl) dX10_coast_39 (fun H locs hP hD hS => ?_)
    have hP : va_P V.1 vwCl [(z 0, .inr (10, mo z 0 0 pz0_6 0 a1 pz0_9 pz0_10 0 pz0_12 pz0_13 pz0_14 pz0_18 pz0_19 pz0_22 pz0_23 pz0_29)), (z 1, aI V 3075 fz1), (z 3, aI V 900 fz3), (z 4, aI V 1025 fz4)] H := hP
    have hD : va_D A [(z 0, .inr (10, mo z 0 0 pz0_6 0 a1 pz0_9 pz0_10 0 pz0_12 pz0_13 pz0_14 pz0_18 pz0_19 pz0_22 pz0_23 pz0_29)), (z 1, aI V 3075 fz1), (z 3, aI V 900 fz3), (z 4, aI V 1025 fz4)] := hD
    refine lv_aload_n hx hb dX10_coast_42 rfl (lv_at hl 0 rfl) ?_
    refine va_get (ci := 10) (v := .ref (z 4)) (C := RX10) (T := TX10) (N := 40) hx hb hg inX10 hown hK hP 0 rfl rfl 4 (by decide) (hg _ q_5_228) (fun _ h9 => h9) rfl dX10_coast_43 ?_
    refine jnV (wr := [(z 0, .inr (10, mo z 0 0 pz0_6 0 a1 pz0_9 pz0_10 0 pz0_12 pz0_13 pz0_14 pz0_18 pz0_19 pz0_22 pz0_23 pz0_29)), (z 1, aI V 3075 fz1), (z 3, aI V 900 fz3)]) (rnS (rest := []) ⟨hx, hb, hml, hown, hg⟩ (k_X10_plain_0 l V z fz4 tfz4) mt_X10_plain q_5_221 ⟨Nat.le_of_ble_eq_true rfl, Nat.le_of_ble_eq_true rfl⟩ hK hP hD hS hA hE [3] rfl rfl rfl hl.1 rfl (Nat.le_of_ble_eq_true rfl) dX10_coast_46 ⟨Nat.le_of_ble_eq_true rfl, Nat.le_of_ble_eq_true rfl⟩) hP hD hS hA [3] [0, 1, 2] rfl rfl rfl (by decide) (fun  w H locs hw hP hD hS => ?_)
    obtain ⟨f_15, tf_15, g_16, rfl⟩ := hw
    have hP : va_P V.1 vwCl [(z 0, .inr (10, mo z 0 0 pz0_6 0 a1 pz0_9 pz0_10 0 pz0_12 pz0_13 pz0_14 pz0_18 pz0_19 pz0_22 pz0_23 pz0_29)), (z 1, aI V 3075 fz1), (z 3, aI V 900 fz3), (z 4, aI V 1025 f_15)] H := hP
    have hD : va_D A [(z 0, .inr (10, mo z 0 0 pz0_6 0 a1 pz0_9 pz0_10 0 pz0_12 pz0_13 pz0_14 pz0_18 pz0_19 pz0_22 pz0_23 pz0_29)), (z 1, aI V 3075 fz1), (z 3, aI V 900 fz3), (z 4, aI V 1025 f_15)] := hD
    refine lv_aload_n hx hb dX10_coast_49 rfl (lv_at hl 0 rfl) ?_
    refine jnV (wr := [(z 1, aI V 3075 fz1), (z 4, aI V 1025 f_15)]) (rnV (rest := []) ⟨hx, hb, hml, hown, hg⟩ (k_X10_next_0 l V z 0 0 pz0_6 0 a1 pz0_9 pz0_10 0 pz0_12 pz0_13 pz0_14 pz0_18 pz0_19 pz0_22 pz0_23 pz0_29 fz3 (iv_c (0 : Int32) (by decide)) bpz0_6 (iv_c (0 : Int32) (by decide)) b_14 bpz0_10 (iv_c (0 : Int32) (by decide)) bpz0_12 bpz0_13 bpz0_14 bpz0_18 bpz0_22 bpz0_29 (by have q9 := b_14; have z9 : (0 : Int32).toInt = 0 := (by decide); unfold iv at q9; omega)) mt_X10_next q_6_117 ⟨Nat.le_of_ble_eq_true rfl, Nat.le_of_ble_eq_true rfl⟩ hK hP hD hS hA hE [0, 2] rfl rfl 0 rfl rfl rfl rfl hl.1 rfl (Nat.le_of_ble_eq_true rfl) dX10_coast_50 ⟨Nat.le_of_ble_eq_true rfl, Nat.le_of_ble_eq_true rfl⟩) hP hD hS hA [0, 2] [1, 3] rfl rfl rfl (by decide) (fun  w H locs hw hP hD hS => ?_)
    obtain ⟨v_17, v_18, v_19, v_20, bv_17, bv_18, bv_20, g_21, g_22, rfl⟩ := hw
    have hP : va_P V.1 vwCl [(z 1, aI V 3075 fz1), (z 4, aI V 1025 f_15), (z 0, .inr (10, mo z 0 0 v_17 v_18 a1 v_19 v_20 0 pz0_12 pz0_13 pz0_14 pz0_18 pz0_19 pz0_22 pz0_23 pz0_29)), (z 3, aI V 900 fz3)] H := hP
    have hD : va_D A [(z 1, aI V 3075 fz1), (z 4, aI V 1025 f_15), (z 0, .inr (10, mo z 0 0 v_17 v_18 a1 v_19 v_20 0 pz0_12 pz0_13 pz0_14 pz0_18 pz0_19 pz0_22 pz0_23 pz0_29)), (z 3, aI V 900 fz3)] := hD
    refine lv_aload_n hx hb dX10_coast_53 rfl (lv_at hl 0 rfl) ?_
    refine lv_iconst (v := 0) hx hb dX10_coast_54 (by decide) ?_
    refine jnI (wr := [(z 1, aI V 3075 fz1), (z 4, aI V 1025 f_15)]) (rnV (rest := []) ⟨hx, hb, hml, hown, hg⟩ (k_X10_eats_0 l V z 0 0 v_17 v_18 a1 v_19 v_20 0 pz0_12 pz0_13 pz0_14 pz0_18 pz0_19 pz0_22 pz0_23 pz0_29 fz3 (iv_c (0 : Int32) (by decide)) bv_17 bv_18 b_14 bv_20 (iv_c (0 : Int32) (by decide)) bpz0_12 bpz0_13 bpz0_14 bpz0_18 bpz0_22 bpz0_29 g_21) mt_X10_eats q_6_139 ⟨Nat.le_of_ble_eq_true rfl, Nat.le_of_ble_eq_true rfl⟩ hK hP hD hS hA hE [2, 3] rfl rfl 2 rfl rfl rfl rfl hl.1 rfl (Nat.le_of_ble_eq_true rfl) dX10_coast_55 ⟨Nat.le_of_ble_eq_true rfl, Nat.le_of_ble_eq_true rfl⟩) hP hD hS hA [2, 3] [0, 1] rfl rfl rfl (by decide) (fun r_23 w H locs hw hP hD hS => ?_)
    obtain ⟨v_24, v_25, v_26, v_27, bv_24, bv_25, bv_27, br_23, g_28, g_29, g_30, g_31, rfl⟩ := hw
    have hP : va_P V.1 vwCl [(z 1, aI V 3075 fz1), (z 4, aI V 1025 f_15), (z 0, .inr (10, mo z 0 0 v_24 v_25 a1 v_26 v_27 0 pz0_12 pz0_13 pz0_14 pz0_18 pz0_19 pz0_22 pz0_23 pz0_29)), (z 3, aI V 900 fz3)] H := hP
    have hD : va_D A [(z 1, aI V 3075 fz1), (z 4, aI V 1025 f_15), (z 0, .inr (10, mo z 0 0 v_24 v_25 a1 v_26 v_27 0 pz0_12 pz0_13 pz0_14 pz0_18 pz0_19 pz0_22 pz0_23 pz0_29)), (z 3, aI V 900 fz3)] := hD
    refine lv_if_ne (tgt := 66) hx hb dX10_coast_58 (by decide) (fun c_32 => ?_) (fun c_32 => ?_)
    · have b_33 : iv 1 1 r_23 := iv_n0 c_32 br_23 (iv_c (0 : Int32) (a := 0) (b := 0) (by decide)) (by decide)
      refine lv_aload_n hx hb dX10_coast_66 rfl (lv_at hl 0 rfl) ?_
      refine va_get (ci := 10) (v := .ref (z 4)) (C := RX10) (T := TX10) (N := 40) hx hb hg inX10 hown hK hP 2 rfl rfl 4 (by decide) (hg _ q_5_228) (fun _ h9 => h9) rfl dX10_coast_67 ?_
      refine lv_bipush (v := 51) hx hb dX10_coast_70 (by decide) ?_
      refine lv_aload_n hx hb dX10_coast_72 rfl (lv_at hl 0 rfl) ?_
      refine lv_iconst (v := 1) hx hb dX10_coast_73 (by decide) ?_
      refine lv_iconst (v := 0) hx hb dX10_coast_74 (by decide) ?_
      refine lv_bipush (v := 9) hx hb dX10_coast_75 (by decide) ?_
      refine jnI (wr := [(z 1, aI V 3075 fz1), (z 4, aI V 1025 f_15)]) (rnV (rest := [.int 51, .ref (z 4)]) ⟨hx, hb, hml, hown, hg⟩ (k_X10_named_0 l V z 0 9 0 0 v_24 v_25 a1 v_26 v_27 0 pz0_12 pz0_13 pz0_14 pz0_18 pz0_19 pz0_22 pz0_23 pz0_29 fz3 (iv_c (0 : Int32) (by decide)) bv_24 bv_25 b_14 bv_27 (iv_c (0 : Int32) (by decide)) bpz0_12 bpz0_13 bpz0_14 bpz0_18 bpz0_22 bpz0_29 g_28) mt_X10_named q_6_151 ⟨Nat.le_of_ble_eq_true rfl, Nat.le_of_ble_eq_true rfl⟩ hK hP hD hS hA hE [2, 3] rfl rfl 2 rfl rfl rfl rfl hl.1 rfl (Nat.le_of_ble_eq_true rfl) dX10_coast_77 ⟨Nat.le_of_ble_eq_true rfl, Nat.le_of_ble_eq_true rfl⟩) hP hD hS hA [2, 3] [0, 1] rfl rfl rfl (by decide) (fun r_34 w H locs hw hP hD hS => ?_)
      obtain ⟨v_35, v_36, v_37, v_38, v_39, v_40, bv_35, bv_36, bv_38, bv_39, bv_40, br_34, g_41, g_42, g_43, g_44, rfl⟩ := hw
      have hP : va_P V.1 vwCl [(z 1, aI V 3075 fz1), (z 4, aI V 1025 f_15), (z 0, .inr (10, mo z 0 0 v_35 v_36 a1 v_37 v_38 v_39 v_40 pz0_13 pz0_14 pz0_18 pz0_19 pz0_22 pz0_23 pz0_29)), (z 3, aI V 900 fz3)] H := hP
      have hD : va_D A [(z 1, aI V 3075 fz1), (z 4, aI V 1025 f_15), (z 0, .inr (10, mo z 0 0 v_35 v_36 a1 v_37 v_38 v_39 v_40 pz0_13 pz0_14 pz0_18 pz0_19 pz0_22 pz0_23 pz0_29)), (z 3, aI V 900 fz3)] := hD
      refine va_iast hx hb hK hP hD hS 1 0 rfl rfl (vin (by decide +kernel)) dX10_coast_80 (fun H locs hP hD hS => ?_)
      obtain ⟨f_45, ef_45, tf_45, hP, hD⟩ : ∃ f_45 : Nat → Int32, f_45 = (upd f_15 (51 : Int32).toNatClampNeg r_34) ∧ (ivT tF f_45) ∧ va_P V.1 vwCl [(z 1, aI V 3075 fz1), (z 4, aI V 1025 f_45), (z 0, .inr (10, mo z 0 0 v_35 v_36 a1 v_37 v_38 v_39 v_40 pz0_13 pz0_14 pz0_18 pz0_19 pz0_22 pz0_23 pz0_29)), (z 3, aI V 900 fz3)] H ∧ va_D A [(z 1, aI V 3075 fz1), (z 4, aI V 1025 f_45), (z 0, .inr (10, mo z 0 0 v_35 v_36 a1 v_37 v_38 v_39 v_40 pz0_13 pz0_14 pz0_18 pz0_19 pz0_22 pz0_23 pz0_29)), (z 3, aI V 900 fz3)] := ⟨_, rfl, upT (lo := (-2147483648)) (hi := 2147483647) (a := 51) (n := 1) tf_15 (iv_c (51 : Int32) (a := 51) (b := 51) (by decide)) (by decide) (iv_w br_34 (by decide)) (by decide +kernel), hP, hD⟩
      refine lv_aload_n hx hb dX10_coast_81 rfl (lv_at hl 0 rfl) ?_
      refine jnV (wr := [(z 1, aI V 3075 fz1)]) (rnV (rest := []) ⟨hx, hb, hml, hown, hg⟩ (k_X10_closes_0 l V z f_45 0 0 v_35 v_36 a1 v_37 v_38 v_39 v_40 pz0_13 pz0_14 pz0_18 pz0_19 pz0_22 pz0_23 pz0_29 fz3 tf_45 (iv_c (0 : Int32) (by decide)) bv_35 bv_36 b_14 bv_38 bv_39 bv_40 bpz0_13 bpz0_14 bpz0_18 bpz0_22 bpz0_29 g_41 (PS_up (lo := 0) (hi := 9) (c := 0) (k := 1) (i := 51) (n := 1) (PS_0 g_16 (by decide) (by have q9 := bv_35; unfold iv at q9; omega)) ef_45 (show (51 : Int32).toInt = 0 + 1 * (51 : Int32).toInt from (by omega)) (iv_c (51 : Int32) (a := 51) (b := 51) (by decide)) (by decide) (by decide +kernel) (fun q7 => by have q8 := g_44 ((fun q9 => q9) q7); have z_0 : (0 : Int32).toInt = 0 := (by decide); have z_9 : (9 : Int32).toInt = 9 := (by decide); exact ⟨by omega, by omega⟩) (iv_c (51 : Int32) (a := 51) (b := 51) (by decide)) (by decide))) mt_X10_closes q_6_159 ⟨Nat.le_of_ble_eq_true rfl, Nat.le_of_ble_eq_true rfl⟩ hK hP hD hS hA hE [1, 2, 3] rfl rfl 2 rfl rfl rfl rfl hl.1 rfl (Nat.le_of_ble_eq_true rfl) dX10_coast_82 ⟨Nat.le_of_ble_eq_true rfl, Nat.le_of_ble_eq_true rfl⟩) hP hD hS hA [1, 2, 3] [0] rfl rfl rfl (by decide) (fun  w H locs hw hP hD hS => ?_)
      obtain ⟨f_46, v_47, v_48, v_49, v_50, v_51, v_52, tf_46, bv_47, bv_48, bv_50, bv_51, bv_52, g_53, g_54, g_55, g_56, g_57, rfl⟩ := hw
      have hP : va_P V.1 vwCl [(z 1, aI V 3075 fz1), (z 4, aI V 1025 f_46), (z 0, .inr (10, mo z 0 0 v_47 v_48 a1 v_49 v_50 v_51 v_52 pz0_13 pz0_14 pz0_18 pz0_19 pz0_22 pz0_23 pz0_29)), (z 3, aI V 900 fz3)] H := hP
      have hD : va_D A [(z 1, aI V 3075 fz1), (z 4, aI V 1025 f_46), (z 0, .inr (10, mo z 0 0 v_47 v_48 a1 v_49 v_50 v_51 v_52 pz0_13 pz0_14 pz0_18 pz0_19 pz0_22 pz0_23 pz0_29)), (z 3, aI V 900 fz3)] := hD
      refine loopF (X := fun (n_65 : Nat) (H : Heap) (locs : List Loc) (ls : Array Slot) => ∃ (f_58 : Nat → Int32) (u_59 : Int32) (u_60 : Int32) (u_61 : Int32) (u_62 : Int32) (u_63 : Int32) (u_64 : Int32), (ivT tF f_58) ∧ (iv 0 900 u_59) ∧ (iv 0 900 u_60) ∧ (iv 0 999 u_62) ∧ (iv 0 4 u_63) ∧ (iv 0 900 u_64) ∧ (PT u_59 u_60 a1 u_61) ∧ (PS u_63 u_59 f_58) ∧ (RW fz1) ∧ n_65 = (2 * (900 - (u_59 : Int32).toInt) + wz u_63).toNat ∧ va_P V.1 vwCl [(z 1, aI V 3075 fz1), (z 4, aI V 1025 f_58), (z 0, .inr (10, mo z 0 0 u_59 u_60 a1 u_61 u_62 u_63 u_64 pz0_13 pz0_14 pz0_18 pz0_19 pz0_22 pz0_23 pz0_29)), (z 3, aI V 900 fz3)] H ∧ va_D A [(z 1, aI V 3075 fz1), (z 4, aI V 1025 f_58), (z 0, .inr (10, mo z 0 0 u_59 u_60 a1 u_61 u_62 u_63 u_64 pz0_13 pz0_14 pz0_18 pz0_19 pz0_22 pz0_23 pz0_29)), (z 3, aI V 900 fz3)] ∧ va_S A s.heap H locs ∧ lv_has ls 3 [(0, .ref (z 0)), (1, .int a1)]) (g := fun ls => F0 m 85 ls []) (fun n_65 H locs ls hX ihn_65 => ?_) _ ⟨f_46, v_47, v_48, v_49, v_50, v_51, v_52, tf_46, bv_47, bv_48, bv_50, bv_51, bv_52, g_53, g_54, hf0, rfl, hP, hD, hS, lv_sub hl [0, 1] rfl⟩
      obtain ⟨f_58, u_59, u_60, u_61, u_62, u_63, u_64, tf_58, bu_59, bu_60, bu_62, bu_63, bu_64, inn_65_0, inn_65_1, inn_65_2, en_65, hP, hD, hS, hl⟩ := hX
      refine lv_aload_n hx hb dX10_coast_85 rfl (lv_at hl 0 rfl) ?_
      refine va_get (ci := 10) (v := .int u_63) (C := RX10) (T := TX10) (N := 40) hx hb hg inX10 hown hK hP 2 rfl rfl 11 (by decide) (hg _ q_5_235) (fun _ h9 => h9) rfl dX10_coast_86 ?_
      refine lv_if_ne (tgt := 112) hx hb dX10_coast_89 (by decide) (fun c_66 => ?_) (fun c_66 => ?_)
      · have b_67 : iv 1 4 u_63 := iv_n0 c_66 bu_63 (iv_c (0 : Int32) (a := 0) (b := 0) (by decide)) (by decide)
        refine lv_aload_n hx hb dX10_coast_112 rfl (lv_at hl 0 rfl) ?_
        refine lv_aload_n hx hb dX10_coast_113 rfl (lv_at hl 0 rfl) ?_
        refine va_get (ci := 10) (v := .int u_63) (C := RX10) (T := TX10) (N := 40) hx hb hg inX10 hown hK hP 2 rfl rfl 11 (by decide) (hg _ q_5_235) (fun _ h9 => h9) rfl dX10_coast_114 ?_
        refine va_put (ci := 10) (v := .int u_63) (ty := .int) (C := RX10) (T := TX10) (N := 40) hx hb hg inX10 tyX10 tyX10_ok nmX10 hown hK hP hD hS 2 rfl rfl 13 (by decide) (hg _ q_5_237) (fun _ h9 => h9) rfl (by decide +kernel) rfl rfl (Nat.le_of_ble_eq_true rfl) dX10_coast_117 (fun H locs hP hD hS => ?_)
        have hP : va_P V.1 vwCl [(z 1, aI V 3075 fz1), (z 4, aI V 1025 f_58), (z 0, .inr (10, mo z 0 0 u_59 u_60 a1 u_61 u_62 u_63 u_64 u_63 pz0_14 pz0_18 pz0_19 pz0_22 pz0_23 pz0_29)), (z 3, aI V 900 fz3)] H := hP
        have hD : va_D A [(z 1, aI V 3075 fz1), (z 4, aI V 1025 f_58), (z 0, .inr (10, mo z 0 0 u_59 u_60 a1 u_61 u_62 u_63 u_64 u_63 pz0_14 pz0_18 pz0_19 pz0_22 pz0_23 pz0_29)), (z 3, aI V 900 fz3)] := hD
        refine lv_aload_n hx hb dX10_coast_120 rfl (lv_at hl 0 rfl) ?_
        refine lv_aload_n hx hb dX10_coast_121 rfl (lv_at hl 0 rfl) ?_
        refine va_get (ci := 10) (v := .int u_63) (C := RX10) (T := TX10) (N := 40) hx hb hg inX10 hown hK hP 2 rfl rfl 11 (by decide) (hg _ q_5_235) (fun _ h9 => h9) rfl dX10_coast_122 ?_
        refine lv_if_ne (tgt := 132) hx hb dX10_coast_125 (by decide) (fun _ => ?_) (fun c_69 => absurd c_69 c_66)
        refine lv_aload_n hx hb dX10_coast_132 rfl (lv_at hl 0 rfl) ?_
        refine va_get (ci := 10) (v := .int u_64) (C := RX10) (T := TX10) (N := 40) hx hb hg inX10 hown hK hP 2 rfl rfl 12 (by decide) (hg _ q_5_236) (fun _ h9 => h9) rfl dX10_coast_133 ?_
        refine va_put (ci := 10) (v := .int u_64) (ty := .int) (C := RX10) (T := TX10) (N := 40) hx hb hg inX10 tyX10 tyX10_ok nmX10 hown hK hP hD hS 2 rfl rfl 14 (by decide) (hg _ q_5_238) (fun _ h9 => h9) rfl (by decide +kernel) rfl rfl (Nat.le_of_ble_eq_true rfl) dX10_coast_136 (fun H locs hP hD hS => ?_)
        have hP : va_P V.1 vwCl [(z 1, aI V 3075 fz1), (z 4, aI V 1025 f_58), (z 0, .inr (10, mo z 0 0 u_59 u_60 a1 u_61 u_62 u_63 u_64 u_63 u_64 pz0_18 pz0_19 pz0_22 pz0_23 pz0_29)), (z 3, aI V 900 fz3)] H := hP
        have hD : va_D A [(z 1, aI V 3075 fz1), (z 4, aI V 1025 f_58), (z 0, .inr (10, mo z 0 0 u_59 u_60 a1 u_61 u_62 u_63 u_64 u_63 u_64 pz0_18 pz0_19 pz0_22 pz0_23 pz0_29)), (z 3, aI V 900 fz3)] := hD
        refine lv_aload_n hx hb dX10_coast_139 rfl (lv_at hl 0 rfl) ?_
        refine va_get (ci := 10) (v := .int u_63) (C := RX10) (T := TX10) (N := 40) hx hb hg inX10 hown hK hP 2 rfl rfl 11 (by decide) (hg _ q_5_235) (fun _ h9 => h9) rfl dX10_coast_140 ?_
        refine lv_if_eq (tgt := 154) hx hb dX10_coast_143 (by decide) (fun c_71 => absurd c_71 c_66) (fun _ => ?_)
        refine lv_bipush (v := (-30)) hx hb dX10_coast_146 (by decide) ?_
        refine lv_aload_n hx hb dX10_coast_148 rfl (lv_at hl 0 rfl) ?_
        refine va_get (ci := 10) (v := .int u_63) (C := RX10) (T := TX10) (N := 40) hx hb hg inX10 hown hK hP 2 rfl rfl 11 (by decide) (hg _ q_5_235) (fun _ h9 => h9) rfl dX10_coast_149 ?_
        refine lv_isub hx hb dX10_coast_152 ?_
        refine lv_topi (fun x_72 ex_72 => ?_)
        have bx_72 : iv (-34) (-31) x_72 := by rw [ex_72]; exact iv_sub (iv_c ((-30) : Int32) (a := (-30)) (b := (-30)) (by decide)) b_67 (by decide)
        have hP := subP (ws' := [(z 0, .inr (10, mo z 0 0 u_59 u_60 a1 u_61 u_62 u_63 u_64 u_63 u_64 pz0_18 pz0_19 pz0_22 pz0_23 pz0_29)), (z 1, aI V 3075 fz1), (z 3, aI V 900 fz3), (z 4, aI V 1025 f_58)]) hP [2, 0, 3, 1] rfl
        have hD := hD.sub (ws' := [(z 0, .inr (10, mo z 0 0 u_59 u_60 a1 u_61 u_62 u_63 u_64 u_63 u_64 pz0_18 pz0_19 pz0_22 pz0_23 pz0_29)), (z 1, aI V 3075 fz1), (z 3, aI V 900 fz3), (z 4, aI V 1025 f_58)]) [2, 0, 3, 1] rfl rfl
        exact fiI hx hb hr hlk hK hP hD hS dX10_coast_153 (Nat.le_of_ble_eq_true rfl) (Nat.le_of_ble_eq_true rfl) (⟨0, 0, u_59, u_60, a1, u_61, u_62, u_63, u_64, u_63, u_64, fz1, f_58, (iv_c (0 : Int32) (by decide)), bu_59, bu_60, b_14, bu_62, (iv_w b_67 (by decide)), bu_64, (iv_w b_67 (by decide)), (iv_w bu_64 (by decide)), tfz1, tf_58, inn_65_2, rfl⟩)
      · have b_73 : iv 0 0 u_63 := iv_q c_66 (iv_c (0 : Int32) (a := 0) (b := 0) (by decide))
        refine lv_aload_n hx hb dX10_coast_92 rfl (lv_at hl 0 rfl) ?_
        refine va_get (ci := 10) (v := .int u_61) (C := RX10) (T := TX10) (N := 40) hx hb hg inX10 hown hK hP 2 rfl rfl 9 (by decide) (hg _ q_5_233) (fun _ h9 => h9) rfl dX10_coast_93 ?_
        refine lv_bipush (v := 24) hx hb dX10_coast_96 (by decide) ?_
        refine lv_icmp_eq (tgt := 112) hx hb dX10_coast_98 (by decide) (fun c_74 => ?_) (fun c_74 => ?_)
        · have b_75 : iv 24 24 u_61 := iv_q c_74 (iv_c (24 : Int32) (a := 24) (b := 24) (by decide))
          refine lv_aload_n hx hb dX10_coast_112 rfl (lv_at hl 0 rfl) ?_
          refine lv_aload_n hx hb dX10_coast_113 rfl (lv_at hl 0 rfl) ?_
          refine va_get (ci := 10) (v := .int u_63) (C := RX10) (T := TX10) (N := 40) hx hb hg inX10 hown hK hP 2 rfl rfl 11 (by decide) (hg _ q_5_235) (fun _ h9 => h9) rfl dX10_coast_114 ?_
          refine va_put (ci := 10) (v := .int u_63) (ty := .int) (C := RX10) (T := TX10) (N := 40) hx hb hg inX10 tyX10 tyX10_ok nmX10 hown hK hP hD hS 2 rfl rfl 13 (by decide) (hg _ q_5_237) (fun _ h9 => h9) rfl (by decide +kernel) rfl rfl (Nat.le_of_ble_eq_true rfl) dX10_coast_117 (fun H locs hP hD hS => ?_)
          have hP : va_P V.1 vwCl [(z 1, aI V 3075 fz1), (z 4, aI V 1025 f_58), (z 0, .inr (10, mo z 0 0 u_59 u_60 a1 u_61 u_62 u_63 u_64 u_63 pz0_14 pz0_18 pz0_19 pz0_22 pz0_23 pz0_29)), (z 3, aI V 900 fz3)] H := hP
          have hD : va_D A [(z 1, aI V 3075 fz1), (z 4, aI V 1025 f_58), (z 0, .inr (10, mo z 0 0 u_59 u_60 a1 u_61 u_62 u_63 u_64 u_63 pz0_14 pz0_18 pz0_19 pz0_22 pz0_23 pz0_29)), (z 3, aI V 900 fz3)] := hD
          refine lv_aload_n hx hb dX10_coast_120 rfl (lv_at hl 0 rfl) ?_
          refine lv_aload_n hx hb dX10_coast_121 rfl (lv_at hl 0 rfl) ?_
          refine va_get (ci := 10) (v := .int u_63) (C := RX10) (T := TX10) (N := 40) hx hb hg inX10 hown hK hP 2 rfl rfl 11 (by decide) (hg _ q_5_235) (fun _ h9 => h9) rfl dX10_coast_122 ?_
          refine lv_if_ne (tgt := 132) hx hb dX10_coast_125 (by decide) (fun c_77 => absurd c_66 c_77) (fun _ => ?_)
          refine lv_iconst (v := (-1)) hx hb dX10_coast_128 (by decide) ?_
          refine lv_goto (tgt := 136) hx hb dX10_coast_129 (by decide) ?_
          refine va_put (ci := 10) (v := .int (-1)) (ty := .int) (C := RX10) (T := TX10) (N := 40) hx hb hg inX10 tyX10 tyX10_ok nmX10 hown hK hP hD hS 2 rfl rfl 14 (by decide) (hg _ q_5_238) (fun _ h9 => h9) rfl (by decide +kernel) rfl rfl (Nat.le_of_ble_eq_true rfl) dX10_coast_136 (fun H locs hP hD hS => ?_)
          have hP : va_P V.1 vwCl [(z 1, aI V 3075 fz1), (z 4, aI V 1025 f_58), (z 0, .inr (10, mo z 0 0 u_59 u_60 a1 u_61 u_62 u_63 u_64 u_63 (-1) pz0_18 pz0_19 pz0_22 pz0_23 pz0_29)), (z 3, aI V 900 fz3)] H := hP
          have hD : va_D A [(z 1, aI V 3075 fz1), (z 4, aI V 1025 f_58), (z 0, .inr (10, mo z 0 0 u_59 u_60 a1 u_61 u_62 u_63 u_64 u_63 (-1) pz0_18 pz0_19 pz0_22 pz0_23 pz0_29)), (z 3, aI V 900 fz3)] := hD
          refine lv_aload_n hx hb dX10_coast_139 rfl (lv_at hl 0 rfl) ?_
          refine va_get (ci := 10) (v := .int u_63) (C := RX10) (T := TX10) (N := 40) hx hb hg inX10 hown hK hP 2 rfl rfl 11 (by decide) (hg _ q_5_235) (fun _ h9 => h9) rfl dX10_coast_140 ?_
          refine lv_if_eq (tgt := 154) hx hb dX10_coast_143 (by decide) (fun _ => ?_) (fun c_79 => absurd c_66 c_79)
          refine lv_iconst (v := 0) hx hb dX10_coast_154 (by decide) ?_
          refine lv_istore_n (lv' := [(2, .int 0), (0, .ref (z 0)), (1, .int a1)]) hx hb dX10_coast_155 rfl hl (by decide) rfl (fun ls hl => ?_)
          refine loopF (X := fun (n_82 : Nat) (H : Heap) (locs : List Loc) (ls : Array Slot) => ∃ (u_80 : Int32) (f_81 : Nat → Int32), (iv 0 2147483647 u_80) ∧ (ivT tA f_81) ∧ (CPY u_80 f_81 f_58) ∧ n_82 = (2147483647 - (u_80 : Int32).toInt).toNat ∧ va_P V.1 vwCl [(z 1, aI V 3075 f_81), (z 4, aI V 1025 f_58), (z 0, .inr (10, mo z 0 0 u_59 u_60 a1 u_61 u_62 u_63 u_64 u_63 (-1) pz0_18 pz0_19 pz0_22 pz0_23 pz0_29)), (z 3, aI V 900 fz3)] H ∧ va_D A [(z 1, aI V 3075 f_81), (z 4, aI V 1025 f_58), (z 0, .inr (10, mo z 0 0 u_59 u_60 a1 u_61 u_62 u_63 u_64 u_63 (-1) pz0_18 pz0_19 pz0_22 pz0_23 pz0_29)), (z 3, aI V 900 fz3)] ∧ va_S A s.heap H locs ∧ lv_has ls 3 [(2, .int u_80), (0, .ref (z 0)), (1, .int a1)]) (g := fun ls => F0 m 156 ls []) (fun n_82 H locs ls hX ihn_82 => ?_) _ ⟨0, fz1, (iv_c (0 : Int32) (by decide)), tfz1, (CPY_0 inn_65_2 (by decide)), rfl, hP, hD, hS, lv_sub hl [0, 1, 2] rfl⟩
          obtain ⟨u_80, f_81, bu_80, tf_81, inn_82_0, en_82, hP, hD, hS, hl⟩ := hX
          refine lv_iload_n hx hb dX10_coast_156 rfl (lv_at hl 0 rfl) ?_
          refine lv_sipush (v := 1025) hx hb dX10_coast_157 (by decide) ?_
          refine lv_icmp_ge (tgt := 181) hx hb dX10_coast_160 (by decide) (fun c_83 => ?_) (fun c_83 => ?_)
          · have b_84 : iv 1025 2147483647 u_80 := iv_e2 c_83 (iv_c (1025 : Int32) (a := 1025) (b := 1025) (by decide)) bu_80 (by decide)
            have hRW := CPY_e inn_82_0 (Int32.not_lt.mpr c_83) inn_65_1 (iv_eqp b_73 (iv_c (0 : Int32) (by decide))) bu_59 (by decide) tf_58
            refine lv_aload_n hx hb dX10_coast_181 rfl (lv_at hl 1 rfl) ?_
            refine va_get (ci := 10) (v := .ref (z 1)) (C := RX10) (T := TX10) (N := 40) hx hb hg inX10 hown hK hP 2 rfl rfl 1 (by decide) (hg _ q_5_225) (fun _ h9 => h9) rfl dX10_coast_182 ?_
            refine lv_iconst (v := 0) hx hb dX10_coast_185 (by decide) ?_
            refine va_iald hx hb hK hP 0 0 rfl rfl (vin (by decide +kernel)) dX10_coast_186 ?_
            refine lv_topi (fun x_85 ex_85 => ?_)
            have hP := subP (ws' := [(z 0, .inr (10, mo z 0 0 u_59 u_60 a1 u_61 u_62 u_63 u_64 u_63 (-1) pz0_18 pz0_19 pz0_22 pz0_23 pz0_29)), (z 1, aI V 3075 f_81), (z 3, aI V 900 fz3), (z 4, aI V 1025 f_58)]) hP [2, 0, 3, 1] rfl
            have hD := hD.sub (ws' := [(z 0, .inr (10, mo z 0 0 u_59 u_60 a1 u_61 u_62 u_63 u_64 u_63 (-1) pz0_18 pz0_19 pz0_22 pz0_23 pz0_29)), (z 1, aI V 3075 f_81), (z 3, aI V 900 fz3), (z 4, aI V 1025 f_58)]) [2, 0, 3, 1] rfl rfl
            exact fiI hx hb hr hlk hK hP hD hS dX10_coast_187 (Nat.le_of_ble_eq_true rfl) (Nat.le_of_ble_eq_true rfl) (⟨0, 0, u_59, u_60, a1, u_61, u_62, u_63, u_64, u_63, (-1), f_81, f_58, (iv_c (0 : Int32) (by decide)), bu_59, bu_60, b_14, bu_62, (iv_w b_73 (by decide)), bu_64, (iv_w b_73 (by decide)), (iv_c ((-1) : Int32) (by decide)), tf_81, tf_58, hRW, rfl⟩)
          · have b_86 : iv 0 1024 u_80 := iv_l1 (Int32.not_le.mp c_83) bu_80 (iv_c (1025 : Int32) (a := 1025) (b := 1025) (by decide)) (by decide)
            refine lv_aload_n hx hb dX10_coast_163 rfl (lv_at hl 1 rfl) ?_
            refine va_get (ci := 10) (v := .ref (z 1)) (C := RX10) (T := TX10) (N := 40) hx hb hg inX10 hown hK hP 2 rfl rfl 1 (by decide) (hg _ q_5_225) (fun _ h9 => h9) rfl dX10_coast_164 ?_
            refine lv_iload_n hx hb dX10_coast_167 rfl (lv_at hl 0 rfl) ?_
            refine lv_aload_n hx hb dX10_coast_168 rfl (lv_at hl 1 rfl) ?_
            refine va_get (ci := 10) (v := .ref (z 4)) (C := RX10) (T := TX10) (N := 40) hx hb hg inX10 hown hK hP 2 rfl rfl 4 (by decide) (hg _ q_5_228) (fun _ h9 => h9) rfl dX10_coast_169 ?_
            refine lv_iload_n hx hb dX10_coast_172 rfl (lv_at hl 0 rfl) ?_
            refine va_iald hx hb hK hP 1 0 rfl rfl (iv_in b_86 (by decide)) dX10_coast_173 ?_
            refine lv_topi (fun x_87 ex_87 => ?_)
            refine va_iast hx hb hK hP hD hS 0 0 rfl rfl (iv_in b_86 (by decide)) dX10_coast_174 (fun H locs hP hD hS => ?_)
            obtain ⟨f_88, ef_88, tf_88, hP, hD⟩ : ∃ f_88 : Nat → Int32, f_88 = (upd f_81 (u_80 : Int32).toNatClampNeg x_87) ∧ (ivT tA f_88) ∧ va_P V.1 vwCl [(z 1, aI V 3075 f_88), (z 4, aI V 1025 f_58), (z 0, .inr (10, mo z 0 0 u_59 u_60 a1 u_61 u_62 u_63 u_64 u_63 (-1) pz0_18 pz0_19 pz0_22 pz0_23 pz0_29)), (z 3, aI V 900 fz3)] H ∧ va_D A [(z 1, aI V 3075 f_88), (z 4, aI V 1025 f_58), (z 0, .inr (10, mo z 0 0 u_59 u_60 a1 u_61 u_62 u_63 u_64 u_63 (-1) pz0_18 pz0_19 pz0_22 pz0_23 pz0_29)), (z 3, aI V 900 fz3)] := ⟨_, rfl, cp_T tf_81 (inn_65_1 (iv_eqp b_73 (iv_c (0 : Int32) (by decide)))).1 b_86 (by decide) ex_87, hP, hD⟩
            obtain ⟨x_89, ex_89⟩ : ∃ z9 : Int32, z9 = u_80 + 1 := ⟨_, rfl⟩
            have bx_89 : iv 1 1025 x_89 := by rw [ex_89]; exact iv_add b_86 (iv_c (1 : Int32) (a := 1) (b := 1) (by decide)) (by decide)
            refine lv_iinc (v := x_89) (lv' := [(2, .int x_89), (0, .ref (z 0)), (1, .int a1)]) hx hb dX10_coast_175 hl (k := 0) rfl (by rw [ex_89]; rfl) (by decide) rfl (fun ls hl => ?_)
            refine lv_goto (tgt := 156) hx hb dX10_coast_178 (by decide) ?_
            exact ihn_82 _ _ _ _ (by rw [en_82, ex_89]; exact mu_up b_86 (by decide)) ⟨x_89, f_88, (iv_w bx_89 (by decide)), tf_88, (CPY_s inn_82_0 b_86 (by decide) ex_87 ef_88 ex_89), rfl, hP, hD, hS, lv_sub hl [0, 1, 2] rfl⟩
        · refine lv_aload_n hx hb dX10_coast_101 rfl (lv_at hl 0 rfl) ?_
          refine jnV (wr := [(z 1, aI V 3075 fz1)]) (rnV (rest := []) ⟨hx, hb, hml, hown, hg⟩ (k_X10_readLine_0 l V z f_58 0 0 u_59 u_60 a1 u_61 u_62 u_63 u_64 pz0_13 pz0_14 pz0_18 pz0_19 pz0_22 pz0_23 pz0_29 fz3 tf_58 (iv_c (0 : Int32) (by decide)) bu_59 bu_60 b_14 bu_62 (iv_w b_73 (by decide)) bu_64 bpz0_13 bpz0_14 bpz0_18 bpz0_22 bpz0_29 inn_65_0 inn_65_1) mt_X10_readLine q_6_163 ⟨Nat.le_of_ble_eq_true rfl, Nat.le_of_ble_eq_true rfl⟩ hK hP hD hS hA hE [1, 2, 3] rfl rfl 2 rfl rfl rfl rfl hl.1 rfl (Nat.le_of_ble_eq_true rfl) dX10_coast_102 ⟨Nat.le_of_ble_eq_true rfl, Nat.le_of_ble_eq_true rfl⟩) hP hD hS hA [1, 2, 3] [0] rfl rfl rfl (by decide) (fun  w H locs hw hP hD hS => ?_)
          obtain ⟨f_90, v_91, v_92, v_93, v_94, v_95, v_96, tf_90, bv_91, bv_92, bv_94, bv_95, bv_96, g_97, g_98, g_99, g_100, rfl⟩ := hw
          have hP : va_P V.1 vwCl [(z 1, aI V 3075 fz1), (z 4, aI V 1025 f_90), (z 0, .inr (10, mo z 0 0 v_91 v_92 a1 v_93 v_94 v_95 v_96 pz0_13 pz0_14 pz0_18 pz0_19 pz0_22 pz0_23 pz0_29)), (z 3, aI V 900 fz3)] H := hP
          have hD : va_D A [(z 1, aI V 3075 fz1), (z 4, aI V 1025 f_90), (z 0, .inr (10, mo z 0 0 v_91 v_92 a1 v_93 v_94 v_95 v_96 pz0_13 pz0_14 pz0_18 pz0_19 pz0_22 pz0_23 pz0_29)), (z 3, aI V 900 fz3)] := hD
          refine lv_aload_n hx hb dX10_coast_105 rfl (lv_at hl 0 rfl) ?_
          refine jnV (wr := [(z 1, aI V 3075 fz1)]) (rnV (rest := []) ⟨hx, hb, hml, hown, hg⟩ (k_X10_closes_0 l V z f_90 0 0 v_91 v_92 a1 v_93 v_94 v_95 v_96 pz0_13 pz0_14 pz0_18 pz0_19 pz0_22 pz0_23 pz0_29 fz3 tf_90 (iv_c (0 : Int32) (by decide)) bv_91 bv_92 b_14 bv_94 bv_95 bv_96 bpz0_13 bpz0_14 bpz0_18 bpz0_22 bpz0_29 g_97 g_98) mt_X10_closes q_6_159 ⟨Nat.le_of_ble_eq_true rfl, Nat.le_of_ble_eq_true rfl⟩ hK hP hD hS hA hE [1, 2, 3] rfl rfl 2 rfl rfl rfl rfl hl.1 rfl (Nat.le_of_ble_eq_true rfl) dX10_coast_106 ⟨Nat.le_of_ble_eq_true rfl, Nat.le_of_ble_eq_true rfl⟩) hP hD hS hA [1, 2, 3] [0] rfl rfl rfl (by decide) (fun  w H locs hw hP hD hS => ?_)
          obtain ⟨f_101, v_102, v_103, v_104, v_105, v_106, v_107, tf_101, bv_102, bv_103, bv_105, bv_106, bv_107, g_108, g_109, g_110, g_111, g_112, rfl⟩ := hw
          have hP : va_P V.1 vwCl [(z 1, aI V 3075 fz1), (z 4, aI V 1025 f_101), (z 0, .inr (10, mo z 0 0 v_102 v_103 a1 v_104 v_105 v_106 v_107 pz0_13 pz0_14 pz0_18 pz0_19 pz0_22 pz0_23 pz0_29)), (z 3, aI V 900 fz3)] H := hP
          have hD : va_D A [(z 1, aI V 3075 fz1), (z 4, aI V 1025 f_101), (z 0, .inr (10, mo z 0 0 v_102 v_103 a1 v_104 v_105 v_106 v_107 pz0_13 pz0_14 pz0_18 pz0_19 pz0_22 pz0_23 pz0_29)), (z 3, aI V 900 fz3)] := hD
          refine lv_goto (tgt := 85) hx hb dX10_coast_109 (by decide) ?_
          exact ihn_65 _ _ _ _ (by rw [en_65]; exact mu_w (iv_eqp b_73 (iv_c (0 : Int32) (by decide))) (by have z_0 := g_22; have z_1 := g_29; have z_2 := g_42; have z_3 := g_55; have z_4 := g_99; have z_5 := g_110;have y_0 := g_21.1; have y_1 := g_28.1; have y_2 := g_41.1; have y_3 := g_53.1; have y_4 := inn_65_0.1; have y_5 := g_97.1; have y_6 := g_108.1; omega) (fun q7 => by have q8 := g_112 q7; have q9 := g_99; omega) bv_102 (by decide)) ⟨f_101, v_102, v_103, v_104, v_105, v_106, v_107, tf_101, bv_102, bv_103, bv_105, bv_106, bv_107, g_108, g_109, inn_65_2, rfl, hP, hD, hS, lv_sub hl [0, 1] rfl⟩
    · have b_113 : iv 0 0 r_23 := iv_q c_32 (iv_c (0 : Int32) (a := 0) (b := 0) (by decide))
      refine lv_aload_n hx hb dX10_coast_61 rfl (lv_at hl 0 rfl) ?_
      refine lv_iconst (v := 2) hx hb dX10_coast_62 (by decide) ?_
      refine jnV (wr := [(z 1, aI V 3075 fz1), (z 4, aI V 1025 f_15), (z 3, aI V 900 fz3)]) (rnV (rest := []) ⟨hx, hb, hml, hown, hg⟩ (k_X10_fails_0 l V z 2 0 0 v_24 v_25 a1 v_26 v_27 0 pz0_12 pz0_13 pz0_14 pz0_18 pz0_19 pz0_22 pz0_23 pz0_29 (iv_c (2 : Int32) (by decide)) (iv_c (0 : Int32) (by decide)) bv_24 bv_25 b_14 bv_27 (iv_c (0 : Int32) (by decide)) bpz0_12 bpz0_13 bpz0_14 bpz0_18 bpz0_22 bpz0_29) mt_X10_fails q_6_147 ⟨Nat.le_of_ble_eq_true rfl, Nat.le_of_ble_eq_true rfl⟩ hK hP hD hS hA hE [2] rfl rfl 2 rfl rfl rfl rfl hl.1 rfl (Nat.le_of_ble_eq_true rfl) dX10_coast_63 ⟨Nat.le_of_ble_eq_true rfl, Nat.le_of_ble_eq_true rfl⟩) hP hD hS hA [2] [0, 1, 3] rfl rfl rfl (by decide) (fun  w H locs hw hP hD hS => ?_)
      obtain ⟨v_114, v_115, bv_114, bv_115, rfl⟩ := hw
      have hP : va_P V.1 vwCl [(z 1, aI V 3075 fz1), (z 4, aI V 1025 f_15), (z 3, aI V 900 fz3), (z 0, .inr (10, mo z 0 0 v_24 v_25 a1 v_26 v_27 v_114 v_115 pz0_13 pz0_14 pz0_18 pz0_19 pz0_22 pz0_23 pz0_29))] H := hP
      have hD : va_D A [(z 1, aI V 3075 fz1), (z 4, aI V 1025 f_15), (z 3, aI V 900 fz3), (z 0, .inr (10, mo z 0 0 v_24 v_25 a1 v_26 v_27 v_114 v_115 pz0_13 pz0_14 pz0_18 pz0_19 pz0_22 pz0_23 pz0_29))] := hD
      refine lv_aload_n hx hb dX10_coast_66 rfl (lv_at hl 0 rfl) ?_
      refine va_get (ci := 10) (v := .ref (z 4)) (C := RX10) (T := TX10) (N := 40) hx hb hg inX10 hown hK hP 3 rfl rfl 4 (by decide) (hg _ q_5_228) (fun _ h9 => h9) rfl dX10_coast_67 ?_
      refine lv_bipush (v := 51) hx hb dX10_coast_70 (by decide) ?_
      refine lv_aload_n hx hb dX10_coast_72 rfl (lv_at hl 0 rfl) ?_
      refine lv_iconst (v := 1) hx hb dX10_coast_73 (by decide) ?_
      refine lv_iconst (v := 0) hx hb dX10_coast_74 (by decide) ?_
      refine lv_bipush (v := 9) hx hb dX10_coast_75 (by decide) ?_
      refine jnI (wr := [(z 1, aI V 3075 fz1), (z 4, aI V 1025 f_15)]) (rnV (rest := [.int 51, .ref (z 4)]) ⟨hx, hb, hml, hown, hg⟩ (k_X10_named_0 l V z 0 9 0 0 v_24 v_25 a1 v_26 v_27 v_114 v_115 pz0_13 pz0_14 pz0_18 pz0_19 pz0_22 pz0_23 pz0_29 fz3 (iv_c (0 : Int32) (by decide)) bv_24 bv_25 b_14 bv_27 (iv_w bv_114 (by decide)) bv_115 bpz0_13 bpz0_14 bpz0_18 bpz0_22 bpz0_29 g_28) mt_X10_named q_6_151 ⟨Nat.le_of_ble_eq_true rfl, Nat.le_of_ble_eq_true rfl⟩ hK hP hD hS hA hE [3, 2] rfl rfl 3 rfl rfl rfl rfl hl.1 rfl (Nat.le_of_ble_eq_true rfl) dX10_coast_77 ⟨Nat.le_of_ble_eq_true rfl, Nat.le_of_ble_eq_true rfl⟩) hP hD hS hA [3, 2] [0, 1] rfl rfl rfl (by decide) (fun r_116 w H locs hw hP hD hS => ?_)
      obtain ⟨v_117, v_118, v_119, v_120, v_121, v_122, bv_117, bv_118, bv_120, bv_121, bv_122, br_116, g_123, g_124, g_125, g_126, rfl⟩ := hw
      have hP : va_P V.1 vwCl [(z 1, aI V 3075 fz1), (z 4, aI V 1025 f_15), (z 0, .inr (10, mo z 0 0 v_117 v_118 a1 v_119 v_120 v_121 v_122 pz0_13 pz0_14 pz0_18 pz0_19 pz0_22 pz0_23 pz0_29)), (z 3, aI V 900 fz3)] H := hP
      have hD : va_D A [(z 1, aI V 3075 fz1), (z 4, aI V 1025 f_15), (z 0, .inr (10, mo z 0 0 v_117 v_118 a1 v_119 v_120 v_121 v_122 pz0_13 pz0_14 pz0_18 pz0_19 pz0_22 pz0_23 pz0_29)), (z 3, aI V 900 fz3)] := hD
      refine va_iast hx hb hK hP hD hS 1 0 rfl rfl (vin (by decide +kernel)) dX10_coast_80 (fun H locs hP hD hS => ?_)
      obtain ⟨f_127, ef_127, tf_127, hP, hD⟩ : ∃ f_127 : Nat → Int32, f_127 = (upd f_15 (51 : Int32).toNatClampNeg r_116) ∧ (ivT tF f_127) ∧ va_P V.1 vwCl [(z 1, aI V 3075 fz1), (z 4, aI V 1025 f_127), (z 0, .inr (10, mo z 0 0 v_117 v_118 a1 v_119 v_120 v_121 v_122 pz0_13 pz0_14 pz0_18 pz0_19 pz0_22 pz0_23 pz0_29)), (z 3, aI V 900 fz3)] H ∧ va_D A [(z 1, aI V 3075 fz1), (z 4, aI V 1025 f_127), (z 0, .inr (10, mo z 0 0 v_117 v_118 a1 v_119 v_120 v_121 v_122 pz0_13 pz0_14 pz0_18 pz0_19 pz0_22 pz0_23 pz0_29)), (z 3, aI V 900 fz3)] := ⟨_, rfl, upT (lo := (-2147483648)) (hi := 2147483647) (a := 51) (n := 1) tf_15 (iv_c (51 : Int32) (a := 51) (b := 51) (by decide)) (by decide) (iv_w br_116 (by decide)) (by decide +kernel), hP, hD⟩
      refine lv_aload_n hx hb dX10_coast_81 rfl (lv_at hl 0 rfl) ?_
      refine jnV (wr := [(z 1, aI V 3075 fz1)]) (rnV (rest := []) ⟨hx, hb, hml, hown, hg⟩ (k_X10_closes_0 l V z f_127 0 0 v_117 v_118 a1 v_119 v_120 v_121 v_122 pz0_13 pz0_14 pz0_18 pz0_19 pz0_22 pz0_23 pz0_29 fz3 tf_127 (iv_c (0 : Int32) (by decide)) bv_117 bv_118 b_14 bv_120 bv_121 bv_122 bpz0_13 bpz0_14 bpz0_18 bpz0_22 bpz0_29 g_123 (PS_up (lo := 0) (hi := 9) (c := 0) (k := 1) (i := 51) (n := 1) (PS_0 g_16 (by decide) (by have q9 := bv_117; unfold iv at q9; omega)) ef_127 (show (51 : Int32).toInt = 0 + 1 * (51 : Int32).toInt from (by omega)) (iv_c (51 : Int32) (a := 51) (b := 51) (by decide)) (by decide) (by decide +kernel) (fun q7 => by have q8 := g_126 ((fun q9 => q9) q7); have z_0 : (0 : Int32).toInt = 0 := (by decide); have z_9 : (9 : Int32).toInt = 9 := (by decide); exact ⟨by omega, by omega⟩) (iv_c (51 : Int32) (a := 51) (b := 51) (by decide)) (by decide))) mt_X10_closes q_6_159 ⟨Nat.le_of_ble_eq_true rfl, Nat.le_of_ble_eq_true rfl⟩ hK hP hD hS hA hE [1, 2, 3] rfl rfl 2 rfl rfl rfl rfl hl.1 rfl (Nat.le_of_ble_eq_true rfl) dX10_coast_82 ⟨Nat.le_of_ble_eq_true rfl, Nat.le_of_ble_eq_true rfl⟩) hP hD hS hA [1, 2, 3] [0] rfl rfl rfl (by decide) (fun  w H locs hw hP hD hS => ?_)
      obtain ⟨f_128, v_129, v_130, v_131, v_132, v_133, v_134, tf_128, bv_129, bv_130, bv_132, bv_133, bv_134, g_135, g_136, g_137, g_138, g_139, rfl⟩ := hw
      have hP : va_P V.1 vwCl [(z 1, aI V 3075 fz1), (z 4, aI V 1025 f_128), (z 0, .inr (10, mo z 0 0 v_129 v_130 a1 v_131 v_132 v_133 v_134 pz0_13 pz0_14 pz0_18 pz0_19 pz0_22 pz0_23 pz0_29)), (z 3, aI V 900 fz3)] H := hP
      have hD : va_D A [(z 1, aI V 3075 fz1), (z 4, aI V 1025 f_128), (z 0, .inr (10, mo z 0 0 v_129 v_130 a1 v_131 v_132 v_133 v_134 pz0_13 pz0_14 pz0_18 pz0_19 pz0_22 pz0_23 pz0_29)), (z 3, aI V 900 fz3)] := hD
      refine loopF (X := fun (n_147 : Nat) (H : Heap) (locs : List Loc) (ls : Array Slot) => ∃ (f_140 : Nat → Int32) (u_141 : Int32) (u_142 : Int32) (u_143 : Int32) (u_144 : Int32) (u_145 : Int32) (u_146 : Int32), (ivT tF f_140) ∧ (iv 0 900 u_141) ∧ (iv 0 900 u_142) ∧ (iv 0 999 u_144) ∧ (iv 0 4 u_145) ∧ (iv 0 900 u_146) ∧ (PT u_141 u_142 a1 u_143) ∧ (PS u_145 u_141 f_140) ∧ (RW fz1) ∧ n_147 = (2 * (900 - (u_141 : Int32).toInt) + wz u_145).toNat ∧ va_P V.1 vwCl [(z 1, aI V 3075 fz1), (z 4, aI V 1025 f_140), (z 0, .inr (10, mo z 0 0 u_141 u_142 a1 u_143 u_144 u_145 u_146 pz0_13 pz0_14 pz0_18 pz0_19 pz0_22 pz0_23 pz0_29)), (z 3, aI V 900 fz3)] H ∧ va_D A [(z 1, aI V 3075 fz1), (z 4, aI V 1025 f_140), (z 0, .inr (10, mo z 0 0 u_141 u_142 a1 u_143 u_144 u_145 u_146 pz0_13 pz0_14 pz0_18 pz0_19 pz0_22 pz0_23 pz0_29)), (z 3, aI V 900 fz3)] ∧ va_S A s.heap H locs ∧ lv_has ls 3 [(0, .ref (z 0)), (1, .int a1)]) (g := fun ls => F0 m 85 ls []) (fun n_147 H locs ls hX ihn_147 => ?_) _ ⟨f_128, v_129, v_130, v_131, v_132, v_133, v_134, tf_128, bv_129, bv_130, bv_132, bv_133, bv_134, g_135, g_136, hf0, rfl, hP, hD, hS, lv_sub hl [0, 1] rfl⟩
      obtain ⟨f_140, u_141, u_142, u_143, u_144, u_145, u_146, tf_140, bu_141, bu_142, bu_144, bu_145, bu_146, inn_147_0, inn_147_1, inn_147_2, en_147, hP, hD, hS, hl⟩ := hX
      refine lv_aload_n hx hb dX10_coast_85 rfl (lv_at hl 0 rfl) ?_
      refine va_get (ci := 10) (v := .int u_145) (C := RX10) (T := TX10) (N := 40) hx hb hg inX10 hown hK hP 2 rfl rfl 11 (by decide) (hg _ q_5_235) (fun _ h9 => h9) rfl dX10_coast_86 ?_
      refine lv_if_ne (tgt := 112) hx hb dX10_coast_89 (by decide) (fun c_148 => ?_) (fun c_148 => ?_)
      · have b_149 : iv 1 4 u_145 := iv_n0 c_148 bu_145 (iv_c (0 : Int32) (a := 0) (b := 0) (by decide)) (by decide)
        refine lv_aload_n hx hb dX10_coast_112 rfl (lv_at hl 0 rfl) ?_
        refine lv_aload_n hx hb dX10_coast_113 rfl (lv_at hl 0 rfl) ?_
        refine va_get (ci := 10) (v := .int u_145) (C := RX10) (T := TX10) (N := 40) hx hb hg inX10 hown hK hP 2 rfl rfl 11 (by decide) (hg _ q_5_235) (fun _ h9 => h9) rfl dX10_coast_114 ?_
        refine va_put (ci := 10) (v := .int u_145) (ty := .int) (C := RX10) (T := TX10) (N := 40) hx hb hg inX10 tyX10 tyX10_ok nmX10 hown hK hP hD hS 2 rfl rfl 13 (by decide) (hg _ q_5_237) (fun _ h9 => h9) rfl (by decide +kernel) rfl rfl (Nat.le_of_ble_eq_true rfl) dX10_coast_117 (fun H locs hP hD hS => ?_)
        have hP : va_P V.1 vwCl [(z 1, aI V 3075 fz1), (z 4, aI V 1025 f_140), (z 0, .inr (10, mo z 0 0 u_141 u_142 a1 u_143 u_144 u_145 u_146 u_145 pz0_14 pz0_18 pz0_19 pz0_22 pz0_23 pz0_29)), (z 3, aI V 900 fz3)] H := hP
        have hD : va_D A [(z 1, aI V 3075 fz1), (z 4, aI V 1025 f_140), (z 0, .inr (10, mo z 0 0 u_141 u_142 a1 u_143 u_144 u_145 u_146 u_145 pz0_14 pz0_18 pz0_19 pz0_22 pz0_23 pz0_29)), (z 3, aI V 900 fz3)] := hD
        refine lv_aload_n hx hb dX10_coast_120 rfl (lv_at hl 0 rfl) ?_
        refine lv_aload_n hx hb dX10_coast_121 rfl (lv_at hl 0 rfl) ?_
        refine va_get (ci := 10) (v := .int u_145) (C := RX10) (T := TX10) (N := 40) hx hb hg inX10 hown hK hP 2 rfl rfl 11 (by decide) (hg _ q_5_235) (fun _ h9 => h9) rfl dX10_coast_122 ?_
        refine lv_if_ne (tgt := 132) hx hb dX10_coast_125 (by decide) (fun _ => ?_) (fun c_151 => absurd c_151 c_148)
        refine lv_aload_n hx hb dX10_coast_132 rfl (lv_at hl 0 rfl) ?_
        refine va_get (ci := 10) (v := .int u_146) (C := RX10) (T := TX10) (N := 40) hx hb hg inX10 hown hK hP 2 rfl rfl 12 (by decide) (hg _ q_5_236) (fun _ h9 => h9) rfl dX10_coast_133 ?_
        refine va_put (ci := 10) (v := .int u_146) (ty := .int) (C := RX10) (T := TX10) (N := 40) hx hb hg inX10 tyX10 tyX10_ok nmX10 hown hK hP hD hS 2 rfl rfl 14 (by decide) (hg _ q_5_238) (fun _ h9 => h9) rfl (by decide +kernel) rfl rfl (Nat.le_of_ble_eq_true rfl) dX10_coast_136 (fun H locs hP hD hS => ?_)
        have hP : va_P V.1 vwCl [(z 1, aI V 3075 fz1), (z 4, aI V 1025 f_140), (z 0, .inr (10, mo z 0 0 u_141 u_142 a1 u_143 u_144 u_145 u_146 u_145 u_146 pz0_18 pz0_19 pz0_22 pz0_23 pz0_29)), (z 3, aI V 900 fz3)] H := hP
        have hD : va_D A [(z 1, aI V 3075 fz1), (z 4, aI V 1025 f_140), (z 0, .inr (10, mo z 0 0 u_141 u_142 a1 u_143 u_144 u_145 u_146 u_145 u_146 pz0_18 pz0_19 pz0_22 pz0_23 pz0_29)), (z 3, aI V 900 fz3)] := hD
        refine lv_aload_n hx hb dX10_coast_139 rfl (lv_at hl 0 rfl) ?_
        refine va_get (ci := 10) (v := .int u_145) (C := RX10) (T := TX10) (N := 40) hx hb hg inX10 hown hK hP 2 rfl rfl 11 (by decide) (hg _ q_5_235) (fun _ h9 => h9) rfl dX10_coast_140 ?_
        refine lv_if_eq (tgt := 154) hx hb dX10_coast_143 (by decide) (fun c_153 => absurd c_153 c_148) (fun _ => ?_)
        refine lv_bipush (v := (-30)) hx hb dX10_coast_146 (by decide) ?_
        refine lv_aload_n hx hb dX10_coast_148 rfl (lv_at hl 0 rfl) ?_
        refine va_get (ci := 10) (v := .int u_145) (C := RX10) (T := TX10) (N := 40) hx hb hg inX10 hown hK hP 2 rfl rfl 11 (by decide) (hg _ q_5_235) (fun _ h9 => h9) rfl dX10_coast_149 ?_
        refine lv_isub hx hb dX10_coast_152 ?_
        refine lv_topi (fun x_154 ex_154 => ?_)
        have bx_154 : iv (-34) (-31) x_154 := by rw [ex_154]; exact iv_sub (iv_c ((-30) : Int32) (a := (-30)) (b := (-30)) (by decide)) b_149 (by decide)
        have hP := subP (ws' := [(z 0, .inr (10, mo z 0 0 u_141 u_142 a1 u_143 u_144 u_145 u_146 u_145 u_146 pz0_18 pz0_19 pz0_22 pz0_23 pz0_29)), (z 1, aI V 3075 fz1), (z 3, aI V 900 fz3), (z 4, aI V 1025 f_140)]) hP [2, 0, 3, 1] rfl
        have hD := hD.sub (ws' := [(z 0, .inr (10, mo z 0 0 u_141 u_142 a1 u_143 u_144 u_145 u_146 u_145 u_146 pz0_18 pz0_19 pz0_22 pz0_23 pz0_29)), (z 1, aI V 3075 fz1), (z 3, aI V 900 fz3), (z 4, aI V 1025 f_140)]) [2, 0, 3, 1] rfl rfl
        exact fiI hx hb hr hlk hK hP hD hS dX10_coast_153 (Nat.le_of_ble_eq_true rfl) (Nat.le_of_ble_eq_true rfl) (⟨0, 0, u_141, u_142, a1, u_143, u_144, u_145, u_146, u_145, u_146, fz1, f_140, (iv_c (0 : Int32) (by decide)), bu_141, bu_142, b_14, bu_144, (iv_w b_149 (by decide)), bu_146, (iv_w b_149 (by decide)), (iv_w bu_146 (by decide)), tfz1, tf_140, inn_147_2, rfl⟩)
      · have b_155 : iv 0 0 u_145 := iv_q c_148 (iv_c (0 : Int32) (a := 0) (b := 0) (by decide))
        refine lv_aload_n hx hb dX10_coast_92 rfl (lv_at hl 0 rfl) ?_
        refine va_get (ci := 10) (v := .int u_143) (C := RX10) (T := TX10) (N := 40) hx hb hg inX10 hown hK hP 2 rfl rfl 9 (by decide) (hg _ q_5_233) (fun _ h9 => h9) rfl dX10_coast_93 ?_
        refine lv_bipush (v := 24) hx hb dX10_coast_96 (by decide) ?_
        refine lv_icmp_eq (tgt := 112) hx hb dX10_coast_98 (by decide) (fun c_156 => ?_) (fun c_156 => ?_)
        · have b_157 : iv 24 24 u_143 := iv_q c_156 (iv_c (24 : Int32) (a := 24) (b := 24) (by decide))
          refine lv_aload_n hx hb dX10_coast_112 rfl (lv_at hl 0 rfl) ?_
          refine lv_aload_n hx hb dX10_coast_113 rfl (lv_at hl 0 rfl) ?_
          refine va_get (ci := 10) (v := .int u_145) (C := RX10) (T := TX10) (N := 40) hx hb hg inX10 hown hK hP 2 rfl rfl 11 (by decide) (hg _ q_5_235) (fun _ h9 => h9) rfl dX10_coast_114 ?_
          refine va_put (ci := 10) (v := .int u_145) (ty := .int) (C := RX10) (T := TX10) (N := 40) hx hb hg inX10 tyX10 tyX10_ok nmX10 hown hK hP hD hS 2 rfl rfl 13 (by decide) (hg _ q_5_237) (fun _ h9 => h9) rfl (by decide +kernel) rfl rfl (Nat.le_of_ble_eq_true rfl) dX10_coast_117 (fun H locs hP hD hS => ?_)
          have hP : va_P V.1 vwCl [(z 1, aI V 3075 fz1), (z 4, aI V 1025 f_140), (z 0, .inr (10, mo z 0 0 u_141 u_142 a1 u_143 u_144 u_145 u_146 u_145 pz0_14 pz0_18 pz0_19 pz0_22 pz0_23 pz0_29)), (z 3, aI V 900 fz3)] H := hP
          have hD : va_D A [(z 1, aI V 3075 fz1), (z 4, aI V 1025 f_140), (z 0, .inr (10, mo z 0 0 u_141 u_142 a1 u_143 u_144 u_145 u_146 u_145 pz0_14 pz0_18 pz0_19 pz0_22 pz0_23 pz0_29)), (z 3, aI V 900 fz3)] := hD
          refine lv_aload_n hx hb dX10_coast_120 rfl (lv_at hl 0 rfl) ?_
          refine lv_aload_n hx hb dX10_coast_121 rfl (lv_at hl 0 rfl) ?_
          refine va_get (ci := 10) (v := .int u_145) (C := RX10) (T := TX10) (N := 40) hx hb hg inX10 hown hK hP 2 rfl rfl 11 (by decide) (hg _ q_5_235) (fun _ h9 => h9) rfl dX10_coast_122 ?_
          refine lv_if_ne (tgt := 132) hx hb dX10_coast_125 (by decide) (fun c_159 => absurd c_148 c_159) (fun _ => ?_)
          refine lv_iconst (v := (-1)) hx hb dX10_coast_128 (by decide) ?_
          refine lv_goto (tgt := 136) hx hb dX10_coast_129 (by decide) ?_
          refine va_put (ci := 10) (v := .int (-1)) (ty := .int) (C := RX10) (T := TX10) (N := 40) hx hb hg inX10 tyX10 tyX10_ok nmX10 hown hK hP hD hS 2 rfl rfl 14 (by decide) (hg _ q_5_238) (fun _ h9 => h9) rfl (by decide +kernel) rfl rfl (Nat.le_of_ble_eq_true rfl) dX10_coast_136 (fun H locs hP hD hS => ?_)
          have hP : va_P V.1 vwCl [(z 1, aI V 3075 fz1), (z 4, aI V 1025 f_140), (z 0, .inr (10, mo z 0 0 u_141 u_142 a1 u_143 u_144 u_145 u_146 u_145 (-1) pz0_18 pz0_19 pz0_22 pz0_23 pz0_29)), (z 3, aI V 900 fz3)] H := hP
          have hD : va_D A [(z 1, aI V 3075 fz1), (z 4, aI V 1025 f_140), (z 0, .inr (10, mo z 0 0 u_141 u_142 a1 u_143 u_144 u_145 u_146 u_145 (-1) pz0_18 pz0_19 pz0_22 pz0_23 pz0_29)), (z 3, aI V 900 fz3)] := hD
          refine lv_aload_n hx hb dX10_coast_139 rfl (lv_at hl 0 rfl) ?_
          refine va_get (ci := 10) (v := .int u_145) (C := RX10) (T := TX10) (N := 40) hx hb hg inX10 hown hK hP 2 rfl rfl 11 (by decide) (hg _ q_5_235) (fun _ h9 => h9) rfl dX10_coast_140 ?_
          refine lv_if_eq (tgt := 154) hx hb dX10_coast_143 (by decide) (fun _ => ?_) (fun c_161 => absurd c_148 c_161)
          refine lv_iconst (v := 0) hx hb dX10_coast_154 (by decide) ?_
          refine lv_istore_n (lv' := [(2, .int 0), (0, .ref (z 0)), (1, .int a1)]) hx hb dX10_coast_155 rfl hl (by decide) rfl (fun ls hl => ?_)
          refine loopF (X := fun (n_164 : Nat) (H : Heap) (locs : List Loc) (ls : Array Slot) => ∃ (u_162 : Int32) (f_163 : Nat → Int32), (iv 0 2147483647 u_162) ∧ (ivT tA f_163) ∧ (CPY u_162 f_163 f_140) ∧ n_164 = (2147483647 - (u_162 : Int32).toInt).toNat ∧ va_P V.1 vwCl [(z 1, aI V 3075 f_163), (z 4, aI V 1025 f_140), (z 0, .inr (10, mo z 0 0 u_141 u_142 a1 u_143 u_144 u_145 u_146 u_145 (-1) pz0_18 pz0_19 pz0_22 pz0_23 pz0_29)), (z 3, aI V 900 fz3)] H ∧ va_D A [(z 1, aI V 3075 f_163), (z 4, aI V 1025 f_140), (z 0, .inr (10, mo z 0 0 u_141 u_142 a1 u_143 u_144 u_145 u_146 u_145 (-1) pz0_18 pz0_19 pz0_22 pz0_23 pz0_29)), (z 3, aI V 900 fz3)] ∧ va_S A s.heap H locs ∧ lv_has ls 3 [(2, .int u_162), (0, .ref (z 0)), (1, .int a1)]) (g := fun ls => F0 m 156 ls []) (fun n_164 H locs ls hX ihn_164 => ?_) _ ⟨0, fz1, (iv_c (0 : Int32) (by decide)), tfz1, (CPY_0 inn_147_2 (by decide)), rfl, hP, hD, hS, lv_sub hl [0, 1, 2] rfl⟩
          obtain ⟨u_162, f_163, bu_162, tf_163, inn_164_0, en_164, hP, hD, hS, hl⟩ := hX
          refine lv_iload_n hx hb dX10_coast_156 rfl (lv_at hl 0 rfl) ?_
          refine lv_sipush (v := 1025) hx hb dX10_coast_157 (by decide) ?_
          refine lv_icmp_ge (tgt := 181) hx hb dX10_coast_160 (by decide) (fun c_165 => ?_) (fun c_165 => ?_)
          · have b_166 : iv 1025 2147483647 u_162 := iv_e2 c_165 (iv_c (1025 : Int32) (a := 1025) (b := 1025) (by decide)) bu_162 (by decide)
            have hRW := CPY_e inn_164_0 (Int32.not_lt.mpr c_165) inn_147_1 (iv_eqp b_155 (iv_c (0 : Int32) (by decide))) bu_141 (by decide) tf_140
            refine lv_aload_n hx hb dX10_coast_181 rfl (lv_at hl 1 rfl) ?_
            refine va_get (ci := 10) (v := .ref (z 1)) (C := RX10) (T := TX10) (N := 40) hx hb hg inX10 hown hK hP 2 rfl rfl 1 (by decide) (hg _ q_5_225) (fun _ h9 => h9) rfl dX10_coast_182 ?_
            refine lv_iconst (v := 0) hx hb dX10_coast_185 (by decide) ?_
            refine va_iald hx hb hK hP 0 0 rfl rfl (vin (by decide +kernel)) dX10_coast_186 ?_
            refine lv_topi (fun x_167 ex_167 => ?_)
            have hP := subP (ws' := [(z 0, .inr (10, mo z 0 0 u_141 u_142 a1 u_143 u_144 u_145 u_146 u_145 (-1) pz0_18 pz0_19 pz0_22 pz0_23 pz0_29)), (z 1, aI V 3075 f_163), (z 3, aI V 900 fz3), (z 4, aI V 1025 f_140)]) hP [2, 0, 3, 1] rfl
            have hD := hD.sub (ws' := [(z 0, .inr (10, mo z 0 0 u_141 u_142 a1 u_143 u_144 u_145 u_146 u_145 (-1) pz0_18 pz0_19 pz0_22 pz0_23 pz0_29)), (z 1, aI V 3075 f_163), (z 3, aI V 900 fz3), (z 4, aI V 1025 f_140)]) [2, 0, 3, 1] rfl rfl
            exact fiI hx hb hr hlk hK hP hD hS dX10_coast_187 (Nat.le_of_ble_eq_true rfl) (Nat.le_of_ble_eq_true rfl) (⟨0, 0, u_141, u_142, a1, u_143, u_144, u_145, u_146, u_145, (-1), f_163, f_140, (iv_c (0 : Int32) (by decide)), bu_141, bu_142, b_14, bu_144, (iv_w b_155 (by decide)), bu_146, (iv_w b_155 (by decide)), (iv_c ((-1) : Int32) (by decide)), tf_163, tf_140, hRW, rfl⟩)
          · have b_168 : iv 0 1024 u_162 := iv_l1 (Int32.not_le.mp c_165) bu_162 (iv_c (1025 : Int32) (a := 1025) (b := 1025) (by decide)) (by decide)
            refine lv_aload_n hx hb dX10_coast_163 rfl (lv_at hl 1 rfl) ?_
            refine va_get (ci := 10) (v := .ref (z 1)) (C := RX10) (T := TX10) (N := 40) hx hb hg inX10 hown hK hP 2 rfl rfl 1 (by decide) (hg _ q_5_225) (fun _ h9 => h9) rfl dX10_coast_164 ?_
            refine lv_iload_n hx hb dX10_coast_167 rfl (lv_at hl 0 rfl) ?_
            refine lv_aload_n hx hb dX10_coast_168 rfl (lv_at hl 1 rfl) ?_
            refine va_get (ci := 10) (v := .ref (z 4)) (C := RX10) (T := TX10) (N := 40) hx hb hg inX10 hown hK hP 2 rfl rfl 4 (by decide) (hg _ q_5_228) (fun _ h9 => h9) rfl dX10_coast_169 ?_
            refine lv_iload_n hx hb dX10_coast_172 rfl (lv_at hl 0 rfl) ?_
            refine va_iald hx hb hK hP 1 0 rfl rfl (iv_in b_168 (by decide)) dX10_coast_173 ?_
            refine lv_topi (fun x_169 ex_169 => ?_)
            refine va_iast hx hb hK hP hD hS 0 0 rfl rfl (iv_in b_168 (by decide)) dX10_coast_174 (fun H locs hP hD hS => ?_)
            obtain ⟨f_170, ef_170, tf_170, hP, hD⟩ : ∃ f_170 : Nat → Int32, f_170 = (upd f_163 (u_162 : Int32).toNatClampNeg x_169) ∧ (ivT tA f_170) ∧ va_P V.1 vwCl [(z 1, aI V 3075 f_170), (z 4, aI V 1025 f_140), (z 0, .inr (10, mo z 0 0 u_141 u_142 a1 u_143 u_144 u_145 u_146 u_145 (-1) pz0_18 pz0_19 pz0_22 pz0_23 pz0_29)), (z 3, aI V 900 fz3)] H ∧ va_D A [(z 1, aI V 3075 f_170), (z 4, aI V 1025 f_140), (z 0, .inr (10, mo z 0 0 u_141 u_142 a1 u_143 u_144 u_145 u_146 u_145 (-1) pz0_18 pz0_19 pz0_22 pz0_23 pz0_29)), (z 3, aI V 900 fz3)] := ⟨_, rfl, cp_T tf_163 (inn_147_1 (iv_eqp b_155 (iv_c (0 : Int32) (by decide)))).1 b_168 (by decide) ex_169, hP, hD⟩
            obtain ⟨x_171, ex_171⟩ : ∃ z9 : Int32, z9 = u_162 + 1 := ⟨_, rfl⟩
            have bx_171 : iv 1 1025 x_171 := by rw [ex_171]; exact iv_add b_168 (iv_c (1 : Int32) (a := 1) (b := 1) (by decide)) (by decide)
            refine lv_iinc (v := x_171) (lv' := [(2, .int x_171), (0, .ref (z 0)), (1, .int a1)]) hx hb dX10_coast_175 hl (k := 0) rfl (by rw [ex_171]; rfl) (by decide) rfl (fun ls hl => ?_)
            refine lv_goto (tgt := 156) hx hb dX10_coast_178 (by decide) ?_
            exact ihn_164 _ _ _ _ (by rw [en_164, ex_171]; exact mu_up b_168 (by decide)) ⟨x_171, f_170, (iv_w bx_171 (by decide)), tf_170, (CPY_s inn_164_0 b_168 (by decide) ex_169 ef_170 ex_171), rfl, hP, hD, hS, lv_sub hl [0, 1, 2] rfl⟩
        · refine lv_aload_n hx hb dX10_coast_101 rfl (lv_at hl 0 rfl) ?_
          refine jnV (wr := [(z 1, aI V 3075 fz1)]) (rnV (rest := []) ⟨hx, hb, hml, hown, hg⟩ (k_X10_readLine_0 l V z f_140 0 0 u_141 u_142 a1 u_143 u_144 u_145 u_146 pz0_13 pz0_14 pz0_18 pz0_19 pz0_22 pz0_23 pz0_29 fz3 tf_140 (iv_c (0 : Int32) (by decide)) bu_141 bu_142 b_14 bu_144 (iv_w b_155 (by decide)) bu_146 bpz0_13 bpz0_14 bpz0_18 bpz0_22 bpz0_29 inn_147_0 inn_147_1) mt_X10_readLine q_6_163 ⟨Nat.le_of_ble_eq_true rfl, Nat.le_of_ble_eq_true rfl⟩ hK hP hD hS hA hE [1, 2, 3] rfl rfl 2 rfl rfl rfl rfl hl.1 rfl (Nat.le_of_ble_eq_true rfl) dX10_coast_102 ⟨Nat.le_of_ble_eq_true rfl, Nat.le_of_ble_eq_true rfl⟩) hP hD hS hA [1, 2, 3] [0] rfl rfl rfl (by decide) (fun  w H locs hw hP hD hS => ?_)
          obtain ⟨f_172, v_173, v_174, v_175, v_176, v_177, v_178, tf_172, bv_173, bv_174, bv_176, bv_177, bv_178, g_179, g_180, g_181, g_182, rfl⟩ := hw
          have hP : va_P V.1 vwCl [(z 1, aI V 3075 fz1), (z 4, aI V 1025 f_172), (z 0, .inr (10, mo z 0 0 v_173 v_174 a1 v_175 v_176 v_177 v_178 pz0_13 pz0_14 pz0_18 pz0_19 pz0_22 pz0_23 pz0_29)), (z 3, aI V 900 fz3)] H := hP
          have hD : va_D A [(z 1, aI V 3075 fz1), (z 4, aI V 1025 f_172), (z 0, .inr (10, mo z 0 0 v_173 v_174 a1 v_175 v_176 v_177 v_178 pz0_13 pz0_14 pz0_18 pz0_19 pz0_22 pz0_23 pz0_29)), (z 3, aI V 900 fz3)] := hD
          refine lv_aload_n hx hb dX10_coast_105 rfl (lv_at hl 0 rfl) ?_
          refine jnV (wr := [(z 1, aI V 3075 fz1)]) (rnV (rest := []) ⟨hx, hb, hml, hown, hg⟩ (k_X10_closes_0 l V z f_172 0 0 v_173 v_174 a1 v_175 v_176 v_177 v_178 pz0_13 pz0_14 pz0_18 pz0_19 pz0_22 pz0_23 pz0_29 fz3 tf_172 (iv_c (0 : Int32) (by decide)) bv_173 bv_174 b_14 bv_176 bv_177 bv_178 bpz0_13 bpz0_14 bpz0_18 bpz0_22 bpz0_29 g_179 g_180) mt_X10_closes q_6_159 ⟨Nat.le_of_ble_eq_true rfl, Nat.le_of_ble_eq_true rfl⟩ hK hP hD hS hA hE [1, 2, 3] rfl rfl 2 rfl rfl rfl rfl hl.1 rfl (Nat.le_of_ble_eq_true rfl) dX10_coast_106 ⟨Nat.le_of_ble_eq_true rfl, Nat.le_of_ble_eq_true rfl⟩) hP hD hS hA [1, 2, 3] [0] rfl rfl rfl (by decide) (fun  w H locs hw hP hD hS => ?_)
          obtain ⟨f_183, v_184, v_185, v_186, v_187, v_188, v_189, tf_183, bv_184, bv_185, bv_187, bv_188, bv_189, g_190, g_191, g_192, g_193, g_194, rfl⟩ := hw
          have hP : va_P V.1 vwCl [(z 1, aI V 3075 fz1), (z 4, aI V 1025 f_183), (z 0, .inr (10, mo z 0 0 v_184 v_185 a1 v_186 v_187 v_188 v_189 pz0_13 pz0_14 pz0_18 pz0_19 pz0_22 pz0_23 pz0_29)), (z 3, aI V 900 fz3)] H := hP
          have hD : va_D A [(z 1, aI V 3075 fz1), (z 4, aI V 1025 f_183), (z 0, .inr (10, mo z 0 0 v_184 v_185 a1 v_186 v_187 v_188 v_189 pz0_13 pz0_14 pz0_18 pz0_19 pz0_22 pz0_23 pz0_29)), (z 3, aI V 900 fz3)] := hD
          refine lv_goto (tgt := 85) hx hb dX10_coast_109 (by decide) ?_
          exact ihn_147 _ _ _ _ (by rw [en_147]; exact mu_w (iv_eqp b_155 (iv_c (0 : Int32) (by decide))) (by have z_0 := g_22; have z_1 := g_29; have z_2 := g_124; have z_3 := g_137; have z_4 := g_181; have z_5 := g_192;have y_0 := g_21.1; have y_1 := g_28.1; have y_2 := g_123.1; have y_3 := g_135.1; have y_4 := inn_147_0.1; have y_5 := g_179.1; have y_6 := g_190.1; omega) (fun q7 => by have q8 := g_194 q7; have q9 := g_181; omega) bv_184 (by decide)) ⟨f_183, v_184, v_185, v_186, v_187, v_188, v_189, tf_183, bv_184, bv_185, bv_187, bv_188, bv_189, g_190, g_191, inn_147_2, rfl, hP, hD, hS, lv_sub hl [0, 1] rfl⟩
  · have b_195 : iv 0 0 r_3 := iv_q c_7 (iv_c (0 : Int32) (a := 0) (b := 0) (by decide))
    refine lv_bipush (v := (-3)) hx hb dX10_coast_19 (by decide) ?_
    exact fiI hx hb hr hlk hK hP hD hS dX10_coast_21 (Nat.le_of_ble_eq_true rfl) (Nat.le_of_ble_eq_true rfl) (⟨0, pz0_5, pz0_6, pz0_7, pz0_8, pz0_9, pz0_10, pz0_11, pz0_12, pz0_13, pz0_14, fz1, fz4, bpz0_5, bpz0_6, bpz0_7, bpz0_8, bpz0_10, bpz0_11, bpz0_12, bpz0_13, bpz0_14, tfz1, tfz4, hf0, rfl⟩)
theorem dX10_fault_0 : decode cX10_fault 0 = .ok (.aload_n 0, 1) := by decide +kernel
theorem dX10_fault_1 : decode cX10_fault 1 = .ok (.iconst 0, 1) := by decide +kernel
theorem dX10_fault_2 : decode cX10_fault 2 = .ok (.putfield 1, 3) := by decide +kernel
theorem dX10_fault_5 : decode cX10_fault 5 = .ok (.iload_n 1, 1) := by decide +kernel
theorem dX10_fault_6 : decode cX10_fault 6 = .ok (.ifCond .ne 10, 3) := by decide +kernel
theorem dX10_fault_16 : decode cX10_fault 16 = .ok (.iload_n 1, 1) := by decide +kernel
theorem dX10_fault_17 : decode cX10_fault 17 = .ok (.iconst 1, 1) := by decide +kernel
theorem dX10_fault_18 : decode cX10_fault 18 = .ok (.if_icmp .ne 10, 3) := by decide +kernel
theorem dX10_fault_28 : decode cX10_fault 28 = .ok (.iconst (-1), 1) := by decide +kernel
theorem dX10_fault_29 : decode cX10_fault 29 = .ok (.ireturn, 1) := by decide +kernel
theorem dX10_fault_21 : decode cX10_fault 21 = .ok (.aload_n 0, 1) := by decide +kernel
theorem dX10_fault_22 : decode cX10_fault 22 = .ok (.getfield 27, 3) := by decide +kernel
theorem dX10_fault_25 : decode cX10_fault 25 = .ok (.goto 4, 3) := by decide +kernel
theorem dX10_fault_9 : decode cX10_fault 9 = .ok (.aload_n 0, 1) := by decide +kernel
theorem dX10_fault_10 : decode cX10_fault 10 = .ok (.getfield 225, 3) := by decide +kernel
theorem dX10_fault_13 : decode cX10_fault 13 = .ok (.goto 16, 3) := by decide +kernel
set_option maxHeartbeats 4000000 in
set_option maxRecDepth 100000 in
theorem k_X10_fault_0 (l : Launch) (V : GV) (z : Nat → Nat) (a1 : Int32) (pz0_0 : Int32) (pz0_5 : Int32) (pz0_6 : Int32) (pz0_7 : Int32) (pz0_8 : Int32) (pz0_9 : Int32) (pz0_10 : Int32) (pz0_11 : Int32) (pz0_12 : Int32) (pz0_13 : Int32) (pz0_14 : Int32) (pz0_18 : Int32) (pz0_19 : Int32) (pz0_22 : Int32) (pz0_23 : Int32) (pz0_29 : Int32) (bpz0_5 : iv 0 900 pz0_5) (bpz0_6 : iv 0 900 pz0_6) (bpz0_7 : iv 0 900 pz0_7) (bpz0_8 : iv 0 900 pz0_8) (bpz0_10 : iv 0 999 pz0_10) (bpz0_11 : iv 0 4 pz0_11) (bpz0_12 : iv 0 900 pz0_12) (bpz0_13 : iv 0 4 pz0_13) (bpz0_14 : iv (-1) 900 pz0_14) (bpz0_18 : iv 0 2 pz0_18) (bpz0_22 : iv 0 9999 pz0_22) (bpz0_29 : iv 0 10000 pz0_29) : Ct l V yX10_fault (.code yX10_fault cX10_fault 2 (some .int)) 1 [.ref (z 0), .int a1] [(z 0, .inr (10, mo z pz0_0 pz0_5 pz0_6 pz0_7 pz0_8 pz0_9 pz0_10 pz0_11 pz0_12 pz0_13 pz0_14 pz0_18 pz0_19 pz0_22 pz0_23 pz0_29))] 0 0 (QI V (fun (r : Int32) (w : va_W) => ∃ (v0 : Int32), iv (-1) 900 r ∧ w = [(z 0, .inr (10, mo z v0 pz0_5 pz0_6 pz0_7 pz0_8 pz0_9 pz0_10 pz0_11 pz0_12 pz0_13 pz0_14 pz0_18 pz0_19 pz0_22 pz0_23 pz0_29))])) := by
  refine Ct.of (by decide) (Nat.le_of_ble_eq_true rfl) (fun p e s m below meth c A ls hx hb hr hml hown hlk hnm hg hP hK hD hE hA hS hl => ?_)
  have hl : lv_has ls 2 [(0, .ref (z 0)), (1, .int a1)] := hl
  refine lv_aload_n hx hb dX10_fault_0 rfl (lv_at hl 0 rfl) ?_
  refine lv_iconst (v := 0) hx hb dX10_fault_1 (by decide) ?_
  refine va_put (ci := 10) (v := .int 0) (ty := .int) (C := RX10) (T := TX10) (N := 40) hx hb hg inX10 tyX10 tyX10_ok nmX10 hown hK hP hD hS 0 rfl rfl 0 (by decide) (hg _ q_5_224) (fun _ h9 => h9) rfl (by decide +kernel) rfl rfl (Nat.le_of_ble_eq_true rfl) dX10_fault_2 (fun H locs hP hD hS => ?_)
  have hP : va_P V.1 vwCl [(z 0, .inr (10, mo z 0 pz0_5 pz0_6 pz0_7 pz0_8 pz0_9 pz0_10 pz0_11 pz0_12 pz0_13 pz0_14 pz0_18 pz0_19 pz0_22 pz0_23 pz0_29))] H := hP
  have hD : va_D A [(z 0, .inr (10, mo z 0 pz0_5 pz0_6 pz0_7 pz0_8 pz0_9 pz0_10 pz0_11 pz0_12 pz0_13 pz0_14 pz0_18 pz0_19 pz0_22 pz0_23 pz0_29))] := hD
  refine lv_iload_n hx hb dX10_fault_5 rfl (lv_at hl 1 rfl) ?_
  refine lv_if_ne (tgt := 16) hx hb dX10_fault_6 (by decide) (fun c_1 => ?_) (fun c_1 => ?_)
  · refine lv_iload_n hx hb dX10_fault_16 rfl (lv_at hl 1 rfl) ?_
    refine lv_iconst (v := 1) hx hb dX10_fault_17 (by decide) ?_
    refine lv_icmp_ne (tgt := 28) hx hb dX10_fault_18 (by decide) (fun c_2 => ?_) (fun c_2 => ?_)
    · refine lv_iconst (v := (-1)) hx hb dX10_fault_28 (by decide) ?_
      exact fiI hx hb hr hlk hK hP hD hS dX10_fault_29 (Nat.le_of_ble_eq_true rfl) (Nat.le_of_ble_eq_true rfl) (⟨0, (iv_c ((-1) : Int32) (by decide)), rfl⟩)
    · have b_3 : iv 1 1 a1 := iv_q c_2 (iv_c (1 : Int32) (a := 1) (b := 1) (by decide))
      refine lv_aload_n hx hb dX10_fault_21 rfl (lv_at hl 0 rfl) ?_
      refine va_get (ci := 10) (v := .int pz0_14) (C := RX10) (T := TX10) (N := 40) hx hb hg inX10 hown hK hP 0 rfl rfl 14 (by decide) (hg _ q_5_238) (fun _ h9 => h9) rfl dX10_fault_22 ?_
      refine lv_goto (tgt := 29) hx hb dX10_fault_25 (by decide) ?_
      exact fiI hx hb hr hlk hK hP hD hS dX10_fault_29 (Nat.le_of_ble_eq_true rfl) (Nat.le_of_ble_eq_true rfl) (⟨0, bpz0_14, rfl⟩)
  · have b_4 : iv 0 0 a1 := iv_q c_1 (iv_c (0 : Int32) (a := 0) (b := 0) (by decide))
    refine lv_aload_n hx hb dX10_fault_9 rfl (lv_at hl 0 rfl) ?_
    refine va_get (ci := 10) (v := .int pz0_13) (C := RX10) (T := TX10) (N := 40) hx hb hg inX10 hown hK hP 0 rfl rfl 13 (by decide) (hg _ q_5_237) (fun _ h9 => h9) rfl dX10_fault_10 ?_
    refine lv_goto (tgt := 29) hx hb dX10_fault_13 (by decide) ?_
    exact fiI hx hb hr hlk hK hP hD hS dX10_fault_29 (Nat.le_of_ble_eq_true rfl) (Nat.le_of_ble_eq_true rfl) (⟨0, (iv_w bpz0_13 (by decide)), rfl⟩)
theorem dX10_isHill_0 : decode cX10_isHill 0 = .ok (.lload_n 1, 1) := by decide +kernel
theorem dX10_isHill_1 : decode cX10_isHill 1 = .ok (.lconst 0, 1) := by decide +kernel
theorem dX10_isHill_2 : decode cX10_isHill 2 = .ok (.aload_n 0, 1) := by decide +kernel
theorem dX10_isHill_3 : decode cX10_isHill 3 = .ok (.getfield 13, 3) := by decide +kernel
theorem dX10_isHill_6 : decode cX10_isHill 6 = .ok (.iconst 1, 1) := by decide +kernel
theorem dX10_isHill_7 : decode cX10_isHill 7 = .ok (.iaload, 1) := by decide +kernel
theorem dX10_isHill_8 : decode cX10_isHill 8 = .ok (.iconst 1, 1) := by decide +kernel
theorem dX10_isHill_9 : decode cX10_isHill 9 = .ok (.isub, 1) := by decide +kernel
theorem dX10_isHill_10 : decode cX10_isHill 10 = .ok (.i2l, 1) := by decide +kernel
theorem dX10_isHill_11 : decode cX10_isHill 11 = .ok (.invokestatic 159, 3) := by decide +kernel
theorem dX10_isHill_14 : decode cX10_isHill 14 = .ok (.ireturn, 1) := by decide +kernel
set_option maxHeartbeats 4000000 in
set_option maxRecDepth 100000 in
theorem k_X10_isHill_0 (l : Launch) (V : GV) (z : Nat → Nat) (k1 : Int64) (pz0_0 : Int32) (pz0_5 : Int32) (pz0_6 : Int32) (pz0_7 : Int32) (pz0_8 : Int32) (pz0_9 : Int32) (pz0_10 : Int32) (pz0_11 : Int32) (pz0_12 : Int32) (pz0_13 : Int32) (pz0_14 : Int32) (pz0_18 : Int32) (pz0_19 : Int32) (pz0_22 : Int32) (pz0_23 : Int32) (pz0_29 : Int32) (fz1 : Nat → Int32) (bpz0_5 : iv 0 900 pz0_5) (bpz0_6 : iv 0 900 pz0_6) (bpz0_7 : iv 0 900 pz0_7) (bpz0_8 : iv 0 900 pz0_8) (bpz0_10 : iv 0 999 pz0_10) (bpz0_11 : iv 0 4 pz0_11) (bpz0_12 : iv 0 900 pz0_12) (bpz0_13 : iv 0 4 pz0_13) (bpz0_14 : iv (-1) 900 pz0_14) (bpz0_18 : iv 0 2 pz0_18) (bpz0_22 : iv 0 9999 pz0_22) (bpz0_29 : iv 0 10000 pz0_29) (tfz1 : ivT tA fz1) : Ct l V yX10_isHill (.code yX10_isHill cX10_isHill 3 (some .boolean)) 2 [.ref (z 0), .long k1] [(z 0, .inr (10, mo z pz0_0 pz0_5 pz0_6 pz0_7 pz0_8 pz0_9 pz0_10 pz0_11 pz0_12 pz0_13 pz0_14 pz0_18 pz0_19 pz0_22 pz0_23 pz0_29)), (z 1, aI V 3075 fz1)] 0 0 (QI V (fun (r : Int32) (w : va_W) => iv 0 1 r ∧ (r = 1 → ivL 0 3 k1) ∧ w = [(z 0, .inr (10, mo z pz0_0 pz0_5 pz0_6 pz0_7 pz0_8 pz0_9 pz0_10 pz0_11 pz0_12 pz0_13 pz0_14 pz0_18 pz0_19 pz0_22 pz0_23 pz0_29)), (z 1, aI V 3075 fz1)])) := by
  refine Ct.of (by decide) (Nat.le_of_ble_eq_true rfl) (fun p e s m below meth c A ls hx hb hr hml hown hlk hnm hg hP hK hD hE hA hS hl => ?_)
  have hl : lv_has ls 3 [(0, .ref (z 0)), (1, .long k1)] := hl
  refine lv_lload_n hx hb dX10_isHill_0 rfl (lv_at hl 1 rfl) ?_
  refine lv_lconst (v := 0) hx hb dX10_isHill_1 (by decide) ?_
  refine lv_aload_n hx hb dX10_isHill_2 rfl (lv_at hl 0 rfl) ?_
  refine va_get (ci := 10) (v := .ref (z 1)) (C := RX10) (T := TX10) (N := 40) hx hb hg inX10 hown hK hP 0 rfl rfl 1 (by decide) (hg _ q_5_225) (fun _ h9 => h9) rfl dX10_isHill_3 ?_
  refine lv_iconst (v := 1) hx hb dX10_isHill_6 (by decide) ?_
  refine va_iald hx hb hK hP 1 0 rfl rfl (vin (by decide +kernel)) dX10_isHill_7 ?_
  refine lv_topi (fun x_1 ex_1 => ?_)
  have bx_1 : iv 0 4 x_1 := by rw [ex_1]; exact rdT (a := 1) (n := 1) tfz1 (iv_c (1 : Int32) (a := 1) (b := 1) (by decide)) (by decide) (by decide +kernel)
  refine lv_iconst (v := 1) hx hb dX10_isHill_8 (by decide) ?_
  refine lv_isub hx hb dX10_isHill_9 ?_
  refine lv_topi (fun x_2 ex_2 => ?_)
  have bx_2 : iv (-1) 3 x_2 := by rw [ex_2]; exact iv_sub bx_1 (iv_c (1 : Int32) (a := 1) (b := 1) (by decide)) (by decide)
  refine lv_i2l hx hb dX10_isHill_10 rfl ?_
  refine lv_topl (fun j_3 ej_3 => ?_)
  have bj_3 : ivL (-1) 3 j_3 := by rw [ej_3]; exact ivL_of bx_2
  refine jnI (wr := [(z 0, .inr (10, mo z pz0_0 pz0_5 pz0_6 pz0_7 pz0_8 pz0_9 pz0_10 pz0_11 pz0_12 pz0_13 pz0_14 pz0_18 pz0_19 pz0_22 pz0_23 pz0_29)), (z 1, aI V 3075 fz1)]) (rnS (rest := []) ⟨hx, hb, hml, hown, hg⟩ (k_X10_within_0 l V k1 0 j_3) mt_X10_within q_6_114 ⟨Nat.le_of_ble_eq_true rfl, Nat.le_of_ble_eq_true rfl⟩ hK hP hD hS hA hE [] rfl rfl rfl hl.1 rfl (Nat.le_of_ble_eq_true rfl) dX10_isHill_11 ⟨Nat.le_of_ble_eq_true rfl, Nat.le_of_ble_eq_true rfl⟩) hP hD hS hA [] [0, 1] rfl rfl rfl (by decide) (fun r_4 w H locs hw hP hD hS => ?_)
  obtain ⟨br_4, g_5, g_6, g_7, rfl⟩ := hw
  have hP : va_P V.1 vwCl [(z 0, .inr (10, mo z pz0_0 pz0_5 pz0_6 pz0_7 pz0_8 pz0_9 pz0_10 pz0_11 pz0_12 pz0_13 pz0_14 pz0_18 pz0_19 pz0_22 pz0_23 pz0_29)), (z 1, aI V 3075 fz1)] H := hP
  have hD : va_D A [(z 0, .inr (10, mo z pz0_0 pz0_5 pz0_6 pz0_7 pz0_8 pz0_9 pz0_10 pz0_11 pz0_12 pz0_13 pz0_14 pz0_18 pz0_19 pz0_22 pz0_23 pz0_29)), (z 1, aI V 3075 fz1)] := hD
  have c_8 : r_4 = 0 ∨ r_4 = 1 := by have q9 := br_4; unfold iv at q9; simp only [tI_eq, (by decide : (0 : Int32).toInt = 0), (by decide : (1 : Int32).toInt = 1)]; omega
  rcases c_8 with rfl | rfl
  · exact fiZ rfl hx hb hr hlk hK hP hD hS dX10_isHill_14 (Nat.le_of_ble_eq_true rfl) (Nat.le_of_ble_eq_true rfl) (⟨(iv_c (0 : Int32) (by decide)), (fun q9 => absurd q9 (by decide)), rfl⟩)
  · have c_9 : (0 : Int64) ≤ k1 := (g_6 rfl)
    have b_10 : ivL 0 9223372036854775807 k1 := ivL_e2 c_9 (ivL_c (0 : Int64) (a := 0) (b := 0) (by decide)) (ivL_top k1) (by decide)
    have c_11 : k1 ≤ j_3 := (g_7 rfl)
    have b_12 : ivL 0 3 k1 := ivL_e1 c_11 b_10 bj_3 (by decide)
    have b_13 : ivL 0 3 j_3 := ivL_e2 c_11 b_10 bj_3 (by decide)
    have b_14 : iv 0 3 x_2 := iv_cap (ivL_i ej_3 b_13) bx_2 (by decide)
    exact fiZ rfl hx hb hr hlk hK hP hD hS dX10_isHill_14 (Nat.le_of_ble_eq_true rfl) (Nat.le_of_ble_eq_true rfl) (⟨(iv_c (1 : Int32) (by decide)), (fun _ => b_12), rfl⟩)
theorem dX10_hill_0 : decode cX10_hill 0 = .ok (.aload_n 0, 1) := by decide +kernel
theorem dX10_hill_1 : decode cX10_hill 1 = .ok (.iconst 0, 1) := by decide +kernel
theorem dX10_hill_2 : decode cX10_hill 2 = .ok (.putfield 1, 3) := by decide +kernel
theorem dX10_hill_5 : decode cX10_hill 5 = .ok (.aload_n 0, 1) := by decide +kernel
theorem dX10_hill_6 : decode cX10_hill 6 = .ok (.iload_n 1, 1) := by decide +kernel
theorem dX10_hill_7 : decode cX10_hill 7 = .ok (.i2l, 1) := by decide +kernel
theorem q_6_238 : Cond.code yX10_isHill prog_12_method_36_code 3 (some FieldType.boolean) ∈ gw := gw_6 (i := 238) (rfl) rfl
theorem q_6_237 : Cond.instanceMethod yX10_isHill ∈ gw := gw_6 (i := 237) (by decide +kernel) rfl
theorem q_s_79 : Cond.selects "BeaconDelayModel" yX10_isHill yX10_isHill ∈ gw := gw_s (i := 79) (by decide +kernel) rfl
theorem mt_X10_isHill : MtV yX10_isHill cX10_isHill 3 (some .boolean) 1 := ⟨⟨q_6_238, q_1_9, by decide +kernel, by decide +kernel, by decide +kernel⟩, q_6_237, q_s_79⟩
theorem q_6_235 : Cond.methodLink "BeaconDelayModel" 262 yX10_isHill ∈ gw := gw_6 (i := 235) (by decide +kernel) rfl
theorem dX10_hill_8 : decode cX10_hill 8 = .ok (.invokevirtual 262, 3) := by decide +kernel
theorem dX10_hill_11 : decode cX10_hill 11 = .ok (.ifCond .ne 6, 3) := by decide +kernel
theorem dX10_hill_17 : decode cX10_hill 17 = .ok (.iload_n 2, 1) := by decide +kernel
theorem dX10_hill_18 : decode cX10_hill 18 = .ok (.tableswitch 72 0 3 #[30, 40, 50, 62], 30) := by decide +kernel
theorem dX10_hill_48 : decode cX10_hill 48 = .ok (.aload_n 0, 1) := by decide +kernel
theorem dX10_hill_49 : decode cX10_hill 49 = .ok (.getfield 13, 3) := by decide +kernel
theorem dX10_hill_52 : decode cX10_hill 52 = .ok (.bipush 46, 2) := by decide +kernel
theorem dX10_hill_54 : decode cX10_hill 54 = .ok (.iload_n 1, 1) := by decide +kernel
theorem dX10_hill_55 : decode cX10_hill 55 = .ok (.iadd, 1) := by decide +kernel
theorem dX10_hill_56 : decode cX10_hill 56 = .ok (.iaload, 1) := by decide +kernel
theorem dX10_hill_57 : decode cX10_hill 57 = .ok (.ireturn, 1) := by decide +kernel
theorem dX10_hill_58 : decode cX10_hill 58 = .ok (.aload_n 0, 1) := by decide +kernel
theorem dX10_hill_59 : decode cX10_hill 59 = .ok (.getfield 13, 3) := by decide +kernel
theorem dX10_hill_62 : decode cX10_hill 62 = .ok (.bipush 10, 2) := by decide +kernel
theorem dX10_hill_64 : decode cX10_hill 64 = .ok (.iload_n 1, 1) := by decide +kernel
theorem dX10_hill_65 : decode cX10_hill 65 = .ok (.iadd, 1) := by decide +kernel
theorem dX10_hill_66 : decode cX10_hill 66 = .ok (.iaload, 1) := by decide +kernel
theorem dX10_hill_67 : decode cX10_hill 67 = .ok (.ireturn, 1) := by decide +kernel
theorem dX10_hill_68 : decode cX10_hill 68 = .ok (.aload_n 0, 1) := by decide +kernel
theorem dX10_hill_69 : decode cX10_hill 69 = .ok (.getfield 13, 3) := by decide +kernel
theorem dX10_hill_72 : decode cX10_hill 72 = .ok (.bipush 50, 2) := by decide +kernel
theorem dX10_hill_74 : decode cX10_hill 74 = .ok (.iaload, 1) := by decide +kernel
theorem dX10_hill_75 : decode cX10_hill 75 = .ok (.iload_n 1, 1) := by decide +kernel
theorem dX10_hill_76 : decode cX10_hill 76 = .ok (.ishr, 1) := by decide +kernel
theorem dX10_hill_77 : decode cX10_hill 77 = .ok (.iconst 1, 1) := by decide +kernel
theorem dX10_hill_78 : decode cX10_hill 78 = .ok (.iand, 1) := by decide +kernel
theorem dX10_hill_79 : decode cX10_hill 79 = .ok (.ireturn, 1) := by decide +kernel
theorem dX10_hill_80 : decode cX10_hill 80 = .ok (.aload_n 0, 1) := by decide +kernel
theorem dX10_hill_81 : decode cX10_hill 81 = .ok (.getfield 13, 3) := by decide +kernel
theorem dX10_hill_84 : decode cX10_hill 84 = .ok (.bipush 14, 2) := by decide +kernel
theorem dX10_hill_86 : decode cX10_hill 86 = .ok (.iload_n 1, 1) := by decide +kernel
theorem dX10_hill_87 : decode cX10_hill 87 = .ok (.iadd, 1) := by decide +kernel
theorem dX10_hill_88 : decode cX10_hill 88 = .ok (.iaload, 1) := by decide +kernel
theorem dX10_hill_89 : decode cX10_hill 89 = .ok (.ireturn, 1) := by decide +kernel
theorem dX10_hill_90 : decode cX10_hill 90 = .ok (.bipush (-2), 2) := by decide +kernel
theorem dX10_hill_92 : decode cX10_hill 92 = .ok (.ireturn, 1) := by decide +kernel
theorem dX10_hill_14 : decode cX10_hill 14 = .ok (.bipush (-2), 2) := by decide +kernel
theorem dX10_hill_16 : decode cX10_hill 16 = .ok (.ireturn, 1) := by decide +kernel
set_option maxHeartbeats 4000000 in
set_option maxRecDepth 100000 in
theorem k_X10_hill_0 (l : Launch) (V : GV) (z : Nat → Nat) (a1 : Int32) (a2 : Int32) (pz0_0 : Int32) (pz0_5 : Int32) (pz0_6 : Int32) (pz0_7 : Int32) (pz0_8 : Int32) (pz0_9 : Int32) (pz0_10 : Int32) (pz0_11 : Int32) (pz0_12 : Int32) (pz0_13 : Int32) (pz0_14 : Int32) (pz0_18 : Int32) (pz0_19 : Int32) (pz0_22 : Int32) (pz0_23 : Int32) (pz0_29 : Int32) (fz1 : Nat → Int32) (bpz0_5 : iv 0 900 pz0_5) (bpz0_6 : iv 0 900 pz0_6) (bpz0_7 : iv 0 900 pz0_7) (bpz0_8 : iv 0 900 pz0_8) (bpz0_10 : iv 0 999 pz0_10) (bpz0_11 : iv 0 4 pz0_11) (bpz0_12 : iv 0 900 pz0_12) (bpz0_13 : iv 0 4 pz0_13) (bpz0_14 : iv (-1) 900 pz0_14) (bpz0_18 : iv 0 2 pz0_18) (bpz0_22 : iv 0 9999 pz0_22) (bpz0_29 : iv 0 10000 pz0_29) (tfz1 : ivT tA fz1) : Ct l V yX10_hill (.code yX10_hill cX10_hill 3 (some .int)) 3 [.ref (z 0), .int a1, .int a2] [(z 0, .inr (10, mo z pz0_0 pz0_5 pz0_6 pz0_7 pz0_8 pz0_9 pz0_10 pz0_11 pz0_12 pz0_13 pz0_14 pz0_18 pz0_19 pz0_22 pz0_23 pz0_29)), (z 1, aI V 3075 fz1)] 0 0 (QI V (fun (r : Int32) (w : va_W) => ∃ (v0 : Int32), iv (-2) 9 r ∧ w = [(z 0, .inr (10, mo z v0 pz0_5 pz0_6 pz0_7 pz0_8 pz0_9 pz0_10 pz0_11 pz0_12 pz0_13 pz0_14 pz0_18 pz0_19 pz0_22 pz0_23 pz0_29)), (z 1, aI V 3075 fz1)])) := by
  refine Ct.of (by decide) (Nat.le_of_ble_eq_true rfl) (fun p e s m below meth c A ls hx hb hr hml hown hlk hnm hg hP hK hD hE hA hS hl => ?_)
  have hl : lv_has ls 3 [(0, .ref (z 0)), (1, .int a1), (2, .int a2)] := hl
  refine lv_aload_n hx hb dX10_hill_0 rfl (lv_at hl 0 rfl) ?_
  refine lv_iconst (v := 0) hx hb dX10_hill_1 (by decide) ?_
  refine va_put (ci := 10) (v := .int 0) (ty := .int) (C := RX10) (T := TX10) (N := 40) hx hb hg inX10 tyX10 tyX10_ok nmX10 hown hK hP hD hS 0 rfl rfl 0 (by decide) (hg _ q_5_224) (fun _ h9 => h9) rfl (by decide +kernel) rfl rfl (Nat.le_of_ble_eq_true rfl) dX10_hill_2 (fun H locs hP hD hS => ?_)
  have hP : va_P V.1 vwCl [(z 0, .inr (10, mo z 0 pz0_5 pz0_6 pz0_7 pz0_8 pz0_9 pz0_10 pz0_11 pz0_12 pz0_13 pz0_14 pz0_18 pz0_19 pz0_22 pz0_23 pz0_29)), (z 1, aI V 3075 fz1)] H := hP
  have hD : va_D A [(z 0, .inr (10, mo z 0 pz0_5 pz0_6 pz0_7 pz0_8 pz0_9 pz0_10 pz0_11 pz0_12 pz0_13 pz0_14 pz0_18 pz0_19 pz0_22 pz0_23 pz0_29)), (z 1, aI V 3075 fz1)] := hD
  refine lv_aload_n hx hb dX10_hill_5 rfl (lv_at hl 0 rfl) ?_
  refine lv_iload_n hx hb dX10_hill_6 rfl (lv_at hl 1 rfl) ?_
  refine lv_i2l hx hb dX10_hill_7 rfl ?_
  refine lv_topl (fun j_1 ej_1 => ?_)
  refine jnI (wr := []) (rnV (rest := []) ⟨hx, hb, hml, hown, hg⟩ (k_X10_isHill_0 l V z j_1 0 pz0_5 pz0_6 pz0_7 pz0_8 pz0_9 pz0_10 pz0_11 pz0_12 pz0_13 pz0_14 pz0_18 pz0_19 pz0_22 pz0_23 pz0_29 fz1 bpz0_5 bpz0_6 bpz0_7 bpz0_8 bpz0_10 bpz0_11 bpz0_12 bpz0_13 bpz0_14 bpz0_18 bpz0_22 bpz0_29 tfz1) mt_X10_isHill q_6_235 ⟨Nat.le_of_ble_eq_true rfl, Nat.le_of_ble_eq_true rfl⟩ hK hP hD hS hA hE [0, 1] rfl rfl 0 rfl rfl rfl rfl hl.1 rfl (Nat.le_of_ble_eq_true rfl) dX10_hill_8 ⟨Nat.le_of_ble_eq_true rfl, Nat.le_of_ble_eq_true rfl⟩) hP hD hS hA [0, 1] [] rfl rfl rfl (by decide) (fun r_2 w H locs hw hP hD hS => ?_)
  obtain ⟨br_2, g_3, rfl⟩ := hw
  have hP : va_P V.1 vwCl [(z 0, .inr (10, mo z 0 pz0_5 pz0_6 pz0_7 pz0_8 pz0_9 pz0_10 pz0_11 pz0_12 pz0_13 pz0_14 pz0_18 pz0_19 pz0_22 pz0_23 pz0_29)), (z 1, aI V 3075 fz1)] H := hP
  have hD : va_D A [(z 0, .inr (10, mo z 0 pz0_5 pz0_6 pz0_7 pz0_8 pz0_9 pz0_10 pz0_11 pz0_12 pz0_13 pz0_14 pz0_18 pz0_19 pz0_22 pz0_23 pz0_29)), (z 1, aI V 3075 fz1)] := hD
  refine lv_if_ne (tgt := 17) hx hb dX10_hill_11 (by decide) (fun c_4 => ?_) (fun c_4 => ?_)
  · have b_5 : iv 1 1 r_2 := iv_n0 c_4 br_2 (iv_c (0 : Int32) (a := 0) (b := 0) (by decide)) (by decide)
    have b_6 : ivL 0 3 j_1 := ivL_cap (g_3 (iv_eqp b_5 (iv_c (1 : Int32) (by decide)))) (ivL_top j_1) (by decide)
    have b_7 : iv 0 3 a1 := iv_cap (ivL_i ej_1 b_6) (iv_top a1) (by decide)
    refine lv_iload_n hx hb dX10_hill_17 rfl (lv_at hl 2 rfl) ?_
    by_cases c_8 : a2 = 0
    · refine lv_tableIn (off := 30) (tgt := 48) hx hb dX10_hill_18 (by rw [c_8]; decide) (by rw [c_8]; decide) (by rw [c_8]; rfl) (by decide) ?_
      refine lv_aload_n hx hb dX10_hill_48 rfl (lv_at hl 0 rfl) ?_
      refine va_get (ci := 10) (v := .ref (z 1)) (C := RX10) (T := TX10) (N := 40) hx hb hg inX10 hown hK hP 0 rfl rfl 1 (by decide) (hg _ q_5_225) (fun _ h9 => h9) rfl dX10_hill_49 ?_
      refine lv_bipush (v := 46) hx hb dX10_hill_52 (by decide) ?_
      refine lv_iload_n hx hb dX10_hill_54 rfl (lv_at hl 1 rfl) ?_
      refine lv_iadd hx hb dX10_hill_55 ?_
      refine lv_topi (fun x_9 ex_9 => ?_)
      have bx_9 : iv 46 49 x_9 := by rw [ex_9]; exact iv_add (iv_c (46 : Int32) (a := 46) (b := 46) (by decide)) b_7 (by decide)
      refine va_iald hx hb hK hP 1 0 rfl rfl (iv_in bx_9 (by decide)) dX10_hill_56 ?_
      refine lv_topi (fun x_10 ex_10 => ?_)
      have bx_10 : iv 0 4 x_10 := by rw [ex_10]; exact rdT (a := 46) (n := 4) tfz1 bx_9 (by decide) (by decide +kernel)
      exact fiI hx hb hr hlk hK hP hD hS dX10_hill_57 (Nat.le_of_ble_eq_true rfl) (Nat.le_of_ble_eq_true rfl) (⟨0, (iv_w bx_10 (by decide)), rfl⟩)
    · by_cases c_11 : a2 = 1
      · refine lv_tableIn (off := 40) (tgt := 58) hx hb dX10_hill_18 (by rw [c_11]; decide) (by rw [c_11]; decide) (by rw [c_11]; rfl) (by decide) ?_
        refine lv_aload_n hx hb dX10_hill_58 rfl (lv_at hl 0 rfl) ?_
        refine va_get (ci := 10) (v := .ref (z 1)) (C := RX10) (T := TX10) (N := 40) hx hb hg inX10 hown hK hP 0 rfl rfl 1 (by decide) (hg _ q_5_225) (fun _ h9 => h9) rfl dX10_hill_59 ?_
        refine lv_bipush (v := 10) hx hb dX10_hill_62 (by decide) ?_
        refine lv_iload_n hx hb dX10_hill_64 rfl (lv_at hl 1 rfl) ?_
        refine lv_iadd hx hb dX10_hill_65 ?_
        refine lv_topi (fun x_12 ex_12 => ?_)
        have bx_12 : iv 10 13 x_12 := by rw [ex_12]; exact iv_add (iv_c (10 : Int32) (a := 10) (b := 10) (by decide)) b_7 (by decide)
        refine va_iald hx hb hK hP 1 0 rfl rfl (iv_in bx_12 (by decide)) dX10_hill_66 ?_
        refine lv_topi (fun x_13 ex_13 => ?_)
        have bx_13 : iv 0 9 x_13 := by rw [ex_13]; exact rdT (a := 10) (n := 4) tfz1 bx_12 (by decide) (by decide +kernel)
        exact fiI hx hb hr hlk hK hP hD hS dX10_hill_67 (Nat.le_of_ble_eq_true rfl) (Nat.le_of_ble_eq_true rfl) (⟨0, (iv_w bx_13 (by decide)), rfl⟩)
      · by_cases c_14 : a2 = 2
        · refine lv_tableIn (off := 50) (tgt := 68) hx hb dX10_hill_18 (by rw [c_14]; decide) (by rw [c_14]; decide) (by rw [c_14]; rfl) (by decide) ?_
          refine lv_aload_n hx hb dX10_hill_68 rfl (lv_at hl 0 rfl) ?_
          refine va_get (ci := 10) (v := .ref (z 1)) (C := RX10) (T := TX10) (N := 40) hx hb hg inX10 hown hK hP 0 rfl rfl 1 (by decide) (hg _ q_5_225) (fun _ h9 => h9) rfl dX10_hill_69 ?_
          refine lv_bipush (v := 50) hx hb dX10_hill_72 (by decide) ?_
          refine va_iald hx hb hK hP 1 0 rfl rfl (vin (by decide +kernel)) dX10_hill_74 ?_
          refine lv_topi (fun x_15 ex_15 => ?_)
          have bx_15 : iv 0 15 x_15 := by rw [ex_15]; exact rdT (a := 50) (n := 1) tfz1 (iv_c (50 : Int32) (a := 50) (b := 50) (by decide)) (by decide) (by decide +kernel)
          refine lv_iload_n hx hb dX10_hill_75 rfl (lv_at hl 1 rfl) ?_
          refine lv_ishr hx hb dX10_hill_76 ?_
          refine lv_topi (fun x_16 ex_16 => ?_)
          refine lv_iconst (v := 1) hx hb dX10_hill_77 (by decide) ?_
          refine lv_iand hx hb dX10_hill_78 ?_
          refine lv_topi (fun x_17 ex_17 => ?_)
          have bx_17 : iv 0 1 x_17 := by rw [ex_17]; exact iv_and1 _
          exact fiI hx hb hr hlk hK hP hD hS dX10_hill_79 (Nat.le_of_ble_eq_true rfl) (Nat.le_of_ble_eq_true rfl) (⟨0, (iv_w bx_17 (by decide)), rfl⟩)
        · by_cases c_18 : a2 = 3
          · refine lv_tableIn (off := 62) (tgt := 80) hx hb dX10_hill_18 (by rw [c_18]; decide) (by rw [c_18]; decide) (by rw [c_18]; rfl) (by decide) ?_
            refine lv_aload_n hx hb dX10_hill_80 rfl (lv_at hl 0 rfl) ?_
            refine va_get (ci := 10) (v := .ref (z 1)) (C := RX10) (T := TX10) (N := 40) hx hb hg inX10 hown hK hP 0 rfl rfl 1 (by decide) (hg _ q_5_225) (fun _ h9 => h9) rfl dX10_hill_81 ?_
            refine lv_bipush (v := 14) hx hb dX10_hill_84 (by decide) ?_
            refine lv_iload_n hx hb dX10_hill_86 rfl (lv_at hl 1 rfl) ?_
            refine lv_iadd hx hb dX10_hill_87 ?_
            refine lv_topi (fun x_19 ex_19 => ?_)
            have bx_19 : iv 14 17 x_19 := by rw [ex_19]; exact iv_add (iv_c (14 : Int32) (a := 14) (b := 14) (by decide)) b_7 (by decide)
            refine va_iald hx hb hK hP 1 0 rfl rfl (iv_in bx_19 (by decide)) dX10_hill_88 ?_
            refine lv_topi (fun x_20 ex_20 => ?_)
            have bx_20 : iv 0 9 x_20 := by rw [ex_20]; exact rdT (a := 14) (n := 4) tfz1 bx_19 (by decide) (by decide +kernel)
            exact fiI hx hb hr hlk hK hP hD hS dX10_hill_89 (Nat.le_of_ble_eq_true rfl) (Nat.le_of_ble_eq_true rfl) (⟨0, (iv_w bx_20 (by decide)), rfl⟩)
          · refine lv_tableOut (tgt := 90) hx hb dX10_hill_18 ((Int.lt_or_le a2.toInt 0).elim Or.inl (fun c_21 => Or.inr (by simp only [tI_eq, (by decide : (0 : Int32).toInt = 0), (by decide : (1 : Int32).toInt = 1), (by decide : (2 : Int32).toInt = 2), (by decide : (3 : Int32).toInt = 3)] at c_8 c_11 c_14 c_18; omega))) (by decide) ?_
            refine lv_bipush (v := (-2)) hx hb dX10_hill_90 (by decide) ?_
            exact fiI hx hb hr hlk hK hP hD hS dX10_hill_92 (Nat.le_of_ble_eq_true rfl) (Nat.le_of_ble_eq_true rfl) (⟨0, (iv_c ((-2) : Int32) (by decide)), rfl⟩)
  · have b_22 : iv 0 0 r_2 := iv_q c_4 (iv_c (0 : Int32) (a := 0) (b := 0) (by decide))
    refine lv_bipush (v := (-2)) hx hb dX10_hill_14 (by decide) ?_
    exact fiI hx hb hr hlk hK hP hD hS dX10_hill_16 (Nat.le_of_ble_eq_true rfl) (Nat.le_of_ble_eq_true rfl) (⟨0, (iv_c ((-2) : Int32) (by decide)), rfl⟩)
theorem dX10_village_0 : decode cX10_village 0 = .ok (.aload_n 0, 1) := by decide +kernel
theorem dX10_village_1 : decode cX10_village 1 = .ok (.iconst 0, 1) := by decide +kernel
theorem dX10_village_2 : decode cX10_village 2 = .ok (.putfield 1, 3) := by decide +kernel
theorem dX10_village_5 : decode cX10_village 5 = .ok (.iload_n 1, 1) := by decide +kernel
theorem dX10_village_6 : decode cX10_village 6 = .ok (.i2l, 1) := by decide +kernel
theorem dX10_village_7 : decode cX10_village 7 = .ok (.lconst 0, 1) := by decide +kernel
theorem dX10_village_8 : decode cX10_village 8 = .ok (.aload_n 0, 1) := by decide +kernel
theorem dX10_village_9 : decode cX10_village 9 = .ok (.getfield 13, 3) := by decide +kernel
theorem dX10_village_12 : decode cX10_village 12 = .ok (.iconst 2, 1) := by decide +kernel
theorem dX10_village_13 : decode cX10_village 13 = .ok (.iaload, 1) := by decide +kernel
theorem dX10_village_14 : decode cX10_village 14 = .ok (.iconst 1, 1) := by decide +kernel
theorem dX10_village_15 : decode cX10_village 15 = .ok (.isub, 1) := by decide +kernel
theorem dX10_village_16 : decode cX10_village 16 = .ok (.i2l, 1) := by decide +kernel
theorem dX10_village_17 : decode cX10_village 17 = .ok (.invokestatic 159, 3) := by decide +kernel
theorem dX10_village_20 : decode cX10_village 20 = .ok (.ifCond .eq 15, 3) := by decide +kernel
theorem dX10_village_35 : decode cX10_village 35 = .ok (.bipush (-2), 2) := by decide +kernel
theorem dX10_village_37 : decode cX10_village 37 = .ok (.ireturn, 1) := by decide +kernel
theorem dX10_village_23 : decode cX10_village 23 = .ok (.aload_n 0, 1) := by decide +kernel
theorem dX10_village_24 : decode cX10_village 24 = .ok (.getfield 13, 3) := by decide +kernel
theorem dX10_village_27 : decode cX10_village 27 = .ok (.bipush 18, 2) := by decide +kernel
theorem dX10_village_29 : decode cX10_village 29 = .ok (.iload_n 1, 1) := by decide +kernel
theorem dX10_village_30 : decode cX10_village 30 = .ok (.iadd, 1) := by decide +kernel
theorem dX10_village_31 : decode cX10_village 31 = .ok (.iaload, 1) := by decide +kernel
theorem dX10_village_32 : decode cX10_village 32 = .ok (.goto 5, 3) := by decide +kernel
set_option maxHeartbeats 4000000 in
set_option maxRecDepth 100000 in
theorem k_X10_village_0 (l : Launch) (V : GV) (z : Nat → Nat) (a1 : Int32) (pz0_0 : Int32) (pz0_5 : Int32) (pz0_6 : Int32) (pz0_7 : Int32) (pz0_8 : Int32) (pz0_9 : Int32) (pz0_10 : Int32) (pz0_11 : Int32) (pz0_12 : Int32) (pz0_13 : Int32) (pz0_14 : Int32) (pz0_18 : Int32) (pz0_19 : Int32) (pz0_22 : Int32) (pz0_23 : Int32) (pz0_29 : Int32) (fz1 : Nat → Int32) (bpz0_5 : iv 0 900 pz0_5) (bpz0_6 : iv 0 900 pz0_6) (bpz0_7 : iv 0 900 pz0_7) (bpz0_8 : iv 0 900 pz0_8) (bpz0_10 : iv 0 999 pz0_10) (bpz0_11 : iv 0 4 pz0_11) (bpz0_12 : iv 0 900 pz0_12) (bpz0_13 : iv 0 4 pz0_13) (bpz0_14 : iv (-1) 900 pz0_14) (bpz0_18 : iv 0 2 pz0_18) (bpz0_22 : iv 0 9999 pz0_22) (bpz0_29 : iv 0 10000 pz0_29) (tfz1 : ivT tA fz1) : Ct l V yX10_village (.code yX10_village cX10_village 2 (some .int)) 2 [.ref (z 0), .int a1] [(z 0, .inr (10, mo z pz0_0 pz0_5 pz0_6 pz0_7 pz0_8 pz0_9 pz0_10 pz0_11 pz0_12 pz0_13 pz0_14 pz0_18 pz0_19 pz0_22 pz0_23 pz0_29)), (z 1, aI V 3075 fz1)] 0 0 (QI V (fun (r : Int32) (w : va_W) => ∃ (v0 : Int32), iv (-2) 9 r ∧ w = [(z 0, .inr (10, mo z v0 pz0_5 pz0_6 pz0_7 pz0_8 pz0_9 pz0_10 pz0_11 pz0_12 pz0_13 pz0_14 pz0_18 pz0_19 pz0_22 pz0_23 pz0_29)), (z 1, aI V 3075 fz1)])) := by
  refine Ct.of (by decide) (Nat.le_of_ble_eq_true rfl) (fun p e s m below meth c A ls hx hb hr hml hown hlk hnm hg hP hK hD hE hA hS hl => ?_)
  have hl : lv_has ls 2 [(0, .ref (z 0)), (1, .int a1)] := hl
  refine lv_aload_n hx hb dX10_village_0 rfl (lv_at hl 0 rfl) ?_
  refine lv_iconst (v := 0) hx hb dX10_village_1 (by decide) ?_
  refine va_put (ci := 10) (v := .int 0) (ty := .int) (C := RX10) (T := TX10) (N := 40) hx hb hg inX10 tyX10 tyX10_ok nmX10 hown hK hP hD hS 0 rfl rfl 0 (by decide) (hg _ q_5_224) (fun _ h9 => h9) rfl (by decide +kernel) rfl rfl (Nat.le_of_ble_eq_true rfl) dX10_village_2 (fun H locs hP hD hS => ?_)
  have hP : va_P V.1 vwCl [(z 0, .inr (10, mo z 0 pz0_5 pz0_6 pz0_7 pz0_8 pz0_9 pz0_10 pz0_11 pz0_12 pz0_13 pz0_14 pz0_18 pz0_19 pz0_22 pz0_23 pz0_29)), (z 1, aI V 3075 fz1)] H := hP
  have hD : va_D A [(z 0, .inr (10, mo z 0 pz0_5 pz0_6 pz0_7 pz0_8 pz0_9 pz0_10 pz0_11 pz0_12 pz0_13 pz0_14 pz0_18 pz0_19 pz0_22 pz0_23 pz0_29)), (z 1, aI V 3075 fz1)] := hD
  refine lv_iload_n hx hb dX10_village_5 rfl (lv_at hl 1 rfl) ?_
  refine lv_i2l hx hb dX10_village_6 rfl ?_
  refine lv_topl (fun j_1 ej_1 => ?_)
  refine lv_lconst (v := 0) hx hb dX10_village_7 (by decide) ?_
  refine lv_aload_n hx hb dX10_village_8 rfl (lv_at hl 0 rfl) ?_
  refine va_get (ci := 10) (v := .ref (z 1)) (C := RX10) (T := TX10) (N := 40) hx hb hg inX10 hown hK hP 0 rfl rfl 1 (by decide) (hg _ q_5_225) (fun _ h9 => h9) rfl dX10_village_9 ?_
  refine lv_iconst (v := 2) hx hb dX10_village_12 (by decide) ?_
  refine va_iald hx hb hK hP 1 0 rfl rfl (vin (by decide +kernel)) dX10_village_13 ?_
  refine lv_topi (fun x_2 ex_2 => ?_)
  have bx_2 : iv 0 4 x_2 := by rw [ex_2]; exact rdT (a := 2) (n := 1) tfz1 (iv_c (2 : Int32) (a := 2) (b := 2) (by decide)) (by decide) (by decide +kernel)
  refine lv_iconst (v := 1) hx hb dX10_village_14 (by decide) ?_
  refine lv_isub hx hb dX10_village_15 ?_
  refine lv_topi (fun x_3 ex_3 => ?_)
  have bx_3 : iv (-1) 3 x_3 := by rw [ex_3]; exact iv_sub bx_2 (iv_c (1 : Int32) (a := 1) (b := 1) (by decide)) (by decide)
  refine lv_i2l hx hb dX10_village_16 rfl ?_
  refine lv_topl (fun j_4 ej_4 => ?_)
  have bj_4 : ivL (-1) 3 j_4 := by rw [ej_4]; exact ivL_of bx_3
  refine jnI (wr := [(z 0, .inr (10, mo z 0 pz0_5 pz0_6 pz0_7 pz0_8 pz0_9 pz0_10 pz0_11 pz0_12 pz0_13 pz0_14 pz0_18 pz0_19 pz0_22 pz0_23 pz0_29)), (z 1, aI V 3075 fz1)]) (rnS (rest := []) ⟨hx, hb, hml, hown, hg⟩ (k_X10_within_0 l V j_1 0 j_4) mt_X10_within q_6_114 ⟨Nat.le_of_ble_eq_true rfl, Nat.le_of_ble_eq_true rfl⟩ hK hP hD hS hA hE [] rfl rfl rfl hl.1 rfl (Nat.le_of_ble_eq_true rfl) dX10_village_17 ⟨Nat.le_of_ble_eq_true rfl, Nat.le_of_ble_eq_true rfl⟩) hP hD hS hA [] [0, 1] rfl rfl rfl (by decide) (fun r_5 w H locs hw hP hD hS => ?_)
  obtain ⟨br_5, g_6, g_7, g_8, rfl⟩ := hw
  have hP : va_P V.1 vwCl [(z 0, .inr (10, mo z 0 pz0_5 pz0_6 pz0_7 pz0_8 pz0_9 pz0_10 pz0_11 pz0_12 pz0_13 pz0_14 pz0_18 pz0_19 pz0_22 pz0_23 pz0_29)), (z 1, aI V 3075 fz1)] H := hP
  have hD : va_D A [(z 0, .inr (10, mo z 0 pz0_5 pz0_6 pz0_7 pz0_8 pz0_9 pz0_10 pz0_11 pz0_12 pz0_13 pz0_14 pz0_18 pz0_19 pz0_22 pz0_23 pz0_29)), (z 1, aI V 3075 fz1)] := hD
  refine lv_if_eq (tgt := 35) hx hb dX10_village_20 (by decide) (fun c_9 => ?_) (fun c_9 => ?_)
  · have b_10 : iv 0 0 r_5 := iv_q c_9 (iv_c (0 : Int32) (a := 0) (b := 0) (by decide))
    refine lv_bipush (v := (-2)) hx hb dX10_village_35 (by decide) ?_
    exact fiI hx hb hr hlk hK hP hD hS dX10_village_37 (Nat.le_of_ble_eq_true rfl) (Nat.le_of_ble_eq_true rfl) (⟨0, (iv_c ((-2) : Int32) (by decide)), rfl⟩)
  · have b_11 : iv 1 1 r_5 := iv_n0 c_9 br_5 (iv_c (0 : Int32) (a := 0) (b := 0) (by decide)) (by decide)
    have c_12 : (0 : Int64) ≤ j_1 := (g_7 (iv_eqp b_11 (iv_c (1 : Int32) (by decide))))
    have b_13 : ivL 0 9223372036854775807 j_1 := ivL_e2 c_12 (ivL_c (0 : Int64) (a := 0) (b := 0) (by decide)) (ivL_top j_1) (by decide)
    have b_14 : iv 0 2147483647 a1 := iv_cap (ivL_i ej_1 b_13) (iv_top a1) (by decide)
    have c_15 : j_1 ≤ j_4 := (g_8 (iv_eqp b_11 (iv_c (1 : Int32) (by decide))))
    have b_16 : ivL 0 3 j_1 := ivL_e1 c_15 b_13 bj_4 (by decide)
    have b_17 : iv 0 3 a1 := iv_cap (ivL_i ej_1 b_16) b_14 (by decide)
    have b_18 : ivL 0 3 j_4 := ivL_e2 c_15 b_13 bj_4 (by decide)
    have b_19 : iv 0 3 x_3 := iv_cap (ivL_i ej_4 b_18) bx_3 (by decide)
    refine lv_aload_n hx hb dX10_village_23 rfl (lv_at hl 0 rfl) ?_
    refine va_get (ci := 10) (v := .ref (z 1)) (C := RX10) (T := TX10) (N := 40) hx hb hg inX10 hown hK hP 0 rfl rfl 1 (by decide) (hg _ q_5_225) (fun _ h9 => h9) rfl dX10_village_24 ?_
    refine lv_bipush (v := 18) hx hb dX10_village_27 (by decide) ?_
    refine lv_iload_n hx hb dX10_village_29 rfl (lv_at hl 1 rfl) ?_
    refine lv_iadd hx hb dX10_village_30 ?_
    refine lv_topi (fun x_20 ex_20 => ?_)
    have bx_20 : iv 18 21 x_20 := by rw [ex_20]; exact iv_add (iv_c (18 : Int32) (a := 18) (b := 18) (by decide)) b_17 (by decide)
    refine va_iald hx hb hK hP 1 0 rfl rfl (iv_in bx_20 (by decide)) dX10_village_31 ?_
    refine lv_topi (fun x_21 ex_21 => ?_)
    have bx_21 : iv 0 9 x_21 := by rw [ex_21]; exact rdT (a := 18) (n := 4) tfz1 bx_20 (by decide) (by decide +kernel)
    refine lv_goto (tgt := 37) hx hb dX10_village_32 (by decide) ?_
    exact fiI hx hb hr hlk hK hP hD hS dX10_village_37 (Nat.le_of_ble_eq_true rfl) (Nat.le_of_ble_eq_true rfl) (⟨0, (iv_w bx_21 (by decide)), rfl⟩)
theorem dX10_isNight_0 : decode cX10_isNight 0 = .ok (.lload_n 1, 1) := by decide +kernel
theorem dX10_isNight_1 : decode cX10_isNight 1 = .ok (.lconst 0, 1) := by decide +kernel
theorem dX10_isNight_2 : decode cX10_isNight 2 = .ok (.lcmp, 1) := by decide +kernel
theorem dX10_isNight_3 : decode cX10_isNight 3 = .ok (.ifCond .eq 20, 3) := by decide +kernel
theorem dX10_isNight_23 : decode cX10_isNight 23 = .ok (.iconst 1, 1) := by decide +kernel
theorem dX10_isNight_24 : decode cX10_isNight 24 = .ok (.goto 4, 3) := by decide +kernel
theorem dX10_isNight_28 : decode cX10_isNight 28 = .ok (.ireturn, 1) := by decide +kernel
theorem dX10_isNight_6 : decode cX10_isNight 6 = .ok (.lload_n 1, 1) := by decide +kernel
theorem dX10_isNight_7 : decode cX10_isNight 7 = .ok (.lconst 1, 1) := by decide +kernel
theorem dX10_isNight_8 : decode cX10_isNight 8 = .ok (.aload_n 0, 1) := by decide +kernel
theorem dX10_isNight_9 : decode cX10_isNight 9 = .ok (.getfield 13, 3) := by decide +kernel
theorem dX10_isNight_12 : decode cX10_isNight 12 = .ok (.iconst 1, 1) := by decide +kernel
theorem dX10_isNight_13 : decode cX10_isNight 13 = .ok (.iaload, 1) := by decide +kernel
theorem dX10_isNight_14 : decode cX10_isNight 14 = .ok (.iconst 1, 1) := by decide +kernel
theorem dX10_isNight_15 : decode cX10_isNight 15 = .ok (.isub, 1) := by decide +kernel
theorem dX10_isNight_16 : decode cX10_isNight 16 = .ok (.i2l, 1) := by decide +kernel
theorem dX10_isNight_17 : decode cX10_isNight 17 = .ok (.invokestatic 159, 3) := by decide +kernel
theorem dX10_isNight_20 : decode cX10_isNight 20 = .ok (.ifCond .eq 7, 3) := by decide +kernel
theorem dX10_isNight_27 : decode cX10_isNight 27 = .ok (.iconst 0, 1) := by decide +kernel
set_option maxHeartbeats 4000000 in
set_option maxRecDepth 100000 in
theorem k_X10_isNight_0 (l : Launch) (V : GV) (z : Nat → Nat) (k1 : Int64) (pz0_0 : Int32) (pz0_5 : Int32) (pz0_6 : Int32) (pz0_7 : Int32) (pz0_8 : Int32) (pz0_9 : Int32) (pz0_10 : Int32) (pz0_11 : Int32) (pz0_12 : Int32) (pz0_13 : Int32) (pz0_14 : Int32) (pz0_18 : Int32) (pz0_19 : Int32) (pz0_22 : Int32) (pz0_23 : Int32) (pz0_29 : Int32) (fz1 : Nat → Int32) (bpz0_5 : iv 0 900 pz0_5) (bpz0_6 : iv 0 900 pz0_6) (bpz0_7 : iv 0 900 pz0_7) (bpz0_8 : iv 0 900 pz0_8) (bpz0_10 : iv 0 999 pz0_10) (bpz0_11 : iv 0 4 pz0_11) (bpz0_12 : iv 0 900 pz0_12) (bpz0_13 : iv 0 4 pz0_13) (bpz0_14 : iv (-1) 900 pz0_14) (bpz0_18 : iv 0 2 pz0_18) (bpz0_22 : iv 0 9999 pz0_22) (bpz0_29 : iv 0 10000 pz0_29) (tfz1 : ivT tA fz1) : Ct l V yX10_isNight (.code yX10_isNight cX10_isNight 3 (some .boolean)) 2 [.ref (z 0), .long k1] [(z 0, .inr (10, mo z pz0_0 pz0_5 pz0_6 pz0_7 pz0_8 pz0_9 pz0_10 pz0_11 pz0_12 pz0_13 pz0_14 pz0_18 pz0_19 pz0_22 pz0_23 pz0_29)), (z 1, aI V 3075 fz1)] 0 0 (QI V (fun (r : Int32) (w : va_W) => iv 0 1 r ∧ (r = 1 → ivL 0 3 k1) ∧ w = [(z 0, .inr (10, mo z pz0_0 pz0_5 pz0_6 pz0_7 pz0_8 pz0_9 pz0_10 pz0_11 pz0_12 pz0_13 pz0_14 pz0_18 pz0_19 pz0_22 pz0_23 pz0_29)), (z 1, aI V 3075 fz1)])) := by
  refine Ct.of (by decide) (Nat.le_of_ble_eq_true rfl) (fun p e s m below meth c A ls hx hb hr hml hown hlk hnm hg hP hK hD hE hA hS hl => ?_)
  have hl : lv_has ls 3 [(0, .ref (z 0)), (1, .long k1)] := hl
  refine lv_lload_n hx hb dX10_isNight_0 rfl (lv_at hl 1 rfl) ?_
  refine lv_lconst (v := 0) hx hb dX10_isNight_1 (by decide) ?_
  refine W.lcmp hx hb dX10_isNight_2 ?_
  refine lv_if_eq (tgt := 23) hx hb dX10_isNight_3 (by decide) (fun c_1 => ?_) (fun c_1 => ?_)
  · replace c_1 : k1 = (0 : Int64) := (lg_cmp_eq _ _).mp c_1
    have b_2 : ivL 0 0 k1 := ivL_q c_1 (ivL_c (0 : Int64) (a := 0) (b := 0) (by decide))
    refine lv_iconst (v := 1) hx hb dX10_isNight_23 (by decide) ?_
    refine lv_goto (tgt := 28) hx hb dX10_isNight_24 (by decide) ?_
    exact fiZ rfl hx hb hr hlk hK hP hD hS dX10_isNight_28 (Nat.le_of_ble_eq_true rfl) (Nat.le_of_ble_eq_true rfl) (⟨(iv_c (1 : Int32) (by decide)), (fun _ => (ivL_w b_2 (by decide))), rfl⟩)
  · replace c_1 : ¬ k1 = (0 : Int64) := fun z => c_1 ((lg_cmp_eq _ _).mpr z)
    refine lv_lload_n hx hb dX10_isNight_6 rfl (lv_at hl 1 rfl) ?_
    refine lv_lconst (v := 1) hx hb dX10_isNight_7 (by decide) ?_
    refine lv_aload_n hx hb dX10_isNight_8 rfl (lv_at hl 0 rfl) ?_
    refine va_get (ci := 10) (v := .ref (z 1)) (C := RX10) (T := TX10) (N := 40) hx hb hg inX10 hown hK hP 0 rfl rfl 1 (by decide) (hg _ q_5_225) (fun _ h9 => h9) rfl dX10_isNight_9 ?_
    refine lv_iconst (v := 1) hx hb dX10_isNight_12 (by decide) ?_
    refine va_iald hx hb hK hP 1 0 rfl rfl (vin (by decide +kernel)) dX10_isNight_13 ?_
    refine lv_topi (fun x_3 ex_3 => ?_)
    have bx_3 : iv 0 4 x_3 := by rw [ex_3]; exact rdT (a := 1) (n := 1) tfz1 (iv_c (1 : Int32) (a := 1) (b := 1) (by decide)) (by decide) (by decide +kernel)
    refine lv_iconst (v := 1) hx hb dX10_isNight_14 (by decide) ?_
    refine lv_isub hx hb dX10_isNight_15 ?_
    refine lv_topi (fun x_4 ex_4 => ?_)
    have bx_4 : iv (-1) 3 x_4 := by rw [ex_4]; exact iv_sub bx_3 (iv_c (1 : Int32) (a := 1) (b := 1) (by decide)) (by decide)
    refine lv_i2l hx hb dX10_isNight_16 rfl ?_
    refine lv_topl (fun j_5 ej_5 => ?_)
    have bj_5 : ivL (-1) 3 j_5 := by rw [ej_5]; exact ivL_of bx_4
    refine jnI (wr := [(z 0, .inr (10, mo z pz0_0 pz0_5 pz0_6 pz0_7 pz0_8 pz0_9 pz0_10 pz0_11 pz0_12 pz0_13 pz0_14 pz0_18 pz0_19 pz0_22 pz0_23 pz0_29)), (z 1, aI V 3075 fz1)]) (rnS (rest := []) ⟨hx, hb, hml, hown, hg⟩ (k_X10_within_0 l V k1 1 j_5) mt_X10_within q_6_114 ⟨Nat.le_of_ble_eq_true rfl, Nat.le_of_ble_eq_true rfl⟩ hK hP hD hS hA hE [] rfl rfl rfl hl.1 rfl (Nat.le_of_ble_eq_true rfl) dX10_isNight_17 ⟨Nat.le_of_ble_eq_true rfl, Nat.le_of_ble_eq_true rfl⟩) hP hD hS hA [] [0, 1] rfl rfl rfl (by decide) (fun r_6 w H locs hw hP hD hS => ?_)
    obtain ⟨br_6, g_7, g_8, g_9, rfl⟩ := hw
    have hP : va_P V.1 vwCl [(z 0, .inr (10, mo z pz0_0 pz0_5 pz0_6 pz0_7 pz0_8 pz0_9 pz0_10 pz0_11 pz0_12 pz0_13 pz0_14 pz0_18 pz0_19 pz0_22 pz0_23 pz0_29)), (z 1, aI V 3075 fz1)] H := hP
    have hD : va_D A [(z 0, .inr (10, mo z pz0_0 pz0_5 pz0_6 pz0_7 pz0_8 pz0_9 pz0_10 pz0_11 pz0_12 pz0_13 pz0_14 pz0_18 pz0_19 pz0_22 pz0_23 pz0_29)), (z 1, aI V 3075 fz1)] := hD
    refine lv_if_eq (tgt := 27) hx hb dX10_isNight_20 (by decide) (fun c_10 => ?_) (fun c_10 => ?_)
    · have b_11 : iv 0 0 r_6 := iv_q c_10 (iv_c (0 : Int32) (a := 0) (b := 0) (by decide))
      refine lv_iconst (v := 0) hx hb dX10_isNight_27 (by decide) ?_
      exact fiZ rfl hx hb hr hlk hK hP hD hS dX10_isNight_28 (Nat.le_of_ble_eq_true rfl) (Nat.le_of_ble_eq_true rfl) (⟨(iv_c (0 : Int32) (by decide)), (fun q9 => absurd q9 (by decide)), rfl⟩)
    · have b_12 : iv 1 1 r_6 := iv_n0 c_10 br_6 (iv_c (0 : Int32) (a := 0) (b := 0) (by decide)) (by decide)
      have c_13 : (1 : Int64) ≤ k1 := (g_8 (iv_eqp b_12 (iv_c (1 : Int32) (by decide))))
      have b_14 : ivL 1 9223372036854775807 k1 := ivL_e2 c_13 (ivL_c (1 : Int64) (a := 1) (b := 1) (by decide)) (ivL_top k1) (by decide)
      have c_15 : k1 ≤ j_5 := (g_9 (iv_eqp b_12 (iv_c (1 : Int32) (by decide))))
      have b_16 : ivL 1 3 k1 := ivL_e1 c_15 b_14 bj_5 (by decide)
      have b_17 : ivL 1 3 j_5 := ivL_e2 c_15 b_14 bj_5 (by decide)
      have b_18 : iv 1 3 x_4 := iv_cap (ivL_i ej_5 b_17) bx_4 (by decide)
      refine lv_iconst (v := 1) hx hb dX10_isNight_23 (by decide) ?_
      refine lv_goto (tgt := 28) hx hb dX10_isNight_24 (by decide) ?_
      exact fiZ rfl hx hb hr hlk hK hP hD hS dX10_isNight_28 (Nat.le_of_ble_eq_true rfl) (Nat.le_of_ble_eq_true rfl) (⟨(iv_c (1 : Int32) (by decide)), (fun _ => (ivL_w b_16 (by decide))), rfl⟩)
theorem dX10_digitOf_0 : decode cX10_digitOf 0 = .ok (.iload_n 0, 1) := by decide +kernel
theorem dX10_digitOf_1 : decode cX10_digitOf 1 = .ok (.ifCond .ne 7, 3) := by decide +kernel
theorem dX10_digitOf_8 : decode cX10_digitOf 8 = .ok (.iload_n 0, 1) := by decide +kernel
theorem dX10_digitOf_9 : decode cX10_digitOf 9 = .ok (.iconst 1, 1) := by decide +kernel
theorem dX10_digitOf_10 : decode cX10_digitOf 10 = .ok (.if_icmp .ne 7, 3) := by decide +kernel
theorem dX10_digitOf_17 : decode cX10_digitOf 17 = .ok (.iload_n 0, 1) := by decide +kernel
theorem dX10_digitOf_18 : decode cX10_digitOf 18 = .ok (.iconst 2, 1) := by decide +kernel
theorem dX10_digitOf_19 : decode cX10_digitOf 19 = .ok (.if_icmp .ne 8, 3) := by decide +kernel
theorem dX10_digitOf_27 : decode cX10_digitOf 27 = .ok (.bipush 125, 2) := by decide +kernel
theorem dX10_digitOf_29 : decode cX10_digitOf 29 = .ok (.ireturn, 1) := by decide +kernel
theorem dX10_digitOf_22 : decode cX10_digitOf 22 = .ok (.bipush 25, 2) := by decide +kernel
theorem dX10_digitOf_24 : decode cX10_digitOf 24 = .ok (.goto 5, 3) := by decide +kernel
theorem dX10_digitOf_13 : decode cX10_digitOf 13 = .ok (.iconst 5, 1) := by decide +kernel
theorem dX10_digitOf_14 : decode cX10_digitOf 14 = .ok (.goto 15, 3) := by decide +kernel
theorem dX10_digitOf_4 : decode cX10_digitOf 4 = .ok (.iconst 1, 1) := by decide +kernel
theorem dX10_digitOf_5 : decode cX10_digitOf 5 = .ok (.goto 24, 3) := by decide +kernel
set_option maxHeartbeats 4000000 in
set_option maxRecDepth 100000 in
theorem k_X10_digitOf_0 (l : Launch) (V : GV) (a0 : Int32) (ba0 : iv 0 3 a0) : Ct l V yX10_digitOf (.code yX10_digitOf cX10_digitOf 1 (some .int)) 1 [.int a0] [] 0 0 (QI V (fun (r : Int32) (w : va_W) => ((¬ a0 = 0) ∧ (¬ a0 = 1) ∧ (¬ a0 = 2) ∧ r = 125 ∧ w = []) ∨ ((¬ a0 = 0) ∧ (¬ a0 = 1) ∧ (a0 = 2) ∧ r = 25 ∧ w = []) ∨ ((¬ a0 = 0) ∧ (a0 = 1) ∧ r = 5 ∧ w = []) ∨ ((a0 = 0) ∧ r = 1 ∧ w = []))) := by
  refine Ct.of (by decide) (Nat.le_of_ble_eq_true rfl) (fun p e s m below meth c A ls hx hb hr hml hown hlk hnm hg hP hK hD hE hA hS hl => ?_)
  have hl : lv_has ls 1 [(0, .int a0)] := hl
  refine lv_iload_n hx hb dX10_digitOf_0 rfl (lv_at hl 0 rfl) ?_
  refine lv_if_ne (tgt := 8) hx hb dX10_digitOf_1 (by decide) (fun c_1 => ?_) (fun c_1 => ?_)
  · have b_2 : iv 1 3 a0 := iv_n0 c_1 ba0 (iv_c (0 : Int32) (a := 0) (b := 0) (by decide)) (by decide)
    refine lv_iload_n hx hb dX10_digitOf_8 rfl (lv_at hl 0 rfl) ?_
    refine lv_iconst (v := 1) hx hb dX10_digitOf_9 (by decide) ?_
    refine lv_icmp_ne (tgt := 17) hx hb dX10_digitOf_10 (by decide) (fun c_3 => ?_) (fun c_3 => ?_)
    · have b_4 : iv 2 3 a0 := iv_n0 c_3 b_2 (iv_c (1 : Int32) (a := 1) (b := 1) (by decide)) (by decide)
      refine lv_iload_n hx hb dX10_digitOf_17 rfl (lv_at hl 0 rfl) ?_
      refine lv_iconst (v := 2) hx hb dX10_digitOf_18 (by decide) ?_
      refine lv_icmp_ne (tgt := 27) hx hb dX10_digitOf_19 (by decide) (fun c_5 => ?_) (fun c_5 => ?_)
      · have b_6 : iv 3 3 a0 := iv_n0 c_5 b_4 (iv_c (2 : Int32) (a := 2) (b := 2) (by decide)) (by decide)
        refine lv_bipush (v := 125) hx hb dX10_digitOf_27 (by decide) ?_
        exact fiI hx hb hr hlk hK hP hD hS dX10_digitOf_29 (Nat.le_of_ble_eq_true rfl) (Nat.le_of_ble_eq_true rfl) (Or.inl ⟨c_1, c_3, c_5, rfl, rfl⟩)
      · have b_7 : iv 2 2 a0 := iv_q c_5 (iv_c (2 : Int32) (a := 2) (b := 2) (by decide))
        refine lv_bipush (v := 25) hx hb dX10_digitOf_22 (by decide) ?_
        refine lv_goto (tgt := 29) hx hb dX10_digitOf_24 (by decide) ?_
        exact fiI hx hb hr hlk hK hP hD hS dX10_digitOf_29 (Nat.le_of_ble_eq_true rfl) (Nat.le_of_ble_eq_true rfl) (Or.inr (Or.inl ⟨c_1, c_3, c_5, rfl, rfl⟩))
    · have b_8 : iv 1 1 a0 := iv_q c_3 (iv_c (1 : Int32) (a := 1) (b := 1) (by decide))
      refine lv_iconst (v := 5) hx hb dX10_digitOf_13 (by decide) ?_
      refine lv_goto (tgt := 29) hx hb dX10_digitOf_14 (by decide) ?_
      exact fiI hx hb hr hlk hK hP hD hS dX10_digitOf_29 (Nat.le_of_ble_eq_true rfl) (Nat.le_of_ble_eq_true rfl) (Or.inr (Or.inr (Or.inl ⟨c_1, c_3, rfl, rfl⟩)))
  · have b_9 : iv 0 0 a0 := iv_q c_1 (iv_c (0 : Int32) (a := 0) (b := 0) (by decide))
    refine lv_iconst (v := 1) hx hb dX10_digitOf_4 (by decide) ?_
    refine lv_goto (tgt := 29) hx hb dX10_digitOf_5 (by decide) ?_
    exact fiI hx hb hr hlk hK hP hD hS dX10_digitOf_29 (Nat.le_of_ble_eq_true rfl) (Nat.le_of_ble_eq_true rfl) (Or.inr (Or.inr (Or.inr (⟨c_1, rfl, rfl⟩))))
theorem dX10_standNow_0 : decode cX10_standNow 0 = .ok (.sipush 625, 3) := by decide +kernel
theorem dX10_standNow_3 : decode cX10_standNow 3 = .ok (.aload_n 0, 1) := by decide +kernel
theorem dX10_standNow_4 : decode cX10_standNow 4 = .ok (.getfield 13, 3) := by decide +kernel
theorem dX10_standNow_7 : decode cX10_standNow 7 = .ok (.bipush 50, 2) := by decide +kernel
theorem dX10_standNow_9 : decode cX10_standNow 9 = .ok (.iaload, 1) := by decide +kernel
theorem dX10_standNow_10 : decode cX10_standNow 10 = .ok (.imul, 1) := by decide +kernel
theorem dX10_standNow_11 : decode cX10_standNow 11 = .ok (.istore_n 1, 1) := by decide +kernel
theorem dX10_standNow_12 : decode cX10_standNow 12 = .ok (.iconst 0, 1) := by decide +kernel
theorem dX10_standNow_13 : decode cX10_standNow 13 = .ok (.istore_n 2, 1) := by decide +kernel
theorem dX10_standNow_14 : decode cX10_standNow 14 = .ok (.iload_n 2, 1) := by decide +kernel
theorem dX10_standNow_15 : decode cX10_standNow 15 = .ok (.aload_n 0, 1) := by decide +kernel
theorem dX10_standNow_16 : decode cX10_standNow 16 = .ok (.getfield 13, 3) := by decide +kernel
theorem dX10_standNow_19 : decode cX10_standNow 19 = .ok (.iconst 1, 1) := by decide +kernel
theorem dX10_standNow_20 : decode cX10_standNow 20 = .ok (.iaload, 1) := by decide +kernel
theorem dX10_standNow_21 : decode cX10_standNow 21 = .ok (.if_icmp .ge 26, 3) := by decide +kernel
theorem dX10_standNow_47 : decode cX10_standNow 47 = .ok (.iload_n 1, 1) := by decide +kernel
theorem dX10_standNow_48 : decode cX10_standNow 48 = .ok (.ireturn, 1) := by decide +kernel
theorem dX10_standNow_24 : decode cX10_standNow 24 = .ok (.iload_n 1, 1) := by decide +kernel
theorem dX10_standNow_25 : decode cX10_standNow 25 = .ok (.iload_n 2, 1) := by decide +kernel
theorem q_7_17 : Cond.code yX10_digitOf prog_12_method_37_code 1 (some FieldType.int) ∈ gw := gw_7 (i := 17) (rfl) rfl
theorem q_7_16 : Cond.static yX10_digitOf ∈ gw := gw_7 (i := 16) (by decide +kernel) rfl
theorem mt_X10_digitOf : MtS yX10_digitOf cX10_digitOf 1 (some .int) 1 := ⟨⟨q_7_17, q_1_9, by decide +kernel, by decide +kernel, by decide +kernel⟩, q_7_16⟩
theorem q_7_15 : Cond.methodLink "BeaconDelayModel" 228 yX10_digitOf ∈ gw := gw_7 (i := 15) (by decide +kernel) rfl
theorem dX10_standNow_26 : decode cX10_standNow 26 = .ok (.invokestatic 228, 3) := by decide +kernel
theorem dX10_standNow_29 : decode cX10_standNow 29 = .ok (.aload_n 0, 1) := by decide +kernel
theorem dX10_standNow_30 : decode cX10_standNow 30 = .ok (.getfield 13, 3) := by decide +kernel
theorem dX10_standNow_33 : decode cX10_standNow 33 = .ok (.bipush 46, 2) := by decide +kernel
theorem dX10_standNow_35 : decode cX10_standNow 35 = .ok (.iload_n 2, 1) := by decide +kernel
theorem dX10_standNow_36 : decode cX10_standNow 36 = .ok (.iadd, 1) := by decide +kernel
theorem dX10_standNow_37 : decode cX10_standNow 37 = .ok (.iaload, 1) := by decide +kernel
theorem dX10_standNow_38 : decode cX10_standNow 38 = .ok (.imul, 1) := by decide +kernel
theorem dX10_standNow_39 : decode cX10_standNow 39 = .ok (.iadd, 1) := by decide +kernel
theorem dX10_standNow_40 : decode cX10_standNow 40 = .ok (.istore_n 1, 1) := by decide +kernel
theorem dX10_standNow_41 : decode cX10_standNow 41 = .ok (.iinc 2 1, 3) := by decide +kernel
theorem dX10_standNow_44 : decode cX10_standNow 44 = .ok (.goto (-30), 3) := by decide +kernel
set_option maxHeartbeats 4000000 in
set_option maxRecDepth 100000 in
theorem k_X10_standNow_0 (l : Launch) (V : GV) (z : Nat → Nat) (pz0_0 : Int32) (pz0_5 : Int32) (pz0_6 : Int32) (pz0_7 : Int32) (pz0_8 : Int32) (pz0_9 : Int32) (pz0_10 : Int32) (pz0_11 : Int32) (pz0_12 : Int32) (pz0_13 : Int32) (pz0_14 : Int32) (pz0_18 : Int32) (pz0_19 : Int32) (pz0_22 : Int32) (pz0_23 : Int32) (pz0_29 : Int32) (fz1 : Nat → Int32) (bpz0_5 : iv 0 900 pz0_5) (bpz0_6 : iv 0 900 pz0_6) (bpz0_7 : iv 0 900 pz0_7) (bpz0_8 : iv 0 900 pz0_8) (bpz0_10 : iv 0 999 pz0_10) (bpz0_11 : iv 0 4 pz0_11) (bpz0_12 : iv 0 900 pz0_12) (bpz0_13 : iv 0 4 pz0_13) (bpz0_14 : iv (-1) 900 pz0_14) (bpz0_18 : iv 0 2 pz0_18) (bpz0_22 : iv 0 9999 pz0_22) (bpz0_29 : iv 0 10000 pz0_29) (tfz1 : ivT tA fz1) : Ct l V yX10_standNow (.code yX10_standNow cX10_standNow 3 (some .int)) 2 [.ref (z 0)] [(z 0, .inr (10, mo z pz0_0 pz0_5 pz0_6 pz0_7 pz0_8 pz0_9 pz0_10 pz0_11 pz0_12 pz0_13 pz0_14 pz0_18 pz0_19 pz0_22 pz0_23 pz0_29)), (z 1, aI V 3075 fz1)] 0 0 (QI V (fun (r : Int32) (w : va_W) => iv 0 9999 r ∧ r = snF fz1 ∧ w = [(z 0, .inr (10, mo z pz0_0 pz0_5 pz0_6 pz0_7 pz0_8 pz0_9 pz0_10 pz0_11 pz0_12 pz0_13 pz0_14 pz0_18 pz0_19 pz0_22 pz0_23 pz0_29)), (z 1, aI V 3075 fz1)])) := by
  refine Ct.of (by decide) (Nat.le_of_ble_eq_true rfl) (fun p e s m below meth c A ls hx hb hr hml hown hlk hnm hg hP hK hD hE hA hS hl => ?_)
  have hl : lv_has ls 3 [(0, .ref (z 0))] := hl
  refine lv_sipush (v := 625) hx hb dX10_standNow_0 (by decide) ?_
  refine lv_aload_n hx hb dX10_standNow_3 rfl (lv_at hl 0 rfl) ?_
  refine va_get (ci := 10) (v := .ref (z 1)) (C := RX10) (T := TX10) (N := 40) hx hb hg inX10 hown hK hP 0 rfl rfl 1 (by decide) (hg _ q_5_225) (fun _ h9 => h9) rfl dX10_standNow_4 ?_
  refine lv_bipush (v := 50) hx hb dX10_standNow_7 (by decide) ?_
  refine va_iald hx hb hK hP 1 0 rfl rfl (vin (by decide +kernel)) dX10_standNow_9 ?_
  refine lv_topi (fun x_1 ex_1 => ?_)
  have bx_1 : iv 0 15 x_1 := by rw [ex_1]; exact rdT (a := 50) (n := 1) tfz1 (iv_c (50 : Int32) (a := 50) (b := 50) (by decide)) (by decide) (by decide +kernel)
  refine lv_imul hx hb dX10_standNow_10 ?_
  refine lv_topi (fun x_2 ex_2 => ?_)
  have bx_2 : iv 0 9375 x_2 := by rw [ex_2]; exact iv_cmul (iv_c (625 : Int32) (a := 625) (b := 625) (by decide)) bx_1 (by decide)
  refine lv_istore_n (lv' := [(1, .int x_2), (0, .ref (z 0))]) hx hb dX10_standNow_11 rfl hl (by decide) rfl (fun ls hl => ?_)
  refine lv_iconst (v := 0) hx hb dX10_standNow_12 (by decide) ?_
  refine lv_istore_n (lv' := [(2, .int 0), (1, .int x_2), (0, .ref (z 0))]) hx hb dX10_standNow_13 rfl hl (by decide) rfl (fun ls hl => ?_)
  refine lv_iload_n hx hb dX10_standNow_14 rfl (lv_at hl 0 rfl) ?_
  refine lv_aload_n hx hb dX10_standNow_15 rfl (lv_at hl 2 rfl) ?_
  refine va_get (ci := 10) (v := .ref (z 1)) (C := RX10) (T := TX10) (N := 40) hx hb hg inX10 hown hK hP 0 rfl rfl 1 (by decide) (hg _ q_5_225) (fun _ h9 => h9) rfl dX10_standNow_16 ?_
  refine lv_iconst (v := 1) hx hb dX10_standNow_19 (by decide) ?_
  refine va_iald hx hb hK hP 1 0 rfl rfl (vin (by decide +kernel)) dX10_standNow_20 ?_
  refine lv_topi (fun x_3 ex_3 => ?_)
  have bx_3 : iv 0 4 x_3 := by rw [ex_3]; exact rdT (a := 1) (n := 1) tfz1 (iv_c (1 : Int32) (a := 1) (b := 1) (by decide)) (by decide) (by decide +kernel)
  refine lv_icmp_ge (tgt := 47) hx hb dX10_standNow_21 (by decide) (fun c_4 => ?_) (fun c_4 => ?_)
  · have b_5 : iv 0 0 x_3 := iv_e1 c_4 bx_3 (iv_c (0 : Int32) (a := 0) (b := 0) (by decide)) (by decide)
    refine lv_iload_n hx hb dX10_standNow_47 rfl (lv_at hl 1 rfl) ?_
    exact fiI hx hb hr hlk hK hP hD hS dX10_standNow_48 (Nat.le_of_ble_eq_true rfl) (Nat.le_of_ble_eq_true rfl) (⟨(iv_w bx_2 (by decide)), (by rw [snF_0 (show fz1 1 = 0 from (ex_3.symm.trans (iv_eqp b_5 (iv_c (0 : Int32) (by decide))))), ex_2, ex_1]; rfl), rfl⟩)
  · have b_6 : iv 1 4 x_3 := iv_l2 (Int32.not_le.mp c_4) (iv_c (0 : Int32) (a := 0) (b := 0) (by decide)) bx_3 (by decide)
    refine lv_iload_n hx hb dX10_standNow_24 rfl (lv_at hl 1 rfl) ?_
    refine lv_iload_n hx hb dX10_standNow_25 rfl (lv_at hl 0 rfl) ?_
    refine jnI (wr := [(z 0, .inr (10, mo z pz0_0 pz0_5 pz0_6 pz0_7 pz0_8 pz0_9 pz0_10 pz0_11 pz0_12 pz0_13 pz0_14 pz0_18 pz0_19 pz0_22 pz0_23 pz0_29)), (z 1, aI V 3075 fz1)]) (rnS (rest := [.int x_2]) ⟨hx, hb, hml, hown, hg⟩ (k_X10_digitOf_0 l V 0 (iv_c (0 : Int32) (by decide))) mt_X10_digitOf q_7_15 ⟨Nat.le_of_ble_eq_true rfl, Nat.le_of_ble_eq_true rfl⟩ hK hP hD hS hA hE [] rfl rfl rfl hl.1 rfl (Nat.le_of_ble_eq_true rfl) dX10_standNow_26 ⟨Nat.le_of_ble_eq_true rfl, Nat.le_of_ble_eq_true rfl⟩) hP hD hS hA [] [0, 1] rfl rfl rfl (by decide) (fun r_7 w H locs hw hP hD hS => ?_)
    rcases hw with ⟨c_8, c_9, c_10, rfl, rfl⟩ | ⟨c_11, c_12, c_13, rfl, rfl⟩ | ⟨c_14, c_15, rfl, rfl⟩ | ⟨c_16, rfl, rfl⟩
    · have hP : va_P V.1 vwCl [(z 0, .inr (10, mo z pz0_0 pz0_5 pz0_6 pz0_7 pz0_8 pz0_9 pz0_10 pz0_11 pz0_12 pz0_13 pz0_14 pz0_18 pz0_19 pz0_22 pz0_23 pz0_29)), (z 1, aI V 3075 fz1)] H := hP
      have hD : va_D A [(z 0, .inr (10, mo z pz0_0 pz0_5 pz0_6 pz0_7 pz0_8 pz0_9 pz0_10 pz0_11 pz0_12 pz0_13 pz0_14 pz0_18 pz0_19 pz0_22 pz0_23 pz0_29)), (z 1, aI V 3075 fz1)] := hD
      exact absurd c_8 (by decide)
    · have hP : va_P V.1 vwCl [(z 0, .inr (10, mo z pz0_0 pz0_5 pz0_6 pz0_7 pz0_8 pz0_9 pz0_10 pz0_11 pz0_12 pz0_13 pz0_14 pz0_18 pz0_19 pz0_22 pz0_23 pz0_29)), (z 1, aI V 3075 fz1)] H := hP
      have hD : va_D A [(z 0, .inr (10, mo z pz0_0 pz0_5 pz0_6 pz0_7 pz0_8 pz0_9 pz0_10 pz0_11 pz0_12 pz0_13 pz0_14 pz0_18 pz0_19 pz0_22 pz0_23 pz0_29)), (z 1, aI V 3075 fz1)] := hD
      exact absurd c_11 (by decide)
    · have hP : va_P V.1 vwCl [(z 0, .inr (10, mo z pz0_0 pz0_5 pz0_6 pz0_7 pz0_8 pz0_9 pz0_10 pz0_11 pz0_12 pz0_13 pz0_14 pz0_18 pz0_19 pz0_22 pz0_23 pz0_29)), (z 1, aI V 3075 fz1)] H := hP
      have hD : va_D A [(z 0, .inr (10, mo z pz0_0 pz0_5 pz0_6 pz0_7 pz0_8 pz0_9 pz0_10 pz0_11 pz0_12 pz0_13 pz0_14 pz0_18 pz0_19 pz0_22 pz0_23 pz0_29)), (z 1, aI V 3075 fz1)] := hD
      exact absurd c_14 (by decide)
    · have hP : va_P V.1 vwCl [(z 0, .inr (10, mo z pz0_0 pz0_5 pz0_6 pz0_7 pz0_8 pz0_9 pz0_10 pz0_11 pz0_12 pz0_13 pz0_14 pz0_18 pz0_19 pz0_22 pz0_23 pz0_29)), (z 1, aI V 3075 fz1)] H := hP
      have hD : va_D A [(z 0, .inr (10, mo z pz0_0 pz0_5 pz0_6 pz0_7 pz0_8 pz0_9 pz0_10 pz0_11 pz0_12 pz0_13 pz0_14 pz0_18 pz0_19 pz0_22 pz0_23 pz0_29)), (z 1, aI V 3075 fz1)] := hD
      refine lv_aload_n hx hb dX10_standNow_29 rfl (lv_at hl 2 rfl) ?_
      refine va_get (ci := 10) (v := .ref (z 1)) (C := RX10) (T := TX10) (N := 40) hx hb hg inX10 hown hK hP 0 rfl rfl 1 (by decide) (hg _ q_5_225) (fun _ h9 => h9) rfl dX10_standNow_30 ?_
      refine lv_bipush (v := 46) hx hb dX10_standNow_33 (by decide) ?_
      refine lv_iload_n hx hb dX10_standNow_35 rfl (lv_at hl 0 rfl) ?_
      refine lv_iadd hx hb dX10_standNow_36 ?_
      refine tpi (y := 46) (by decide +kernel) ?_
      refine va_iald hx hb hK hP 1 0 rfl rfl (vin (by decide +kernel)) dX10_standNow_37 ?_
      refine lv_topi (fun x_17 ex_17 => ?_)
      have bx_17 : iv 0 4 x_17 := by rw [ex_17]; exact rdT (a := 46) (n := 1) tfz1 (iv_c (46 : Int32) (a := 46) (b := 46) (by decide)) (by decide) (by decide +kernel)
      refine lv_imul hx hb dX10_standNow_38 ?_
      refine lv_topi (fun x_18 ex_18 => ?_)
      have bx_18 : iv 0 4 x_18 := by rw [ex_18]; exact iv_cmul (iv_c (1 : Int32) (a := 1) (b := 1) (by decide)) bx_17 (by decide)
      refine lv_iadd hx hb dX10_standNow_39 ?_
      refine lv_topi (fun x_19 ex_19 => ?_)
      have bx_19 : iv 0 9379 x_19 := by rw [ex_19]; exact iv_add bx_2 bx_18 (by decide)
      refine lv_istore_n (lv' := [(1, .int x_19), (2, .int 0), (0, .ref (z 0))]) hx hb dX10_standNow_40 rfl hl (by decide) rfl (fun ls hl => ?_)
      refine lv_iinc (v := 1) (lv' := [(2, .int 1), (1, .int x_19), (0, .ref (z 0))]) hx hb dX10_standNow_41 hl (k := 1) rfl (by decide +kernel) (by decide) rfl (fun ls hl => ?_)
      refine lv_goto (tgt := 14) hx hb dX10_standNow_44 (by decide) ?_
      refine lv_iload_n hx hb dX10_standNow_14 rfl (lv_at hl 0 rfl) ?_
      refine lv_aload_n hx hb dX10_standNow_15 rfl (lv_at hl 2 rfl) ?_
      refine va_get (ci := 10) (v := .ref (z 1)) (C := RX10) (T := TX10) (N := 40) hx hb hg inX10 hown hK hP 0 rfl rfl 1 (by decide) (hg _ q_5_225) (fun _ h9 => h9) rfl dX10_standNow_16 ?_
      refine lv_iconst (v := 1) hx hb dX10_standNow_19 (by decide) ?_
      refine va_iald hx hb hK hP 1 0 rfl rfl (vin (by decide +kernel)) dX10_standNow_20 ?_
      refine tpi (y := x_3) ex_3.symm ?_
      refine lv_icmp_ge (tgt := 47) hx hb dX10_standNow_21 (by decide) (fun c_20 => ?_) (fun c_20 => ?_)
      · have b_21 : iv 1 1 x_3 := iv_e1 c_20 b_6 (iv_c (1 : Int32) (a := 1) (b := 1) (by decide)) (by decide)
        refine lv_iload_n hx hb dX10_standNow_47 rfl (lv_at hl 1 rfl) ?_
        exact fiI hx hb hr hlk hK hP hD hS dX10_standNow_48 (Nat.le_of_ble_eq_true rfl) (Nat.le_of_ble_eq_true rfl) (⟨(iv_w bx_19 (by decide)), (by rw [snF_1 (show fz1 1 = 1 from (ex_3.symm.trans (iv_eqp b_21 (iv_c (1 : Int32) (by decide))))), ex_19, ex_18, ex_17, ex_2, ex_1]; rfl), rfl⟩)
      · have b_22 : iv 2 4 x_3 := iv_l2 (Int32.not_le.mp c_20) (iv_c (1 : Int32) (a := 1) (b := 1) (by decide)) b_6 (by decide)
        refine lv_iload_n hx hb dX10_standNow_24 rfl (lv_at hl 1 rfl) ?_
        refine lv_iload_n hx hb dX10_standNow_25 rfl (lv_at hl 0 rfl) ?_
        refine jnI (wr := [(z 0, .inr (10, mo z pz0_0 pz0_5 pz0_6 pz0_7 pz0_8 pz0_9 pz0_10 pz0_11 pz0_12 pz0_13 pz0_14 pz0_18 pz0_19 pz0_22 pz0_23 pz0_29)), (z 1, aI V 3075 fz1)]) (rnS (rest := [.int x_19]) ⟨hx, hb, hml, hown, hg⟩ (k_X10_digitOf_0 l V 1 (iv_c (1 : Int32) (by decide))) mt_X10_digitOf q_7_15 ⟨Nat.le_of_ble_eq_true rfl, Nat.le_of_ble_eq_true rfl⟩ hK hP hD hS hA hE [] rfl rfl rfl hl.1 rfl (Nat.le_of_ble_eq_true rfl) dX10_standNow_26 ⟨Nat.le_of_ble_eq_true rfl, Nat.le_of_ble_eq_true rfl⟩) hP hD hS hA [] [0, 1] rfl rfl rfl (by decide) (fun r_23 w H locs hw hP hD hS => ?_)
        rcases hw with ⟨c_24, c_25, c_26, rfl, rfl⟩ | ⟨c_27, c_28, c_29, rfl, rfl⟩ | ⟨c_30, c_31, rfl, rfl⟩ | ⟨c_32, rfl, rfl⟩
        · have hP : va_P V.1 vwCl [(z 0, .inr (10, mo z pz0_0 pz0_5 pz0_6 pz0_7 pz0_8 pz0_9 pz0_10 pz0_11 pz0_12 pz0_13 pz0_14 pz0_18 pz0_19 pz0_22 pz0_23 pz0_29)), (z 1, aI V 3075 fz1)] H := hP
          have hD : va_D A [(z 0, .inr (10, mo z pz0_0 pz0_5 pz0_6 pz0_7 pz0_8 pz0_9 pz0_10 pz0_11 pz0_12 pz0_13 pz0_14 pz0_18 pz0_19 pz0_22 pz0_23 pz0_29)), (z 1, aI V 3075 fz1)] := hD
          exact absurd c_25 (by decide)
        · have hP : va_P V.1 vwCl [(z 0, .inr (10, mo z pz0_0 pz0_5 pz0_6 pz0_7 pz0_8 pz0_9 pz0_10 pz0_11 pz0_12 pz0_13 pz0_14 pz0_18 pz0_19 pz0_22 pz0_23 pz0_29)), (z 1, aI V 3075 fz1)] H := hP
          have hD : va_D A [(z 0, .inr (10, mo z pz0_0 pz0_5 pz0_6 pz0_7 pz0_8 pz0_9 pz0_10 pz0_11 pz0_12 pz0_13 pz0_14 pz0_18 pz0_19 pz0_22 pz0_23 pz0_29)), (z 1, aI V 3075 fz1)] := hD
          exact absurd c_28 (by decide)
        · have hP : va_P V.1 vwCl [(z 0, .inr (10, mo z pz0_0 pz0_5 pz0_6 pz0_7 pz0_8 pz0_9 pz0_10 pz0_11 pz0_12 pz0_13 pz0_14 pz0_18 pz0_19 pz0_22 pz0_23 pz0_29)), (z 1, aI V 3075 fz1)] H := hP
          have hD : va_D A [(z 0, .inr (10, mo z pz0_0 pz0_5 pz0_6 pz0_7 pz0_8 pz0_9 pz0_10 pz0_11 pz0_12 pz0_13 pz0_14 pz0_18 pz0_19 pz0_22 pz0_23 pz0_29)), (z 1, aI V 3075 fz1)] := hD
          refine lv_aload_n hx hb dX10_standNow_29 rfl (lv_at hl 2 rfl) ?_
          refine va_get (ci := 10) (v := .ref (z 1)) (C := RX10) (T := TX10) (N := 40) hx hb hg inX10 hown hK hP 0 rfl rfl 1 (by decide) (hg _ q_5_225) (fun _ h9 => h9) rfl dX10_standNow_30 ?_
          refine lv_bipush (v := 46) hx hb dX10_standNow_33 (by decide) ?_
          refine lv_iload_n hx hb dX10_standNow_35 rfl (lv_at hl 0 rfl) ?_
          refine lv_iadd hx hb dX10_standNow_36 ?_
          refine tpi (y := 47) (by decide +kernel) ?_
          refine va_iald hx hb hK hP 1 0 rfl rfl (vin (by decide +kernel)) dX10_standNow_37 ?_
          refine lv_topi (fun x_33 ex_33 => ?_)
          have bx_33 : iv 0 4 x_33 := by rw [ex_33]; exact rdT (a := 47) (n := 1) tfz1 (iv_c (47 : Int32) (a := 47) (b := 47) (by decide)) (by decide) (by decide +kernel)
          refine lv_imul hx hb dX10_standNow_38 ?_
          refine lv_topi (fun x_34 ex_34 => ?_)
          have bx_34 : iv 0 20 x_34 := by rw [ex_34]; exact iv_cmul (iv_c (5 : Int32) (a := 5) (b := 5) (by decide)) bx_33 (by decide)
          refine lv_iadd hx hb dX10_standNow_39 ?_
          refine lv_topi (fun x_35 ex_35 => ?_)
          have bx_35 : iv 0 9399 x_35 := by rw [ex_35]; exact iv_add bx_19 bx_34 (by decide)
          refine lv_istore_n (lv' := [(1, .int x_35), (2, .int 1), (0, .ref (z 0))]) hx hb dX10_standNow_40 rfl hl (by decide) rfl (fun ls hl => ?_)
          refine lv_iinc (v := 2) (lv' := [(2, .int 2), (1, .int x_35), (0, .ref (z 0))]) hx hb dX10_standNow_41 hl (k := 1) rfl (by decide +kernel) (by decide) rfl (fun ls hl => ?_)
          refine lv_goto (tgt := 14) hx hb dX10_standNow_44 (by decide) ?_
          refine lv_iload_n hx hb dX10_standNow_14 rfl (lv_at hl 0 rfl) ?_
          refine lv_aload_n hx hb dX10_standNow_15 rfl (lv_at hl 2 rfl) ?_
          refine va_get (ci := 10) (v := .ref (z 1)) (C := RX10) (T := TX10) (N := 40) hx hb hg inX10 hown hK hP 0 rfl rfl 1 (by decide) (hg _ q_5_225) (fun _ h9 => h9) rfl dX10_standNow_16 ?_
          refine lv_iconst (v := 1) hx hb dX10_standNow_19 (by decide) ?_
          refine va_iald hx hb hK hP 1 0 rfl rfl (vin (by decide +kernel)) dX10_standNow_20 ?_
          refine tpi (y := x_3) ex_3.symm ?_
          refine lv_icmp_ge (tgt := 47) hx hb dX10_standNow_21 (by decide) (fun c_36 => ?_) (fun c_36 => ?_)
          · have b_37 : iv 2 2 x_3 := iv_e1 c_36 b_22 (iv_c (2 : Int32) (a := 2) (b := 2) (by decide)) (by decide)
            refine lv_iload_n hx hb dX10_standNow_47 rfl (lv_at hl 1 rfl) ?_
            exact fiI hx hb hr hlk hK hP hD hS dX10_standNow_48 (Nat.le_of_ble_eq_true rfl) (Nat.le_of_ble_eq_true rfl) (⟨(iv_w bx_35 (by decide)), (by rw [snF_2 (show fz1 1 = 2 from (ex_3.symm.trans (iv_eqp b_37 (iv_c (2 : Int32) (by decide))))), ex_35, ex_34, ex_33, ex_19, ex_18, ex_17, ex_2, ex_1]; rfl), rfl⟩)
          · have b_38 : iv 3 4 x_3 := iv_l2 (Int32.not_le.mp c_36) (iv_c (2 : Int32) (a := 2) (b := 2) (by decide)) b_22 (by decide)
            refine lv_iload_n hx hb dX10_standNow_24 rfl (lv_at hl 1 rfl) ?_
            refine lv_iload_n hx hb dX10_standNow_25 rfl (lv_at hl 0 rfl) ?_
            refine jnI (wr := [(z 0, .inr (10, mo z pz0_0 pz0_5 pz0_6 pz0_7 pz0_8 pz0_9 pz0_10 pz0_11 pz0_12 pz0_13 pz0_14 pz0_18 pz0_19 pz0_22 pz0_23 pz0_29)), (z 1, aI V 3075 fz1)]) (rnS (rest := [.int x_35]) ⟨hx, hb, hml, hown, hg⟩ (k_X10_digitOf_0 l V 2 (iv_c (2 : Int32) (by decide))) mt_X10_digitOf q_7_15 ⟨Nat.le_of_ble_eq_true rfl, Nat.le_of_ble_eq_true rfl⟩ hK hP hD hS hA hE [] rfl rfl rfl hl.1 rfl (Nat.le_of_ble_eq_true rfl) dX10_standNow_26 ⟨Nat.le_of_ble_eq_true rfl, Nat.le_of_ble_eq_true rfl⟩) hP hD hS hA [] [0, 1] rfl rfl rfl (by decide) (fun r_39 w H locs hw hP hD hS => ?_)
            rcases hw with ⟨c_40, c_41, c_42, rfl, rfl⟩ | ⟨c_43, c_44, c_45, rfl, rfl⟩ | ⟨c_46, c_47, rfl, rfl⟩ | ⟨c_48, rfl, rfl⟩
            · have hP : va_P V.1 vwCl [(z 0, .inr (10, mo z pz0_0 pz0_5 pz0_6 pz0_7 pz0_8 pz0_9 pz0_10 pz0_11 pz0_12 pz0_13 pz0_14 pz0_18 pz0_19 pz0_22 pz0_23 pz0_29)), (z 1, aI V 3075 fz1)] H := hP
              have hD : va_D A [(z 0, .inr (10, mo z pz0_0 pz0_5 pz0_6 pz0_7 pz0_8 pz0_9 pz0_10 pz0_11 pz0_12 pz0_13 pz0_14 pz0_18 pz0_19 pz0_22 pz0_23 pz0_29)), (z 1, aI V 3075 fz1)] := hD
              exact absurd c_42 (by decide)
            · have hP : va_P V.1 vwCl [(z 0, .inr (10, mo z pz0_0 pz0_5 pz0_6 pz0_7 pz0_8 pz0_9 pz0_10 pz0_11 pz0_12 pz0_13 pz0_14 pz0_18 pz0_19 pz0_22 pz0_23 pz0_29)), (z 1, aI V 3075 fz1)] H := hP
              have hD : va_D A [(z 0, .inr (10, mo z pz0_0 pz0_5 pz0_6 pz0_7 pz0_8 pz0_9 pz0_10 pz0_11 pz0_12 pz0_13 pz0_14 pz0_18 pz0_19 pz0_22 pz0_23 pz0_29)), (z 1, aI V 3075 fz1)] := hD
              refine lv_aload_n hx hb dX10_standNow_29 rfl (lv_at hl 2 rfl) ?_
              refine va_get (ci := 10) (v := .ref (z 1)) (C := RX10) (T := TX10) (N := 40) hx hb hg inX10 hown hK hP 0 rfl rfl 1 (by decide) (hg _ q_5_225) (fun _ h9 => h9) rfl dX10_standNow_30 ?_
              refine lv_bipush (v := 46) hx hb dX10_standNow_33 (by decide) ?_
              refine lv_iload_n hx hb dX10_standNow_35 rfl (lv_at hl 0 rfl) ?_
              refine lv_iadd hx hb dX10_standNow_36 ?_
              refine tpi (y := 48) (by decide +kernel) ?_
              refine va_iald hx hb hK hP 1 0 rfl rfl (vin (by decide +kernel)) dX10_standNow_37 ?_
              refine lv_topi (fun x_49 ex_49 => ?_)
              have bx_49 : iv 0 4 x_49 := by rw [ex_49]; exact rdT (a := 48) (n := 1) tfz1 (iv_c (48 : Int32) (a := 48) (b := 48) (by decide)) (by decide) (by decide +kernel)
              refine lv_imul hx hb dX10_standNow_38 ?_
              refine lv_topi (fun x_50 ex_50 => ?_)
              have bx_50 : iv 0 100 x_50 := by rw [ex_50]; exact iv_cmul (iv_c (25 : Int32) (a := 25) (b := 25) (by decide)) bx_49 (by decide)
              refine lv_iadd hx hb dX10_standNow_39 ?_
              refine lv_topi (fun x_51 ex_51 => ?_)
              have bx_51 : iv 0 9499 x_51 := by rw [ex_51]; exact iv_add bx_35 bx_50 (by decide)
              refine lv_istore_n (lv' := [(1, .int x_51), (2, .int 2), (0, .ref (z 0))]) hx hb dX10_standNow_40 rfl hl (by decide) rfl (fun ls hl => ?_)
              refine lv_iinc (v := 3) (lv' := [(2, .int 3), (1, .int x_51), (0, .ref (z 0))]) hx hb dX10_standNow_41 hl (k := 1) rfl (by decide +kernel) (by decide) rfl (fun ls hl => ?_)
              refine lv_goto (tgt := 14) hx hb dX10_standNow_44 (by decide) ?_
              refine lv_iload_n hx hb dX10_standNow_14 rfl (lv_at hl 0 rfl) ?_
              refine lv_aload_n hx hb dX10_standNow_15 rfl (lv_at hl 2 rfl) ?_
              refine va_get (ci := 10) (v := .ref (z 1)) (C := RX10) (T := TX10) (N := 40) hx hb hg inX10 hown hK hP 0 rfl rfl 1 (by decide) (hg _ q_5_225) (fun _ h9 => h9) rfl dX10_standNow_16 ?_
              refine lv_iconst (v := 1) hx hb dX10_standNow_19 (by decide) ?_
              refine va_iald hx hb hK hP 1 0 rfl rfl (vin (by decide +kernel)) dX10_standNow_20 ?_
              refine tpi (y := x_3) ex_3.symm ?_
              refine lv_icmp_ge (tgt := 47) hx hb dX10_standNow_21 (by decide) (fun c_52 => ?_) (fun c_52 => ?_)
              · have b_53 : iv 3 3 x_3 := iv_e1 c_52 b_38 (iv_c (3 : Int32) (a := 3) (b := 3) (by decide)) (by decide)
                refine lv_iload_n hx hb dX10_standNow_47 rfl (lv_at hl 1 rfl) ?_
                exact fiI hx hb hr hlk hK hP hD hS dX10_standNow_48 (Nat.le_of_ble_eq_true rfl) (Nat.le_of_ble_eq_true rfl) (⟨(iv_w bx_51 (by decide)), (by rw [snF_3 (show fz1 1 = 3 from (ex_3.symm.trans (iv_eqp b_53 (iv_c (3 : Int32) (by decide))))), ex_51, ex_50, ex_49, ex_35, ex_34, ex_33, ex_19, ex_18, ex_17, ex_2, ex_1]; rfl), rfl⟩)
              · have b_54 : iv 4 4 x_3 := iv_l2 (Int32.not_le.mp c_52) (iv_c (3 : Int32) (a := 3) (b := 3) (by decide)) b_38 (by decide)
                refine lv_iload_n hx hb dX10_standNow_24 rfl (lv_at hl 1 rfl) ?_
                refine lv_iload_n hx hb dX10_standNow_25 rfl (lv_at hl 0 rfl) ?_
                refine jnI (wr := [(z 0, .inr (10, mo z pz0_0 pz0_5 pz0_6 pz0_7 pz0_8 pz0_9 pz0_10 pz0_11 pz0_12 pz0_13 pz0_14 pz0_18 pz0_19 pz0_22 pz0_23 pz0_29)), (z 1, aI V 3075 fz1)]) (rnS (rest := [.int x_51]) ⟨hx, hb, hml, hown, hg⟩ (k_X10_digitOf_0 l V 3 (iv_c (3 : Int32) (by decide))) mt_X10_digitOf q_7_15 ⟨Nat.le_of_ble_eq_true rfl, Nat.le_of_ble_eq_true rfl⟩ hK hP hD hS hA hE [] rfl rfl rfl hl.1 rfl (Nat.le_of_ble_eq_true rfl) dX10_standNow_26 ⟨Nat.le_of_ble_eq_true rfl, Nat.le_of_ble_eq_true rfl⟩) hP hD hS hA [] [0, 1] rfl rfl rfl (by decide) (fun r_55 w H locs hw hP hD hS => ?_)
                rcases hw with ⟨c_56, c_57, c_58, rfl, rfl⟩ | ⟨c_59, c_60, c_61, rfl, rfl⟩ | ⟨c_62, c_63, rfl, rfl⟩ | ⟨c_64, rfl, rfl⟩
                · have hP : va_P V.1 vwCl [(z 0, .inr (10, mo z pz0_0 pz0_5 pz0_6 pz0_7 pz0_8 pz0_9 pz0_10 pz0_11 pz0_12 pz0_13 pz0_14 pz0_18 pz0_19 pz0_22 pz0_23 pz0_29)), (z 1, aI V 3075 fz1)] H := hP
                  have hD : va_D A [(z 0, .inr (10, mo z pz0_0 pz0_5 pz0_6 pz0_7 pz0_8 pz0_9 pz0_10 pz0_11 pz0_12 pz0_13 pz0_14 pz0_18 pz0_19 pz0_22 pz0_23 pz0_29)), (z 1, aI V 3075 fz1)] := hD
                  refine lv_aload_n hx hb dX10_standNow_29 rfl (lv_at hl 2 rfl) ?_
                  refine va_get (ci := 10) (v := .ref (z 1)) (C := RX10) (T := TX10) (N := 40) hx hb hg inX10 hown hK hP 0 rfl rfl 1 (by decide) (hg _ q_5_225) (fun _ h9 => h9) rfl dX10_standNow_30 ?_
                  refine lv_bipush (v := 46) hx hb dX10_standNow_33 (by decide) ?_
                  refine lv_iload_n hx hb dX10_standNow_35 rfl (lv_at hl 0 rfl) ?_
                  refine lv_iadd hx hb dX10_standNow_36 ?_
                  refine tpi (y := 49) (by decide +kernel) ?_
                  refine va_iald hx hb hK hP 1 0 rfl rfl (vin (by decide +kernel)) dX10_standNow_37 ?_
                  refine lv_topi (fun x_65 ex_65 => ?_)
                  have bx_65 : iv 0 4 x_65 := by rw [ex_65]; exact rdT (a := 49) (n := 1) tfz1 (iv_c (49 : Int32) (a := 49) (b := 49) (by decide)) (by decide) (by decide +kernel)
                  refine lv_imul hx hb dX10_standNow_38 ?_
                  refine lv_topi (fun x_66 ex_66 => ?_)
                  have bx_66 : iv 0 500 x_66 := by rw [ex_66]; exact iv_cmul (iv_c (125 : Int32) (a := 125) (b := 125) (by decide)) bx_65 (by decide)
                  refine lv_iadd hx hb dX10_standNow_39 ?_
                  refine lv_topi (fun x_67 ex_67 => ?_)
                  have bx_67 : iv 0 9999 x_67 := by rw [ex_67]; exact iv_add bx_51 bx_66 (by decide)
                  refine lv_istore_n (lv' := [(1, .int x_67), (2, .int 3), (0, .ref (z 0))]) hx hb dX10_standNow_40 rfl hl (by decide) rfl (fun ls hl => ?_)
                  refine lv_iinc (v := 4) (lv' := [(2, .int 4), (1, .int x_67), (0, .ref (z 0))]) hx hb dX10_standNow_41 hl (k := 1) rfl (by decide +kernel) (by decide) rfl (fun ls hl => ?_)
                  refine lv_goto (tgt := 14) hx hb dX10_standNow_44 (by decide) ?_
                  refine lv_iload_n hx hb dX10_standNow_14 rfl (lv_at hl 0 rfl) ?_
                  refine lv_aload_n hx hb dX10_standNow_15 rfl (lv_at hl 2 rfl) ?_
                  refine va_get (ci := 10) (v := .ref (z 1)) (C := RX10) (T := TX10) (N := 40) hx hb hg inX10 hown hK hP 0 rfl rfl 1 (by decide) (hg _ q_5_225) (fun _ h9 => h9) rfl dX10_standNow_16 ?_
                  refine lv_iconst (v := 1) hx hb dX10_standNow_19 (by decide) ?_
                  refine va_iald hx hb hK hP 1 0 rfl rfl (vin (by decide +kernel)) dX10_standNow_20 ?_
                  refine tpi (y := x_3) ex_3.symm ?_
                  refine lv_icmp_ge (tgt := 47) hx hb dX10_standNow_21 (by decide) (fun _ => ?_) (fun c_68 => absurd (iv_le b_54 (iv_c (4 : Int32) (a := 4) (b := 4) (by decide)) (by decide)) c_68)
                  refine lv_iload_n hx hb dX10_standNow_47 rfl (lv_at hl 1 rfl) ?_
                  exact fiI hx hb hr hlk hK hP hD hS dX10_standNow_48 (Nat.le_of_ble_eq_true rfl) (Nat.le_of_ble_eq_true rfl) (⟨bx_67, (by rw [snF_4 (show fz1 1 = 4 from (ex_3.symm.trans (iv_eqp b_54 (iv_c (4 : Int32) (by decide))))), ex_67, ex_66, ex_65, ex_51, ex_50, ex_49, ex_35, ex_34, ex_33, ex_19, ex_18, ex_17, ex_2, ex_1]; rfl), rfl⟩)
                · have hP : va_P V.1 vwCl [(z 0, .inr (10, mo z pz0_0 pz0_5 pz0_6 pz0_7 pz0_8 pz0_9 pz0_10 pz0_11 pz0_12 pz0_13 pz0_14 pz0_18 pz0_19 pz0_22 pz0_23 pz0_29)), (z 1, aI V 3075 fz1)] H := hP
                  have hD : va_D A [(z 0, .inr (10, mo z pz0_0 pz0_5 pz0_6 pz0_7 pz0_8 pz0_9 pz0_10 pz0_11 pz0_12 pz0_13 pz0_14 pz0_18 pz0_19 pz0_22 pz0_23 pz0_29)), (z 1, aI V 3075 fz1)] := hD
                  exact absurd c_61 (by decide)
                · have hP : va_P V.1 vwCl [(z 0, .inr (10, mo z pz0_0 pz0_5 pz0_6 pz0_7 pz0_8 pz0_9 pz0_10 pz0_11 pz0_12 pz0_13 pz0_14 pz0_18 pz0_19 pz0_22 pz0_23 pz0_29)), (z 1, aI V 3075 fz1)] H := hP
                  have hD : va_D A [(z 0, .inr (10, mo z pz0_0 pz0_5 pz0_6 pz0_7 pz0_8 pz0_9 pz0_10 pz0_11 pz0_12 pz0_13 pz0_14 pz0_18 pz0_19 pz0_22 pz0_23 pz0_29)), (z 1, aI V 3075 fz1)] := hD
                  exact absurd c_63 (by decide)
                · have hP : va_P V.1 vwCl [(z 0, .inr (10, mo z pz0_0 pz0_5 pz0_6 pz0_7 pz0_8 pz0_9 pz0_10 pz0_11 pz0_12 pz0_13 pz0_14 pz0_18 pz0_19 pz0_22 pz0_23 pz0_29)), (z 1, aI V 3075 fz1)] H := hP
                  have hD : va_D A [(z 0, .inr (10, mo z pz0_0 pz0_5 pz0_6 pz0_7 pz0_8 pz0_9 pz0_10 pz0_11 pz0_12 pz0_13 pz0_14 pz0_18 pz0_19 pz0_22 pz0_23 pz0_29)), (z 1, aI V 3075 fz1)] := hD
                  exact absurd c_64 (by decide)
            · have hP : va_P V.1 vwCl [(z 0, .inr (10, mo z pz0_0 pz0_5 pz0_6 pz0_7 pz0_8 pz0_9 pz0_10 pz0_11 pz0_12 pz0_13 pz0_14 pz0_18 pz0_19 pz0_22 pz0_23 pz0_29)), (z 1, aI V 3075 fz1)] H := hP
              have hD : va_D A [(z 0, .inr (10, mo z pz0_0 pz0_5 pz0_6 pz0_7 pz0_8 pz0_9 pz0_10 pz0_11 pz0_12 pz0_13 pz0_14 pz0_18 pz0_19 pz0_22 pz0_23 pz0_29)), (z 1, aI V 3075 fz1)] := hD
              exact absurd c_47 (by decide)
            · have hP : va_P V.1 vwCl [(z 0, .inr (10, mo z pz0_0 pz0_5 pz0_6 pz0_7 pz0_8 pz0_9 pz0_10 pz0_11 pz0_12 pz0_13 pz0_14 pz0_18 pz0_19 pz0_22 pz0_23 pz0_29)), (z 1, aI V 3075 fz1)] H := hP
              have hD : va_D A [(z 0, .inr (10, mo z pz0_0 pz0_5 pz0_6 pz0_7 pz0_8 pz0_9 pz0_10 pz0_11 pz0_12 pz0_13 pz0_14 pz0_18 pz0_19 pz0_22 pz0_23 pz0_29)), (z 1, aI V 3075 fz1)] := hD
              exact absurd c_48 (by decide)
        · have hP : va_P V.1 vwCl [(z 0, .inr (10, mo z pz0_0 pz0_5 pz0_6 pz0_7 pz0_8 pz0_9 pz0_10 pz0_11 pz0_12 pz0_13 pz0_14 pz0_18 pz0_19 pz0_22 pz0_23 pz0_29)), (z 1, aI V 3075 fz1)] H := hP
          have hD : va_D A [(z 0, .inr (10, mo z pz0_0 pz0_5 pz0_6 pz0_7 pz0_8 pz0_9 pz0_10 pz0_11 pz0_12 pz0_13 pz0_14 pz0_18 pz0_19 pz0_22 pz0_23 pz0_29)), (z 1, aI V 3075 fz1)] := hD
          exact absurd c_32 (by decide)
