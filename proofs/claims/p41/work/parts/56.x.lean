set_option maxHeartbeats 4000000 in
set_option maxRecDepth 100000 in
theorem k_X10_readBoth_6 (l : Launch) (V : GV) (z : Nat → Nat) (fz4 : Nat → Int32) (pz0_0 : Int32) (pz0_5 : Int32) (pz0_6 : Int32) (pz0_7 : Int32) (pz0_8 : Int32) (pz0_9 : Int32) (pz0_10 : Int32) (pz0_11 : Int32) (pz0_12 : Int32) (pz0_13 : Int32) (pz0_14 : Int32) (pz0_18 : Int32) (pz0_19 : Int32) (pz0_22 : Int32) (pz0_23 : Int32) (pz0_29 : Int32) (fz3 : Nat → Int32) (tfz4 : ivT tF fz4) (bpz0_5 : iv 0 900 pz0_5) (bpz0_6 : iv 0 900 pz0_6) (bpz0_7 : iv 0 900 pz0_7) (bpz0_8 : iv 0 900 pz0_8) (bpz0_10 : iv 0 999 pz0_10) (bpz0_11 : iv 0 4 pz0_11) (bpz0_12 : iv 0 900 pz0_12) (bpz0_13 : iv 0 4 pz0_13) (bpz0_14 : iv (-1) 900 pz0_14) (bpz0_18 : iv 0 2 pz0_18) (bpz0_22 : iv 0 9999 pz0_22) (bpz0_29 : iv 0 10000 pz0_29) (hf0 : PT pz0_6 pz0_7 pz0_8 pz0_9) (hf1 : PS pz0_11 pz0_6 fz4) : Ct l V yX10_readBoth (.code yX10_readBoth cX10_readBoth 2 none) 53 [.ref (z 0), .int 0] [(z 4, aI V 1025 fz4), (z 0, .inr (10, mo z pz0_0 pz0_5 pz0_6 pz0_7 pz0_8 pz0_9 pz0_10 pz0_11 pz0_12 pz0_13 pz0_14 pz0_18 pz0_19 pz0_22 pz0_23 pz0_29)), (z 3, aI V 900 fz3)] 0 0 (QV V (fun (w : va_W) => ∃ (g0 : Nat → Int32) (v1 : Int32) (v2 : Int32) (v3 : Int32) (v4 : Int32) (v5 : Int32) (v6 : Int32), (ivT tF g0) ∧ iv 0 900 v1 ∧ iv 0 900 v2 ∧ iv 0 999 v4 ∧ iv 0 4 v5 ∧ iv 0 900 v6 ∧ (PT v1 v2 pz0_8 v3) ∧ (PS v5 v1 g0) ∧ ((pz0_6 : Int32).toInt ≤ (v1 : Int32).toInt) ∧ (RX pz0_11 pz0_6 fz4 v5 v1 g0 1 0) ∧ w = [(z 4, aI V 1025 g0), (z 0, .inr (10, mo z pz0_0 pz0_5 v1 v2 pz0_8 v3 v4 v5 v6 pz0_13 pz0_14 pz0_18 pz0_19 pz0_22 pz0_23 pz0_29)), (z 3, aI V 900 fz3)])) := by
  refine Ct.of (by decide) (Nat.le_of_ble_eq_true rfl) (fun p e s m below meth c A ls hx hb hr hml hown hlk hnm hg hP hK hD hE hA hS hl => ?_)
  have hl : lv_has ls 2 [(0, .ref (z 0)), (1, .int 0)] := hl
  refine lv_aload_n hx hb dX10_readBoth_0 rfl (lv_at hl 0 rfl) ?_
  refine lv_iload_n hx hb dX10_readBoth_1 rfl (lv_at hl 1 rfl) ?_
  refine jnV (wr := []) (rnV (rest := []) ⟨hx, hb, hml, hown, hg⟩ (k_X10_readUnit_6 l V z fz4 pz0_0 pz0_5 pz0_6 pz0_7 pz0_8 pz0_9 pz0_10 pz0_11 pz0_12 pz0_13 pz0_14 pz0_18 pz0_19 pz0_22 pz0_23 pz0_29 fz3 tfz4 bpz0_5 bpz0_6 bpz0_7 bpz0_8 bpz0_10 bpz0_11 bpz0_12 bpz0_13 bpz0_14 bpz0_18 bpz0_22 bpz0_29 hf0 hf1) mt_X10_readUnit q_6_223 ⟨Nat.le_of_ble_eq_true rfl, Nat.le_of_ble_eq_true rfl⟩ hK hP hD hS hA hE [0, 1, 2] rfl rfl 1 rfl rfl rfl rfl hl.1 rfl (Nat.le_of_ble_eq_true rfl) dX10_readBoth_2 ⟨Nat.le_of_ble_eq_true rfl, Nat.le_of_ble_eq_true rfl⟩) hP hD hS hA [0, 1, 2] [] rfl rfl rfl (by decide) (fun  w H locs hw hP hD hS => ?_)
  obtain ⟨f_1, v_2, v_3, v_4, v_5, v_6, v_7, tf_1, bv_2, bv_3, bv_5, bv_6, bv_7, g_8, g_9, g_10, g_11, rfl⟩ := hw
  have hP : va_P V.1 vwCl [(z 4, aI V 1025 f_1), (z 0, .inr (10, mo z pz0_0 pz0_5 v_2 v_3 pz0_8 v_4 v_5 v_6 v_7 pz0_13 pz0_14 pz0_18 pz0_19 pz0_22 pz0_23 pz0_29)), (z 3, aI V 900 fz3)] H := hP
  have hD : va_D A [(z 4, aI V 1025 f_1), (z 0, .inr (10, mo z pz0_0 pz0_5 v_2 v_3 pz0_8 v_4 v_5 v_6 v_7 pz0_13 pz0_14 pz0_18 pz0_19 pz0_22 pz0_23 pz0_29)), (z 3, aI V 900 fz3)] := hD
  have rx_12 : RX pz0_11 pz0_6 fz4 v_6 v_2 f_1 1 ((0 : Int)) := by have q9 := RX_seq (by decide) (RX_0 (w := pz0_11) (a := pz0_6) tfz4) g_11; exact RX_w q9 (by omega)
  refine loopF (X := fun (n_20 : Nat) (H : Heap) (locs : List Loc) (ls : Array Slot) => ∃ (f_13 : Nat → Int32) (u_14 : Int32) (u_15 : Int32) (u_16 : Int32) (u_17 : Int32) (u_18 : Int32) (u_19 : Int32), (ivT tF f_13) ∧ (iv 0 900 u_14) ∧ (iv 0 900 u_15) ∧ (iv 0 999 u_17) ∧ (iv 0 4 u_18) ∧ (iv 0 900 u_19) ∧ ((pz0_6 : Int32).toInt ≤ (u_14 : Int32).toInt) ∧ (RX pz0_11 pz0_6 fz4 u_18 u_14 f_13 1 0) ∧ (PT u_14 u_15 pz0_8 u_16) ∧ (PS u_18 u_14 f_13) ∧ n_20 = (900 - (u_14 : Int32).toInt).toNat ∧ va_P V.1 vwCl [(z 4, aI V 1025 f_13), (z 0, .inr (10, mo z pz0_0 pz0_5 u_14 u_15 pz0_8 u_16 u_17 u_18 u_19 pz0_13 pz0_14 pz0_18 pz0_19 pz0_22 pz0_23 pz0_29)), (z 3, aI V 900 fz3)] H ∧ va_D A [(z 4, aI V 1025 f_13), (z 0, .inr (10, mo z pz0_0 pz0_5 u_14 u_15 pz0_8 u_16 u_17 u_18 u_19 pz0_13 pz0_14 pz0_18 pz0_19 pz0_22 pz0_23 pz0_29)), (z 3, aI V 900 fz3)] ∧ va_S A s.heap H locs ∧ lv_has ls 2 [(0, .ref (z 0)), (1, .int 0)]) (g := fun ls => F0 m 5 ls []) (fun n_20 H locs ls hX ihn_20 => ?_) _ ⟨f_1, v_2, v_3, v_4, v_5, v_6, v_7, tf_1, bv_2, bv_3, bv_5, bv_6, bv_7, (by have z_0 := g_10;have y_0 := hf0.1; have y_1 := g_8.1; omega), (RX_w rx_12 (by omega)), g_8, g_9, rfl, hP, hD, hS, lv_sub hl [0, 1] rfl⟩
  obtain ⟨f_13, u_14, u_15, u_16, u_17, u_18, u_19, tf_13, bu_14, bu_15, bu_17, bu_18, bu_19, inn_20_0, inn_20_1, inn_20_2, inn_20_3, en_20, hP, hD, hS, hl⟩ := hX
  refine lv_aload_n hx hb dX10_readBoth_5 rfl (lv_at hl 0 rfl) ?_
  refine lv_bipush (v := 19) hx hb dX10_readBoth_6 (by decide) ?_
  refine jnI (wr := [(z 4, aI V 1025 f_13)]) (rnV (rest := []) ⟨hx, hb, hml, hown, hg⟩ (k_X10_eats_5 l V z fz3 pz0_0 pz0_5 u_14 u_15 pz0_8 u_16 u_17 u_18 u_19 pz0_13 pz0_14 pz0_18 pz0_19 pz0_22 pz0_23 pz0_29 bpz0_5 bu_14 bu_15 bpz0_8 bu_17 bu_18 bu_19 bpz0_13 bpz0_14 bpz0_18 bpz0_22 bpz0_29 inn_20_2) mt_X10_eats q_6_139 ⟨Nat.le_of_ble_eq_true rfl, Nat.le_of_ble_eq_true rfl⟩ hK hP hD hS hA hE [2, 1] rfl rfl 1 rfl rfl rfl rfl hl.1 rfl (Nat.le_of_ble_eq_true rfl) dX10_readBoth_8 ⟨Nat.le_of_ble_eq_true rfl, Nat.le_of_ble_eq_true rfl⟩) hP hD hS hA [2, 1] [0] rfl rfl rfl (by decide) (fun r_21 w H locs hw hP hD hS => ?_)
  obtain ⟨v_22, v_23, v_24, v_25, bv_22, bv_23, bv_25, br_21, g_26, g_27, g_28, g_29, rfl⟩ := hw
  have hP : va_P V.1 vwCl [(z 4, aI V 1025 f_13), (z 3, aI V 900 fz3), (z 0, .inr (10, mo z pz0_0 pz0_5 v_22 v_23 pz0_8 v_24 v_25 u_18 u_19 pz0_13 pz0_14 pz0_18 pz0_19 pz0_22 pz0_23 pz0_29))] H := hP
  have hD : va_D A [(z 4, aI V 1025 f_13), (z 3, aI V 900 fz3), (z 0, .inr (10, mo z pz0_0 pz0_5 v_22 v_23 pz0_8 v_24 v_25 u_18 u_19 pz0_13 pz0_14 pz0_18 pz0_19 pz0_22 pz0_23 pz0_29))] := hD
  have rx_30 : RX pz0_11 pz0_6 fz4 u_18 v_22 f_13 1 ((0 : Int) + adv r_21) := by have q9 := RX_a inn_20_1 (fun q8 => q8) (adv_le g_27 g_29); exact RX_w q9 (by omega)
  refine lv_if_eq (tgt := 29) hx hb dX10_readBoth_11 (by decide) (fun c_31 => ?_) (fun c_31 => ?_)
  · have b_32 : iv 0 0 r_21 := iv_q c_31 (iv_c (0 : Int32) (a := 0) (b := 0) (by decide))
    have hP := subP (ws' := [(z 4, aI V 1025 f_13), (z 0, .inr (10, mo z pz0_0 pz0_5 v_22 v_23 pz0_8 v_24 v_25 u_18 u_19 pz0_13 pz0_14 pz0_18 pz0_19 pz0_22 pz0_23 pz0_29)), (z 3, aI V 900 fz3)]) hP [0, 2, 1] rfl
    have hD := hD.sub (ws' := [(z 4, aI V 1025 f_13), (z 0, .inr (10, mo z pz0_0 pz0_5 v_22 v_23 pz0_8 v_24 v_25 u_18 u_19 pz0_13 pz0_14 pz0_18 pz0_19 pz0_22 pz0_23 pz0_29)), (z 3, aI V 900 fz3)]) [0, 2, 1] rfl rfl
    exact fiV hx hb hr hlk hK hP hD hS dX10_readBoth_29 (Nat.le_of_ble_eq_true rfl) (Nat.le_of_ble_eq_true rfl) (⟨f_13, v_22, v_23, v_24, v_25, u_18, u_19, tf_13, bv_22, bv_23, bv_25, bu_18, bu_19, g_26, (PS_x hf1 rx_30 (by have z_r_21 := adv_0 r_21; omega)), (by have z_0 := g_10; have z_1 := inn_20_0; have z_2 := g_27;have y_0 := hf0.1; have y_1 := g_8.1; have y_2 := inn_20_2.1; have y_3 := g_26.1; omega), (RX_w rx_30 (by have z_r_21 := adv_0 r_21; omega)), rfl⟩)
  · have b_33 : iv 1 1 r_21 := iv_n0 c_31 br_21 (iv_c (0 : Int32) (a := 0) (b := 0) (by decide)) (by decide)
    have c_34 : u_18 = 0 := (g_28 (iv_eqp b_33 (iv_c (1 : Int32) (by decide))))
    have b_35 : iv 0 0 u_18 := iv_q c_34 (iv_c (0 : Int32) (a := 0) (b := 0) (by decide))
    refine lv_aload_n hx hb dX10_readBoth_14 rfl (lv_at hl 0 rfl) ?_
    refine lv_iload_n hx hb dX10_readBoth_15 rfl (lv_at hl 1 rfl) ?_
    refine jnV (wr := []) (rnV (rest := []) ⟨hx, hb, hml, hown, hg⟩ (k_X10_readUnit_6 l V z f_13 pz0_0 pz0_5 v_22 v_23 pz0_8 v_24 v_25 u_18 u_19 pz0_13 pz0_14 pz0_18 pz0_19 pz0_22 pz0_23 pz0_29 fz3 tf_13 bpz0_5 bv_22 bv_23 bpz0_8 bv_25 (iv_w b_35 (by decide)) bu_19 bpz0_13 bpz0_14 bpz0_18 bpz0_22 bpz0_29 g_26 (PS_x hf1 rx_30 (by have z_r_21 := adv_1 (iv_eqp b_33 (iv_c (1 : Int32) (by decide))); omega))) mt_X10_readUnit q_6_223 ⟨Nat.le_of_ble_eq_true rfl, Nat.le_of_ble_eq_true rfl⟩ hK hP hD hS hA hE [0, 2, 1] rfl rfl 2 rfl rfl rfl rfl hl.1 rfl (Nat.le_of_ble_eq_true rfl) dX10_readBoth_16 ⟨Nat.le_of_ble_eq_true rfl, Nat.le_of_ble_eq_true rfl⟩) hP hD hS hA [0, 2, 1] [] rfl rfl rfl (by decide) (fun  w H locs hw hP hD hS => ?_)
    obtain ⟨f_36, v_37, v_38, v_39, v_40, v_41, v_42, tf_36, bv_37, bv_38, bv_40, bv_41, bv_42, g_43, g_44, g_45, g_46, rfl⟩ := hw
    have hP : va_P V.1 vwCl [(z 4, aI V 1025 f_36), (z 0, .inr (10, mo z pz0_0 pz0_5 v_37 v_38 pz0_8 v_39 v_40 v_41 v_42 pz0_13 pz0_14 pz0_18 pz0_19 pz0_22 pz0_23 pz0_29)), (z 3, aI V 900 fz3)] H := hP
    have hD : va_D A [(z 4, aI V 1025 f_36), (z 0, .inr (10, mo z pz0_0 pz0_5 v_37 v_38 pz0_8 v_39 v_40 v_41 v_42 pz0_13 pz0_14 pz0_18 pz0_19 pz0_22 pz0_23 pz0_29)), (z 3, aI V 900 fz3)] := hD
    have rx_47 : RX pz0_11 pz0_6 fz4 v_41 v_37 f_36 2 ((0 : Int) + adv r_21) := by have q9 := RX_seq (by decide) rx_30 g_46; exact RX_w q9 (by omega)
    refine lv_aload_n hx hb dX10_readBoth_19 rfl (lv_at hl 0 rfl) ?_
    refine lv_sipush (v := 3007) hx hb dX10_readBoth_20 (by decide) ?_
    refine jnV (wr := [(z 3, aI V 900 fz3)]) (rnV (rest := []) ⟨hx, hb, hml, hown, hg⟩ (k_X10_codes_0 l V z 3007 f_36 pz0_0 pz0_5 v_37 v_38 pz0_8 v_39 v_40 v_41 v_42 pz0_13 pz0_14 pz0_18 pz0_19 pz0_22 pz0_23 pz0_29 tf_36 bpz0_5 bv_37 bv_38 bpz0_8 bv_40 bv_41 bv_42 bpz0_13 bpz0_14 bpz0_18 bpz0_22 bpz0_29 (PS_n hf1 rx_47 bv_37 (by decide) (by have z_r_21 := adv_1 (iv_eqp b_33 (iv_c (1 : Int32) (by decide))); omega))) mt_X10_codes q_6_199 ⟨Nat.le_of_ble_eq_true rfl, Nat.le_of_ble_eq_true rfl⟩ hK hP hD hS hA hE [0, 1] rfl rfl 1 rfl rfl rfl rfl hl.1 rfl (Nat.le_of_ble_eq_true rfl) dX10_readBoth_23 ⟨Nat.le_of_ble_eq_true rfl, Nat.le_of_ble_eq_true rfl⟩) hP hD hS hA [0, 1] [2] rfl rfl rfl (by decide) (fun  w H locs hw hP hD hS => ?_)
    obtain ⟨f_48, tf_48, g_49, g_50, rfl⟩ := hw
    have hP : va_P V.1 vwCl [(z 3, aI V 900 fz3), (z 4, aI V 1025 f_48), (z 0, .inr (10, mo z pz0_0 pz0_5 v_37 v_38 pz0_8 v_39 v_40 v_41 v_42 pz0_13 pz0_14 pz0_18 pz0_19 pz0_22 pz0_23 pz0_29))] H := hP
    have hD : va_D A [(z 3, aI V 900 fz3), (z 4, aI V 1025 f_48), (z 0, .inr (10, mo z pz0_0 pz0_5 v_37 v_38 pz0_8 v_39 v_40 v_41 v_42 pz0_13 pz0_14 pz0_18 pz0_19 pz0_22 pz0_23 pz0_29))] := hD
    have rx_51 : RX pz0_11 pz0_6 fz4 v_41 v_37 f_48 1 ((-1 : Int) + adv r_21) := by have q9 := RX_c rx_47 tf_36 g_49 (by decide) ⟨by decide, by decide⟩ (by decide) (PS_n hf1 rx_47 bv_37 (by decide) (by have z_r_21 := adv_1 (iv_eqp b_33 (iv_c (1 : Int32) (by decide))); omega)); rw [(by decide : eff (3007 : Int32) = -1)] at q9; exact RX_w q9 (by omega)
    refine lv_goto (tgt := 5) hx hb dX10_readBoth_26 (by decide) ?_
    have hP := subP (ws' := [(z 4, aI V 1025 f_48), (z 0, .inr (10, mo z pz0_0 pz0_5 v_37 v_38 pz0_8 v_39 v_40 v_41 v_42 pz0_13 pz0_14 pz0_18 pz0_19 pz0_22 pz0_23 pz0_29)), (z 3, aI V 900 fz3)]) hP [1, 2, 0] rfl
    have hD := hD.sub (ws' := [(z 4, aI V 1025 f_48), (z 0, .inr (10, mo z pz0_0 pz0_5 v_37 v_38 pz0_8 v_39 v_40 v_41 v_42 pz0_13 pz0_14 pz0_18 pz0_19 pz0_22 pz0_23 pz0_29)), (z 3, aI V 900 fz3)]) [1, 2, 0] rfl rfl
    exact ihn_20 _ _ _ _ (by rw [en_20]; have z_0 := g_10; have z_1 := inn_20_0; have z_2 := g_27; have z_3 := g_45; have z_4 := (g_29 (iv_eqp b_33 (iv_c (1 : Int32) (by decide)))); have z_5 := hf0.1; have z_6 := g_8.1; have z_7 := inn_20_2.1; have z_8 := g_26.1; have z_9 := g_43.1; have q9 := bv_37; unfold iv at q9; omega) ⟨f_48, v_37, v_38, v_39, v_40, v_41, v_42, tf_48, bv_37, bv_38, bv_40, bv_41, bv_42, (by have z_0 := g_10; have z_1 := inn_20_0; have z_2 := g_27; have z_3 := g_45;have y_0 := hf0.1; have y_1 := g_8.1; have y_2 := inn_20_2.1; have y_3 := g_26.1; have y_4 := g_43.1; omega), (RX_w rx_51 (by have z_r_21 := adv_1 (iv_eqp b_33 (iv_c (1 : Int32) (by decide))); omega)), g_43, (PS_x hf1 rx_51 (by have z_r_21 := adv_1 (iv_eqp b_33 (iv_c (1 : Int32) (by decide))); omega)), rfl, hP, hD, hS, lv_sub hl [0, 1] rfl⟩
set_option maxHeartbeats 4000000 in
set_option maxRecDepth 100000 in
theorem k_X10_readTruth_6 (l : Launch) (V : GV) (z : Nat → Nat) (fz4 : Nat → Int32) (pz0_0 : Int32) (pz0_5 : Int32) (pz0_6 : Int32) (pz0_7 : Int32) (pz0_8 : Int32) (pz0_9 : Int32) (pz0_10 : Int32) (pz0_11 : Int32) (pz0_12 : Int32) (pz0_13 : Int32) (pz0_14 : Int32) (pz0_18 : Int32) (pz0_19 : Int32) (pz0_22 : Int32) (pz0_23 : Int32) (pz0_29 : Int32) (fz3 : Nat → Int32) (tfz4 : ivT tF fz4) (bpz0_5 : iv 0 900 pz0_5) (bpz0_6 : iv 0 900 pz0_6) (bpz0_7 : iv 0 900 pz0_7) (bpz0_8 : iv 0 900 pz0_8) (bpz0_10 : iv 0 999 pz0_10) (bpz0_11 : iv 0 4 pz0_11) (bpz0_12 : iv 0 900 pz0_12) (bpz0_13 : iv 0 4 pz0_13) (bpz0_14 : iv (-1) 900 pz0_14) (bpz0_18 : iv 0 2 pz0_18) (bpz0_22 : iv 0 9999 pz0_22) (bpz0_29 : iv 0 10000 pz0_29) (hf0 : PT pz0_6 pz0_7 pz0_8 pz0_9) (hf1 : PS pz0_11 pz0_6 fz4) : Ct l V yX10_readTruth (.code yX10_readTruth cX10_readTruth 2 none) 54 [.ref (z 0), .int 0] [(z 4, aI V 1025 fz4), (z 0, .inr (10, mo z pz0_0 pz0_5 pz0_6 pz0_7 pz0_8 pz0_9 pz0_10 pz0_11 pz0_12 pz0_13 pz0_14 pz0_18 pz0_19 pz0_22 pz0_23 pz0_29)), (z 3, aI V 900 fz3)] 0 0 (QV V (fun (w : va_W) => ∃ (g0 : Nat → Int32) (v1 : Int32) (v2 : Int32) (v3 : Int32) (v4 : Int32) (v5 : Int32) (v6 : Int32), (ivT tF g0) ∧ iv 0 900 v1 ∧ iv 0 900 v2 ∧ iv 0 999 v4 ∧ iv 0 4 v5 ∧ iv 0 900 v6 ∧ (PT v1 v2 pz0_8 v3) ∧ (PS v5 v1 g0) ∧ ((pz0_6 : Int32).toInt ≤ (v1 : Int32).toInt) ∧ (RX pz0_11 pz0_6 fz4 v5 v1 g0 1 0) ∧ w = [(z 4, aI V 1025 g0), (z 0, .inr (10, mo z pz0_0 pz0_5 v1 v2 pz0_8 v3 v4 v5 v6 pz0_13 pz0_14 pz0_18 pz0_19 pz0_22 pz0_23 pz0_29)), (z 3, aI V 900 fz3)])) := by
  refine Ct.of (by decide) (Nat.le_of_ble_eq_true rfl) (fun p e s m below meth c A ls hx hb hr hml hown hlk hnm hg hP hK hD hE hA hS hl => ?_)
  have hl : lv_has ls 2 [(0, .ref (z 0)), (1, .int 0)] := hl
  refine lv_aload_n hx hb dX10_readTruth_0 rfl (lv_at hl 0 rfl) ?_
  refine lv_iload_n hx hb dX10_readTruth_1 rfl (lv_at hl 1 rfl) ?_
  refine jnV (wr := []) (rnV (rest := []) ⟨hx, hb, hml, hown, hg⟩ (k_X10_readBoth_6 l V z fz4 pz0_0 pz0_5 pz0_6 pz0_7 pz0_8 pz0_9 pz0_10 pz0_11 pz0_12 pz0_13 pz0_14 pz0_18 pz0_19 pz0_22 pz0_23 pz0_29 fz3 tfz4 bpz0_5 bpz0_6 bpz0_7 bpz0_8 bpz0_10 bpz0_11 bpz0_12 bpz0_13 bpz0_14 bpz0_18 bpz0_22 bpz0_29 hf0 hf1) mt_X10_readBoth q_6_219 ⟨Nat.le_of_ble_eq_true rfl, Nat.le_of_ble_eq_true rfl⟩ hK hP hD hS hA hE [0, 1, 2] rfl rfl 1 rfl rfl rfl rfl hl.1 rfl (Nat.le_of_ble_eq_true rfl) dX10_readTruth_2 ⟨Nat.le_of_ble_eq_true rfl, Nat.le_of_ble_eq_true rfl⟩) hP hD hS hA [0, 1, 2] [] rfl rfl rfl (by decide) (fun  w H locs hw hP hD hS => ?_)
  obtain ⟨f_1, v_2, v_3, v_4, v_5, v_6, v_7, tf_1, bv_2, bv_3, bv_5, bv_6, bv_7, g_8, g_9, g_10, g_11, rfl⟩ := hw
  have hP : va_P V.1 vwCl [(z 4, aI V 1025 f_1), (z 0, .inr (10, mo z pz0_0 pz0_5 v_2 v_3 pz0_8 v_4 v_5 v_6 v_7 pz0_13 pz0_14 pz0_18 pz0_19 pz0_22 pz0_23 pz0_29)), (z 3, aI V 900 fz3)] H := hP
  have hD : va_D A [(z 4, aI V 1025 f_1), (z 0, .inr (10, mo z pz0_0 pz0_5 v_2 v_3 pz0_8 v_4 v_5 v_6 v_7 pz0_13 pz0_14 pz0_18 pz0_19 pz0_22 pz0_23 pz0_29)), (z 3, aI V 900 fz3)] := hD
  have rx_12 : RX pz0_11 pz0_6 fz4 v_6 v_2 f_1 1 ((0 : Int)) := by have q9 := RX_seq (by decide) (RX_0 (w := pz0_11) (a := pz0_6) tfz4) g_11; exact RX_w q9 (by omega)
  refine loopF (X := fun (n_20 : Nat) (H : Heap) (locs : List Loc) (ls : Array Slot) => ∃ (f_13 : Nat → Int32) (u_14 : Int32) (u_15 : Int32) (u_16 : Int32) (u_17 : Int32) (u_18 : Int32) (u_19 : Int32), (ivT tF f_13) ∧ (iv 0 900 u_14) ∧ (iv 0 900 u_15) ∧ (iv 0 999 u_17) ∧ (iv 0 4 u_18) ∧ (iv 0 900 u_19) ∧ ((pz0_6 : Int32).toInt ≤ (u_14 : Int32).toInt) ∧ (RX pz0_11 pz0_6 fz4 u_18 u_14 f_13 1 0) ∧ (PT u_14 u_15 pz0_8 u_16) ∧ (PS u_18 u_14 f_13) ∧ n_20 = (900 - (u_14 : Int32).toInt).toNat ∧ va_P V.1 vwCl [(z 4, aI V 1025 f_13), (z 0, .inr (10, mo z pz0_0 pz0_5 u_14 u_15 pz0_8 u_16 u_17 u_18 u_19 pz0_13 pz0_14 pz0_18 pz0_19 pz0_22 pz0_23 pz0_29)), (z 3, aI V 900 fz3)] H ∧ va_D A [(z 4, aI V 1025 f_13), (z 0, .inr (10, mo z pz0_0 pz0_5 u_14 u_15 pz0_8 u_16 u_17 u_18 u_19 pz0_13 pz0_14 pz0_18 pz0_19 pz0_22 pz0_23 pz0_29)), (z 3, aI V 900 fz3)] ∧ va_S A s.heap H locs ∧ lv_has ls 2 [(0, .ref (z 0)), (1, .int 0)]) (g := fun ls => F0 m 5 ls []) (fun n_20 H locs ls hX ihn_20 => ?_) _ ⟨f_1, v_2, v_3, v_4, v_5, v_6, v_7, tf_1, bv_2, bv_3, bv_5, bv_6, bv_7, (by have z_0 := g_10;have y_0 := hf0.1; have y_1 := g_8.1; omega), (RX_w rx_12 (by omega)), g_8, g_9, rfl, hP, hD, hS, lv_sub hl [0, 1] rfl⟩
  obtain ⟨f_13, u_14, u_15, u_16, u_17, u_18, u_19, tf_13, bu_14, bu_15, bu_17, bu_18, bu_19, inn_20_0, inn_20_1, inn_20_2, inn_20_3, en_20, hP, hD, hS, hl⟩ := hX
  refine lv_aload_n hx hb dX10_readTruth_5 rfl (lv_at hl 0 rfl) ?_
  refine lv_bipush (v := 20) hx hb dX10_readTruth_6 (by decide) ?_
  refine jnI (wr := [(z 4, aI V 1025 f_13)]) (rnV (rest := []) ⟨hx, hb, hml, hown, hg⟩ (k_X10_eats_6 l V z fz3 pz0_0 pz0_5 u_14 u_15 pz0_8 u_16 u_17 u_18 u_19 pz0_13 pz0_14 pz0_18 pz0_19 pz0_22 pz0_23 pz0_29 bpz0_5 bu_14 bu_15 bpz0_8 bu_17 bu_18 bu_19 bpz0_13 bpz0_14 bpz0_18 bpz0_22 bpz0_29 inn_20_2) mt_X10_eats q_6_139 ⟨Nat.le_of_ble_eq_true rfl, Nat.le_of_ble_eq_true rfl⟩ hK hP hD hS hA hE [2, 1] rfl rfl 1 rfl rfl rfl rfl hl.1 rfl (Nat.le_of_ble_eq_true rfl) dX10_readTruth_8 ⟨Nat.le_of_ble_eq_true rfl, Nat.le_of_ble_eq_true rfl⟩) hP hD hS hA [2, 1] [0] rfl rfl rfl (by decide) (fun r_21 w H locs hw hP hD hS => ?_)
  obtain ⟨v_22, v_23, v_24, v_25, bv_22, bv_23, bv_25, br_21, g_26, g_27, g_28, g_29, rfl⟩ := hw
  have hP : va_P V.1 vwCl [(z 4, aI V 1025 f_13), (z 3, aI V 900 fz3), (z 0, .inr (10, mo z pz0_0 pz0_5 v_22 v_23 pz0_8 v_24 v_25 u_18 u_19 pz0_13 pz0_14 pz0_18 pz0_19 pz0_22 pz0_23 pz0_29))] H := hP
  have hD : va_D A [(z 4, aI V 1025 f_13), (z 3, aI V 900 fz3), (z 0, .inr (10, mo z pz0_0 pz0_5 v_22 v_23 pz0_8 v_24 v_25 u_18 u_19 pz0_13 pz0_14 pz0_18 pz0_19 pz0_22 pz0_23 pz0_29))] := hD
  have rx_30 : RX pz0_11 pz0_6 fz4 u_18 v_22 f_13 1 ((0 : Int) + adv r_21) := by have q9 := RX_a inn_20_1 (fun q8 => q8) (adv_le g_27 g_29); exact RX_w q9 (by omega)
  refine lv_if_eq (tgt := 29) hx hb dX10_readTruth_11 (by decide) (fun c_31 => ?_) (fun c_31 => ?_)
  · have b_32 : iv 0 0 r_21 := iv_q c_31 (iv_c (0 : Int32) (a := 0) (b := 0) (by decide))
    have hP := subP (ws' := [(z 4, aI V 1025 f_13), (z 0, .inr (10, mo z pz0_0 pz0_5 v_22 v_23 pz0_8 v_24 v_25 u_18 u_19 pz0_13 pz0_14 pz0_18 pz0_19 pz0_22 pz0_23 pz0_29)), (z 3, aI V 900 fz3)]) hP [0, 2, 1] rfl
    have hD := hD.sub (ws' := [(z 4, aI V 1025 f_13), (z 0, .inr (10, mo z pz0_0 pz0_5 v_22 v_23 pz0_8 v_24 v_25 u_18 u_19 pz0_13 pz0_14 pz0_18 pz0_19 pz0_22 pz0_23 pz0_29)), (z 3, aI V 900 fz3)]) [0, 2, 1] rfl rfl
    exact fiV hx hb hr hlk hK hP hD hS dX10_readTruth_29 (Nat.le_of_ble_eq_true rfl) (Nat.le_of_ble_eq_true rfl) (⟨f_13, v_22, v_23, v_24, v_25, u_18, u_19, tf_13, bv_22, bv_23, bv_25, bu_18, bu_19, g_26, (PS_x hf1 rx_30 (by have z_r_21 := adv_0 r_21; omega)), (by have z_0 := g_10; have z_1 := inn_20_0; have z_2 := g_27;have y_0 := hf0.1; have y_1 := g_8.1; have y_2 := inn_20_2.1; have y_3 := g_26.1; omega), (RX_w rx_30 (by have z_r_21 := adv_0 r_21; omega)), rfl⟩)
  · have b_33 : iv 1 1 r_21 := iv_n0 c_31 br_21 (iv_c (0 : Int32) (a := 0) (b := 0) (by decide)) (by decide)
    have c_34 : u_18 = 0 := (g_28 (iv_eqp b_33 (iv_c (1 : Int32) (by decide))))
    have b_35 : iv 0 0 u_18 := iv_q c_34 (iv_c (0 : Int32) (a := 0) (b := 0) (by decide))
    refine lv_aload_n hx hb dX10_readTruth_14 rfl (lv_at hl 0 rfl) ?_
    refine lv_iload_n hx hb dX10_readTruth_15 rfl (lv_at hl 1 rfl) ?_
    refine jnV (wr := []) (rnV (rest := []) ⟨hx, hb, hml, hown, hg⟩ (k_X10_readBoth_6 l V z f_13 pz0_0 pz0_5 v_22 v_23 pz0_8 v_24 v_25 u_18 u_19 pz0_13 pz0_14 pz0_18 pz0_19 pz0_22 pz0_23 pz0_29 fz3 tf_13 bpz0_5 bv_22 bv_23 bpz0_8 bv_25 (iv_w b_35 (by decide)) bu_19 bpz0_13 bpz0_14 bpz0_18 bpz0_22 bpz0_29 g_26 (PS_x hf1 rx_30 (by have z_r_21 := adv_1 (iv_eqp b_33 (iv_c (1 : Int32) (by decide))); omega))) mt_X10_readBoth q_6_219 ⟨Nat.le_of_ble_eq_true rfl, Nat.le_of_ble_eq_true rfl⟩ hK hP hD hS hA hE [0, 2, 1] rfl rfl 2 rfl rfl rfl rfl hl.1 rfl (Nat.le_of_ble_eq_true rfl) dX10_readTruth_16 ⟨Nat.le_of_ble_eq_true rfl, Nat.le_of_ble_eq_true rfl⟩) hP hD hS hA [0, 2, 1] [] rfl rfl rfl (by decide) (fun  w H locs hw hP hD hS => ?_)
    obtain ⟨f_36, v_37, v_38, v_39, v_40, v_41, v_42, tf_36, bv_37, bv_38, bv_40, bv_41, bv_42, g_43, g_44, g_45, g_46, rfl⟩ := hw
    have hP : va_P V.1 vwCl [(z 4, aI V 1025 f_36), (z 0, .inr (10, mo z pz0_0 pz0_5 v_37 v_38 pz0_8 v_39 v_40 v_41 v_42 pz0_13 pz0_14 pz0_18 pz0_19 pz0_22 pz0_23 pz0_29)), (z 3, aI V 900 fz3)] H := hP
    have hD : va_D A [(z 4, aI V 1025 f_36), (z 0, .inr (10, mo z pz0_0 pz0_5 v_37 v_38 pz0_8 v_39 v_40 v_41 v_42 pz0_13 pz0_14 pz0_18 pz0_19 pz0_22 pz0_23 pz0_29)), (z 3, aI V 900 fz3)] := hD
    have rx_47 : RX pz0_11 pz0_6 fz4 v_41 v_37 f_36 2 ((0 : Int) + adv r_21) := by have q9 := RX_seq (by decide) rx_30 g_46; exact RX_w q9 (by omega)
    refine lv_aload_n hx hb dX10_readTruth_19 rfl (lv_at hl 0 rfl) ?_
    refine lv_sipush (v := 3008) hx hb dX10_readTruth_20 (by decide) ?_
    refine jnV (wr := [(z 3, aI V 900 fz3)]) (rnV (rest := []) ⟨hx, hb, hml, hown, hg⟩ (k_X10_codes_0 l V z 3008 f_36 pz0_0 pz0_5 v_37 v_38 pz0_8 v_39 v_40 v_41 v_42 pz0_13 pz0_14 pz0_18 pz0_19 pz0_22 pz0_23 pz0_29 tf_36 bpz0_5 bv_37 bv_38 bpz0_8 bv_40 bv_41 bv_42 bpz0_13 bpz0_14 bpz0_18 bpz0_22 bpz0_29 (PS_n hf1 rx_47 bv_37 (by decide) (by have z_r_21 := adv_1 (iv_eqp b_33 (iv_c (1 : Int32) (by decide))); omega))) mt_X10_codes q_6_199 ⟨Nat.le_of_ble_eq_true rfl, Nat.le_of_ble_eq_true rfl⟩ hK hP hD hS hA hE [0, 1] rfl rfl 1 rfl rfl rfl rfl hl.1 rfl (Nat.le_of_ble_eq_true rfl) dX10_readTruth_23 ⟨Nat.le_of_ble_eq_true rfl, Nat.le_of_ble_eq_true rfl⟩) hP hD hS hA [0, 1] [2] rfl rfl rfl (by decide) (fun  w H locs hw hP hD hS => ?_)
    obtain ⟨f_48, tf_48, g_49, g_50, rfl⟩ := hw
    have hP : va_P V.1 vwCl [(z 3, aI V 900 fz3), (z 4, aI V 1025 f_48), (z 0, .inr (10, mo z pz0_0 pz0_5 v_37 v_38 pz0_8 v_39 v_40 v_41 v_42 pz0_13 pz0_14 pz0_18 pz0_19 pz0_22 pz0_23 pz0_29))] H := hP
    have hD : va_D A [(z 3, aI V 900 fz3), (z 4, aI V 1025 f_48), (z 0, .inr (10, mo z pz0_0 pz0_5 v_37 v_38 pz0_8 v_39 v_40 v_41 v_42 pz0_13 pz0_14 pz0_18 pz0_19 pz0_22 pz0_23 pz0_29))] := hD
    have rx_51 : RX pz0_11 pz0_6 fz4 v_41 v_37 f_48 1 ((-1 : Int) + adv r_21) := by have q9 := RX_c rx_47 tf_36 g_49 (by decide) ⟨by decide, by decide⟩ (by decide) (PS_n hf1 rx_47 bv_37 (by decide) (by have z_r_21 := adv_1 (iv_eqp b_33 (iv_c (1 : Int32) (by decide))); omega)); rw [(by decide : eff (3008 : Int32) = -1)] at q9; exact RX_w q9 (by omega)
    refine lv_goto (tgt := 5) hx hb dX10_readTruth_26 (by decide) ?_
    have hP := subP (ws' := [(z 4, aI V 1025 f_48), (z 0, .inr (10, mo z pz0_0 pz0_5 v_37 v_38 pz0_8 v_39 v_40 v_41 v_42 pz0_13 pz0_14 pz0_18 pz0_19 pz0_22 pz0_23 pz0_29)), (z 3, aI V 900 fz3)]) hP [1, 2, 0] rfl
    have hD := hD.sub (ws' := [(z 4, aI V 1025 f_48), (z 0, .inr (10, mo z pz0_0 pz0_5 v_37 v_38 pz0_8 v_39 v_40 v_41 v_42 pz0_13 pz0_14 pz0_18 pz0_19 pz0_22 pz0_23 pz0_29)), (z 3, aI V 900 fz3)]) [1, 2, 0] rfl rfl
    exact ihn_20 _ _ _ _ (by rw [en_20]; have z_0 := g_10; have z_1 := inn_20_0; have z_2 := g_27; have z_3 := g_45; have z_4 := (g_29 (iv_eqp b_33 (iv_c (1 : Int32) (by decide)))); have z_5 := hf0.1; have z_6 := g_8.1; have z_7 := inn_20_2.1; have z_8 := g_26.1; have z_9 := g_43.1; have q9 := bv_37; unfold iv at q9; omega) ⟨f_48, v_37, v_38, v_39, v_40, v_41, v_42, tf_48, bv_37, bv_38, bv_40, bv_41, bv_42, (by have z_0 := g_10; have z_1 := inn_20_0; have z_2 := g_27; have z_3 := g_45;have y_0 := hf0.1; have y_1 := g_8.1; have y_2 := inn_20_2.1; have y_3 := g_26.1; have y_4 := g_43.1; omega), (RX_w rx_51 (by have z_r_21 := adv_1 (iv_eqp b_33 (iv_c (1 : Int32) (by decide))); omega)), g_43, (PS_x hf1 rx_51 (by have z_r_21 := adv_1 (iv_eqp b_33 (iv_c (1 : Int32) (by decide))); omega)), rfl, hP, hD, hS, lv_sub hl [0, 1] rfl⟩
theorem dX10_readLaw_0 : decode cX10_readLaw 0 = .ok (.aload_n 0, 1) := by decide +kernel
theorem dX10_readLaw_1 : decode cX10_readLaw 1 = .ok (.invokevirtual 152, 3) := by decide +kernel
theorem dX10_readLaw_4 : decode cX10_readLaw 4 = .ok (.aload_n 0, 1) := by decide +kernel
theorem dX10_readLaw_5 : decode cX10_readLaw 5 = .ok (.bipush 31, 2) := by decide +kernel
theorem dX10_readLaw_7 : decode cX10_readLaw 7 = .ok (.invokevirtual 175, 3) := by decide +kernel
theorem dX10_readLaw_10 : decode cX10_readLaw 10 = .ok (.ifCond .ne 8, 3) := by decide +kernel
theorem dX10_readLaw_18 : decode cX10_readLaw 18 = .ok (.aload_n 0, 1) := by decide +kernel
theorem dX10_readLaw_19 : decode cX10_readLaw 19 = .ok (.getfield 24, 3) := by decide +kernel
theorem dX10_readLaw_22 : decode cX10_readLaw 22 = .ok (.bipush 124, 2) := by decide +kernel
theorem dX10_readLaw_24 : decode cX10_readLaw 24 = .ok (.iaload, 1) := by decide +kernel
theorem dX10_readLaw_25 : decode cX10_readLaw 25 = .ok (.istore_n 2, 1) := by decide +kernel
theorem dX10_readLaw_26 : decode cX10_readLaw 26 = .ok (.iload_n 1, 1) := by decide +kernel
theorem dX10_readLaw_27 : decode cX10_readLaw 27 = .ok (.iconst 1, 1) := by decide +kernel
theorem dX10_readLaw_28 : decode cX10_readLaw 28 = .ok (.if_icmp .ne 11, 3) := by decide +kernel
theorem dX10_readLaw_39 : decode cX10_readLaw 39 = .ok (.aload_n 0, 1) := by decide +kernel
theorem dX10_readLaw_40 : decode cX10_readLaw 40 = .ok (.iconst 0, 1) := by decide +kernel
theorem dX10_readLaw_41 : decode cX10_readLaw 41 = .ok (.invokevirtual 181, 3) := by decide +kernel
theorem dX10_readLaw_44 : decode cX10_readLaw 44 = .ok (.aload_n 0, 1) := by decide +kernel
theorem dX10_readLaw_45 : decode cX10_readLaw 45 = .ok (.getfield 143, 3) := by decide +kernel
theorem dX10_readLaw_48 : decode cX10_readLaw 48 = .ok (.ifCond .eq 4, 3) := by decide +kernel
theorem dX10_readLaw_52 : decode cX10_readLaw 52 = .ok (.aload_n 0, 1) := by decide +kernel
theorem dX10_readLaw_53 : decode cX10_readLaw 53 = .ok (.getfield 24, 3) := by decide +kernel
theorem dX10_readLaw_56 : decode cX10_readLaw 56 = .ok (.iconst 4, 1) := by decide +kernel
theorem dX10_readLaw_57 : decode cX10_readLaw 57 = .ok (.iload_n 1, 1) := by decide +kernel
theorem dX10_readLaw_58 : decode cX10_readLaw 58 = .ok (.iadd, 1) := by decide +kernel
theorem dX10_readLaw_59 : decode cX10_readLaw 59 = .ok (.iconst 1, 1) := by decide +kernel
theorem dX10_readLaw_60 : decode cX10_readLaw 60 = .ok (.iastore, 1) := by decide +kernel
theorem dX10_readLaw_61 : decode cX10_readLaw 61 = .ok (.aload_n 0, 1) := by decide +kernel
theorem dX10_readLaw_62 : decode cX10_readLaw 62 = .ok (.getfield 24, 3) := by decide +kernel
theorem dX10_readLaw_65 : decode cX10_readLaw 65 = .ok (.bipush 6, 2) := by decide +kernel
theorem dX10_readLaw_67 : decode cX10_readLaw 67 = .ok (.iload_n 1, 1) := by decide +kernel
theorem dX10_readLaw_68 : decode cX10_readLaw 68 = .ok (.iadd, 1) := by decide +kernel
theorem dX10_readLaw_69 : decode cX10_readLaw 69 = .ok (.iload_n 2, 1) := by decide +kernel
theorem dX10_readLaw_70 : decode cX10_readLaw 70 = .ok (.iastore, 1) := by decide +kernel
theorem dX10_readLaw_71 : decode cX10_readLaw 71 = .ok (.aload_n 0, 1) := by decide +kernel
theorem dX10_readLaw_72 : decode cX10_readLaw 72 = .ok (.getfield 24, 3) := by decide +kernel
theorem dX10_readLaw_75 : decode cX10_readLaw 75 = .ok (.bipush 8, 2) := by decide +kernel
theorem dX10_readLaw_77 : decode cX10_readLaw 77 = .ok (.iload_n 1, 1) := by decide +kernel
theorem dX10_readLaw_78 : decode cX10_readLaw 78 = .ok (.iadd, 1) := by decide +kernel
theorem dX10_readLaw_79 : decode cX10_readLaw 79 = .ok (.aload_n 0, 1) := by decide +kernel
theorem dX10_readLaw_80 : decode cX10_readLaw 80 = .ok (.getfield 24, 3) := by decide +kernel
theorem dX10_readLaw_83 : decode cX10_readLaw 83 = .ok (.bipush 124, 2) := by decide +kernel
theorem dX10_readLaw_85 : decode cX10_readLaw 85 = .ok (.iaload, 1) := by decide +kernel
theorem dX10_readLaw_86 : decode cX10_readLaw 86 = .ok (.iload_n 2, 1) := by decide +kernel
theorem dX10_readLaw_87 : decode cX10_readLaw 87 = .ok (.isub, 1) := by decide +kernel
theorem dX10_readLaw_88 : decode cX10_readLaw 88 = .ok (.iastore, 1) := by decide +kernel
theorem dX10_readLaw_89 : decode cX10_readLaw 89 = .ok (.return_, 1) := by decide +kernel
theorem dX10_readLaw_51 : decode cX10_readLaw 51 = .ok (.return_, 1) := by decide +kernel
theorem dX10_readLaw_13 : decode cX10_readLaw 13 = .ok (.aload_n 0, 1) := by decide +kernel
theorem dX10_readLaw_14 : decode cX10_readLaw 14 = .ok (.iconst 2, 1) := by decide +kernel
theorem dX10_readLaw_15 : decode cX10_readLaw 15 = .ok (.invokevirtual 155, 3) := by decide +kernel
set_option maxHeartbeats 4000000 in
set_option maxRecDepth 100000 in
theorem k_X10_readLaw_0 (l : Launch) (V : GV) (z : Nat → Nat) (fz4 : Nat → Int32) (fz3 : Nat → Int32) (pz0_0 : Int32) (pz0_5 : Int32) (pz0_6 : Int32) (pz0_7 : Int32) (pz0_8 : Int32) (pz0_9 : Int32) (pz0_10 : Int32) (pz0_11 : Int32) (pz0_12 : Int32) (pz0_13 : Int32) (pz0_14 : Int32) (pz0_18 : Int32) (pz0_19 : Int32) (pz0_22 : Int32) (pz0_23 : Int32) (pz0_29 : Int32) (tfz4 : ivT tF fz4) (bpz0_5 : iv 0 900 pz0_5) (bpz0_6 : iv 0 900 pz0_6) (bpz0_7 : iv 0 900 pz0_7) (bpz0_8 : iv 0 900 pz0_8) (bpz0_10 : iv 0 999 pz0_10) (bpz0_11 : iv 0 4 pz0_11) (bpz0_12 : iv 0 900 pz0_12) (bpz0_13 : iv 0 4 pz0_13) (bpz0_14 : iv (-1) 900 pz0_14) (bpz0_18 : iv 0 2 pz0_18) (bpz0_22 : iv 0 9999 pz0_22) (bpz0_29 : iv 0 10000 pz0_29) (hf0 : PT pz0_6 pz0_7 pz0_8 pz0_9) (hf1 : PS pz0_11 pz0_6 fz4) : Ct l V yX10_readLaw (.code yX10_readLaw cX10_readLaw 3 none) 55 [.ref (z 0), .int 0] [(z 4, aI V 1025 fz4), (z 3, aI V 900 fz3), (z 0, .inr (10, mo z pz0_0 pz0_5 pz0_6 pz0_7 pz0_8 pz0_9 pz0_10 pz0_11 pz0_12 pz0_13 pz0_14 pz0_18 pz0_19 pz0_22 pz0_23 pz0_29))] 0 0 (QV V (fun (w : va_W) => ∃ (g0 : Nat → Int32) (v1 : Int32) (v2 : Int32) (v3 : Int32) (v4 : Int32) (v5 : Int32) (v6 : Int32), (ivT tF g0) ∧ iv 0 900 v1 ∧ iv 0 900 v2 ∧ iv 0 999 v4 ∧ iv 0 4 v5 ∧ iv 0 900 v6 ∧ (PT v1 v2 pz0_8 v3) ∧ (PS v5 v1 g0) ∧ ((pz0_6 : Int32).toInt ≤ (v1 : Int32).toInt) ∧ (v5 = 0 → pz0_11 = 0) ∧ w = [(z 4, aI V 1025 g0), (z 3, aI V 900 fz3), (z 0, .inr (10, mo z pz0_0 pz0_5 v1 v2 pz0_8 v3 v4 v5 v6 pz0_13 pz0_14 pz0_18 pz0_19 pz0_22 pz0_23 pz0_29))])) := by
  refine Ct.of (by decide) (Nat.le_of_ble_eq_true rfl) (fun p e s m below meth c A ls hx hb hr hml hown hlk hnm hg hP hK hD hE hA hS hl => ?_)
  have hl : lv_has ls 3 [(0, .ref (z 0)), (1, .int 0)] := hl
  refine lv_aload_n hx hb dX10_readLaw_0 rfl (lv_at hl 0 rfl) ?_
  refine jnV (wr := [(z 4, aI V 1025 fz4)]) (rnV (rest := []) ⟨hx, hb, hml, hown, hg⟩ (k_X10_next_0 l V z pz0_0 pz0_5 pz0_6 pz0_7 pz0_8 pz0_9 pz0_10 pz0_11 pz0_12 pz0_13 pz0_14 pz0_18 pz0_19 pz0_22 pz0_23 pz0_29 fz3 bpz0_5 bpz0_6 bpz0_7 bpz0_8 bpz0_10 bpz0_11 bpz0_12 bpz0_13 bpz0_14 bpz0_18 bpz0_22 bpz0_29 hf0.2.1) mt_X10_next q_6_117 ⟨Nat.le_of_ble_eq_true rfl, Nat.le_of_ble_eq_true rfl⟩ hK hP hD hS hA hE [2, 1] rfl rfl 2 rfl rfl rfl rfl hl.1 rfl (Nat.le_of_ble_eq_true rfl) dX10_readLaw_1 ⟨Nat.le_of_ble_eq_true rfl, Nat.le_of_ble_eq_true rfl⟩) hP hD hS hA [2, 1] [0] rfl rfl rfl (by decide) (fun  w H locs hw hP hD hS => ?_)
  obtain ⟨v_1, v_2, v_3, v_4, bv_1, bv_2, bv_4, g_5, g_6, rfl⟩ := hw
  have hP : va_P V.1 vwCl [(z 4, aI V 1025 fz4), (z 0, .inr (10, mo z pz0_0 pz0_5 v_1 v_2 pz0_8 v_3 v_4 pz0_11 pz0_12 pz0_13 pz0_14 pz0_18 pz0_19 pz0_22 pz0_23 pz0_29)), (z 3, aI V 900 fz3)] H := hP
  have hD : va_D A [(z 4, aI V 1025 fz4), (z 0, .inr (10, mo z pz0_0 pz0_5 v_1 v_2 pz0_8 v_3 v_4 pz0_11 pz0_12 pz0_13 pz0_14 pz0_18 pz0_19 pz0_22 pz0_23 pz0_29)), (z 3, aI V 900 fz3)] := hD
  refine lv_aload_n hx hb dX10_readLaw_4 rfl (lv_at hl 0 rfl) ?_
  refine lv_bipush (v := 31) hx hb dX10_readLaw_5 (by decide) ?_
  refine jnI (wr := [(z 4, aI V 1025 fz4)]) (rnV (rest := []) ⟨hx, hb, hml, hown, hg⟩ (k_X10_eats_3 l V z pz0_0 pz0_5 v_1 v_2 pz0_8 v_3 v_4 pz0_11 pz0_12 pz0_13 pz0_14 pz0_18 pz0_19 pz0_22 pz0_23 pz0_29 fz3 bpz0_5 bv_1 bv_2 bpz0_8 bv_4 bpz0_11 bpz0_12 bpz0_13 bpz0_14 bpz0_18 bpz0_22 bpz0_29 g_5) mt_X10_eats q_6_139 ⟨Nat.le_of_ble_eq_true rfl, Nat.le_of_ble_eq_true rfl⟩ hK hP hD hS hA hE [1, 2] rfl rfl 1 rfl rfl rfl rfl hl.1 rfl (Nat.le_of_ble_eq_true rfl) dX10_readLaw_7 ⟨Nat.le_of_ble_eq_true rfl, Nat.le_of_ble_eq_true rfl⟩) hP hD hS hA [1, 2] [0] rfl rfl rfl (by decide) (fun r_7 w H locs hw hP hD hS => ?_)
  obtain ⟨v_8, v_9, v_10, v_11, bv_8, bv_9, bv_11, br_7, g_12, g_13, g_14, g_15, rfl⟩ := hw
  have hP : va_P V.1 vwCl [(z 4, aI V 1025 fz4), (z 0, .inr (10, mo z pz0_0 pz0_5 v_8 v_9 pz0_8 v_10 v_11 pz0_11 pz0_12 pz0_13 pz0_14 pz0_18 pz0_19 pz0_22 pz0_23 pz0_29)), (z 3, aI V 900 fz3)] H := hP
  have hD : va_D A [(z 4, aI V 1025 fz4), (z 0, .inr (10, mo z pz0_0 pz0_5 v_8 v_9 pz0_8 v_10 v_11 pz0_11 pz0_12 pz0_13 pz0_14 pz0_18 pz0_19 pz0_22 pz0_23 pz0_29)), (z 3, aI V 900 fz3)] := hD
  refine lv_if_ne (tgt := 18) hx hb dX10_readLaw_10 (by decide) (fun c_16 => ?_) (fun c_16 => ?_)
  · have b_17 : iv 1 1 r_7 := iv_n0 c_16 br_7 (iv_c (0 : Int32) (a := 0) (b := 0) (by decide)) (by decide)
    have c_18 : pz0_11 = 0 := (g_14 (iv_eqp b_17 (iv_c (1 : Int32) (by decide))))
    have b_19 : iv 0 0 pz0_11 := iv_q c_18 (iv_c (0 : Int32) (a := 0) (b := 0) (by decide))
    refine lv_aload_n hx hb dX10_readLaw_18 rfl (lv_at hl 0 rfl) ?_
    refine va_get (ci := 10) (v := .ref (z 4)) (C := RX10) (T := TX10) (N := 40) hx hb hg inX10 hown hK hP 1 rfl rfl 4 (by decide) (hg _ q_5_228) (fun _ h9 => h9) rfl dX10_readLaw_19 ?_
    refine lv_bipush (v := 124) hx hb dX10_readLaw_22 (by decide) ?_
    refine va_iald hx hb hK hP 0 0 rfl rfl (vin (by decide +kernel)) dX10_readLaw_24 ?_
    refine lv_topi (fun x_20 ex_20 => ?_)
    have bx_20 : iv 0 900 x_20 := by rw [ex_20]; exact rdT (a := 124) (n := 1) tfz4 (iv_c (124 : Int32) (a := 124) (b := 124) (by decide)) (by decide) (by decide +kernel)
    refine lv_istore_n (lv' := [(2, .int x_20), (0, .ref (z 0)), (1, .int 0)]) hx hb dX10_readLaw_25 rfl hl (by decide) rfl (fun ls hl => ?_)
    refine lv_iload_n hx hb dX10_readLaw_26 rfl (lv_at hl 2 rfl) ?_
    refine lv_iconst (v := 1) hx hb dX10_readLaw_27 (by decide) ?_
    refine lv_icmp_ne (tgt := 39) hx hb dX10_readLaw_28 (by decide) (fun _ => ?_) (fun c_22 => absurd c_22 (by decide))
    refine lv_aload_n hx hb dX10_readLaw_39 rfl (lv_at hl 1 rfl) ?_
    refine lv_iconst (v := 0) hx hb dX10_readLaw_40 (by decide) ?_
    refine jnV (wr := []) (rnV (rest := []) ⟨hx, hb, hml, hown, hg⟩ (k_X10_readTruth_6 l V z fz4 pz0_0 pz0_5 v_8 v_9 pz0_8 v_10 v_11 pz0_11 pz0_12 pz0_13 pz0_14 pz0_18 pz0_19 pz0_22 pz0_23 pz0_29 fz3 tfz4 bpz0_5 bv_8 bv_9 bpz0_8 bv_11 (iv_w b_19 (by decide)) bpz0_12 bpz0_13 bpz0_14 bpz0_18 bpz0_22 bpz0_29 g_12 (PS_a hf1 (fun q9 => q9) (by have z_0 := g_6; have z_1 := g_13;have y_0 := hf0.1; have y_1 := g_5.1; have y_2 := g_12.1; omega))) mt_X10_readTruth q_6_215 ⟨Nat.le_of_ble_eq_true rfl, Nat.le_of_ble_eq_true rfl⟩ hK hP hD hS hA hE [0, 1, 2] rfl rfl 1 rfl rfl rfl rfl hl.1 rfl (Nat.le_of_ble_eq_true rfl) dX10_readLaw_41 ⟨Nat.le_of_ble_eq_true rfl, Nat.le_of_ble_eq_true rfl⟩) hP hD hS hA [0, 1, 2] [] rfl rfl rfl (by decide) (fun  w H locs hw hP hD hS => ?_)
    obtain ⟨f_23, v_24, v_25, v_26, v_27, v_28, v_29, tf_23, bv_24, bv_25, bv_27, bv_28, bv_29, g_30, g_31, g_32, g_33, rfl⟩ := hw
    have hP : va_P V.1 vwCl [(z 4, aI V 1025 f_23), (z 0, .inr (10, mo z pz0_0 pz0_5 v_24 v_25 pz0_8 v_26 v_27 v_28 v_29 pz0_13 pz0_14 pz0_18 pz0_19 pz0_22 pz0_23 pz0_29)), (z 3, aI V 900 fz3)] H := hP
    have hD : va_D A [(z 4, aI V 1025 f_23), (z 0, .inr (10, mo z pz0_0 pz0_5 v_24 v_25 pz0_8 v_26 v_27 v_28 v_29 pz0_13 pz0_14 pz0_18 pz0_19 pz0_22 pz0_23 pz0_29)), (z 3, aI V 900 fz3)] := hD
    refine lv_aload_n hx hb dX10_readLaw_44 rfl (lv_at hl 1 rfl) ?_
    refine va_get (ci := 10) (v := .int v_28) (C := RX10) (T := TX10) (N := 40) hx hb hg inX10 hown hK hP 1 rfl rfl 11 (by decide) (hg _ q_5_235) (fun _ h9 => h9) rfl dX10_readLaw_45 ?_
    refine lv_if_eq (tgt := 52) hx hb dX10_readLaw_48 (by decide) (fun c_34 => ?_) (fun c_34 => ?_)
    · have b_35 : iv 0 0 v_28 := iv_q c_34 (iv_c (0 : Int32) (a := 0) (b := 0) (by decide))
      refine lv_aload_n hx hb dX10_readLaw_52 rfl (lv_at hl 1 rfl) ?_
      refine va_get (ci := 10) (v := .ref (z 4)) (C := RX10) (T := TX10) (N := 40) hx hb hg inX10 hown hK hP 1 rfl rfl 4 (by decide) (hg _ q_5_228) (fun _ h9 => h9) rfl dX10_readLaw_53 ?_
      refine lv_iconst (v := 4) hx hb dX10_readLaw_56 (by decide) ?_
      refine lv_iload_n hx hb dX10_readLaw_57 rfl (lv_at hl 2 rfl) ?_
      refine lv_iadd hx hb dX10_readLaw_58 ?_
      refine tpi (y := 4) (by decide +kernel) ?_
      refine lv_iconst (v := 1) hx hb dX10_readLaw_59 (by decide) ?_
      refine va_iast hx hb hK hP hD hS 0 0 rfl rfl (vin (by decide +kernel)) dX10_readLaw_60 (fun H locs hP hD hS => ?_)
      obtain ⟨f_36, ef_36, tf_36, hP, hD⟩ : ∃ f_36 : Nat → Int32, f_36 = (upd f_23 (4 : Int32).toNatClampNeg 1) ∧ (ivT tF f_36) ∧ va_P V.1 vwCl [(z 4, aI V 1025 f_36), (z 0, .inr (10, mo z pz0_0 pz0_5 v_24 v_25 pz0_8 v_26 v_27 v_28 v_29 pz0_13 pz0_14 pz0_18 pz0_19 pz0_22 pz0_23 pz0_29)), (z 3, aI V 900 fz3)] H ∧ va_D A [(z 4, aI V 1025 f_36), (z 0, .inr (10, mo z pz0_0 pz0_5 v_24 v_25 pz0_8 v_26 v_27 v_28 v_29 pz0_13 pz0_14 pz0_18 pz0_19 pz0_22 pz0_23 pz0_29)), (z 3, aI V 900 fz3)] := ⟨_, rfl, upT (lo := (-2147483648)) (hi := 2147483647) (a := 4) (n := 1) tf_23 (iv_c (4 : Int32) (a := 4) (b := 4) (by decide)) (by decide) (iv_c (1 : Int32) (by decide)) (by decide +kernel), hP, hD⟩
      refine lv_aload_n hx hb dX10_readLaw_61 rfl (lv_at hl 1 rfl) ?_
      refine va_get (ci := 10) (v := .ref (z 4)) (C := RX10) (T := TX10) (N := 40) hx hb hg inX10 hown hK hP 1 rfl rfl 4 (by decide) (hg _ q_5_228) (fun _ h9 => h9) rfl dX10_readLaw_62 ?_
      refine lv_bipush (v := 6) hx hb dX10_readLaw_65 (by decide) ?_
      refine lv_iload_n hx hb dX10_readLaw_67 rfl (lv_at hl 2 rfl) ?_
      refine lv_iadd hx hb dX10_readLaw_68 ?_
      refine tpi (y := 6) (by decide +kernel) ?_
      refine lv_iload_n hx hb dX10_readLaw_69 rfl (lv_at hl 0 rfl) ?_
      refine va_iast hx hb hK hP hD hS 0 0 rfl rfl (vin (by decide +kernel)) dX10_readLaw_70 (fun H locs hP hD hS => ?_)
      obtain ⟨f_37, ef_37, tf_37, hP, hD⟩ : ∃ f_37 : Nat → Int32, f_37 = (upd f_36 (6 : Int32).toNatClampNeg x_20) ∧ (ivT tF f_37) ∧ va_P V.1 vwCl [(z 4, aI V 1025 f_37), (z 0, .inr (10, mo z pz0_0 pz0_5 v_24 v_25 pz0_8 v_26 v_27 v_28 v_29 pz0_13 pz0_14 pz0_18 pz0_19 pz0_22 pz0_23 pz0_29)), (z 3, aI V 900 fz3)] H ∧ va_D A [(z 4, aI V 1025 f_37), (z 0, .inr (10, mo z pz0_0 pz0_5 v_24 v_25 pz0_8 v_26 v_27 v_28 v_29 pz0_13 pz0_14 pz0_18 pz0_19 pz0_22 pz0_23 pz0_29)), (z 3, aI V 900 fz3)] := ⟨_, rfl, upT (lo := (-2147483648)) (hi := 2147483647) (a := 6) (n := 1) tf_36 (iv_c (6 : Int32) (a := 6) (b := 6) (by decide)) (by decide) (iv_w bx_20 (by decide)) (by decide +kernel), hP, hD⟩
      refine lv_aload_n hx hb dX10_readLaw_71 rfl (lv_at hl 1 rfl) ?_
      refine va_get (ci := 10) (v := .ref (z 4)) (C := RX10) (T := TX10) (N := 40) hx hb hg inX10 hown hK hP 1 rfl rfl 4 (by decide) (hg _ q_5_228) (fun _ h9 => h9) rfl dX10_readLaw_72 ?_
      refine lv_bipush (v := 8) hx hb dX10_readLaw_75 (by decide) ?_
      refine lv_iload_n hx hb dX10_readLaw_77 rfl (lv_at hl 2 rfl) ?_
      refine lv_iadd hx hb dX10_readLaw_78 ?_
      refine tpi (y := 8) (by decide +kernel) ?_
      refine lv_aload_n hx hb dX10_readLaw_79 rfl (lv_at hl 1 rfl) ?_
      refine va_get (ci := 10) (v := .ref (z 4)) (C := RX10) (T := TX10) (N := 40) hx hb hg inX10 hown hK hP 1 rfl rfl 4 (by decide) (hg _ q_5_228) (fun _ h9 => h9) rfl dX10_readLaw_80 ?_
      refine lv_bipush (v := 124) hx hb dX10_readLaw_83 (by decide) ?_
      refine va_iald hx hb hK hP 0 0 rfl rfl (vin (by decide +kernel)) dX10_readLaw_85 ?_
      refine tpi (y := f_23 (124 : Int32).toNatClampNeg) ((show f_37 (124 : Int32).toNatClampNeg = f_36 (124 : Int32).toNatClampNeg from by rw [ef_37]; exact upd_ne (cl_ne (iv_c (124 : Int32) (a := 124) (b := 124) (by decide)) (iv_c (6 : Int32) (a := 6) (b := 6) (by decide)) (by decide))).trans (show f_36 (124 : Int32).toNatClampNeg = f_23 (124 : Int32).toNatClampNeg from by rw [ef_36]; exact upd_ne (cl_ne (iv_c (124 : Int32) (a := 124) (b := 124) (by decide)) (iv_c (4 : Int32) (a := 4) (b := 4) (by decide)) (by decide)))) ?_
      refine lv_topi (fun x_38 ex_38 => ?_)
      have bx_38 : iv 0 900 x_38 := by rw [ex_38]; exact rdT (a := 124) (n := 1) tf_23 (iv_c (124 : Int32) (a := 124) (b := 124) (by decide)) (by decide) (by decide +kernel)
      refine lv_iload_n hx hb dX10_readLaw_86 rfl (lv_at hl 0 rfl) ?_
      refine lv_isub hx hb dX10_readLaw_87 ?_
      refine lv_topi (fun x_39 ex_39 => ?_)
      have bx_39 : iv (-900) 900 x_39 := by rw [ex_39]; exact iv_sub bx_38 bx_20 (by decide)
      refine va_iast hx hb hK hP hD hS 0 0 rfl rfl (vin (by decide +kernel)) dX10_readLaw_88 (fun H locs hP hD hS => ?_)
      obtain ⟨f_40, ef_40, tf_40, hP, hD⟩ : ∃ f_40 : Nat → Int32, f_40 = (upd f_37 (8 : Int32).toNatClampNeg x_39) ∧ (ivT tF f_40) ∧ va_P V.1 vwCl [(z 4, aI V 1025 f_40), (z 0, .inr (10, mo z pz0_0 pz0_5 v_24 v_25 pz0_8 v_26 v_27 v_28 v_29 pz0_13 pz0_14 pz0_18 pz0_19 pz0_22 pz0_23 pz0_29)), (z 3, aI V 900 fz3)] H ∧ va_D A [(z 4, aI V 1025 f_40), (z 0, .inr (10, mo z pz0_0 pz0_5 v_24 v_25 pz0_8 v_26 v_27 v_28 v_29 pz0_13 pz0_14 pz0_18 pz0_19 pz0_22 pz0_23 pz0_29)), (z 3, aI V 900 fz3)] := ⟨_, rfl, upT (lo := (-2147483648)) (hi := 2147483647) (a := 8) (n := 1) tf_37 (iv_c (8 : Int32) (a := 8) (b := 8) (by decide)) (by decide) (iv_w bx_39 (by decide)) (by decide +kernel), hP, hD⟩
      have hP := subP (ws' := [(z 4, aI V 1025 f_40), (z 3, aI V 900 fz3), (z 0, .inr (10, mo z pz0_0 pz0_5 v_24 v_25 pz0_8 v_26 v_27 v_28 v_29 pz0_13 pz0_14 pz0_18 pz0_19 pz0_22 pz0_23 pz0_29))]) hP [0, 2, 1] rfl
      have hD := hD.sub (ws' := [(z 4, aI V 1025 f_40), (z 3, aI V 900 fz3), (z 0, .inr (10, mo z pz0_0 pz0_5 v_24 v_25 pz0_8 v_26 v_27 v_28 v_29 pz0_13 pz0_14 pz0_18 pz0_19 pz0_22 pz0_23 pz0_29))]) [0, 2, 1] rfl rfl
      exact fiV hx hb hr hlk hK hP hD hS dX10_readLaw_89 (Nat.le_of_ble_eq_true rfl) (Nat.le_of_ble_eq_true rfl) (⟨f_40, v_24, v_25, v_26, v_27, v_28, v_29, tf_40, bv_24, bv_25, bv_27, (iv_w b_35 (by decide)), bv_29, g_30, (PS_law (law := 0) (by decide) g_31 (fun q9 => (g_33 q9).2) ex_20 ef_36 ef_37 (show x_38 = f_37 124 from (by rw [ef_37, ef_36]; exact (ex_38).trans rfl)) ex_39 ef_40), (by have z_0 := g_6; have z_1 := g_13; have z_2 := g_32;have y_0 := hf0.1; have y_1 := g_5.1; have y_2 := g_12.1; have y_3 := g_30.1; omega), (fun q9 => ((fun q8 => (g_33 q8).1) q9)), rfl⟩)
    · have b_41 : iv 1 4 v_28 := iv_n0 c_34 bv_28 (iv_c (0 : Int32) (a := 0) (b := 0) (by decide)) (by decide)
      have hP := subP (ws' := [(z 4, aI V 1025 f_23), (z 3, aI V 900 fz3), (z 0, .inr (10, mo z pz0_0 pz0_5 v_24 v_25 pz0_8 v_26 v_27 v_28 v_29 pz0_13 pz0_14 pz0_18 pz0_19 pz0_22 pz0_23 pz0_29))]) hP [0, 2, 1] rfl
      have hD := hD.sub (ws' := [(z 4, aI V 1025 f_23), (z 3, aI V 900 fz3), (z 0, .inr (10, mo z pz0_0 pz0_5 v_24 v_25 pz0_8 v_26 v_27 v_28 v_29 pz0_13 pz0_14 pz0_18 pz0_19 pz0_22 pz0_23 pz0_29))]) [0, 2, 1] rfl rfl
      exact fiV hx hb hr hlk hK hP hD hS dX10_readLaw_51 (Nat.le_of_ble_eq_true rfl) (Nat.le_of_ble_eq_true rfl) (⟨f_23, v_24, v_25, v_26, v_27, v_28, v_29, tf_23, bv_24, bv_25, bv_27, (iv_w b_41 (by decide)), bv_29, g_30, g_31, (by have z_0 := g_6; have z_1 := g_13; have z_2 := g_32;have y_0 := hf0.1; have y_1 := g_5.1; have y_2 := g_12.1; have y_3 := g_30.1; omega), (fun q9 => ((fun q8 => absurd q8 (iv_nz b_41 (by decide))) q9)), rfl⟩)
  · have b_42 : iv 0 0 r_7 := iv_q c_16 (iv_c (0 : Int32) (a := 0) (b := 0) (by decide))
    refine lv_aload_n hx hb dX10_readLaw_13 rfl (lv_at hl 0 rfl) ?_
    refine lv_iconst (v := 2) hx hb dX10_readLaw_14 (by decide) ?_
    refine jnV (wr := [(z 4, aI V 1025 fz4), (z 3, aI V 900 fz3)]) (rnV (rest := []) ⟨hx, hb, hml, hown, hg⟩ (k_X10_fails_0 l V z 2 pz0_0 pz0_5 v_8 v_9 pz0_8 v_10 v_11 pz0_11 pz0_12 pz0_13 pz0_14 pz0_18 pz0_19 pz0_22 pz0_23 pz0_29 (iv_c (2 : Int32) (by decide)) bpz0_5 bv_8 bv_9 bpz0_8 bv_11 bpz0_11 bpz0_12 bpz0_13 bpz0_14 bpz0_18 bpz0_22 bpz0_29) mt_X10_fails q_6_147 ⟨Nat.le_of_ble_eq_true rfl, Nat.le_of_ble_eq_true rfl⟩ hK hP hD hS hA hE [1] rfl rfl 1 rfl rfl rfl rfl hl.1 rfl (Nat.le_of_ble_eq_true rfl) dX10_readLaw_15 ⟨Nat.le_of_ble_eq_true rfl, Nat.le_of_ble_eq_true rfl⟩) hP hD hS hA [1] [0, 2] rfl rfl rfl (by decide) (fun  w H locs hw hP hD hS => ?_)
    obtain ⟨v_43, v_44, bv_43, bv_44, rfl⟩ := hw
    have hP : va_P V.1 vwCl [(z 4, aI V 1025 fz4), (z 3, aI V 900 fz3), (z 0, .inr (10, mo z pz0_0 pz0_5 v_8 v_9 pz0_8 v_10 v_11 v_43 v_44 pz0_13 pz0_14 pz0_18 pz0_19 pz0_22 pz0_23 pz0_29))] H := hP
    have hD : va_D A [(z 4, aI V 1025 fz4), (z 3, aI V 900 fz3), (z 0, .inr (10, mo z pz0_0 pz0_5 v_8 v_9 pz0_8 v_10 v_11 v_43 v_44 pz0_13 pz0_14 pz0_18 pz0_19 pz0_22 pz0_23 pz0_29))] := hD
    refine lv_aload_n hx hb dX10_readLaw_18 rfl (lv_at hl 0 rfl) ?_
    refine va_get (ci := 10) (v := .ref (z 4)) (C := RX10) (T := TX10) (N := 40) hx hb hg inX10 hown hK hP 2 rfl rfl 4 (by decide) (hg _ q_5_228) (fun _ h9 => h9) rfl dX10_readLaw_19 ?_
    refine lv_bipush (v := 124) hx hb dX10_readLaw_22 (by decide) ?_
    refine va_iald hx hb hK hP 0 0 rfl rfl (vin (by decide +kernel)) dX10_readLaw_24 ?_
    refine lv_topi (fun x_45 ex_45 => ?_)
    have bx_45 : iv 0 900 x_45 := by rw [ex_45]; exact rdT (a := 124) (n := 1) tfz4 (iv_c (124 : Int32) (a := 124) (b := 124) (by decide)) (by decide) (by decide +kernel)
    refine lv_istore_n (lv' := [(2, .int x_45), (0, .ref (z 0)), (1, .int 0)]) hx hb dX10_readLaw_25 rfl hl (by decide) rfl (fun ls hl => ?_)
    refine lv_iload_n hx hb dX10_readLaw_26 rfl (lv_at hl 2 rfl) ?_
    refine lv_iconst (v := 1) hx hb dX10_readLaw_27 (by decide) ?_
    refine lv_icmp_ne (tgt := 39) hx hb dX10_readLaw_28 (by decide) (fun _ => ?_) (fun c_47 => absurd c_47 (by decide))
    refine lv_aload_n hx hb dX10_readLaw_39 rfl (lv_at hl 1 rfl) ?_
    refine lv_iconst (v := 0) hx hb dX10_readLaw_40 (by decide) ?_
    refine jnV (wr := []) (rnV (rest := []) ⟨hx, hb, hml, hown, hg⟩ (k_X10_readTruth_6 l V z fz4 pz0_0 pz0_5 v_8 v_9 pz0_8 v_10 v_11 v_43 v_44 pz0_13 pz0_14 pz0_18 pz0_19 pz0_22 pz0_23 pz0_29 fz3 tfz4 bpz0_5 bv_8 bv_9 bpz0_8 bv_11 (iv_w bv_43 (by decide)) bv_44 bpz0_13 bpz0_14 bpz0_18 bpz0_22 bpz0_29 g_12 (PS_f bv_43 (by decide))) mt_X10_readTruth q_6_215 ⟨Nat.le_of_ble_eq_true rfl, Nat.le_of_ble_eq_true rfl⟩ hK hP hD hS hA hE [0, 2, 1] rfl rfl 2 rfl rfl rfl rfl hl.1 rfl (Nat.le_of_ble_eq_true rfl) dX10_readLaw_41 ⟨Nat.le_of_ble_eq_true rfl, Nat.le_of_ble_eq_true rfl⟩) hP hD hS hA [0, 2, 1] [] rfl rfl rfl (by decide) (fun  w H locs hw hP hD hS => ?_)
    obtain ⟨f_48, v_49, v_50, v_51, v_52, v_53, v_54, tf_48, bv_49, bv_50, bv_52, bv_53, bv_54, g_55, g_56, g_57, g_58, rfl⟩ := hw
    have hP : va_P V.1 vwCl [(z 4, aI V 1025 f_48), (z 0, .inr (10, mo z pz0_0 pz0_5 v_49 v_50 pz0_8 v_51 v_52 v_53 v_54 pz0_13 pz0_14 pz0_18 pz0_19 pz0_22 pz0_23 pz0_29)), (z 3, aI V 900 fz3)] H := hP
    have hD : va_D A [(z 4, aI V 1025 f_48), (z 0, .inr (10, mo z pz0_0 pz0_5 v_49 v_50 pz0_8 v_51 v_52 v_53 v_54 pz0_13 pz0_14 pz0_18 pz0_19 pz0_22 pz0_23 pz0_29)), (z 3, aI V 900 fz3)] := hD
    refine lv_aload_n hx hb dX10_readLaw_44 rfl (lv_at hl 1 rfl) ?_
    refine va_get (ci := 10) (v := .int v_53) (C := RX10) (T := TX10) (N := 40) hx hb hg inX10 hown hK hP 1 rfl rfl 11 (by decide) (hg _ q_5_235) (fun _ h9 => h9) rfl dX10_readLaw_45 ?_
    refine lv_if_eq (tgt := 52) hx hb dX10_readLaw_48 (by decide) (fun c_59 => ?_) (fun c_59 => ?_)
    · have b_60 : iv 0 0 v_53 := iv_q c_59 (iv_c (0 : Int32) (a := 0) (b := 0) (by decide))
      refine lv_aload_n hx hb dX10_readLaw_52 rfl (lv_at hl 1 rfl) ?_
      refine va_get (ci := 10) (v := .ref (z 4)) (C := RX10) (T := TX10) (N := 40) hx hb hg inX10 hown hK hP 1 rfl rfl 4 (by decide) (hg _ q_5_228) (fun _ h9 => h9) rfl dX10_readLaw_53 ?_
      refine lv_iconst (v := 4) hx hb dX10_readLaw_56 (by decide) ?_
      refine lv_iload_n hx hb dX10_readLaw_57 rfl (lv_at hl 2 rfl) ?_
      refine lv_iadd hx hb dX10_readLaw_58 ?_
      refine tpi (y := 4) (by decide +kernel) ?_
      refine lv_iconst (v := 1) hx hb dX10_readLaw_59 (by decide) ?_
      refine va_iast hx hb hK hP hD hS 0 0 rfl rfl (vin (by decide +kernel)) dX10_readLaw_60 (fun H locs hP hD hS => ?_)
      obtain ⟨f_61, ef_61, tf_61, hP, hD⟩ : ∃ f_61 : Nat → Int32, f_61 = (upd f_48 (4 : Int32).toNatClampNeg 1) ∧ (ivT tF f_61) ∧ va_P V.1 vwCl [(z 4, aI V 1025 f_61), (z 0, .inr (10, mo z pz0_0 pz0_5 v_49 v_50 pz0_8 v_51 v_52 v_53 v_54 pz0_13 pz0_14 pz0_18 pz0_19 pz0_22 pz0_23 pz0_29)), (z 3, aI V 900 fz3)] H ∧ va_D A [(z 4, aI V 1025 f_61), (z 0, .inr (10, mo z pz0_0 pz0_5 v_49 v_50 pz0_8 v_51 v_52 v_53 v_54 pz0_13 pz0_14 pz0_18 pz0_19 pz0_22 pz0_23 pz0_29)), (z 3, aI V 900 fz3)] := ⟨_, rfl, upT (lo := (-2147483648)) (hi := 2147483647) (a := 4) (n := 1) tf_48 (iv_c (4 : Int32) (a := 4) (b := 4) (by decide)) (by decide) (iv_c (1 : Int32) (by decide)) (by decide +kernel), hP, hD⟩
      refine lv_aload_n hx hb dX10_readLaw_61 rfl (lv_at hl 1 rfl) ?_
      refine va_get (ci := 10) (v := .ref (z 4)) (C := RX10) (T := TX10) (N := 40) hx hb hg inX10 hown hK hP 1 rfl rfl 4 (by decide) (hg _ q_5_228) (fun _ h9 => h9) rfl dX10_readLaw_62 ?_
      refine lv_bipush (v := 6) hx hb dX10_readLaw_65 (by decide) ?_
      refine lv_iload_n hx hb dX10_readLaw_67 rfl (lv_at hl 2 rfl) ?_
      refine lv_iadd hx hb dX10_readLaw_68 ?_
      refine tpi (y := 6) (by decide +kernel) ?_
      refine lv_iload_n hx hb dX10_readLaw_69 rfl (lv_at hl 0 rfl) ?_
      refine va_iast hx hb hK hP hD hS 0 0 rfl rfl (vin (by decide +kernel)) dX10_readLaw_70 (fun H locs hP hD hS => ?_)
      obtain ⟨f_62, ef_62, tf_62, hP, hD⟩ : ∃ f_62 : Nat → Int32, f_62 = (upd f_61 (6 : Int32).toNatClampNeg x_45) ∧ (ivT tF f_62) ∧ va_P V.1 vwCl [(z 4, aI V 1025 f_62), (z 0, .inr (10, mo z pz0_0 pz0_5 v_49 v_50 pz0_8 v_51 v_52 v_53 v_54 pz0_13 pz0_14 pz0_18 pz0_19 pz0_22 pz0_23 pz0_29)), (z 3, aI V 900 fz3)] H ∧ va_D A [(z 4, aI V 1025 f_62), (z 0, .inr (10, mo z pz0_0 pz0_5 v_49 v_50 pz0_8 v_51 v_52 v_53 v_54 pz0_13 pz0_14 pz0_18 pz0_19 pz0_22 pz0_23 pz0_29)), (z 3, aI V 900 fz3)] := ⟨_, rfl, upT (lo := (-2147483648)) (hi := 2147483647) (a := 6) (n := 1) tf_61 (iv_c (6 : Int32) (a := 6) (b := 6) (by decide)) (by decide) (iv_w bx_45 (by decide)) (by decide +kernel), hP, hD⟩
      refine lv_aload_n hx hb dX10_readLaw_71 rfl (lv_at hl 1 rfl) ?_
      refine va_get (ci := 10) (v := .ref (z 4)) (C := RX10) (T := TX10) (N := 40) hx hb hg inX10 hown hK hP 1 rfl rfl 4 (by decide) (hg _ q_5_228) (fun _ h9 => h9) rfl dX10_readLaw_72 ?_
      refine lv_bipush (v := 8) hx hb dX10_readLaw_75 (by decide) ?_
      refine lv_iload_n hx hb dX10_readLaw_77 rfl (lv_at hl 2 rfl) ?_
      refine lv_iadd hx hb dX10_readLaw_78 ?_
      refine tpi (y := 8) (by decide +kernel) ?_
      refine lv_aload_n hx hb dX10_readLaw_79 rfl (lv_at hl 1 rfl) ?_
      refine va_get (ci := 10) (v := .ref (z 4)) (C := RX10) (T := TX10) (N := 40) hx hb hg inX10 hown hK hP 1 rfl rfl 4 (by decide) (hg _ q_5_228) (fun _ h9 => h9) rfl dX10_readLaw_80 ?_
      refine lv_bipush (v := 124) hx hb dX10_readLaw_83 (by decide) ?_
      refine va_iald hx hb hK hP 0 0 rfl rfl (vin (by decide +kernel)) dX10_readLaw_85 ?_
      refine tpi (y := f_48 (124 : Int32).toNatClampNeg) ((show f_62 (124 : Int32).toNatClampNeg = f_61 (124 : Int32).toNatClampNeg from by rw [ef_62]; exact upd_ne (cl_ne (iv_c (124 : Int32) (a := 124) (b := 124) (by decide)) (iv_c (6 : Int32) (a := 6) (b := 6) (by decide)) (by decide))).trans (show f_61 (124 : Int32).toNatClampNeg = f_48 (124 : Int32).toNatClampNeg from by rw [ef_61]; exact upd_ne (cl_ne (iv_c (124 : Int32) (a := 124) (b := 124) (by decide)) (iv_c (4 : Int32) (a := 4) (b := 4) (by decide)) (by decide)))) ?_
      refine lv_topi (fun x_63 ex_63 => ?_)
      have bx_63 : iv 0 900 x_63 := by rw [ex_63]; exact rdT (a := 124) (n := 1) tf_48 (iv_c (124 : Int32) (a := 124) (b := 124) (by decide)) (by decide) (by decide +kernel)
      refine lv_iload_n hx hb dX10_readLaw_86 rfl (lv_at hl 0 rfl) ?_
      refine lv_isub hx hb dX10_readLaw_87 ?_
      refine lv_topi (fun x_64 ex_64 => ?_)
      have bx_64 : iv (-900) 900 x_64 := by rw [ex_64]; exact iv_sub bx_63 bx_45 (by decide)
      refine va_iast hx hb hK hP hD hS 0 0 rfl rfl (vin (by decide +kernel)) dX10_readLaw_88 (fun H locs hP hD hS => ?_)
      obtain ⟨f_65, ef_65, tf_65, hP, hD⟩ : ∃ f_65 : Nat → Int32, f_65 = (upd f_62 (8 : Int32).toNatClampNeg x_64) ∧ (ivT tF f_65) ∧ va_P V.1 vwCl [(z 4, aI V 1025 f_65), (z 0, .inr (10, mo z pz0_0 pz0_5 v_49 v_50 pz0_8 v_51 v_52 v_53 v_54 pz0_13 pz0_14 pz0_18 pz0_19 pz0_22 pz0_23 pz0_29)), (z 3, aI V 900 fz3)] H ∧ va_D A [(z 4, aI V 1025 f_65), (z 0, .inr (10, mo z pz0_0 pz0_5 v_49 v_50 pz0_8 v_51 v_52 v_53 v_54 pz0_13 pz0_14 pz0_18 pz0_19 pz0_22 pz0_23 pz0_29)), (z 3, aI V 900 fz3)] := ⟨_, rfl, upT (lo := (-2147483648)) (hi := 2147483647) (a := 8) (n := 1) tf_62 (iv_c (8 : Int32) (a := 8) (b := 8) (by decide)) (by decide) (iv_w bx_64 (by decide)) (by decide +kernel), hP, hD⟩
      have hP := subP (ws' := [(z 4, aI V 1025 f_65), (z 3, aI V 900 fz3), (z 0, .inr (10, mo z pz0_0 pz0_5 v_49 v_50 pz0_8 v_51 v_52 v_53 v_54 pz0_13 pz0_14 pz0_18 pz0_19 pz0_22 pz0_23 pz0_29))]) hP [0, 2, 1] rfl
      have hD := hD.sub (ws' := [(z 4, aI V 1025 f_65), (z 3, aI V 900 fz3), (z 0, .inr (10, mo z pz0_0 pz0_5 v_49 v_50 pz0_8 v_51 v_52 v_53 v_54 pz0_13 pz0_14 pz0_18 pz0_19 pz0_22 pz0_23 pz0_29))]) [0, 2, 1] rfl rfl
      exact fiV hx hb hr hlk hK hP hD hS dX10_readLaw_89 (Nat.le_of_ble_eq_true rfl) (Nat.le_of_ble_eq_true rfl) (⟨f_65, v_49, v_50, v_51, v_52, v_53, v_54, tf_65, bv_49, bv_50, bv_52, (iv_w b_60 (by decide)), bv_54, g_55, (PS_law (law := 0) (by decide) g_56 (fun q9 => (g_58 q9).2) ex_45 ef_61 ef_62 (show x_63 = f_62 124 from (by rw [ef_62, ef_61]; exact (ex_63).trans rfl)) ex_64 ef_65), (by have z_0 := g_6; have z_1 := g_13; have z_2 := g_57;have y_0 := hf0.1; have y_1 := g_5.1; have y_2 := g_12.1; have y_3 := g_55.1; omega), (fun q9 => ((fun q8 => absurd q8 (iv_nz bv_43 (by decide))) ((fun q8 => (g_58 q8).1) q9))), rfl⟩)
    · have b_66 : iv 1 4 v_53 := iv_n0 c_59 bv_53 (iv_c (0 : Int32) (a := 0) (b := 0) (by decide)) (by decide)
      have hP := subP (ws' := [(z 4, aI V 1025 f_48), (z 3, aI V 900 fz3), (z 0, .inr (10, mo z pz0_0 pz0_5 v_49 v_50 pz0_8 v_51 v_52 v_53 v_54 pz0_13 pz0_14 pz0_18 pz0_19 pz0_22 pz0_23 pz0_29))]) hP [0, 2, 1] rfl
      have hD := hD.sub (ws' := [(z 4, aI V 1025 f_48), (z 3, aI V 900 fz3), (z 0, .inr (10, mo z pz0_0 pz0_5 v_49 v_50 pz0_8 v_51 v_52 v_53 v_54 pz0_13 pz0_14 pz0_18 pz0_19 pz0_22 pz0_23 pz0_29))]) [0, 2, 1] rfl rfl
      exact fiV hx hb hr hlk hK hP hD hS dX10_readLaw_51 (Nat.le_of_ble_eq_true rfl) (Nat.le_of_ble_eq_true rfl) (⟨f_48, v_49, v_50, v_51, v_52, v_53, v_54, tf_48, bv_49, bv_50, bv_52, (iv_w b_66 (by decide)), bv_54, g_55, g_56, (by have z_0 := g_6; have z_1 := g_13; have z_2 := g_57;have y_0 := hf0.1; have y_1 := g_5.1; have y_2 := g_12.1; have y_3 := g_55.1; omega), (fun q9 => ((fun q8 => absurd q8 (iv_nz b_66 (by decide))) q9)), rfl⟩)
set_option maxHeartbeats 4000000 in
set_option maxRecDepth 100000 in
theorem k_X10_is_26 (l : Launch) (V : GV) (z : Nat → Nat) (pz0_0 : Int32) (pz0_5 : Int32) (pz0_6 : Int32) (pz0_7 : Int32) (pz0_8 : Int32) (pz0_9 : Int32) (pz0_10 : Int32) (pz0_11 : Int32) (pz0_12 : Int32) (pz0_13 : Int32) (pz0_14 : Int32) (pz0_18 : Int32) (pz0_19 : Int32) (pz0_22 : Int32) (pz0_23 : Int32) (pz0_29 : Int32) (bpz0_5 : iv 0 900 pz0_5) (bpz0_6 : iv 0 900 pz0_6) (bpz0_7 : iv 0 900 pz0_7) (bpz0_8 : iv 0 900 pz0_8) (bpz0_10 : iv 0 999 pz0_10) (bpz0_11 : iv 0 4 pz0_11) (bpz0_12 : iv 0 900 pz0_12) (bpz0_13 : iv 0 4 pz0_13) (bpz0_14 : iv (-1) 900 pz0_14) (bpz0_18 : iv 0 2 pz0_18) (bpz0_22 : iv 0 9999 pz0_22) (bpz0_29 : iv 0 10000 pz0_29) : Ct l V yX10_is (.code yX10_is cX10_is 2 (some .boolean)) 1 [.ref (z 0), .int 12] [(z 0, .inr (10, mo z pz0_0 pz0_5 pz0_6 pz0_7 pz0_8 pz0_9 pz0_10 pz0_11 pz0_12 pz0_13 pz0_14 pz0_18 pz0_19 pz0_22 pz0_23 pz0_29))] 0 0 (QI V (fun (r : Int32) (w : va_W) => iv 0 1 r ∧ (r = 1 → pz0_11 = 0) ∧ (r = 1 → pz0_9 = (12 : Int32)) ∧ w = [(z 0, .inr (10, mo z pz0_0 pz0_5 pz0_6 pz0_7 pz0_8 pz0_9 pz0_10 pz0_11 pz0_12 pz0_13 pz0_14 pz0_18 pz0_19 pz0_22 pz0_23 pz0_29))])) := by
  refine Ct.of (by decide) (Nat.le_of_ble_eq_true rfl) (fun p e s m below meth c A ls hx hb hr hml hown hlk hnm hg hP hK hD hE hA hS hl => ?_)
  have hl : lv_has ls 2 [(0, .ref (z 0)), (1, .int 12)] := hl
  refine lv_aload_n hx hb dX10_is_0 rfl (lv_at hl 0 rfl) ?_
  refine va_get (ci := 10) (v := .int pz0_11) (C := RX10) (T := TX10) (N := 40) hx hb hg inX10 hown hK hP 0 rfl rfl 11 (by decide) (hg _ q_5_235) (fun _ h9 => h9) rfl dX10_is_1 ?_
  refine lv_if_ne (tgt := 19) hx hb dX10_is_4 (by decide) (fun c_1 => ?_) (fun c_1 => ?_)
  · have b_2 : iv 1 4 pz0_11 := iv_n0 c_1 bpz0_11 (iv_c (0 : Int32) (a := 0) (b := 0) (by decide)) (by decide)
    refine lv_iconst (v := 0) hx hb dX10_is_19 (by decide) ?_
    exact fiZ rfl hx hb hr hlk hK hP hD hS dX10_is_20 (Nat.le_of_ble_eq_true rfl) (Nat.le_of_ble_eq_true rfl) (⟨(iv_c (0 : Int32) (by decide)), (fun q9 => absurd q9 (by decide)), (fun q9 => absurd q9 (by decide)), rfl⟩)
  · have b_3 : iv 0 0 pz0_11 := iv_q c_1 (iv_c (0 : Int32) (a := 0) (b := 0) (by decide))
    refine lv_aload_n hx hb dX10_is_7 rfl (lv_at hl 0 rfl) ?_
    refine va_get (ci := 10) (v := .int pz0_9) (C := RX10) (T := TX10) (N := 40) hx hb hg inX10 hown hK hP 0 rfl rfl 9 (by decide) (hg _ q_5_233) (fun _ h9 => h9) rfl dX10_is_8 ?_
    refine lv_iload_n hx hb dX10_is_11 rfl (lv_at hl 1 rfl) ?_
    refine lv_icmp_ne (tgt := 19) hx hb dX10_is_12 (by decide) (fun c_4 => ?_) (fun c_4 => ?_)
    · refine lv_iconst (v := 0) hx hb dX10_is_19 (by decide) ?_
      exact fiZ rfl hx hb hr hlk hK hP hD hS dX10_is_20 (Nat.le_of_ble_eq_true rfl) (Nat.le_of_ble_eq_true rfl) (⟨(iv_c (0 : Int32) (by decide)), (fun q9 => absurd q9 (by decide)), (fun q9 => absurd q9 (by decide)), rfl⟩)
    · have b_5 : iv 12 12 pz0_9 := iv_q c_4 (iv_c (12 : Int32) (a := 12) (b := 12) (by decide))
      refine lv_iconst (v := 1) hx hb dX10_is_15 (by decide) ?_
      refine lv_goto (tgt := 20) hx hb dX10_is_16 (by decide) ?_
      exact fiZ rfl hx hb hr hlk hK hP hD hS dX10_is_20 (Nat.le_of_ble_eq_true rfl) (Nat.le_of_ble_eq_true rfl) (⟨(iv_c (1 : Int32) (by decide)), (fun _ => c_1), (fun _ => c_4), rfl⟩)
theorem dX10_readLaw_31 : decode cX10_readLaw 31 = .ok (.aload_n 0, 1) := by decide +kernel
theorem dX10_readLaw_32 : decode cX10_readLaw 32 = .ok (.iconst 0, 1) := by decide +kernel
theorem dX10_readLaw_33 : decode cX10_readLaw 33 = .ok (.invokevirtual 172, 3) := by decide +kernel
theorem dX10_readLaw_36 : decode cX10_readLaw 36 = .ok (.goto 8, 3) := by decide +kernel
set_option maxHeartbeats 4000000 in
set_option maxRecDepth 100000 in
theorem k_X10_readLaw_1 (l : Launch) (V : GV) (z : Nat → Nat) (fz4 : Nat → Int32) (fz3 : Nat → Int32) (pz0_0 : Int32) (pz0_5 : Int32) (pz0_6 : Int32) (pz0_7 : Int32) (pz0_8 : Int32) (pz0_9 : Int32) (pz0_10 : Int32) (pz0_11 : Int32) (pz0_12 : Int32) (pz0_13 : Int32) (pz0_14 : Int32) (pz0_18 : Int32) (pz0_19 : Int32) (pz0_22 : Int32) (pz0_23 : Int32) (pz0_29 : Int32) (tfz4 : ivT tF fz4) (bpz0_5 : iv 0 900 pz0_5) (bpz0_6 : iv 0 900 pz0_6) (bpz0_7 : iv 0 900 pz0_7) (bpz0_8 : iv 0 900 pz0_8) (bpz0_10 : iv 0 999 pz0_10) (bpz0_11 : iv 0 4 pz0_11) (bpz0_12 : iv 0 900 pz0_12) (bpz0_13 : iv 0 4 pz0_13) (bpz0_14 : iv (-1) 900 pz0_14) (bpz0_18 : iv 0 2 pz0_18) (bpz0_22 : iv 0 9999 pz0_22) (bpz0_29 : iv 0 10000 pz0_29) (hf0 : PT pz0_6 pz0_7 pz0_8 pz0_9) (hf1 : PS pz0_11 pz0_6 fz4) : Ct l V yX10_readLaw (.code yX10_readLaw cX10_readLaw 3 none) 52 [.ref (z 0), .int 1] [(z 4, aI V 1025 fz4), (z 3, aI V 900 fz3), (z 0, .inr (10, mo z pz0_0 pz0_5 pz0_6 pz0_7 pz0_8 pz0_9 pz0_10 pz0_11 pz0_12 pz0_13 pz0_14 pz0_18 pz0_19 pz0_22 pz0_23 pz0_29))] 0 0 (QV V (fun (w : va_W) => ∃ (g0 : Nat → Int32) (v1 : Int32) (v2 : Int32) (v3 : Int32) (v4 : Int32) (v5 : Int32) (v6 : Int32), (ivT tF g0) ∧ iv 0 900 v1 ∧ iv 0 900 v2 ∧ iv 0 999 v4 ∧ iv 0 4 v5 ∧ iv 0 900 v6 ∧ (PT v1 v2 pz0_8 v3) ∧ (PS v5 v1 g0) ∧ ((pz0_6 : Int32).toInt ≤ (v1 : Int32).toInt) ∧ (v5 = 0 → pz0_11 = 0) ∧ w = [(z 4, aI V 1025 g0), (z 3, aI V 900 fz3), (z 0, .inr (10, mo z pz0_0 pz0_5 v1 v2 pz0_8 v3 v4 v5 v6 pz0_13 pz0_14 pz0_18 pz0_19 pz0_22 pz0_23 pz0_29))])) := by
  refine Ct.of (by decide) (Nat.le_of_ble_eq_true rfl) (fun p e s m below meth c A ls hx hb hr hml hown hlk hnm hg hP hK hD hE hA hS hl => ?_)
  have hl : lv_has ls 3 [(0, .ref (z 0)), (1, .int 1)] := hl
  refine lv_aload_n hx hb dX10_readLaw_0 rfl (lv_at hl 0 rfl) ?_
  refine jnV (wr := [(z 4, aI V 1025 fz4)]) (rnV (rest := []) ⟨hx, hb, hml, hown, hg⟩ (k_X10_next_0 l V z pz0_0 pz0_5 pz0_6 pz0_7 pz0_8 pz0_9 pz0_10 pz0_11 pz0_12 pz0_13 pz0_14 pz0_18 pz0_19 pz0_22 pz0_23 pz0_29 fz3 bpz0_5 bpz0_6 bpz0_7 bpz0_8 bpz0_10 bpz0_11 bpz0_12 bpz0_13 bpz0_14 bpz0_18 bpz0_22 bpz0_29 hf0.2.1) mt_X10_next q_6_117 ⟨Nat.le_of_ble_eq_true rfl, Nat.le_of_ble_eq_true rfl⟩ hK hP hD hS hA hE [2, 1] rfl rfl 2 rfl rfl rfl rfl hl.1 rfl (Nat.le_of_ble_eq_true rfl) dX10_readLaw_1 ⟨Nat.le_of_ble_eq_true rfl, Nat.le_of_ble_eq_true rfl⟩) hP hD hS hA [2, 1] [0] rfl rfl rfl (by decide) (fun  w H locs hw hP hD hS => ?_)
  obtain ⟨v_1, v_2, v_3, v_4, bv_1, bv_2, bv_4, g_5, g_6, rfl⟩ := hw
  have hP : va_P V.1 vwCl [(z 4, aI V 1025 fz4), (z 0, .inr (10, mo z pz0_0 pz0_5 v_1 v_2 pz0_8 v_3 v_4 pz0_11 pz0_12 pz0_13 pz0_14 pz0_18 pz0_19 pz0_22 pz0_23 pz0_29)), (z 3, aI V 900 fz3)] H := hP
  have hD : va_D A [(z 4, aI V 1025 fz4), (z 0, .inr (10, mo z pz0_0 pz0_5 v_1 v_2 pz0_8 v_3 v_4 pz0_11 pz0_12 pz0_13 pz0_14 pz0_18 pz0_19 pz0_22 pz0_23 pz0_29)), (z 3, aI V 900 fz3)] := hD
  refine lv_aload_n hx hb dX10_readLaw_4 rfl (lv_at hl 0 rfl) ?_
  refine lv_bipush (v := 31) hx hb dX10_readLaw_5 (by decide) ?_
  refine jnI (wr := [(z 4, aI V 1025 fz4)]) (rnV (rest := []) ⟨hx, hb, hml, hown, hg⟩ (k_X10_eats_3 l V z pz0_0 pz0_5 v_1 v_2 pz0_8 v_3 v_4 pz0_11 pz0_12 pz0_13 pz0_14 pz0_18 pz0_19 pz0_22 pz0_23 pz0_29 fz3 bpz0_5 bv_1 bv_2 bpz0_8 bv_4 bpz0_11 bpz0_12 bpz0_13 bpz0_14 bpz0_18 bpz0_22 bpz0_29 g_5) mt_X10_eats q_6_139 ⟨Nat.le_of_ble_eq_true rfl, Nat.le_of_ble_eq_true rfl⟩ hK hP hD hS hA hE [1, 2] rfl rfl 1 rfl rfl rfl rfl hl.1 rfl (Nat.le_of_ble_eq_true rfl) dX10_readLaw_7 ⟨Nat.le_of_ble_eq_true rfl, Nat.le_of_ble_eq_true rfl⟩) hP hD hS hA [1, 2] [0] rfl rfl rfl (by decide) (fun r_7 w H locs hw hP hD hS => ?_)
  obtain ⟨v_8, v_9, v_10, v_11, bv_8, bv_9, bv_11, br_7, g_12, g_13, g_14, g_15, rfl⟩ := hw
  have hP : va_P V.1 vwCl [(z 4, aI V 1025 fz4), (z 0, .inr (10, mo z pz0_0 pz0_5 v_8 v_9 pz0_8 v_10 v_11 pz0_11 pz0_12 pz0_13 pz0_14 pz0_18 pz0_19 pz0_22 pz0_23 pz0_29)), (z 3, aI V 900 fz3)] H := hP
  have hD : va_D A [(z 4, aI V 1025 fz4), (z 0, .inr (10, mo z pz0_0 pz0_5 v_8 v_9 pz0_8 v_10 v_11 pz0_11 pz0_12 pz0_13 pz0_14 pz0_18 pz0_19 pz0_22 pz0_23 pz0_29)), (z 3, aI V 900 fz3)] := hD
  refine lv_if_ne (tgt := 18) hx hb dX10_readLaw_10 (by decide) (fun c_16 => ?_) (fun c_16 => ?_)
  · have b_17 : iv 1 1 r_7 := iv_n0 c_16 br_7 (iv_c (0 : Int32) (a := 0) (b := 0) (by decide)) (by decide)
    have c_18 : pz0_11 = 0 := (g_14 (iv_eqp b_17 (iv_c (1 : Int32) (by decide))))
    have b_19 : iv 0 0 pz0_11 := iv_q c_18 (iv_c (0 : Int32) (a := 0) (b := 0) (by decide))
    refine lv_aload_n hx hb dX10_readLaw_18 rfl (lv_at hl 0 rfl) ?_
    refine va_get (ci := 10) (v := .ref (z 4)) (C := RX10) (T := TX10) (N := 40) hx hb hg inX10 hown hK hP 1 rfl rfl 4 (by decide) (hg _ q_5_228) (fun _ h9 => h9) rfl dX10_readLaw_19 ?_
    refine lv_bipush (v := 124) hx hb dX10_readLaw_22 (by decide) ?_
    refine va_iald hx hb hK hP 0 0 rfl rfl (vin (by decide +kernel)) dX10_readLaw_24 ?_
    refine lv_topi (fun x_20 ex_20 => ?_)
    have bx_20 : iv 0 900 x_20 := by rw [ex_20]; exact rdT (a := 124) (n := 1) tfz4 (iv_c (124 : Int32) (a := 124) (b := 124) (by decide)) (by decide) (by decide +kernel)
    refine lv_istore_n (lv' := [(2, .int x_20), (0, .ref (z 0)), (1, .int 1)]) hx hb dX10_readLaw_25 rfl hl (by decide) rfl (fun ls hl => ?_)
    refine lv_iload_n hx hb dX10_readLaw_26 rfl (lv_at hl 2 rfl) ?_
    refine lv_iconst (v := 1) hx hb dX10_readLaw_27 (by decide) ?_
    refine lv_icmp_ne (tgt := 39) hx hb dX10_readLaw_28 (by decide) (fun c_22 => absurd c_22 (by decide)) (fun _ => ?_)
    refine lv_aload_n hx hb dX10_readLaw_31 rfl (lv_at hl 1 rfl) ?_
    refine lv_iconst (v := 0) hx hb dX10_readLaw_32 (by decide) ?_
    refine jnV (wr := []) (rnV (rest := []) ⟨hx, hb, hml, hown, hg⟩ (k_X10_readSum_6 l V z fz4 fz3 pz0_0 pz0_5 v_8 v_9 pz0_8 v_10 v_11 pz0_11 pz0_12 pz0_13 pz0_14 pz0_18 pz0_19 pz0_22 pz0_23 pz0_29 tfz4 bpz0_5 bv_8 bv_9 bpz0_8 bv_11 (iv_w b_19 (by decide)) bpz0_12 bpz0_13 bpz0_14 bpz0_18 bpz0_22 bpz0_29 g_12 (PS_a hf1 (fun q9 => q9) (by have z_0 := g_6; have z_1 := g_13;have y_0 := hf0.1; have y_1 := g_5.1; have y_2 := g_12.1; omega))) mt_X10_readSum q_6_187 ⟨Nat.le_of_ble_eq_true rfl, Nat.le_of_ble_eq_true rfl⟩ hK hP hD hS hA hE [0, 2, 1] rfl rfl 1 rfl rfl rfl rfl hl.1 rfl (Nat.le_of_ble_eq_true rfl) dX10_readLaw_33 ⟨Nat.le_of_ble_eq_true rfl, Nat.le_of_ble_eq_true rfl⟩) hP hD hS hA [0, 2, 1] [] rfl rfl rfl (by decide) (fun  w H locs hw hP hD hS => ?_)
    obtain ⟨f_23, v_24, v_25, v_26, v_27, v_28, v_29, tf_23, bv_24, bv_25, bv_27, bv_28, bv_29, g_30, g_31, g_32, g_33, rfl⟩ := hw
    have hP : va_P V.1 vwCl [(z 4, aI V 1025 f_23), (z 3, aI V 900 fz3), (z 0, .inr (10, mo z pz0_0 pz0_5 v_24 v_25 pz0_8 v_26 v_27 v_28 v_29 pz0_13 pz0_14 pz0_18 pz0_19 pz0_22 pz0_23 pz0_29))] H := hP
    have hD : va_D A [(z 4, aI V 1025 f_23), (z 3, aI V 900 fz3), (z 0, .inr (10, mo z pz0_0 pz0_5 v_24 v_25 pz0_8 v_26 v_27 v_28 v_29 pz0_13 pz0_14 pz0_18 pz0_19 pz0_22 pz0_23 pz0_29))] := hD
    refine lv_goto (tgt := 44) hx hb dX10_readLaw_36 (by decide) ?_
    refine lv_aload_n hx hb dX10_readLaw_44 rfl (lv_at hl 1 rfl) ?_
    refine va_get (ci := 10) (v := .int v_28) (C := RX10) (T := TX10) (N := 40) hx hb hg inX10 hown hK hP 2 rfl rfl 11 (by decide) (hg _ q_5_235) (fun _ h9 => h9) rfl dX10_readLaw_45 ?_
    refine lv_if_eq (tgt := 52) hx hb dX10_readLaw_48 (by decide) (fun c_34 => ?_) (fun c_34 => ?_)
    · have b_35 : iv 0 0 v_28 := iv_q c_34 (iv_c (0 : Int32) (a := 0) (b := 0) (by decide))
      refine lv_aload_n hx hb dX10_readLaw_52 rfl (lv_at hl 1 rfl) ?_
      refine va_get (ci := 10) (v := .ref (z 4)) (C := RX10) (T := TX10) (N := 40) hx hb hg inX10 hown hK hP 2 rfl rfl 4 (by decide) (hg _ q_5_228) (fun _ h9 => h9) rfl dX10_readLaw_53 ?_
      refine lv_iconst (v := 4) hx hb dX10_readLaw_56 (by decide) ?_
      refine lv_iload_n hx hb dX10_readLaw_57 rfl (lv_at hl 2 rfl) ?_
      refine lv_iadd hx hb dX10_readLaw_58 ?_
      refine tpi (y := 5) (by decide +kernel) ?_
      refine lv_iconst (v := 1) hx hb dX10_readLaw_59 (by decide) ?_
      refine va_iast hx hb hK hP hD hS 0 0 rfl rfl (vin (by decide +kernel)) dX10_readLaw_60 (fun H locs hP hD hS => ?_)
      obtain ⟨f_36, ef_36, tf_36, hP, hD⟩ : ∃ f_36 : Nat → Int32, f_36 = (upd f_23 (5 : Int32).toNatClampNeg 1) ∧ (ivT tF f_36) ∧ va_P V.1 vwCl [(z 4, aI V 1025 f_36), (z 3, aI V 900 fz3), (z 0, .inr (10, mo z pz0_0 pz0_5 v_24 v_25 pz0_8 v_26 v_27 v_28 v_29 pz0_13 pz0_14 pz0_18 pz0_19 pz0_22 pz0_23 pz0_29))] H ∧ va_D A [(z 4, aI V 1025 f_36), (z 3, aI V 900 fz3), (z 0, .inr (10, mo z pz0_0 pz0_5 v_24 v_25 pz0_8 v_26 v_27 v_28 v_29 pz0_13 pz0_14 pz0_18 pz0_19 pz0_22 pz0_23 pz0_29))] := ⟨_, rfl, upT (lo := (-2147483648)) (hi := 2147483647) (a := 5) (n := 1) tf_23 (iv_c (5 : Int32) (a := 5) (b := 5) (by decide)) (by decide) (iv_c (1 : Int32) (by decide)) (by decide +kernel), hP, hD⟩
      refine lv_aload_n hx hb dX10_readLaw_61 rfl (lv_at hl 1 rfl) ?_
      refine va_get (ci := 10) (v := .ref (z 4)) (C := RX10) (T := TX10) (N := 40) hx hb hg inX10 hown hK hP 2 rfl rfl 4 (by decide) (hg _ q_5_228) (fun _ h9 => h9) rfl dX10_readLaw_62 ?_
      refine lv_bipush (v := 6) hx hb dX10_readLaw_65 (by decide) ?_
      refine lv_iload_n hx hb dX10_readLaw_67 rfl (lv_at hl 2 rfl) ?_
      refine lv_iadd hx hb dX10_readLaw_68 ?_
      refine tpi (y := 7) (by decide +kernel) ?_
      refine lv_iload_n hx hb dX10_readLaw_69 rfl (lv_at hl 0 rfl) ?_
      refine va_iast hx hb hK hP hD hS 0 0 rfl rfl (vin (by decide +kernel)) dX10_readLaw_70 (fun H locs hP hD hS => ?_)
      obtain ⟨f_37, ef_37, tf_37, hP, hD⟩ : ∃ f_37 : Nat → Int32, f_37 = (upd f_36 (7 : Int32).toNatClampNeg x_20) ∧ (ivT tF f_37) ∧ va_P V.1 vwCl [(z 4, aI V 1025 f_37), (z 3, aI V 900 fz3), (z 0, .inr (10, mo z pz0_0 pz0_5 v_24 v_25 pz0_8 v_26 v_27 v_28 v_29 pz0_13 pz0_14 pz0_18 pz0_19 pz0_22 pz0_23 pz0_29))] H ∧ va_D A [(z 4, aI V 1025 f_37), (z 3, aI V 900 fz3), (z 0, .inr (10, mo z pz0_0 pz0_5 v_24 v_25 pz0_8 v_26 v_27 v_28 v_29 pz0_13 pz0_14 pz0_18 pz0_19 pz0_22 pz0_23 pz0_29))] := ⟨_, rfl, upT (lo := (-2147483648)) (hi := 2147483647) (a := 7) (n := 1) tf_36 (iv_c (7 : Int32) (a := 7) (b := 7) (by decide)) (by decide) (iv_w bx_20 (by decide)) (by decide +kernel), hP, hD⟩
      refine lv_aload_n hx hb dX10_readLaw_71 rfl (lv_at hl 1 rfl) ?_
      refine va_get (ci := 10) (v := .ref (z 4)) (C := RX10) (T := TX10) (N := 40) hx hb hg inX10 hown hK hP 2 rfl rfl 4 (by decide) (hg _ q_5_228) (fun _ h9 => h9) rfl dX10_readLaw_72 ?_
      refine lv_bipush (v := 8) hx hb dX10_readLaw_75 (by decide) ?_
      refine lv_iload_n hx hb dX10_readLaw_77 rfl (lv_at hl 2 rfl) ?_
      refine lv_iadd hx hb dX10_readLaw_78 ?_
      refine tpi (y := 9) (by decide +kernel) ?_
      refine lv_aload_n hx hb dX10_readLaw_79 rfl (lv_at hl 1 rfl) ?_
      refine va_get (ci := 10) (v := .ref (z 4)) (C := RX10) (T := TX10) (N := 40) hx hb hg inX10 hown hK hP 2 rfl rfl 4 (by decide) (hg _ q_5_228) (fun _ h9 => h9) rfl dX10_readLaw_80 ?_
      refine lv_bipush (v := 124) hx hb dX10_readLaw_83 (by decide) ?_
      refine va_iald hx hb hK hP 0 0 rfl rfl (vin (by decide +kernel)) dX10_readLaw_85 ?_
      refine tpi (y := f_23 (124 : Int32).toNatClampNeg) ((show f_37 (124 : Int32).toNatClampNeg = f_36 (124 : Int32).toNatClampNeg from by rw [ef_37]; exact upd_ne (cl_ne (iv_c (124 : Int32) (a := 124) (b := 124) (by decide)) (iv_c (7 : Int32) (a := 7) (b := 7) (by decide)) (by decide))).trans (show f_36 (124 : Int32).toNatClampNeg = f_23 (124 : Int32).toNatClampNeg from by rw [ef_36]; exact upd_ne (cl_ne (iv_c (124 : Int32) (a := 124) (b := 124) (by decide)) (iv_c (5 : Int32) (a := 5) (b := 5) (by decide)) (by decide)))) ?_
      refine lv_topi (fun x_38 ex_38 => ?_)
      have bx_38 : iv 0 900 x_38 := by rw [ex_38]; exact rdT (a := 124) (n := 1) tf_23 (iv_c (124 : Int32) (a := 124) (b := 124) (by decide)) (by decide) (by decide +kernel)
      refine lv_iload_n hx hb dX10_readLaw_86 rfl (lv_at hl 0 rfl) ?_
      refine lv_isub hx hb dX10_readLaw_87 ?_
      refine lv_topi (fun x_39 ex_39 => ?_)
      have bx_39 : iv (-900) 900 x_39 := by rw [ex_39]; exact iv_sub bx_38 bx_20 (by decide)
      refine va_iast hx hb hK hP hD hS 0 0 rfl rfl (vin (by decide +kernel)) dX10_readLaw_88 (fun H locs hP hD hS => ?_)
      obtain ⟨f_40, ef_40, tf_40, hP, hD⟩ : ∃ f_40 : Nat → Int32, f_40 = (upd f_37 (9 : Int32).toNatClampNeg x_39) ∧ (ivT tF f_40) ∧ va_P V.1 vwCl [(z 4, aI V 1025 f_40), (z 3, aI V 900 fz3), (z 0, .inr (10, mo z pz0_0 pz0_5 v_24 v_25 pz0_8 v_26 v_27 v_28 v_29 pz0_13 pz0_14 pz0_18 pz0_19 pz0_22 pz0_23 pz0_29))] H ∧ va_D A [(z 4, aI V 1025 f_40), (z 3, aI V 900 fz3), (z 0, .inr (10, mo z pz0_0 pz0_5 v_24 v_25 pz0_8 v_26 v_27 v_28 v_29 pz0_13 pz0_14 pz0_18 pz0_19 pz0_22 pz0_23 pz0_29))] := ⟨_, rfl, upT (lo := (-2147483648)) (hi := 2147483647) (a := 9) (n := 1) tf_37 (iv_c (9 : Int32) (a := 9) (b := 9) (by decide)) (by decide) (iv_w bx_39 (by decide)) (by decide +kernel), hP, hD⟩
      exact fiV hx hb hr hlk hK hP hD hS dX10_readLaw_89 (Nat.le_of_ble_eq_true rfl) (Nat.le_of_ble_eq_true rfl) (⟨f_40, v_24, v_25, v_26, v_27, v_28, v_29, tf_40, bv_24, bv_25, bv_27, (iv_w b_35 (by decide)), bv_29, g_30, (PS_law (law := 1) (by decide) g_31 (fun q9 => (g_33 q9).2) ex_20 ef_36 ef_37 (show x_38 = f_37 124 from (by rw [ef_37, ef_36]; exact (ex_38).trans rfl)) ex_39 ef_40), (by have z_0 := g_6; have z_1 := g_13; have z_2 := g_32;have y_0 := hf0.1; have y_1 := g_5.1; have y_2 := g_12.1; have y_3 := g_30.1; omega), (fun q9 => ((fun q8 => (g_33 q8).1) q9)), rfl⟩)
    · have b_41 : iv 1 4 v_28 := iv_n0 c_34 bv_28 (iv_c (0 : Int32) (a := 0) (b := 0) (by decide)) (by decide)
      exact fiV hx hb hr hlk hK hP hD hS dX10_readLaw_51 (Nat.le_of_ble_eq_true rfl) (Nat.le_of_ble_eq_true rfl) (⟨f_23, v_24, v_25, v_26, v_27, v_28, v_29, tf_23, bv_24, bv_25, bv_27, (iv_w b_41 (by decide)), bv_29, g_30, g_31, (by have z_0 := g_6; have z_1 := g_13; have z_2 := g_32;have y_0 := hf0.1; have y_1 := g_5.1; have y_2 := g_12.1; have y_3 := g_30.1; omega), (fun q9 => ((fun q8 => absurd q8 (iv_nz b_41 (by decide))) q9)), rfl⟩)
  · have b_42 : iv 0 0 r_7 := iv_q c_16 (iv_c (0 : Int32) (a := 0) (b := 0) (by decide))
    refine lv_aload_n hx hb dX10_readLaw_13 rfl (lv_at hl 0 rfl) ?_
    refine lv_iconst (v := 2) hx hb dX10_readLaw_14 (by decide) ?_
    refine jnV (wr := [(z 4, aI V 1025 fz4), (z 3, aI V 900 fz3)]) (rnV (rest := []) ⟨hx, hb, hml, hown, hg⟩ (k_X10_fails_0 l V z 2 pz0_0 pz0_5 v_8 v_9 pz0_8 v_10 v_11 pz0_11 pz0_12 pz0_13 pz0_14 pz0_18 pz0_19 pz0_22 pz0_23 pz0_29 (iv_c (2 : Int32) (by decide)) bpz0_5 bv_8 bv_9 bpz0_8 bv_11 bpz0_11 bpz0_12 bpz0_13 bpz0_14 bpz0_18 bpz0_22 bpz0_29) mt_X10_fails q_6_147 ⟨Nat.le_of_ble_eq_true rfl, Nat.le_of_ble_eq_true rfl⟩ hK hP hD hS hA hE [1] rfl rfl 1 rfl rfl rfl rfl hl.1 rfl (Nat.le_of_ble_eq_true rfl) dX10_readLaw_15 ⟨Nat.le_of_ble_eq_true rfl, Nat.le_of_ble_eq_true rfl⟩) hP hD hS hA [1] [0, 2] rfl rfl rfl (by decide) (fun  w H locs hw hP hD hS => ?_)
    obtain ⟨v_43, v_44, bv_43, bv_44, rfl⟩ := hw
    have hP : va_P V.1 vwCl [(z 4, aI V 1025 fz4), (z 3, aI V 900 fz3), (z 0, .inr (10, mo z pz0_0 pz0_5 v_8 v_9 pz0_8 v_10 v_11 v_43 v_44 pz0_13 pz0_14 pz0_18 pz0_19 pz0_22 pz0_23 pz0_29))] H := hP
    have hD : va_D A [(z 4, aI V 1025 fz4), (z 3, aI V 900 fz3), (z 0, .inr (10, mo z pz0_0 pz0_5 v_8 v_9 pz0_8 v_10 v_11 v_43 v_44 pz0_13 pz0_14 pz0_18 pz0_19 pz0_22 pz0_23 pz0_29))] := hD
    refine lv_aload_n hx hb dX10_readLaw_18 rfl (lv_at hl 0 rfl) ?_
    refine va_get (ci := 10) (v := .ref (z 4)) (C := RX10) (T := TX10) (N := 40) hx hb hg inX10 hown hK hP 2 rfl rfl 4 (by decide) (hg _ q_5_228) (fun _ h9 => h9) rfl dX10_readLaw_19 ?_
    refine lv_bipush (v := 124) hx hb dX10_readLaw_22 (by decide) ?_
    refine va_iald hx hb hK hP 0 0 rfl rfl (vin (by decide +kernel)) dX10_readLaw_24 ?_
    refine lv_topi (fun x_45 ex_45 => ?_)
    have bx_45 : iv 0 900 x_45 := by rw [ex_45]; exact rdT (a := 124) (n := 1) tfz4 (iv_c (124 : Int32) (a := 124) (b := 124) (by decide)) (by decide) (by decide +kernel)
    refine lv_istore_n (lv' := [(2, .int x_45), (0, .ref (z 0)), (1, .int 1)]) hx hb dX10_readLaw_25 rfl hl (by decide) rfl (fun ls hl => ?_)
    refine lv_iload_n hx hb dX10_readLaw_26 rfl (lv_at hl 2 rfl) ?_
    refine lv_iconst (v := 1) hx hb dX10_readLaw_27 (by decide) ?_
    refine lv_icmp_ne (tgt := 39) hx hb dX10_readLaw_28 (by decide) (fun c_47 => absurd c_47 (by decide)) (fun _ => ?_)
    refine lv_aload_n hx hb dX10_readLaw_31 rfl (lv_at hl 1 rfl) ?_
    refine lv_iconst (v := 0) hx hb dX10_readLaw_32 (by decide) ?_
    refine jnV (wr := []) (rnV (rest := []) ⟨hx, hb, hml, hown, hg⟩ (k_X10_readSum_6 l V z fz4 fz3 pz0_0 pz0_5 v_8 v_9 pz0_8 v_10 v_11 v_43 v_44 pz0_13 pz0_14 pz0_18 pz0_19 pz0_22 pz0_23 pz0_29 tfz4 bpz0_5 bv_8 bv_9 bpz0_8 bv_11 (iv_w bv_43 (by decide)) bv_44 bpz0_13 bpz0_14 bpz0_18 bpz0_22 bpz0_29 g_12 (PS_f bv_43 (by decide))) mt_X10_readSum q_6_187 ⟨Nat.le_of_ble_eq_true rfl, Nat.le_of_ble_eq_true rfl⟩ hK hP hD hS hA hE [0, 1, 2] rfl rfl 2 rfl rfl rfl rfl hl.1 rfl (Nat.le_of_ble_eq_true rfl) dX10_readLaw_33 ⟨Nat.le_of_ble_eq_true rfl, Nat.le_of_ble_eq_true rfl⟩) hP hD hS hA [0, 1, 2] [] rfl rfl rfl (by decide) (fun  w H locs hw hP hD hS => ?_)
    obtain ⟨f_48, v_49, v_50, v_51, v_52, v_53, v_54, tf_48, bv_49, bv_50, bv_52, bv_53, bv_54, g_55, g_56, g_57, g_58, rfl⟩ := hw
    have hP : va_P V.1 vwCl [(z 4, aI V 1025 f_48), (z 3, aI V 900 fz3), (z 0, .inr (10, mo z pz0_0 pz0_5 v_49 v_50 pz0_8 v_51 v_52 v_53 v_54 pz0_13 pz0_14 pz0_18 pz0_19 pz0_22 pz0_23 pz0_29))] H := hP
    have hD : va_D A [(z 4, aI V 1025 f_48), (z 3, aI V 900 fz3), (z 0, .inr (10, mo z pz0_0 pz0_5 v_49 v_50 pz0_8 v_51 v_52 v_53 v_54 pz0_13 pz0_14 pz0_18 pz0_19 pz0_22 pz0_23 pz0_29))] := hD
    refine lv_goto (tgt := 44) hx hb dX10_readLaw_36 (by decide) ?_
    refine lv_aload_n hx hb dX10_readLaw_44 rfl (lv_at hl 1 rfl) ?_
    refine va_get (ci := 10) (v := .int v_53) (C := RX10) (T := TX10) (N := 40) hx hb hg inX10 hown hK hP 2 rfl rfl 11 (by decide) (hg _ q_5_235) (fun _ h9 => h9) rfl dX10_readLaw_45 ?_
    refine lv_if_eq (tgt := 52) hx hb dX10_readLaw_48 (by decide) (fun c_59 => ?_) (fun c_59 => ?_)
    · have b_60 : iv 0 0 v_53 := iv_q c_59 (iv_c (0 : Int32) (a := 0) (b := 0) (by decide))
      refine lv_aload_n hx hb dX10_readLaw_52 rfl (lv_at hl 1 rfl) ?_
      refine va_get (ci := 10) (v := .ref (z 4)) (C := RX10) (T := TX10) (N := 40) hx hb hg inX10 hown hK hP 2 rfl rfl 4 (by decide) (hg _ q_5_228) (fun _ h9 => h9) rfl dX10_readLaw_53 ?_
      refine lv_iconst (v := 4) hx hb dX10_readLaw_56 (by decide) ?_
      refine lv_iload_n hx hb dX10_readLaw_57 rfl (lv_at hl 2 rfl) ?_
      refine lv_iadd hx hb dX10_readLaw_58 ?_
      refine tpi (y := 5) (by decide +kernel) ?_
      refine lv_iconst (v := 1) hx hb dX10_readLaw_59 (by decide) ?_
      refine va_iast hx hb hK hP hD hS 0 0 rfl rfl (vin (by decide +kernel)) dX10_readLaw_60 (fun H locs hP hD hS => ?_)
      obtain ⟨f_61, ef_61, tf_61, hP, hD⟩ : ∃ f_61 : Nat → Int32, f_61 = (upd f_48 (5 : Int32).toNatClampNeg 1) ∧ (ivT tF f_61) ∧ va_P V.1 vwCl [(z 4, aI V 1025 f_61), (z 3, aI V 900 fz3), (z 0, .inr (10, mo z pz0_0 pz0_5 v_49 v_50 pz0_8 v_51 v_52 v_53 v_54 pz0_13 pz0_14 pz0_18 pz0_19 pz0_22 pz0_23 pz0_29))] H ∧ va_D A [(z 4, aI V 1025 f_61), (z 3, aI V 900 fz3), (z 0, .inr (10, mo z pz0_0 pz0_5 v_49 v_50 pz0_8 v_51 v_52 v_53 v_54 pz0_13 pz0_14 pz0_18 pz0_19 pz0_22 pz0_23 pz0_29))] := ⟨_, rfl, upT (lo := (-2147483648)) (hi := 2147483647) (a := 5) (n := 1) tf_48 (iv_c (5 : Int32) (a := 5) (b := 5) (by decide)) (by decide) (iv_c (1 : Int32) (by decide)) (by decide +kernel), hP, hD⟩
      refine lv_aload_n hx hb dX10_readLaw_61 rfl (lv_at hl 1 rfl) ?_
      refine va_get (ci := 10) (v := .ref (z 4)) (C := RX10) (T := TX10) (N := 40) hx hb hg inX10 hown hK hP 2 rfl rfl 4 (by decide) (hg _ q_5_228) (fun _ h9 => h9) rfl dX10_readLaw_62 ?_
      refine lv_bipush (v := 6) hx hb dX10_readLaw_65 (by decide) ?_
      refine lv_iload_n hx hb dX10_readLaw_67 rfl (lv_at hl 2 rfl) ?_
      refine lv_iadd hx hb dX10_readLaw_68 ?_
      refine tpi (y := 7) (by decide +kernel) ?_
      refine lv_iload_n hx hb dX10_readLaw_69 rfl (lv_at hl 0 rfl) ?_
      refine va_iast hx hb hK hP hD hS 0 0 rfl rfl (vin (by decide +kernel)) dX10_readLaw_70 (fun H locs hP hD hS => ?_)
      obtain ⟨f_62, ef_62, tf_62, hP, hD⟩ : ∃ f_62 : Nat → Int32, f_62 = (upd f_61 (7 : Int32).toNatClampNeg x_45) ∧ (ivT tF f_62) ∧ va_P V.1 vwCl [(z 4, aI V 1025 f_62), (z 3, aI V 900 fz3), (z 0, .inr (10, mo z pz0_0 pz0_5 v_49 v_50 pz0_8 v_51 v_52 v_53 v_54 pz0_13 pz0_14 pz0_18 pz0_19 pz0_22 pz0_23 pz0_29))] H ∧ va_D A [(z 4, aI V 1025 f_62), (z 3, aI V 900 fz3), (z 0, .inr (10, mo z pz0_0 pz0_5 v_49 v_50 pz0_8 v_51 v_52 v_53 v_54 pz0_13 pz0_14 pz0_18 pz0_19 pz0_22 pz0_23 pz0_29))] := ⟨_, rfl, upT (lo := (-2147483648)) (hi := 2147483647) (a := 7) (n := 1) tf_61 (iv_c (7 : Int32) (a := 7) (b := 7) (by decide)) (by decide) (iv_w bx_45 (by decide)) (by decide +kernel), hP, hD⟩
      refine lv_aload_n hx hb dX10_readLaw_71 rfl (lv_at hl 1 rfl) ?_
      refine va_get (ci := 10) (v := .ref (z 4)) (C := RX10) (T := TX10) (N := 40) hx hb hg inX10 hown hK hP 2 rfl rfl 4 (by decide) (hg _ q_5_228) (fun _ h9 => h9) rfl dX10_readLaw_72 ?_
      refine lv_bipush (v := 8) hx hb dX10_readLaw_75 (by decide) ?_
      refine lv_iload_n hx hb dX10_readLaw_77 rfl (lv_at hl 2 rfl) ?_
      refine lv_iadd hx hb dX10_readLaw_78 ?_
      refine tpi (y := 9) (by decide +kernel) ?_
      refine lv_aload_n hx hb dX10_readLaw_79 rfl (lv_at hl 1 rfl) ?_
      refine va_get (ci := 10) (v := .ref (z 4)) (C := RX10) (T := TX10) (N := 40) hx hb hg inX10 hown hK hP 2 rfl rfl 4 (by decide) (hg _ q_5_228) (fun _ h9 => h9) rfl dX10_readLaw_80 ?_
      refine lv_bipush (v := 124) hx hb dX10_readLaw_83 (by decide) ?_
      refine va_iald hx hb hK hP 0 0 rfl rfl (vin (by decide +kernel)) dX10_readLaw_85 ?_
      refine tpi (y := f_48 (124 : Int32).toNatClampNeg) ((show f_62 (124 : Int32).toNatClampNeg = f_61 (124 : Int32).toNatClampNeg from by rw [ef_62]; exact upd_ne (cl_ne (iv_c (124 : Int32) (a := 124) (b := 124) (by decide)) (iv_c (7 : Int32) (a := 7) (b := 7) (by decide)) (by decide))).trans (show f_61 (124 : Int32).toNatClampNeg = f_48 (124 : Int32).toNatClampNeg from by rw [ef_61]; exact upd_ne (cl_ne (iv_c (124 : Int32) (a := 124) (b := 124) (by decide)) (iv_c (5 : Int32) (a := 5) (b := 5) (by decide)) (by decide)))) ?_
      refine lv_topi (fun x_63 ex_63 => ?_)
      have bx_63 : iv 0 900 x_63 := by rw [ex_63]; exact rdT (a := 124) (n := 1) tf_48 (iv_c (124 : Int32) (a := 124) (b := 124) (by decide)) (by decide) (by decide +kernel)
      refine lv_iload_n hx hb dX10_readLaw_86 rfl (lv_at hl 0 rfl) ?_
      refine lv_isub hx hb dX10_readLaw_87 ?_
      refine lv_topi (fun x_64 ex_64 => ?_)
      have bx_64 : iv (-900) 900 x_64 := by rw [ex_64]; exact iv_sub bx_63 bx_45 (by decide)
      refine va_iast hx hb hK hP hD hS 0 0 rfl rfl (vin (by decide +kernel)) dX10_readLaw_88 (fun H locs hP hD hS => ?_)
      obtain ⟨f_65, ef_65, tf_65, hP, hD⟩ : ∃ f_65 : Nat → Int32, f_65 = (upd f_62 (9 : Int32).toNatClampNeg x_64) ∧ (ivT tF f_65) ∧ va_P V.1 vwCl [(z 4, aI V 1025 f_65), (z 3, aI V 900 fz3), (z 0, .inr (10, mo z pz0_0 pz0_5 v_49 v_50 pz0_8 v_51 v_52 v_53 v_54 pz0_13 pz0_14 pz0_18 pz0_19 pz0_22 pz0_23 pz0_29))] H ∧ va_D A [(z 4, aI V 1025 f_65), (z 3, aI V 900 fz3), (z 0, .inr (10, mo z pz0_0 pz0_5 v_49 v_50 pz0_8 v_51 v_52 v_53 v_54 pz0_13 pz0_14 pz0_18 pz0_19 pz0_22 pz0_23 pz0_29))] := ⟨_, rfl, upT (lo := (-2147483648)) (hi := 2147483647) (a := 9) (n := 1) tf_62 (iv_c (9 : Int32) (a := 9) (b := 9) (by decide)) (by decide) (iv_w bx_64 (by decide)) (by decide +kernel), hP, hD⟩
      exact fiV hx hb hr hlk hK hP hD hS dX10_readLaw_89 (Nat.le_of_ble_eq_true rfl) (Nat.le_of_ble_eq_true rfl) (⟨f_65, v_49, v_50, v_51, v_52, v_53, v_54, tf_65, bv_49, bv_50, bv_52, (iv_w b_60 (by decide)), bv_54, g_55, (PS_law (law := 1) (by decide) g_56 (fun q9 => (g_58 q9).2) ex_45 ef_61 ef_62 (show x_63 = f_62 124 from (by rw [ef_62, ef_61]; exact (ex_63).trans rfl)) ex_64 ef_65), (by have z_0 := g_6; have z_1 := g_13; have z_2 := g_57;have y_0 := hf0.1; have y_1 := g_5.1; have y_2 := g_12.1; have y_3 := g_55.1; omega), (fun q9 => ((fun q8 => absurd q8 (iv_nz bv_43 (by decide))) ((fun q8 => (g_58 q8).1) q9))), rfl⟩)
    · have b_66 : iv 1 4 v_53 := iv_n0 c_59 bv_53 (iv_c (0 : Int32) (a := 0) (b := 0) (by decide)) (by decide)
      exact fiV hx hb hr hlk hK hP hD hS dX10_readLaw_51 (Nat.le_of_ble_eq_true rfl) (Nat.le_of_ble_eq_true rfl) (⟨f_48, v_49, v_50, v_51, v_52, v_53, v_54, tf_48, bv_49, bv_50, bv_52, (iv_w b_66 (by decide)), bv_54, g_55, g_56, (by have z_0 := g_6; have z_1 := g_13; have z_2 := g_57;have y_0 := hf0.1; have y_1 := g_5.1; have y_2 := g_12.1; have y_3 := g_55.1; omega), (fun q9 => ((fun q8 => absurd q8 (iv_nz b_66 (by decide))) q9)), rfl⟩)
set_option maxHeartbeats 4000000 in
set_option maxRecDepth 100000 in
theorem k_X10_is_27 (l : Launch) (V : GV) (z : Nat → Nat) (pz0_0 : Int32) (pz0_5 : Int32) (pz0_6 : Int32) (pz0_7 : Int32) (pz0_8 : Int32) (pz0_9 : Int32) (pz0_10 : Int32) (pz0_11 : Int32) (pz0_12 : Int32) (pz0_13 : Int32) (pz0_14 : Int32) (pz0_18 : Int32) (pz0_19 : Int32) (pz0_22 : Int32) (pz0_23 : Int32) (pz0_29 : Int32) (bpz0_5 : iv 0 900 pz0_5) (bpz0_6 : iv 0 900 pz0_6) (bpz0_7 : iv 0 900 pz0_7) (bpz0_8 : iv 0 900 pz0_8) (bpz0_10 : iv 0 999 pz0_10) (bpz0_11 : iv 0 4 pz0_11) (bpz0_12 : iv 0 900 pz0_12) (bpz0_13 : iv 0 4 pz0_13) (bpz0_14 : iv (-1) 900 pz0_14) (bpz0_18 : iv 0 2 pz0_18) (bpz0_22 : iv 0 9999 pz0_22) (bpz0_29 : iv 0 10000 pz0_29) : Ct l V yX10_is (.code yX10_is cX10_is 2 (some .boolean)) 1 [.ref (z 0), .int 10] [(z 0, .inr (10, mo z pz0_0 pz0_5 pz0_6 pz0_7 pz0_8 pz0_9 pz0_10 pz0_11 pz0_12 pz0_13 pz0_14 pz0_18 pz0_19 pz0_22 pz0_23 pz0_29))] 0 0 (QI V (fun (r : Int32) (w : va_W) => iv 0 1 r ∧ (r = 1 → pz0_11 = 0) ∧ (r = 1 → pz0_9 = (10 : Int32)) ∧ w = [(z 0, .inr (10, mo z pz0_0 pz0_5 pz0_6 pz0_7 pz0_8 pz0_9 pz0_10 pz0_11 pz0_12 pz0_13 pz0_14 pz0_18 pz0_19 pz0_22 pz0_23 pz0_29))])) := by
  refine Ct.of (by decide) (Nat.le_of_ble_eq_true rfl) (fun p e s m below meth c A ls hx hb hr hml hown hlk hnm hg hP hK hD hE hA hS hl => ?_)
  have hl : lv_has ls 2 [(0, .ref (z 0)), (1, .int 10)] := hl
  refine lv_aload_n hx hb dX10_is_0 rfl (lv_at hl 0 rfl) ?_
  refine va_get (ci := 10) (v := .int pz0_11) (C := RX10) (T := TX10) (N := 40) hx hb hg inX10 hown hK hP 0 rfl rfl 11 (by decide) (hg _ q_5_235) (fun _ h9 => h9) rfl dX10_is_1 ?_
  refine lv_if_ne (tgt := 19) hx hb dX10_is_4 (by decide) (fun c_1 => ?_) (fun c_1 => ?_)
  · have b_2 : iv 1 4 pz0_11 := iv_n0 c_1 bpz0_11 (iv_c (0 : Int32) (a := 0) (b := 0) (by decide)) (by decide)
    refine lv_iconst (v := 0) hx hb dX10_is_19 (by decide) ?_
    exact fiZ rfl hx hb hr hlk hK hP hD hS dX10_is_20 (Nat.le_of_ble_eq_true rfl) (Nat.le_of_ble_eq_true rfl) (⟨(iv_c (0 : Int32) (by decide)), (fun q9 => absurd q9 (by decide)), (fun q9 => absurd q9 (by decide)), rfl⟩)
  · have b_3 : iv 0 0 pz0_11 := iv_q c_1 (iv_c (0 : Int32) (a := 0) (b := 0) (by decide))
    refine lv_aload_n hx hb dX10_is_7 rfl (lv_at hl 0 rfl) ?_
    refine va_get (ci := 10) (v := .int pz0_9) (C := RX10) (T := TX10) (N := 40) hx hb hg inX10 hown hK hP 0 rfl rfl 9 (by decide) (hg _ q_5_233) (fun _ h9 => h9) rfl dX10_is_8 ?_
    refine lv_iload_n hx hb dX10_is_11 rfl (lv_at hl 1 rfl) ?_
    refine lv_icmp_ne (tgt := 19) hx hb dX10_is_12 (by decide) (fun c_4 => ?_) (fun c_4 => ?_)
    · refine lv_iconst (v := 0) hx hb dX10_is_19 (by decide) ?_
      exact fiZ rfl hx hb hr hlk hK hP hD hS dX10_is_20 (Nat.le_of_ble_eq_true rfl) (Nat.le_of_ble_eq_true rfl) (⟨(iv_c (0 : Int32) (by decide)), (fun q9 => absurd q9 (by decide)), (fun q9 => absurd q9 (by decide)), rfl⟩)
    · have b_5 : iv 10 10 pz0_9 := iv_q c_4 (iv_c (10 : Int32) (a := 10) (b := 10) (by decide))
      refine lv_iconst (v := 1) hx hb dX10_is_15 (by decide) ?_
      refine lv_goto (tgt := 20) hx hb dX10_is_16 (by decide) ?_
      exact fiZ rfl hx hb hr hlk hK hP hD hS dX10_is_20 (Nat.le_of_ble_eq_true rfl) (Nat.le_of_ble_eq_true rfl) (⟨(iv_c (1 : Int32) (by decide)), (fun _ => c_1), (fun _ => c_4), rfl⟩)
set_option maxHeartbeats 4000000 in
set_option maxRecDepth 100000 in
theorem k_X10_eats_12 (l : Launch) (V : GV) (z : Nat → Nat) (pz0_0 : Int32) (pz0_5 : Int32) (pz0_6 : Int32) (pz0_7 : Int32) (pz0_8 : Int32) (pz0_9 : Int32) (pz0_10 : Int32) (pz0_11 : Int32) (pz0_12 : Int32) (pz0_13 : Int32) (pz0_14 : Int32) (pz0_18 : Int32) (pz0_19 : Int32) (pz0_22 : Int32) (pz0_23 : Int32) (pz0_29 : Int32) (fz3 : Nat → Int32) (bpz0_5 : iv 0 900 pz0_5) (bpz0_6 : iv 0 900 pz0_6) (bpz0_7 : iv 0 900 pz0_7) (bpz0_8 : iv 0 900 pz0_8) (bpz0_10 : iv 0 999 pz0_10) (bpz0_11 : iv 0 4 pz0_11) (bpz0_12 : iv 0 900 pz0_12) (bpz0_13 : iv 0 4 pz0_13) (bpz0_14 : iv (-1) 900 pz0_14) (bpz0_18 : iv 0 2 pz0_18) (bpz0_22 : iv 0 9999 pz0_22) (bpz0_29 : iv 0 10000 pz0_29) (hf0 : PT pz0_6 pz0_7 pz0_8 pz0_9) : Ct l V yX10_eats (.code yX10_eats cX10_eats 2 (some .boolean)) 7 [.ref (z 0), .int 10] [(z 0, .inr (10, mo z pz0_0 pz0_5 pz0_6 pz0_7 pz0_8 pz0_9 pz0_10 pz0_11 pz0_12 pz0_13 pz0_14 pz0_18 pz0_19 pz0_22 pz0_23 pz0_29)), (z 3, aI V 900 fz3)] 0 0 (QI V (fun (r : Int32) (w : va_W) => ∃ (v0 : Int32) (v1 : Int32) (v2 : Int32) (v3 : Int32), iv 0 900 v0 ∧ iv 0 900 v1 ∧ iv 0 999 v3 ∧ iv 0 1 r ∧ (PT v0 v1 pz0_8 v2) ∧ ((pz0_6 : Int32).toInt ≤ (v0 : Int32).toInt) ∧ (r = 1 → pz0_11 = 0) ∧ (r = 1 → (pz0_6 : Int32).toInt + 1 ≤ (v0 : Int32).toInt) ∧ w = [(z 0, .inr (10, mo z pz0_0 pz0_5 v0 v1 pz0_8 v2 v3 pz0_11 pz0_12 pz0_13 pz0_14 pz0_18 pz0_19 pz0_22 pz0_23 pz0_29)), (z 3, aI V 900 fz3)])) := by
  refine Ct.of (by decide) (Nat.le_of_ble_eq_true rfl) (fun p e s m below meth c A ls hx hb hr hml hown hlk hnm hg hP hK hD hE hA hS hl => ?_)
  have hl : lv_has ls 2 [(0, .ref (z 0)), (1, .int 10)] := hl
  refine lv_aload_n hx hb dX10_eats_0 rfl (lv_at hl 0 rfl) ?_
  refine lv_iload_n hx hb dX10_eats_1 rfl (lv_at hl 1 rfl) ?_
  refine jnI (wr := [(z 3, aI V 900 fz3)]) (rnV (rest := []) ⟨hx, hb, hml, hown, hg⟩ (k_X10_is_27 l V z pz0_0 pz0_5 pz0_6 pz0_7 pz0_8 pz0_9 pz0_10 pz0_11 pz0_12 pz0_13 pz0_14 pz0_18 pz0_19 pz0_22 pz0_23 pz0_29 bpz0_5 bpz0_6 bpz0_7 bpz0_8 bpz0_10 bpz0_11 bpz0_12 bpz0_13 bpz0_14 bpz0_18 bpz0_22 bpz0_29) mt_X10_is q_6_143 ⟨Nat.le_of_ble_eq_true rfl, Nat.le_of_ble_eq_true rfl⟩ hK hP hD hS hA hE [0] rfl rfl 0 rfl rfl rfl rfl hl.1 rfl (Nat.le_of_ble_eq_true rfl) dX10_eats_2 ⟨Nat.le_of_ble_eq_true rfl, Nat.le_of_ble_eq_true rfl⟩) hP hD hS hA [0] [1] rfl rfl rfl (by decide) (fun r_1 w H locs hw hP hD hS => ?_)
  obtain ⟨br_1, g_2, g_3, rfl⟩ := hw
  have hP : va_P V.1 vwCl [(z 3, aI V 900 fz3), (z 0, .inr (10, mo z pz0_0 pz0_5 pz0_6 pz0_7 pz0_8 pz0_9 pz0_10 pz0_11 pz0_12 pz0_13 pz0_14 pz0_18 pz0_19 pz0_22 pz0_23 pz0_29))] H := hP
  have hD : va_D A [(z 3, aI V 900 fz3), (z 0, .inr (10, mo z pz0_0 pz0_5 pz0_6 pz0_7 pz0_8 pz0_9 pz0_10 pz0_11 pz0_12 pz0_13 pz0_14 pz0_18 pz0_19 pz0_22 pz0_23 pz0_29))] := hD
  refine lv_if_ne (tgt := 10) hx hb dX10_eats_5 (by decide) (fun c_4 => ?_) (fun c_4 => ?_)
  · have b_5 : iv 1 1 r_1 := iv_n0 c_4 br_1 (iv_c (0 : Int32) (a := 0) (b := 0) (by decide)) (by decide)
    have c_6 : pz0_11 = 0 := (g_2 (iv_eqp b_5 (iv_c (1 : Int32) (by decide))))
    have b_7 : iv 0 0 pz0_11 := iv_q c_6 (iv_c (0 : Int32) (a := 0) (b := 0) (by decide))
    have c_8 : pz0_9 = 10 := (g_3 (iv_eqp b_5 (iv_c (1 : Int32) (by decide))))
    have b_9 : iv 10 10 pz0_9 := iv_q c_8 (iv_c (10 : Int32) (a := 10) (b := 10) (by decide))
    refine lv_aload_n hx hb dX10_eats_10 rfl (lv_at hl 0 rfl) ?_
    refine jnV (wr := []) (rnV (rest := []) ⟨hx, hb, hml, hown, hg⟩ (k_X10_next_0 l V z pz0_0 pz0_5 pz0_6 pz0_7 pz0_8 pz0_9 pz0_10 pz0_11 pz0_12 pz0_13 pz0_14 pz0_18 pz0_19 pz0_22 pz0_23 pz0_29 fz3 bpz0_5 bpz0_6 bpz0_7 bpz0_8 bpz0_10 (iv_w b_7 (by decide)) bpz0_12 bpz0_13 bpz0_14 bpz0_18 bpz0_22 bpz0_29 hf0.2.1) mt_X10_next q_6_117 ⟨Nat.le_of_ble_eq_true rfl, Nat.le_of_ble_eq_true rfl⟩ hK hP hD hS hA hE [1, 0] rfl rfl 1 rfl rfl rfl rfl hl.1 rfl (Nat.le_of_ble_eq_true rfl) dX10_eats_11 ⟨Nat.le_of_ble_eq_true rfl, Nat.le_of_ble_eq_true rfl⟩) hP hD hS hA [1, 0] [] rfl rfl rfl (by decide) (fun  w H locs hw hP hD hS => ?_)
    obtain ⟨v_10, v_11, v_12, v_13, bv_10, bv_11, bv_13, g_14, g_15, rfl⟩ := hw
    have hP : va_P V.1 vwCl [(z 0, .inr (10, mo z pz0_0 pz0_5 v_10 v_11 pz0_8 v_12 v_13 pz0_11 pz0_12 pz0_13 pz0_14 pz0_18 pz0_19 pz0_22 pz0_23 pz0_29)), (z 3, aI V 900 fz3)] H := hP
    have hD : va_D A [(z 0, .inr (10, mo z pz0_0 pz0_5 v_10 v_11 pz0_8 v_12 v_13 pz0_11 pz0_12 pz0_13 pz0_14 pz0_18 pz0_19 pz0_22 pz0_23 pz0_29)), (z 3, aI V 900 fz3)] := hD
    refine lv_iconst (v := 1) hx hb dX10_eats_14 (by decide) ?_
    exact fiZ rfl hx hb hr hlk hK hP hD hS dX10_eats_15 (Nat.le_of_ble_eq_true rfl) (Nat.le_of_ble_eq_true rfl) (⟨v_10, v_11, v_12, v_13, bv_10, bv_11, bv_13, (iv_c (1 : Int32) (by decide)), g_14, (by have q9 := g_15; have q8 := hf0.1; omega), (fun _ => iv_eqp b_7 (iv_c (0 : Int32) (by decide))), (fun _ => by have q9 := g_15; have q8 := hf0.2.2 (by rw [c_8]; decide); omega), rfl⟩)
  · have b_16 : iv 0 0 r_1 := iv_q c_4 (iv_c (0 : Int32) (a := 0) (b := 0) (by decide))
    refine lv_iconst (v := 0) hx hb dX10_eats_8 (by decide) ?_
    have hP := subP (ws' := [(z 0, .inr (10, mo z pz0_0 pz0_5 pz0_6 pz0_7 pz0_8 pz0_9 pz0_10 pz0_11 pz0_12 pz0_13 pz0_14 pz0_18 pz0_19 pz0_22 pz0_23 pz0_29)), (z 3, aI V 900 fz3)]) hP [1, 0] rfl
    have hD := hD.sub (ws' := [(z 0, .inr (10, mo z pz0_0 pz0_5 pz0_6 pz0_7 pz0_8 pz0_9 pz0_10 pz0_11 pz0_12 pz0_13 pz0_14 pz0_18 pz0_19 pz0_22 pz0_23 pz0_29)), (z 3, aI V 900 fz3)]) [1, 0] rfl rfl
    exact fiZ rfl hx hb hr hlk hK hP hD hS dX10_eats_9 (Nat.le_of_ble_eq_true rfl) (Nat.le_of_ble_eq_true rfl) (⟨pz0_6, pz0_7, pz0_9, pz0_10, bpz0_6, bpz0_7, bpz0_10, (iv_c (0 : Int32) (by decide)), hf0, (Int.le_refl _), (fun q9 => absurd q9 (by decide)), (fun q9 => absurd q9 (by decide)), rfl⟩)
set_option maxHeartbeats 4000000 in
set_option maxRecDepth 100000 in
theorem k_X10_named_1 (l : Launch) (V : GV) (z : Nat → Nat) (a2 : Int32) (a3 : Int32) (pz0_0 : Int32) (pz0_5 : Int32) (pz0_6 : Int32) (pz0_7 : Int32) (pz0_8 : Int32) (pz0_9 : Int32) (pz0_10 : Int32) (pz0_11 : Int32) (pz0_12 : Int32) (pz0_13 : Int32) (pz0_14 : Int32) (pz0_18 : Int32) (pz0_19 : Int32) (pz0_22 : Int32) (pz0_23 : Int32) (pz0_29 : Int32) (fz3 : Nat → Int32) (bpz0_5 : iv 0 900 pz0_5) (bpz0_6 : iv 0 900 pz0_6) (bpz0_7 : iv 0 900 pz0_7) (bpz0_8 : iv 0 900 pz0_8) (bpz0_10 : iv 0 999 pz0_10) (bpz0_11 : iv 0 4 pz0_11) (bpz0_12 : iv 0 900 pz0_12) (bpz0_13 : iv 0 4 pz0_13) (bpz0_14 : iv (-1) 900 pz0_14) (bpz0_18 : iv 0 2 pz0_18) (bpz0_22 : iv 0 9999 pz0_22) (bpz0_29 : iv 0 10000 pz0_29) (hf0 : PT pz0_6 pz0_7 pz0_8 pz0_9) : Ct l V yX10_named (.code yX10_named cX10_named 4 (some .int)) 8 [.ref (z 0), .int 10, .int a2, .int a3] [(z 0, .inr (10, mo z pz0_0 pz0_5 pz0_6 pz0_7 pz0_8 pz0_9 pz0_10 pz0_11 pz0_12 pz0_13 pz0_14 pz0_18 pz0_19 pz0_22 pz0_23 pz0_29)), (z 3, aI V 900 fz3)] 0 0 (QI V (fun (r : Int32) (w : va_W) => ∃ (v0 : Int32) (v1 : Int32) (v2 : Int32) (v3 : Int32) (v4 : Int32) (v5 : Int32), iv 0 900 v0 ∧ iv 0 900 v1 ∧ iv 0 999 v3 ∧ iv 0 4 v4 ∧ iv 0 900 v5 ∧ iv 0 999 r ∧ (PT v0 v1 pz0_8 v2) ∧ ((pz0_6 : Int32).toInt ≤ (v0 : Int32).toInt) ∧ (v4 = 0 → pz0_11 = 0) ∧ (v4 = 0 → (a2 : Int32).toInt ≤ (r : Int32).toInt ∧ (r : Int32).toInt ≤ (a3 : Int32).toInt) ∧ w = [(z 0, .inr (10, mo z pz0_0 pz0_5 v0 v1 pz0_8 v2 v3 v4 v5 pz0_13 pz0_14 pz0_18 pz0_19 pz0_22 pz0_23 pz0_29)), (z 3, aI V 900 fz3)])) := by
  refine Ct.of (by decide) (Nat.le_of_ble_eq_true rfl) (fun p e s m below meth c A ls hx hb hr hml hown hlk hnm hg hP hK hD hE hA hS hl => ?_)
  have hl : lv_has ls 4 [(0, .ref (z 0)), (1, .int 10), (2, .int a2), (3, .int a3)] := hl
  refine lv_aload_n hx hb dX10_named_0 rfl (lv_at hl 0 rfl) ?_
  refine lv_iload_n hx hb dX10_named_1 rfl (lv_at hl 1 rfl) ?_
  refine jnI (wr := []) (rnV (rest := []) ⟨hx, hb, hml, hown, hg⟩ (k_X10_eats_12 l V z pz0_0 pz0_5 pz0_6 pz0_7 pz0_8 pz0_9 pz0_10 pz0_11 pz0_12 pz0_13 pz0_14 pz0_18 pz0_19 pz0_22 pz0_23 pz0_29 fz3 bpz0_5 bpz0_6 bpz0_7 bpz0_8 bpz0_10 bpz0_11 bpz0_12 bpz0_13 bpz0_14 bpz0_18 bpz0_22 bpz0_29 hf0) mt_X10_eats q_6_139 ⟨Nat.le_of_ble_eq_true rfl, Nat.le_of_ble_eq_true rfl⟩ hK hP hD hS hA hE [0, 1] rfl rfl 0 rfl rfl rfl rfl hl.1 rfl (Nat.le_of_ble_eq_true rfl) dX10_named_2 ⟨Nat.le_of_ble_eq_true rfl, Nat.le_of_ble_eq_true rfl⟩) hP hD hS hA [0, 1] [] rfl rfl rfl (by decide) (fun r_1 w H locs hw hP hD hS => ?_)
  obtain ⟨v_2, v_3, v_4, v_5, bv_2, bv_3, bv_5, br_1, g_6, g_7, g_8, g_9, rfl⟩ := hw
  have hP : va_P V.1 vwCl [(z 0, .inr (10, mo z pz0_0 pz0_5 v_2 v_3 pz0_8 v_4 v_5 pz0_11 pz0_12 pz0_13 pz0_14 pz0_18 pz0_19 pz0_22 pz0_23 pz0_29)), (z 3, aI V 900 fz3)] H := hP
  have hD : va_D A [(z 0, .inr (10, mo z pz0_0 pz0_5 v_2 v_3 pz0_8 v_4 v_5 pz0_11 pz0_12 pz0_13 pz0_14 pz0_18 pz0_19 pz0_22 pz0_23 pz0_29)), (z 3, aI V 900 fz3)] := hD
  refine lv_if_ne (tgt := 13) hx hb dX10_named_5 (by decide) (fun c_10 => ?_) (fun c_10 => ?_)
  · have b_11 : iv 1 1 r_1 := iv_n0 c_10 br_1 (iv_c (0 : Int32) (a := 0) (b := 0) (by decide)) (by decide)
    have c_12 : pz0_11 = 0 := (g_8 (iv_eqp b_11 (iv_c (1 : Int32) (by decide))))
    have b_13 : iv 0 0 pz0_11 := iv_q c_12 (iv_c (0 : Int32) (a := 0) (b := 0) (by decide))
    refine lv_aload_n hx hb dX10_named_13 rfl (lv_at hl 0 rfl) ?_
    refine lv_iload_n hx hb dX10_named_14 rfl (lv_at hl 2 rfl) ?_
    refine lv_iload_n hx hb dX10_named_15 rfl (lv_at hl 3 rfl) ?_
    refine jnI (wr := []) (rnV (rest := []) ⟨hx, hb, hml, hown, hg⟩ (k_X10_takesOne_0 l V z a2 a3 pz0_0 pz0_5 v_2 v_3 pz0_8 v_4 v_5 pz0_11 pz0_12 pz0_13 pz0_14 pz0_18 pz0_19 pz0_22 pz0_23 pz0_29 fz3 bpz0_5 bv_2 bv_3 bpz0_8 bv_5 (iv_w b_13 (by decide)) bpz0_12 bpz0_13 bpz0_14 bpz0_18 bpz0_22 bpz0_29 g_6) mt_X10_takesOne q_6_155 ⟨Nat.le_of_ble_eq_true rfl, Nat.le_of_ble_eq_true rfl⟩ hK hP hD hS hA hE [0, 1] rfl rfl 0 rfl rfl rfl rfl hl.1 rfl (Nat.le_of_ble_eq_true rfl) dX10_named_16 ⟨Nat.le_of_ble_eq_true rfl, Nat.le_of_ble_eq_true rfl⟩) hP hD hS hA [0, 1] [] rfl rfl rfl (by decide) (fun r_14 w H locs hw hP hD hS => ?_)
    obtain ⟨v_15, v_16, v_17, v_18, v_19, v_20, bv_15, bv_16, bv_18, bv_19, bv_20, br_14, g_21, g_22, g_23, g_24, rfl⟩ := hw
    have hP : va_P V.1 vwCl [(z 0, .inr (10, mo z pz0_0 pz0_5 v_15 v_16 pz0_8 v_17 v_18 v_19 v_20 pz0_13 pz0_14 pz0_18 pz0_19 pz0_22 pz0_23 pz0_29)), (z 3, aI V 900 fz3)] H := hP
    have hD : va_D A [(z 0, .inr (10, mo z pz0_0 pz0_5 v_15 v_16 pz0_8 v_17 v_18 v_19 v_20 pz0_13 pz0_14 pz0_18 pz0_19 pz0_22 pz0_23 pz0_29)), (z 3, aI V 900 fz3)] := hD
    exact fiI hx hb hr hlk hK hP hD hS dX10_named_19 (Nat.le_of_ble_eq_true rfl) (Nat.le_of_ble_eq_true rfl) (⟨v_15, v_16, v_17, v_18, v_19, v_20, bv_15, bv_16, bv_18, bv_19, bv_20, br_14, g_21, (by have z_0 := g_7; have z_1 := g_22;have y_0 := hf0.1; have y_1 := g_6.1; have y_2 := g_21.1; omega), (fun q9 => ((g_23) q9)), g_24, rfl⟩)
  · have b_25 : iv 0 0 r_1 := iv_q c_10 (iv_c (0 : Int32) (a := 0) (b := 0) (by decide))
    refine lv_aload_n hx hb dX10_named_8 rfl (lv_at hl 0 rfl) ?_
    refine lv_iconst (v := 2) hx hb dX10_named_9 (by decide) ?_
    refine jnV (wr := [(z 3, aI V 900 fz3)]) (rnV (rest := []) ⟨hx, hb, hml, hown, hg⟩ (k_X10_fails_0 l V z 2 pz0_0 pz0_5 v_2 v_3 pz0_8 v_4 v_5 pz0_11 pz0_12 pz0_13 pz0_14 pz0_18 pz0_19 pz0_22 pz0_23 pz0_29 (iv_c (2 : Int32) (by decide)) bpz0_5 bv_2 bv_3 bpz0_8 bv_5 bpz0_11 bpz0_12 bpz0_13 bpz0_14 bpz0_18 bpz0_22 bpz0_29) mt_X10_fails q_6_147 ⟨Nat.le_of_ble_eq_true rfl, Nat.le_of_ble_eq_true rfl⟩ hK hP hD hS hA hE [0] rfl rfl 0 rfl rfl rfl rfl hl.1 rfl (Nat.le_of_ble_eq_true rfl) dX10_named_10 ⟨Nat.le_of_ble_eq_true rfl, Nat.le_of_ble_eq_true rfl⟩) hP hD hS hA [0] [1] rfl rfl rfl (by decide) (fun  w H locs hw hP hD hS => ?_)
    obtain ⟨v_26, v_27, bv_26, bv_27, rfl⟩ := hw
    have hP : va_P V.1 vwCl [(z 3, aI V 900 fz3), (z 0, .inr (10, mo z pz0_0 pz0_5 v_2 v_3 pz0_8 v_4 v_5 v_26 v_27 pz0_13 pz0_14 pz0_18 pz0_19 pz0_22 pz0_23 pz0_29))] H := hP
    have hD : va_D A [(z 3, aI V 900 fz3), (z 0, .inr (10, mo z pz0_0 pz0_5 v_2 v_3 pz0_8 v_4 v_5 v_26 v_27 pz0_13 pz0_14 pz0_18 pz0_19 pz0_22 pz0_23 pz0_29))] := hD
    refine lv_aload_n hx hb dX10_named_13 rfl (lv_at hl 0 rfl) ?_
    refine lv_iload_n hx hb dX10_named_14 rfl (lv_at hl 2 rfl) ?_
    refine lv_iload_n hx hb dX10_named_15 rfl (lv_at hl 3 rfl) ?_
    refine jnI (wr := []) (rnV (rest := []) ⟨hx, hb, hml, hown, hg⟩ (k_X10_takesOne_0 l V z a2 a3 pz0_0 pz0_5 v_2 v_3 pz0_8 v_4 v_5 v_26 v_27 pz0_13 pz0_14 pz0_18 pz0_19 pz0_22 pz0_23 pz0_29 fz3 bpz0_5 bv_2 bv_3 bpz0_8 bv_5 (iv_w bv_26 (by decide)) bv_27 bpz0_13 bpz0_14 bpz0_18 bpz0_22 bpz0_29 g_6) mt_X10_takesOne q_6_155 ⟨Nat.le_of_ble_eq_true rfl, Nat.le_of_ble_eq_true rfl⟩ hK hP hD hS hA hE [1, 0] rfl rfl 1 rfl rfl rfl rfl hl.1 rfl (Nat.le_of_ble_eq_true rfl) dX10_named_16 ⟨Nat.le_of_ble_eq_true rfl, Nat.le_of_ble_eq_true rfl⟩) hP hD hS hA [1, 0] [] rfl rfl rfl (by decide) (fun r_28 w H locs hw hP hD hS => ?_)
    obtain ⟨v_29, v_30, v_31, v_32, v_33, v_34, bv_29, bv_30, bv_32, bv_33, bv_34, br_28, g_35, g_36, g_37, g_38, rfl⟩ := hw
    have hP : va_P V.1 vwCl [(z 0, .inr (10, mo z pz0_0 pz0_5 v_29 v_30 pz0_8 v_31 v_32 v_33 v_34 pz0_13 pz0_14 pz0_18 pz0_19 pz0_22 pz0_23 pz0_29)), (z 3, aI V 900 fz3)] H := hP
    have hD : va_D A [(z 0, .inr (10, mo z pz0_0 pz0_5 v_29 v_30 pz0_8 v_31 v_32 v_33 v_34 pz0_13 pz0_14 pz0_18 pz0_19 pz0_22 pz0_23 pz0_29)), (z 3, aI V 900 fz3)] := hD
    exact fiI hx hb hr hlk hK hP hD hS dX10_named_19 (Nat.le_of_ble_eq_true rfl) (Nat.le_of_ble_eq_true rfl) (⟨v_29, v_30, v_31, v_32, v_33, v_34, bv_29, bv_30, bv_32, bv_33, bv_34, br_28, g_35, (by have z_0 := g_7; have z_1 := g_36;have y_0 := hf0.1; have y_1 := g_6.1; have y_2 := g_35.1; omega), (fun q9 => ((fun q8 => absurd q8 (iv_nz bv_26 (by decide))) ((g_37) q9))), g_38, rfl⟩)
theorem dX10_readRoad_0 : decode cX10_readRoad 0 = .ok (.bipush 22, 2) := by decide +kernel
theorem dX10_readRoad_2 : decode cX10_readRoad 2 = .ok (.iconst 3, 1) := by decide +kernel
theorem dX10_readRoad_3 : decode cX10_readRoad 3 = .ok (.aload_n 0, 1) := by decide +kernel
theorem dX10_readRoad_4 : decode cX10_readRoad 4 = .ok (.getfield 24, 3) := by decide +kernel
theorem dX10_readRoad_7 : decode cX10_readRoad 7 = .ok (.iconst 3, 1) := by decide +kernel
theorem dX10_readRoad_8 : decode cX10_readRoad 8 = .ok (.iaload, 1) := by decide +kernel
theorem dX10_readRoad_9 : decode cX10_readRoad 9 = .ok (.imul, 1) := by decide +kernel
theorem dX10_readRoad_10 : decode cX10_readRoad 10 = .ok (.iadd, 1) := by decide +kernel
theorem dX10_readRoad_11 : decode cX10_readRoad 11 = .ok (.istore_n 1, 1) := by decide +kernel
theorem dX10_readRoad_12 : decode cX10_readRoad 12 = .ok (.aload_n 0, 1) := by decide +kernel
theorem dX10_readRoad_13 : decode cX10_readRoad 13 = .ok (.getfield 24, 3) := by decide +kernel
theorem dX10_readRoad_16 : decode cX10_readRoad 16 = .ok (.iconst 3, 1) := by decide +kernel
theorem dX10_readRoad_17 : decode cX10_readRoad 17 = .ok (.iaload, 1) := by decide +kernel
theorem dX10_readRoad_18 : decode cX10_readRoad 18 = .ok (.bipush 8, 2) := by decide +kernel
theorem dX10_readRoad_20 : decode cX10_readRoad 20 = .ok (.if_icmp .ne 8, 3) := by decide +kernel
theorem dX10_readRoad_28 : decode cX10_readRoad 28 = .ok (.aload_n 0, 1) := by decide +kernel
theorem dX10_readRoad_29 : decode cX10_readRoad 29 = .ok (.getfield 143, 3) := by decide +kernel
theorem dX10_readRoad_32 : decode cX10_readRoad 32 = .ok (.ifCond .eq 4, 3) := by decide +kernel
theorem dX10_readRoad_36 : decode cX10_readRoad 36 = .ok (.aload_n 0, 1) := by decide +kernel
theorem dX10_readRoad_37 : decode cX10_readRoad 37 = .ok (.invokevirtual 152, 3) := by decide +kernel
theorem dX10_readRoad_40 : decode cX10_readRoad 40 = .ok (.aload_n 0, 1) := by decide +kernel
theorem dX10_readRoad_41 : decode cX10_readRoad 41 = .ok (.getfield 24, 3) := by decide +kernel
theorem dX10_readRoad_44 : decode cX10_readRoad 44 = .ok (.iload_n 1, 1) := by decide +kernel
theorem dX10_readRoad_45 : decode cX10_readRoad 45 = .ok (.aload_n 0, 1) := by decide +kernel
theorem dX10_readRoad_46 : decode cX10_readRoad 46 = .ok (.iconst 0, 1) := by decide +kernel
theorem dX10_readRoad_47 : decode cX10_readRoad 47 = .ok (.aload_n 0, 1) := by decide +kernel
theorem dX10_readRoad_48 : decode cX10_readRoad 48 = .ok (.getfield 24, 3) := by decide +kernel
theorem dX10_readRoad_51 : decode cX10_readRoad 51 = .ok (.iconst 1, 1) := by decide +kernel
theorem dX10_readRoad_52 : decode cX10_readRoad 52 = .ok (.iaload, 1) := by decide +kernel
theorem dX10_readRoad_53 : decode cX10_readRoad 53 = .ok (.iconst 1, 1) := by decide +kernel
theorem dX10_readRoad_54 : decode cX10_readRoad 54 = .ok (.isub, 1) := by decide +kernel
theorem dX10_readRoad_55 : decode cX10_readRoad 55 = .ok (.invokevirtual 196, 3) := by decide +kernel
theorem dX10_readRoad_58 : decode cX10_readRoad 58 = .ok (.iastore, 1) := by decide +kernel
theorem dX10_readRoad_59 : decode cX10_readRoad 59 = .ok (.aload_n 0, 1) := by decide +kernel
theorem dX10_readRoad_60 : decode cX10_readRoad 60 = .ok (.getfield 24, 3) := by decide +kernel
theorem dX10_readRoad_63 : decode cX10_readRoad 63 = .ok (.iload_n 1, 1) := by decide +kernel
theorem dX10_readRoad_64 : decode cX10_readRoad 64 = .ok (.iconst 1, 1) := by decide +kernel
theorem dX10_readRoad_65 : decode cX10_readRoad 65 = .ok (.iadd, 1) := by decide +kernel
theorem dX10_readRoad_66 : decode cX10_readRoad 66 = .ok (.aload_n 0, 1) := by decide +kernel
theorem dX10_readRoad_67 : decode cX10_readRoad 67 = .ok (.iconst 0, 1) := by decide +kernel
theorem dX10_readRoad_68 : decode cX10_readRoad 68 = .ok (.aload_n 0, 1) := by decide +kernel
theorem dX10_readRoad_69 : decode cX10_readRoad 69 = .ok (.getfield 24, 3) := by decide +kernel
theorem dX10_readRoad_72 : decode cX10_readRoad 72 = .ok (.iconst 2, 1) := by decide +kernel
theorem dX10_readRoad_73 : decode cX10_readRoad 73 = .ok (.iaload, 1) := by decide +kernel
theorem dX10_readRoad_74 : decode cX10_readRoad 74 = .ok (.iconst 1, 1) := by decide +kernel
theorem dX10_readRoad_75 : decode cX10_readRoad 75 = .ok (.isub, 1) := by decide +kernel
theorem dX10_readRoad_76 : decode cX10_readRoad 76 = .ok (.invokevirtual 196, 3) := by decide +kernel
theorem dX10_readRoad_79 : decode cX10_readRoad 79 = .ok (.iastore, 1) := by decide +kernel
theorem dX10_readRoad_80 : decode cX10_readRoad 80 = .ok (.aload_n 0, 1) := by decide +kernel
theorem dX10_readRoad_81 : decode cX10_readRoad 81 = .ok (.getfield 24, 3) := by decide +kernel
theorem dX10_readRoad_84 : decode cX10_readRoad 84 = .ok (.iload_n 1, 1) := by decide +kernel
theorem dX10_readRoad_85 : decode cX10_readRoad 85 = .ok (.iconst 2, 1) := by decide +kernel
theorem dX10_readRoad_86 : decode cX10_readRoad 86 = .ok (.iadd, 1) := by decide +kernel
theorem dX10_readRoad_87 : decode cX10_readRoad 87 = .ok (.aload_n 0, 1) := by decide +kernel
theorem dX10_readRoad_88 : decode cX10_readRoad 88 = .ok (.bipush 10, 2) := by decide +kernel
theorem dX10_readRoad_90 : decode cX10_readRoad 90 = .ok (.iconst 0, 1) := by decide +kernel
theorem dX10_readRoad_91 : decode cX10_readRoad 91 = .ok (.bipush 9, 2) := by decide +kernel
theorem q_6_154 : Cond.code yX10_named prog_12_method_27_code 4 (some FieldType.int) ∈ gw := gw_6 (i := 154) (rfl) rfl
theorem q_6_153 : Cond.instanceMethod yX10_named ∈ gw := gw_6 (i := 153) (by decide +kernel) rfl
theorem q_s_60 : Cond.selects "BeaconDelayModel" yX10_named yX10_named ∈ gw := gw_s (i := 60) (by decide +kernel) rfl
theorem mt_X10_named : MtV yX10_named cX10_named 4 (some .int) 3 := ⟨⟨q_6_154, q_1_9, by decide +kernel, by decide +kernel, by decide +kernel⟩, q_6_153, q_s_60⟩
theorem q_6_151 : Cond.methodLink "BeaconDelayModel" 200 yX10_named ∈ gw := gw_6 (i := 151) (by decide +kernel) rfl
theorem dX10_readRoad_93 : decode cX10_readRoad 93 = .ok (.invokevirtual 200, 3) := by decide +kernel
theorem dX10_readRoad_96 : decode cX10_readRoad 96 = .ok (.iastore, 1) := by decide +kernel
theorem dX10_readRoad_97 : decode cX10_readRoad 97 = .ok (.aload_n 0, 1) := by decide +kernel
theorem dX10_readRoad_98 : decode cX10_readRoad 98 = .ok (.getfield 143, 3) := by decide +kernel
theorem dX10_readRoad_101 : decode cX10_readRoad 101 = .ok (.ifCond .ne 13, 3) := by decide +kernel
theorem dX10_readRoad_114 : decode cX10_readRoad 114 = .ok (.return_, 1) := by decide +kernel
theorem dX10_readRoad_104 : decode cX10_readRoad 104 = .ok (.aload_n 0, 1) := by decide +kernel
theorem dX10_readRoad_105 : decode cX10_readRoad 105 = .ok (.getfield 24, 3) := by decide +kernel
theorem dX10_readRoad_108 : decode cX10_readRoad 108 = .ok (.iconst 3, 1) := by decide +kernel
theorem dX10_readRoad_109 : decode cX10_readRoad 109 = .ok (.dup2, 1) := by decide +kernel
theorem dX10_readRoad_110 : decode cX10_readRoad 110 = .ok (.iaload, 1) := by decide +kernel
theorem dX10_readRoad_111 : decode cX10_readRoad 111 = .ok (.iconst 1, 1) := by decide +kernel
theorem dX10_readRoad_112 : decode cX10_readRoad 112 = .ok (.iadd, 1) := by decide +kernel
theorem dX10_readRoad_113 : decode cX10_readRoad 113 = .ok (.iastore, 1) := by decide +kernel
theorem dX10_readRoad_35 : decode cX10_readRoad 35 = .ok (.return_, 1) := by decide +kernel
theorem dX10_readRoad_23 : decode cX10_readRoad 23 = .ok (.aload_n 0, 1) := by decide +kernel
theorem dX10_readRoad_24 : decode cX10_readRoad 24 = .ok (.iconst 4, 1) := by decide +kernel
theorem dX10_readRoad_25 : decode cX10_readRoad 25 = .ok (.invokevirtual 155, 3) := by decide +kernel
set_option maxHeartbeats 4000000 in
set_option maxRecDepth 100000 in
theorem k_X10_readRoad_0 (l : Launch) (V : GV) (z : Nat → Nat) (fz4 : Nat → Int32) (fz3 : Nat → Int32) (pz0_0 : Int32) (pz0_5 : Int32) (pz0_6 : Int32) (pz0_7 : Int32) (pz0_8 : Int32) (pz0_9 : Int32) (pz0_10 : Int32) (pz0_11 : Int32) (pz0_12 : Int32) (pz0_13 : Int32) (pz0_14 : Int32) (pz0_18 : Int32) (pz0_19 : Int32) (pz0_22 : Int32) (pz0_23 : Int32) (pz0_29 : Int32) (tfz4 : ivT tF fz4) (bpz0_5 : iv 0 900 pz0_5) (bpz0_6 : iv 0 900 pz0_6) (bpz0_7 : iv 0 900 pz0_7) (bpz0_8 : iv 0 900 pz0_8) (bpz0_10 : iv 0 999 pz0_10) (bpz0_11 : iv 0 4 pz0_11) (bpz0_12 : iv 0 900 pz0_12) (bpz0_13 : iv 0 4 pz0_13) (bpz0_14 : iv (-1) 900 pz0_14) (bpz0_18 : iv 0 2 pz0_18) (bpz0_22 : iv 0 9999 pz0_22) (bpz0_29 : iv 0 10000 pz0_29) (hf0 : PT pz0_6 pz0_7 pz0_8 pz0_9) (hf1 : PS pz0_11 pz0_6 fz4) : Ct l V yX10_readRoad (.code yX10_readRoad cX10_readRoad 2 none) 9 [.ref (z 0)] [(z 4, aI V 1025 fz4), (z 3, aI V 900 fz3), (z 0, .inr (10, mo z pz0_0 pz0_5 pz0_6 pz0_7 pz0_8 pz0_9 pz0_10 pz0_11 pz0_12 pz0_13 pz0_14 pz0_18 pz0_19 pz0_22 pz0_23 pz0_29))] 0 0 (QV V (fun (w : va_W) => ∃ (g0 : Nat → Int32) (v1 : Int32) (v2 : Int32) (v3 : Int32) (v4 : Int32) (v5 : Int32) (v6 : Int32), (ivT tF g0) ∧ iv 0 900 v1 ∧ iv 0 900 v2 ∧ iv 0 999 v4 ∧ iv 0 4 v5 ∧ iv 0 900 v6 ∧ (PT v1 v2 pz0_8 v3) ∧ (PS v5 v1 g0) ∧ ((pz0_6 : Int32).toInt ≤ (v1 : Int32).toInt) ∧ (v5 = 0 → pz0_11 = 0) ∧ w = [(z 4, aI V 1025 g0), (z 3, aI V 900 fz3), (z 0, .inr (10, mo z pz0_0 pz0_5 v1 v2 pz0_8 v3 v4 v5 v6 pz0_13 pz0_14 pz0_18 pz0_19 pz0_22 pz0_23 pz0_29))])) := by
  refine Ct.of (by decide) (Nat.le_of_ble_eq_true rfl) (fun p e s m below meth c A ls hx hb hr hml hown hlk hnm hg hP hK hD hE hA hS hl => ?_)
  have hl : lv_has ls 2 [(0, .ref (z 0))] := hl
  refine lv_bipush (v := 22) hx hb dX10_readRoad_0 (by decide) ?_
  refine lv_iconst (v := 3) hx hb dX10_readRoad_2 (by decide) ?_
  refine lv_aload_n hx hb dX10_readRoad_3 rfl (lv_at hl 0 rfl) ?_
  refine va_get (ci := 10) (v := .ref (z 4)) (C := RX10) (T := TX10) (N := 40) hx hb hg inX10 hown hK hP 2 rfl rfl 4 (by decide) (hg _ q_5_228) (fun _ h9 => h9) rfl dX10_readRoad_4 ?_
  refine lv_iconst (v := 3) hx hb dX10_readRoad_7 (by decide) ?_
  refine va_iald hx hb hK hP 0 0 rfl rfl (vin (by decide +kernel)) dX10_readRoad_8 ?_
  refine lv_topi (fun x_1 ex_1 => ?_)
  have bx_1 : iv 0 8 x_1 := by rw [ex_1]; exact rdT (a := 3) (n := 1) tfz4 (iv_c (3 : Int32) (a := 3) (b := 3) (by decide)) (by decide) (by decide +kernel)
  refine lv_imul hx hb dX10_readRoad_9 ?_
  refine lv_topi (fun x_2 ex_2 => ?_)
  have bx_2 : iv 0 24 x_2 := by rw [ex_2]; exact iv_cmul (iv_c (3 : Int32) (a := 3) (b := 3) (by decide)) bx_1 (by decide)
  refine lv_iadd hx hb dX10_readRoad_10 ?_
  refine lv_topi (fun x_3 ex_3 => ?_)
  have bx_3 : iv 22 46 x_3 := by rw [ex_3]; exact iv_add (iv_c (22 : Int32) (a := 22) (b := 22) (by decide)) bx_2 (by decide)
  refine lv_istore_n (lv' := [(1, .int x_3), (0, .ref (z 0))]) hx hb dX10_readRoad_11 rfl hl (by decide) rfl (fun ls hl => ?_)
  refine lv_aload_n hx hb dX10_readRoad_12 rfl (lv_at hl 1 rfl) ?_
  refine va_get (ci := 10) (v := .ref (z 4)) (C := RX10) (T := TX10) (N := 40) hx hb hg inX10 hown hK hP 2 rfl rfl 4 (by decide) (hg _ q_5_228) (fun _ h9 => h9) rfl dX10_readRoad_13 ?_
  refine lv_iconst (v := 3) hx hb dX10_readRoad_16 (by decide) ?_
  refine va_iald hx hb hK hP 0 0 rfl rfl (vin (by decide +kernel)) dX10_readRoad_17 ?_
  refine tpi (y := x_1) ex_1.symm ?_
  refine lv_bipush (v := 8) hx hb dX10_readRoad_18 (by decide) ?_
  refine lv_icmp_ne (tgt := 28) hx hb dX10_readRoad_20 (by decide) (fun c_4 => ?_) (fun c_4 => ?_)
  · have b_5 : iv 0 7 x_1 := iv_n1 c_4 bx_1 (iv_c (8 : Int32) (a := 8) (b := 8) (by decide)) (by decide)
    refine lv_aload_n hx hb dX10_readRoad_28 rfl (lv_at hl 1 rfl) ?_
    refine va_get (ci := 10) (v := .int pz0_11) (C := RX10) (T := TX10) (N := 40) hx hb hg inX10 hown hK hP 2 rfl rfl 11 (by decide) (hg _ q_5_235) (fun _ h9 => h9) rfl dX10_readRoad_29 ?_
    refine lv_if_eq (tgt := 36) hx hb dX10_readRoad_32 (by decide) (fun c_6 => ?_) (fun c_6 => ?_)
    · have b_7 : iv 0 0 pz0_11 := iv_q c_6 (iv_c (0 : Int32) (a := 0) (b := 0) (by decide))
      refine lv_aload_n hx hb dX10_readRoad_36 rfl (lv_at hl 1 rfl) ?_
      refine jnV (wr := [(z 4, aI V 1025 fz4)]) (rnV (rest := []) ⟨hx, hb, hml, hown, hg⟩ (k_X10_next_0 l V z pz0_0 pz0_5 pz0_6 pz0_7 pz0_8 pz0_9 pz0_10 pz0_11 pz0_12 pz0_13 pz0_14 pz0_18 pz0_19 pz0_22 pz0_23 pz0_29 fz3 bpz0_5 bpz0_6 bpz0_7 bpz0_8 bpz0_10 (iv_w b_7 (by decide)) bpz0_12 bpz0_13 bpz0_14 bpz0_18 bpz0_22 bpz0_29 hf0.2.1) mt_X10_next q_6_117 ⟨Nat.le_of_ble_eq_true rfl, Nat.le_of_ble_eq_true rfl⟩ hK hP hD hS hA hE [2, 1] rfl rfl 2 rfl rfl rfl rfl hl.1 rfl (Nat.le_of_ble_eq_true rfl) dX10_readRoad_37 ⟨Nat.le_of_ble_eq_true rfl, Nat.le_of_ble_eq_true rfl⟩) hP hD hS hA [2, 1] [0] rfl rfl rfl (by decide) (fun  w H locs hw hP hD hS => ?_)
      obtain ⟨v_8, v_9, v_10, v_11, bv_8, bv_9, bv_11, g_12, g_13, rfl⟩ := hw
      have hP : va_P V.1 vwCl [(z 4, aI V 1025 fz4), (z 0, .inr (10, mo z pz0_0 pz0_5 v_8 v_9 pz0_8 v_10 v_11 pz0_11 pz0_12 pz0_13 pz0_14 pz0_18 pz0_19 pz0_22 pz0_23 pz0_29)), (z 3, aI V 900 fz3)] H := hP
      have hD : va_D A [(z 4, aI V 1025 fz4), (z 0, .inr (10, mo z pz0_0 pz0_5 v_8 v_9 pz0_8 v_10 v_11 pz0_11 pz0_12 pz0_13 pz0_14 pz0_18 pz0_19 pz0_22 pz0_23 pz0_29)), (z 3, aI V 900 fz3)] := hD
      refine lv_aload_n hx hb dX10_readRoad_40 rfl (lv_at hl 1 rfl) ?_
      refine va_get (ci := 10) (v := .ref (z 4)) (C := RX10) (T := TX10) (N := 40) hx hb hg inX10 hown hK hP 1 rfl rfl 4 (by decide) (hg _ q_5_228) (fun _ h9 => h9) rfl dX10_readRoad_41 ?_
      refine lv_iload_n hx hb dX10_readRoad_44 rfl (lv_at hl 0 rfl) ?_
      refine lv_aload_n hx hb dX10_readRoad_45 rfl (lv_at hl 1 rfl) ?_
      refine lv_iconst (v := 0) hx hb dX10_readRoad_46 (by decide) ?_
      refine lv_aload_n hx hb dX10_readRoad_47 rfl (lv_at hl 1 rfl) ?_
      refine va_get (ci := 10) (v := .ref (z 4)) (C := RX10) (T := TX10) (N := 40) hx hb hg inX10 hown hK hP 1 rfl rfl 4 (by decide) (hg _ q_5_228) (fun _ h9 => h9) rfl dX10_readRoad_48 ?_
      refine lv_iconst (v := 1) hx hb dX10_readRoad_51 (by decide) ?_
      refine va_iald hx hb hK hP 0 0 rfl rfl (vin (by decide +kernel)) dX10_readRoad_52 ?_
      refine lv_topi (fun x_14 ex_14 => ?_)
      have bx_14 : iv 0 4 x_14 := by rw [ex_14]; exact rdT (a := 1) (n := 1) tfz4 (iv_c (1 : Int32) (a := 1) (b := 1) (by decide)) (by decide) (by decide +kernel)
      refine lv_iconst (v := 1) hx hb dX10_readRoad_53 (by decide) ?_
      refine lv_isub hx hb dX10_readRoad_54 ?_
      refine lv_topi (fun x_15 ex_15 => ?_)
      have bx_15 : iv (-1) 3 x_15 := by rw [ex_15]; exact iv_sub bx_14 (iv_c (1 : Int32) (a := 1) (b := 1) (by decide)) (by decide)
      refine jnI (wr := [(z 4, aI V 1025 fz4)]) (rnV (rest := [.int x_3, .ref (z 4)]) ⟨hx, hb, hml, hown, hg⟩ (k_X10_takesOne_0 l V z 0 x_15 pz0_0 pz0_5 v_8 v_9 pz0_8 v_10 v_11 pz0_11 pz0_12 pz0_13 pz0_14 pz0_18 pz0_19 pz0_22 pz0_23 pz0_29 fz3 bpz0_5 bv_8 bv_9 bpz0_8 bv_11 (iv_w b_7 (by decide)) bpz0_12 bpz0_13 bpz0_14 bpz0_18 bpz0_22 bpz0_29 g_12) mt_X10_takesOne q_6_155 ⟨Nat.le_of_ble_eq_true rfl, Nat.le_of_ble_eq_true rfl⟩ hK hP hD hS hA hE [1, 2] rfl rfl 1 rfl rfl rfl rfl hl.1 rfl (Nat.le_of_ble_eq_true rfl) dX10_readRoad_55 ⟨Nat.le_of_ble_eq_true rfl, Nat.le_of_ble_eq_true rfl⟩) hP hD hS hA [1, 2] [0] rfl rfl rfl (by decide) (fun r_16 w H locs hw hP hD hS => ?_)
      obtain ⟨v_17, v_18, v_19, v_20, v_21, v_22, bv_17, bv_18, bv_20, bv_21, bv_22, br_16, g_23, g_24, g_25, g_26, rfl⟩ := hw
      have hP : va_P V.1 vwCl [(z 4, aI V 1025 fz4), (z 0, .inr (10, mo z pz0_0 pz0_5 v_17 v_18 pz0_8 v_19 v_20 v_21 v_22 pz0_13 pz0_14 pz0_18 pz0_19 pz0_22 pz0_23 pz0_29)), (z 3, aI V 900 fz3)] H := hP
      have hD : va_D A [(z 4, aI V 1025 fz4), (z 0, .inr (10, mo z pz0_0 pz0_5 v_17 v_18 pz0_8 v_19 v_20 v_21 v_22 pz0_13 pz0_14 pz0_18 pz0_19 pz0_22 pz0_23 pz0_29)), (z 3, aI V 900 fz3)] := hD
      refine va_iast hx hb hK hP hD hS 0 0 rfl rfl (iv_in bx_3 (by decide)) dX10_readRoad_58 (fun H locs hP hD hS => ?_)
      obtain ⟨f_27, ef_27, tf_27, hP, hD⟩ : ∃ f_27 : Nat → Int32, f_27 = (upd fz4 (x_3 : Int32).toNatClampNeg r_16) ∧ (ivT tF f_27) ∧ va_P V.1 vwCl [(z 4, aI V 1025 f_27), (z 0, .inr (10, mo z pz0_0 pz0_5 v_17 v_18 pz0_8 v_19 v_20 v_21 v_22 pz0_13 pz0_14 pz0_18 pz0_19 pz0_22 pz0_23 pz0_29)), (z 3, aI V 900 fz3)] H ∧ va_D A [(z 4, aI V 1025 f_27), (z 0, .inr (10, mo z pz0_0 pz0_5 v_17 v_18 pz0_8 v_19 v_20 v_21 v_22 pz0_13 pz0_14 pz0_18 pz0_19 pz0_22 pz0_23 pz0_29)), (z 3, aI V 900 fz3)] := ⟨_, rfl, upT (lo := (-2147483648)) (hi := 2147483647) (a := 22) (n := 25) tfz4 bx_3 (by decide) (iv_w br_16 (by decide)) (by decide +kernel), hP, hD⟩
      refine lv_aload_n hx hb dX10_readRoad_59 rfl (lv_at hl 1 rfl) ?_
      refine va_get (ci := 10) (v := .ref (z 4)) (C := RX10) (T := TX10) (N := 40) hx hb hg inX10 hown hK hP 1 rfl rfl 4 (by decide) (hg _ q_5_228) (fun _ h9 => h9) rfl dX10_readRoad_60 ?_
      refine lv_iload_n hx hb dX10_readRoad_63 rfl (lv_at hl 0 rfl) ?_
      refine lv_iconst (v := 1) hx hb dX10_readRoad_64 (by decide) ?_
      refine lv_iadd hx hb dX10_readRoad_65 ?_
      refine lv_topi (fun x_28 ex_28 => ?_)
      have bx_28 : iv 23 47 x_28 := by rw [ex_28]; exact iv_add bx_3 (iv_c (1 : Int32) (a := 1) (b := 1) (by decide)) (by decide)
      refine lv_aload_n hx hb dX10_readRoad_66 rfl (lv_at hl 1 rfl) ?_
      refine lv_iconst (v := 0) hx hb dX10_readRoad_67 (by decide) ?_
      refine lv_aload_n hx hb dX10_readRoad_68 rfl (lv_at hl 1 rfl) ?_
      refine va_get (ci := 10) (v := .ref (z 4)) (C := RX10) (T := TX10) (N := 40) hx hb hg inX10 hown hK hP 1 rfl rfl 4 (by decide) (hg _ q_5_228) (fun _ h9 => h9) rfl dX10_readRoad_69 ?_
      refine lv_iconst (v := 2) hx hb dX10_readRoad_72 (by decide) ?_
      refine va_iald hx hb hK hP 0 0 rfl rfl (vin (by decide +kernel)) dX10_readRoad_73 ?_
      refine tpi (y := fz4 (2 : Int32).toNatClampNeg) (show f_27 (2 : Int32).toNatClampNeg = fz4 (2 : Int32).toNatClampNeg from by rw [ef_27]; exact upd_ne (cl_ne (iv_c (2 : Int32) (a := 2) (b := 2) (by decide)) bx_3 (by decide))) ?_
      refine lv_topi (fun x_29 ex_29 => ?_)
      have bx_29 : iv 0 4 x_29 := by rw [ex_29]; exact rdT (a := 2) (n := 1) tfz4 (iv_c (2 : Int32) (a := 2) (b := 2) (by decide)) (by decide) (by decide +kernel)
      refine lv_iconst (v := 1) hx hb dX10_readRoad_74 (by decide) ?_
      refine lv_isub hx hb dX10_readRoad_75 ?_
      refine lv_topi (fun x_30 ex_30 => ?_)
      have bx_30 : iv (-1) 3 x_30 := by rw [ex_30]; exact iv_sub bx_29 (iv_c (1 : Int32) (a := 1) (b := 1) (by decide)) (by decide)
      refine jnI (wr := [(z 4, aI V 1025 f_27)]) (rnV (rest := [.int x_28, .ref (z 4)]) ⟨hx, hb, hml, hown, hg⟩ (k_X10_takesOne_0 l V z 0 x_30 pz0_0 pz0_5 v_17 v_18 pz0_8 v_19 v_20 v_21 v_22 pz0_13 pz0_14 pz0_18 pz0_19 pz0_22 pz0_23 pz0_29 fz3 bpz0_5 bv_17 bv_18 bpz0_8 bv_20 bv_21 bv_22 bpz0_13 bpz0_14 bpz0_18 bpz0_22 bpz0_29 g_23) mt_X10_takesOne q_6_155 ⟨Nat.le_of_ble_eq_true rfl, Nat.le_of_ble_eq_true rfl⟩ hK hP hD hS hA hE [1, 2] rfl rfl 1 rfl rfl rfl rfl hl.1 rfl (Nat.le_of_ble_eq_true rfl) dX10_readRoad_76 ⟨Nat.le_of_ble_eq_true rfl, Nat.le_of_ble_eq_true rfl⟩) hP hD hS hA [1, 2] [0] rfl rfl rfl (by decide) (fun r_31 w H locs hw hP hD hS => ?_)
      obtain ⟨v_32, v_33, v_34, v_35, v_36, v_37, bv_32, bv_33, bv_35, bv_36, bv_37, br_31, g_38, g_39, g_40, g_41, rfl⟩ := hw
      have hP : va_P V.1 vwCl [(z 4, aI V 1025 f_27), (z 0, .inr (10, mo z pz0_0 pz0_5 v_32 v_33 pz0_8 v_34 v_35 v_36 v_37 pz0_13 pz0_14 pz0_18 pz0_19 pz0_22 pz0_23 pz0_29)), (z 3, aI V 900 fz3)] H := hP
      have hD : va_D A [(z 4, aI V 1025 f_27), (z 0, .inr (10, mo z pz0_0 pz0_5 v_32 v_33 pz0_8 v_34 v_35 v_36 v_37 pz0_13 pz0_14 pz0_18 pz0_19 pz0_22 pz0_23 pz0_29)), (z 3, aI V 900 fz3)] := hD
      refine va_iast hx hb hK hP hD hS 0 0 rfl rfl (iv_in bx_28 (by decide)) dX10_readRoad_79 (fun H locs hP hD hS => ?_)
      obtain ⟨f_42, ef_42, tf_42, hP, hD⟩ : ∃ f_42 : Nat → Int32, f_42 = (upd f_27 (x_28 : Int32).toNatClampNeg r_31) ∧ (ivT tF f_42) ∧ va_P V.1 vwCl [(z 4, aI V 1025 f_42), (z 0, .inr (10, mo z pz0_0 pz0_5 v_32 v_33 pz0_8 v_34 v_35 v_36 v_37 pz0_13 pz0_14 pz0_18 pz0_19 pz0_22 pz0_23 pz0_29)), (z 3, aI V 900 fz3)] H ∧ va_D A [(z 4, aI V 1025 f_42), (z 0, .inr (10, mo z pz0_0 pz0_5 v_32 v_33 pz0_8 v_34 v_35 v_36 v_37 pz0_13 pz0_14 pz0_18 pz0_19 pz0_22 pz0_23 pz0_29)), (z 3, aI V 900 fz3)] := ⟨_, rfl, upT (lo := (-2147483648)) (hi := 2147483647) (a := 23) (n := 25) tf_27 bx_28 (by decide) (iv_w br_31 (by decide)) (by decide +kernel), hP, hD⟩
      refine lv_aload_n hx hb dX10_readRoad_80 rfl (lv_at hl 1 rfl) ?_
      refine va_get (ci := 10) (v := .ref (z 4)) (C := RX10) (T := TX10) (N := 40) hx hb hg inX10 hown hK hP 1 rfl rfl 4 (by decide) (hg _ q_5_228) (fun _ h9 => h9) rfl dX10_readRoad_81 ?_
      refine lv_iload_n hx hb dX10_readRoad_84 rfl (lv_at hl 0 rfl) ?_
      refine lv_iconst (v := 2) hx hb dX10_readRoad_85 (by decide) ?_
      refine lv_iadd hx hb dX10_readRoad_86 ?_
      refine lv_topi (fun x_43 ex_43 => ?_)
      have bx_43 : iv 24 48 x_43 := by rw [ex_43]; exact iv_add bx_3 (iv_c (2 : Int32) (a := 2) (b := 2) (by decide)) (by decide)
      refine lv_aload_n hx hb dX10_readRoad_87 rfl (lv_at hl 1 rfl) ?_
      refine lv_bipush (v := 10) hx hb dX10_readRoad_88 (by decide) ?_
      refine lv_iconst (v := 0) hx hb dX10_readRoad_90 (by decide) ?_
      refine lv_bipush (v := 9) hx hb dX10_readRoad_91 (by decide) ?_
      refine jnI (wr := [(z 4, aI V 1025 f_42)]) (rnV (rest := [.int x_43, .ref (z 4)]) ⟨hx, hb, hml, hown, hg⟩ (k_X10_named_1 l V z 0 9 pz0_0 pz0_5 v_32 v_33 pz0_8 v_34 v_35 v_36 v_37 pz0_13 pz0_14 pz0_18 pz0_19 pz0_22 pz0_23 pz0_29 fz3 bpz0_5 bv_32 bv_33 bpz0_8 bv_35 bv_36 bv_37 bpz0_13 bpz0_14 bpz0_18 bpz0_22 bpz0_29 g_38) mt_X10_named q_6_151 ⟨Nat.le_of_ble_eq_true rfl, Nat.le_of_ble_eq_true rfl⟩ hK hP hD hS hA hE [1, 2] rfl rfl 1 rfl rfl rfl rfl hl.1 rfl (Nat.le_of_ble_eq_true rfl) dX10_readRoad_93 ⟨Nat.le_of_ble_eq_true rfl, Nat.le_of_ble_eq_true rfl⟩) hP hD hS hA [1, 2] [0] rfl rfl rfl (by decide) (fun r_44 w H locs hw hP hD hS => ?_)
      obtain ⟨v_45, v_46, v_47, v_48, v_49, v_50, bv_45, bv_46, bv_48, bv_49, bv_50, br_44, g_51, g_52, g_53, g_54, rfl⟩ := hw
      have hP : va_P V.1 vwCl [(z 4, aI V 1025 f_42), (z 0, .inr (10, mo z pz0_0 pz0_5 v_45 v_46 pz0_8 v_47 v_48 v_49 v_50 pz0_13 pz0_14 pz0_18 pz0_19 pz0_22 pz0_23 pz0_29)), (z 3, aI V 900 fz3)] H := hP
      have hD : va_D A [(z 4, aI V 1025 f_42), (z 0, .inr (10, mo z pz0_0 pz0_5 v_45 v_46 pz0_8 v_47 v_48 v_49 v_50 pz0_13 pz0_14 pz0_18 pz0_19 pz0_22 pz0_23 pz0_29)), (z 3, aI V 900 fz3)] := hD
      refine va_iast hx hb hK hP hD hS 0 0 rfl rfl (iv_in bx_43 (by decide)) dX10_readRoad_96 (fun H locs hP hD hS => ?_)
      obtain ⟨f_55, ef_55, tf_55, hP, hD⟩ : ∃ f_55 : Nat → Int32, f_55 = (upd f_42 (x_43 : Int32).toNatClampNeg r_44) ∧ (ivT tF f_55) ∧ va_P V.1 vwCl [(z 4, aI V 1025 f_55), (z 0, .inr (10, mo z pz0_0 pz0_5 v_45 v_46 pz0_8 v_47 v_48 v_49 v_50 pz0_13 pz0_14 pz0_18 pz0_19 pz0_22 pz0_23 pz0_29)), (z 3, aI V 900 fz3)] H ∧ va_D A [(z 4, aI V 1025 f_55), (z 0, .inr (10, mo z pz0_0 pz0_5 v_45 v_46 pz0_8 v_47 v_48 v_49 v_50 pz0_13 pz0_14 pz0_18 pz0_19 pz0_22 pz0_23 pz0_29)), (z 3, aI V 900 fz3)] := ⟨_, rfl, upT (lo := (-2147483648)) (hi := 2147483647) (a := 24) (n := 25) tf_42 bx_43 (by decide) (iv_w br_44 (by decide)) (by decide +kernel), hP, hD⟩
      refine lv_aload_n hx hb dX10_readRoad_97 rfl (lv_at hl 1 rfl) ?_
      refine va_get (ci := 10) (v := .int v_49) (C := RX10) (T := TX10) (N := 40) hx hb hg inX10 hown hK hP 1 rfl rfl 11 (by decide) (hg _ q_5_235) (fun _ h9 => h9) rfl dX10_readRoad_98 ?_
      refine lv_if_ne (tgt := 114) hx hb dX10_readRoad_101 (by decide) (fun c_56 => ?_) (fun c_56 => ?_)
      · have b_57 : iv 1 4 v_49 := iv_n0 c_56 bv_49 (iv_c (0 : Int32) (a := 0) (b := 0) (by decide)) (by decide)
        have hP := subP (ws' := [(z 4, aI V 1025 f_55), (z 3, aI V 900 fz3), (z 0, .inr (10, mo z pz0_0 pz0_5 v_45 v_46 pz0_8 v_47 v_48 v_49 v_50 pz0_13 pz0_14 pz0_18 pz0_19 pz0_22 pz0_23 pz0_29))]) hP [0, 2, 1] rfl
        have hD := hD.sub (ws' := [(z 4, aI V 1025 f_55), (z 3, aI V 900 fz3), (z 0, .inr (10, mo z pz0_0 pz0_5 v_45 v_46 pz0_8 v_47 v_48 v_49 v_50 pz0_13 pz0_14 pz0_18 pz0_19 pz0_22 pz0_23 pz0_29))]) [0, 2, 1] rfl rfl
        exact fiV hx hb hr hlk hK hP hD hS dX10_readRoad_114 (Nat.le_of_ble_eq_true rfl) (Nat.le_of_ble_eq_true rfl) (⟨f_55, v_45, v_46, v_47, v_48, v_49, v_50, tf_55, bv_45, bv_46, bv_48, (iv_w b_57 (by decide)), bv_50, g_51, (PS_f b_57 (by decide)), (by have z_0 := g_13; have z_1 := g_24; have z_2 := g_39; have z_3 := g_52;have y_0 := hf0.1; have y_1 := g_12.1; have y_2 := g_23.1; have y_3 := g_38.1; have y_4 := g_51.1; omega), (fun q9 => ((fun q8 => absurd q8 (iv_nz b_57 (by decide))) q9)), rfl⟩)
      · have b_58 : iv 0 0 v_49 := iv_q c_56 (iv_c (0 : Int32) (a := 0) (b := 0) (by decide))
        refine lv_aload_n hx hb dX10_readRoad_104 rfl (lv_at hl 1 rfl) ?_
        refine va_get (ci := 10) (v := .ref (z 4)) (C := RX10) (T := TX10) (N := 40) hx hb hg inX10 hown hK hP 1 rfl rfl 4 (by decide) (hg _ q_5_228) (fun _ h9 => h9) rfl dX10_readRoad_105 ?_
        refine lv_iconst (v := 3) hx hb dX10_readRoad_108 (by decide) ?_
        refine lv_dup2_11 hx hb dX10_readRoad_109 rfl rfl ?_
        refine va_iald hx hb hK hP 0 0 rfl rfl (vin (by decide +kernel)) dX10_readRoad_110 ?_
        refine tpi (y := x_1) ((((show f_55 (3 : Int32).toNatClampNeg = f_42 (3 : Int32).toNatClampNeg from by rw [ef_55]; exact upd_ne (cl_ne (iv_c (3 : Int32) (a := 3) (b := 3) (by decide)) bx_43 (by decide))).trans (show f_42 (3 : Int32).toNatClampNeg = f_27 (3 : Int32).toNatClampNeg from by rw [ef_42]; exact upd_ne (cl_ne (iv_c (3 : Int32) (a := 3) (b := 3) (by decide)) bx_28 (by decide)))).trans (show f_27 (3 : Int32).toNatClampNeg = fz4 (3 : Int32).toNatClampNeg from by rw [ef_27]; exact upd_ne (cl_ne (iv_c (3 : Int32) (a := 3) (b := 3) (by decide)) bx_3 (by decide)))).trans ex_1.symm) ?_
        refine lv_iconst (v := 1) hx hb dX10_readRoad_111 (by decide) ?_
        refine lv_iadd hx hb dX10_readRoad_112 ?_
        refine lv_topi (fun x_59 ex_59 => ?_)
        have bx_59 : iv 1 8 x_59 := by rw [ex_59]; exact iv_add b_5 (iv_c (1 : Int32) (a := 1) (b := 1) (by decide)) (by decide)
        refine va_iast hx hb hK hP hD hS 0 0 rfl rfl (vin (by decide +kernel)) dX10_readRoad_113 (fun H locs hP hD hS => ?_)
        obtain ⟨f_60, ef_60, tf_60, hP, hD⟩ : ∃ f_60 : Nat → Int32, f_60 = (upd f_55 (3 : Int32).toNatClampNeg x_59) ∧ (ivT tF f_60) ∧ va_P V.1 vwCl [(z 4, aI V 1025 f_60), (z 0, .inr (10, mo z pz0_0 pz0_5 v_45 v_46 pz0_8 v_47 v_48 v_49 v_50 pz0_13 pz0_14 pz0_18 pz0_19 pz0_22 pz0_23 pz0_29)), (z 3, aI V 900 fz3)] H ∧ va_D A [(z 4, aI V 1025 f_60), (z 0, .inr (10, mo z pz0_0 pz0_5 v_45 v_46 pz0_8 v_47 v_48 v_49 v_50 pz0_13 pz0_14 pz0_18 pz0_19 pz0_22 pz0_23 pz0_29)), (z 3, aI V 900 fz3)] := ⟨_, rfl, upT (lo := 0) (hi := 8) (a := 3) (n := 1) tf_55 (iv_c (3 : Int32) (a := 3) (b := 3) (by decide)) (by decide) (iv_w bx_59 (by decide)) (by decide +kernel), hP, hD⟩
        have hP := subP (ws' := [(z 4, aI V 1025 f_60), (z 3, aI V 900 fz3), (z 0, .inr (10, mo z pz0_0 pz0_5 v_45 v_46 pz0_8 v_47 v_48 v_49 v_50 pz0_13 pz0_14 pz0_18 pz0_19 pz0_22 pz0_23 pz0_29))]) hP [0, 2, 1] rfl
        have hD := hD.sub (ws' := [(z 4, aI V 1025 f_60), (z 3, aI V 900 fz3), (z 0, .inr (10, mo z pz0_0 pz0_5 v_45 v_46 pz0_8 v_47 v_48 v_49 v_50 pz0_13 pz0_14 pz0_18 pz0_19 pz0_22 pz0_23 pz0_29))]) [0, 2, 1] rfl rfl
        exact fiV hx hb hr hlk hK hP hD hS dX10_readRoad_114 (Nat.le_of_ble_eq_true rfl) (Nat.le_of_ble_eq_true rfl) (⟨f_60, v_45, v_46, v_47, v_48, v_49, v_50, tf_60, bv_45, bv_46, bv_48, (iv_w b_58 (by decide)), bv_50, g_51, (PS_up (lo := 0) (hi := 8) (c := 0) (k := 1) (i := 3) (n := 1) (PS_up (lo := 0) (hi := 9) (c := 24) (k := 3) (i := 0) (n := 8) (PS_up (lo := 0) (hi := 3) (c := 23) (k := 3) (i := 0) (n := 8) (PS_up (lo := 0) (hi := 3) (c := 22) (k := 3) (i := 0) (n := 8) (PS_a hf1 (fun q9 => ((g_25) ((g_40) ((g_53) q9)))) (by have z_0 := g_13; have z_1 := g_24; have z_2 := g_39; have z_3 := g_52;have y_0 := hf0.1; have y_1 := g_12.1; have y_2 := g_23.1; have y_3 := g_38.1; have y_4 := g_51.1; omega)) ef_27 (show (x_3 : Int32).toInt = 22 + 3 * (x_1 : Int32).toInt from (by have q_x_2 := toInt_mulC (k := 3) ex_2 b_5 (by decide) (by decide); have q_x_3 := toInt_add ex_3 (iv_c (22 : Int32) (a := 22) (b := 22) (by decide)) bx_2 (by decide); have k_x_3 : (22 : Int32).toInt = 22 := (by decide); omega)) b_5 (by decide) (by decide +kernel) (fun q7 => by have q8 := g_26 ((fun q9 => ((g_40) ((g_53) q9))) q7); have z_0 : (0 : Int32).toInt = 0 := (by decide); have z_x_15 := bx_15; unfold iv at z_x_15; exact ⟨by omega, by omega⟩) bx_3 (by decide)) ef_42 (show (x_28 : Int32).toInt = 23 + 3 * (x_1 : Int32).toInt from (by have q_x_2 := toInt_mulC (k := 3) ex_2 b_5 (by decide) (by decide); have q_x_3 := toInt_add ex_3 (iv_c (22 : Int32) (a := 22) (b := 22) (by decide)) bx_2 (by decide); have k_x_3 : (22 : Int32).toInt = 22 := (by decide); have q_x_28 := toInt_add ex_28 bx_3 (iv_c (1 : Int32) (a := 1) (b := 1) (by decide)) (by decide); have k_x_28 : (1 : Int32).toInt = 1 := (by decide); omega)) b_5 (by decide) (by decide +kernel) (fun q7 => by have q8 := g_41 ((fun q9 => ((g_53) q9)) q7); have z_0 : (0 : Int32).toInt = 0 := (by decide); have z_x_30 := bx_30; unfold iv at z_x_30; exact ⟨by omega, by omega⟩) bx_28 (by decide)) ef_55 (show (x_43 : Int32).toInt = 24 + 3 * (x_1 : Int32).toInt from (by have q_x_2 := toInt_mulC (k := 3) ex_2 b_5 (by decide) (by decide); have q_x_3 := toInt_add ex_3 (iv_c (22 : Int32) (a := 22) (b := 22) (by decide)) bx_2 (by decide); have k_x_3 : (22 : Int32).toInt = 22 := (by decide); have q_x_43 := toInt_add ex_43 bx_3 (iv_c (2 : Int32) (a := 2) (b := 2) (by decide)) (by decide); have k_x_43 : (2 : Int32).toInt = 2 := (by decide); omega)) b_5 (by decide) (by decide +kernel) (fun q7 => by have q8 := g_54 ((fun q9 => q9) q7); have z_0 : (0 : Int32).toInt = 0 := (by decide); have z_9 : (9 : Int32).toInt = 9 := (by decide); exact ⟨by omega, by omega⟩) bx_43 (by decide)) ef_60 (show (3 : Int32).toInt = 0 + 1 * (3 : Int32).toInt from (by omega)) (iv_c (3 : Int32) (a := 3) (b := 3) (by decide)) (by decide) (by decide +kernel) (fun _ => (iv_w bx_59 (by decide))) (iv_c (3 : Int32) (a := 3) (b := 3) (by decide)) (by decide)), (by have z_0 := g_13; have z_1 := g_24; have z_2 := g_39; have z_3 := g_52;have y_0 := hf0.1; have y_1 := g_12.1; have y_2 := g_23.1; have y_3 := g_38.1; have y_4 := g_51.1; omega), (fun q9 => ((g_25) ((g_40) ((g_53) q9)))), rfl⟩)
    · have b_61 : iv 1 4 pz0_11 := iv_n0 c_6 bpz0_11 (iv_c (0 : Int32) (a := 0) (b := 0) (by decide)) (by decide)
      exact fiV hx hb hr hlk hK hP hD hS dX10_readRoad_35 (Nat.le_of_ble_eq_true rfl) (Nat.le_of_ble_eq_true rfl) (⟨fz4, pz0_6, pz0_7, pz0_9, pz0_10, pz0_11, pz0_12, tfz4, bpz0_6, bpz0_7, bpz0_10, (iv_w b_61 (by decide)), bpz0_12, hf0, hf1, (Int.le_refl _), (fun q9 => q9), rfl⟩)
  · have b_62 : iv 8 8 x_1 := iv_q c_4 (iv_c (8 : Int32) (a := 8) (b := 8) (by decide))
    refine lv_aload_n hx hb dX10_readRoad_23 rfl (lv_at hl 1 rfl) ?_
    refine lv_iconst (v := 4) hx hb dX10_readRoad_24 (by decide) ?_
    refine jnV (wr := [(z 4, aI V 1025 fz4), (z 3, aI V 900 fz3)]) (rnV (rest := []) ⟨hx, hb, hml, hown, hg⟩ (k_X10_fails_0 l V z 4 pz0_0 pz0_5 pz0_6 pz0_7 pz0_8 pz0_9 pz0_10 pz0_11 pz0_12 pz0_13 pz0_14 pz0_18 pz0_19 pz0_22 pz0_23 pz0_29 (iv_c (4 : Int32) (by decide)) bpz0_5 bpz0_6 bpz0_7 bpz0_8 bpz0_10 bpz0_11 bpz0_12 bpz0_13 bpz0_14 bpz0_18 bpz0_22 bpz0_29) mt_X10_fails q_6_147 ⟨Nat.le_of_ble_eq_true rfl, Nat.le_of_ble_eq_true rfl⟩ hK hP hD hS hA hE [2] rfl rfl 2 rfl rfl rfl rfl hl.1 rfl (Nat.le_of_ble_eq_true rfl) dX10_readRoad_25 ⟨Nat.le_of_ble_eq_true rfl, Nat.le_of_ble_eq_true rfl⟩) hP hD hS hA [2] [0, 1] rfl rfl rfl (by decide) (fun  w H locs hw hP hD hS => ?_)
    obtain ⟨v_63, v_64, bv_63, bv_64, rfl⟩ := hw
    have hP : va_P V.1 vwCl [(z 4, aI V 1025 fz4), (z 3, aI V 900 fz3), (z 0, .inr (10, mo z pz0_0 pz0_5 pz0_6 pz0_7 pz0_8 pz0_9 pz0_10 v_63 v_64 pz0_13 pz0_14 pz0_18 pz0_19 pz0_22 pz0_23 pz0_29))] H := hP
    have hD : va_D A [(z 4, aI V 1025 fz4), (z 3, aI V 900 fz3), (z 0, .inr (10, mo z pz0_0 pz0_5 pz0_6 pz0_7 pz0_8 pz0_9 pz0_10 v_63 v_64 pz0_13 pz0_14 pz0_18 pz0_19 pz0_22 pz0_23 pz0_29))] := hD
    refine lv_aload_n hx hb dX10_readRoad_28 rfl (lv_at hl 1 rfl) ?_
    refine va_get (ci := 10) (v := .int v_63) (C := RX10) (T := TX10) (N := 40) hx hb hg inX10 hown hK hP 2 rfl rfl 11 (by decide) (hg _ q_5_235) (fun _ h9 => h9) rfl dX10_readRoad_29 ?_
    refine lv_if_eq (tgt := 36) hx hb dX10_readRoad_32 (by decide) (fun c_65 => absurd c_65 (iv_ne bv_63 (iv_c (0 : Int32) (a := 0) (b := 0) (by decide)) (by decide))) (fun _ => ?_)
    exact fiV hx hb hr hlk hK hP hD hS dX10_readRoad_35 (Nat.le_of_ble_eq_true rfl) (Nat.le_of_ble_eq_true rfl) (⟨fz4, pz0_6, pz0_7, pz0_9, pz0_10, v_63, v_64, tfz4, bpz0_6, bpz0_7, bpz0_10, (iv_w bv_63 (by decide)), bv_64, hf0, (PS_f bv_63 (by decide)), (Int.le_refl _), (fun q9 => ((fun q8 => absurd q8 (iv_nz bv_63 (by decide))) q9)), rfl⟩)
set_option maxHeartbeats 4000000 in
set_option maxRecDepth 100000 in
theorem k_X10_is_28 (l : Launch) (V : GV) (z : Nat → Nat) (pz0_0 : Int32) (pz0_5 : Int32) (pz0_6 : Int32) (pz0_7 : Int32) (pz0_8 : Int32) (pz0_9 : Int32) (pz0_10 : Int32) (pz0_11 : Int32) (pz0_12 : Int32) (pz0_13 : Int32) (pz0_14 : Int32) (pz0_18 : Int32) (pz0_19 : Int32) (pz0_22 : Int32) (pz0_23 : Int32) (pz0_29 : Int32) (bpz0_5 : iv 0 900 pz0_5) (bpz0_6 : iv 0 900 pz0_6) (bpz0_7 : iv 0 900 pz0_7) (bpz0_8 : iv 0 900 pz0_8) (bpz0_10 : iv 0 999 pz0_10) (bpz0_11 : iv 0 4 pz0_11) (bpz0_12 : iv 0 900 pz0_12) (bpz0_13 : iv 0 4 pz0_13) (bpz0_14 : iv (-1) 900 pz0_14) (bpz0_18 : iv 0 2 pz0_18) (bpz0_22 : iv 0 9999 pz0_22) (bpz0_29 : iv 0 10000 pz0_29) : Ct l V yX10_is (.code yX10_is cX10_is 2 (some .boolean)) 1 [.ref (z 0), .int 8] [(z 0, .inr (10, mo z pz0_0 pz0_5 pz0_6 pz0_7 pz0_8 pz0_9 pz0_10 pz0_11 pz0_12 pz0_13 pz0_14 pz0_18 pz0_19 pz0_22 pz0_23 pz0_29))] 0 0 (QI V (fun (r : Int32) (w : va_W) => iv 0 1 r ∧ (r = 1 → pz0_11 = 0) ∧ (r = 1 → pz0_9 = (8 : Int32)) ∧ w = [(z 0, .inr (10, mo z pz0_0 pz0_5 pz0_6 pz0_7 pz0_8 pz0_9 pz0_10 pz0_11 pz0_12 pz0_13 pz0_14 pz0_18 pz0_19 pz0_22 pz0_23 pz0_29))])) := by
  refine Ct.of (by decide) (Nat.le_of_ble_eq_true rfl) (fun p e s m below meth c A ls hx hb hr hml hown hlk hnm hg hP hK hD hE hA hS hl => ?_)
  have hl : lv_has ls 2 [(0, .ref (z 0)), (1, .int 8)] := hl
  refine lv_aload_n hx hb dX10_is_0 rfl (lv_at hl 0 rfl) ?_
  refine va_get (ci := 10) (v := .int pz0_11) (C := RX10) (T := TX10) (N := 40) hx hb hg inX10 hown hK hP 0 rfl rfl 11 (by decide) (hg _ q_5_235) (fun _ h9 => h9) rfl dX10_is_1 ?_
  refine lv_if_ne (tgt := 19) hx hb dX10_is_4 (by decide) (fun c_1 => ?_) (fun c_1 => ?_)
  · have b_2 : iv 1 4 pz0_11 := iv_n0 c_1 bpz0_11 (iv_c (0 : Int32) (a := 0) (b := 0) (by decide)) (by decide)
    refine lv_iconst (v := 0) hx hb dX10_is_19 (by decide) ?_
    exact fiZ rfl hx hb hr hlk hK hP hD hS dX10_is_20 (Nat.le_of_ble_eq_true rfl) (Nat.le_of_ble_eq_true rfl) (⟨(iv_c (0 : Int32) (by decide)), (fun q9 => absurd q9 (by decide)), (fun q9 => absurd q9 (by decide)), rfl⟩)
  · have b_3 : iv 0 0 pz0_11 := iv_q c_1 (iv_c (0 : Int32) (a := 0) (b := 0) (by decide))
    refine lv_aload_n hx hb dX10_is_7 rfl (lv_at hl 0 rfl) ?_
    refine va_get (ci := 10) (v := .int pz0_9) (C := RX10) (T := TX10) (N := 40) hx hb hg inX10 hown hK hP 0 rfl rfl 9 (by decide) (hg _ q_5_233) (fun _ h9 => h9) rfl dX10_is_8 ?_
    refine lv_iload_n hx hb dX10_is_11 rfl (lv_at hl 1 rfl) ?_
    refine lv_icmp_ne (tgt := 19) hx hb dX10_is_12 (by decide) (fun c_4 => ?_) (fun c_4 => ?_)
    · refine lv_iconst (v := 0) hx hb dX10_is_19 (by decide) ?_
      exact fiZ rfl hx hb hr hlk hK hP hD hS dX10_is_20 (Nat.le_of_ble_eq_true rfl) (Nat.le_of_ble_eq_true rfl) (⟨(iv_c (0 : Int32) (by decide)), (fun q9 => absurd q9 (by decide)), (fun q9 => absurd q9 (by decide)), rfl⟩)
    · have b_5 : iv 8 8 pz0_9 := iv_q c_4 (iv_c (8 : Int32) (a := 8) (b := 8) (by decide))
      refine lv_iconst (v := 1) hx hb dX10_is_15 (by decide) ?_
      refine lv_goto (tgt := 20) hx hb dX10_is_16 (by decide) ?_
      exact fiZ rfl hx hb hr hlk hK hP hD hS dX10_is_20 (Nat.le_of_ble_eq_true rfl) (Nat.le_of_ble_eq_true rfl) (⟨(iv_c (1 : Int32) (by decide)), (fun _ => c_1), (fun _ => c_4), rfl⟩)
set_option maxHeartbeats 4000000 in
set_option maxRecDepth 100000 in
theorem k_X10_eats_13 (l : Launch) (V : GV) (z : Nat → Nat) (pz0_0 : Int32) (pz0_5 : Int32) (pz0_6 : Int32) (pz0_7 : Int32) (pz0_8 : Int32) (pz0_9 : Int32) (pz0_10 : Int32) (pz0_11 : Int32) (pz0_12 : Int32) (pz0_13 : Int32) (pz0_14 : Int32) (pz0_18 : Int32) (pz0_19 : Int32) (pz0_22 : Int32) (pz0_23 : Int32) (pz0_29 : Int32) (fz3 : Nat → Int32) (bpz0_5 : iv 0 900 pz0_5) (bpz0_6 : iv 0 900 pz0_6) (bpz0_7 : iv 0 900 pz0_7) (bpz0_8 : iv 0 900 pz0_8) (bpz0_10 : iv 0 999 pz0_10) (bpz0_11 : iv 0 4 pz0_11) (bpz0_12 : iv 0 900 pz0_12) (bpz0_13 : iv 0 4 pz0_13) (bpz0_14 : iv (-1) 900 pz0_14) (bpz0_18 : iv 0 2 pz0_18) (bpz0_22 : iv 0 9999 pz0_22) (bpz0_29 : iv 0 10000 pz0_29) (hf0 : PT pz0_6 pz0_7 pz0_8 pz0_9) : Ct l V yX10_eats (.code yX10_eats cX10_eats 2 (some .boolean)) 7 [.ref (z 0), .int 8] [(z 0, .inr (10, mo z pz0_0 pz0_5 pz0_6 pz0_7 pz0_8 pz0_9 pz0_10 pz0_11 pz0_12 pz0_13 pz0_14 pz0_18 pz0_19 pz0_22 pz0_23 pz0_29)), (z 3, aI V 900 fz3)] 0 0 (QI V (fun (r : Int32) (w : va_W) => ∃ (v0 : Int32) (v1 : Int32) (v2 : Int32) (v3 : Int32), iv 0 900 v0 ∧ iv 0 900 v1 ∧ iv 0 999 v3 ∧ iv 0 1 r ∧ (PT v0 v1 pz0_8 v2) ∧ ((pz0_6 : Int32).toInt ≤ (v0 : Int32).toInt) ∧ (r = 1 → pz0_11 = 0) ∧ (r = 1 → (pz0_6 : Int32).toInt + 1 ≤ (v0 : Int32).toInt) ∧ w = [(z 0, .inr (10, mo z pz0_0 pz0_5 v0 v1 pz0_8 v2 v3 pz0_11 pz0_12 pz0_13 pz0_14 pz0_18 pz0_19 pz0_22 pz0_23 pz0_29)), (z 3, aI V 900 fz3)])) := by
  refine Ct.of (by decide) (Nat.le_of_ble_eq_true rfl) (fun p e s m below meth c A ls hx hb hr hml hown hlk hnm hg hP hK hD hE hA hS hl => ?_)
  have hl : lv_has ls 2 [(0, .ref (z 0)), (1, .int 8)] := hl
  refine lv_aload_n hx hb dX10_eats_0 rfl (lv_at hl 0 rfl) ?_
  refine lv_iload_n hx hb dX10_eats_1 rfl (lv_at hl 1 rfl) ?_
  refine jnI (wr := [(z 3, aI V 900 fz3)]) (rnV (rest := []) ⟨hx, hb, hml, hown, hg⟩ (k_X10_is_28 l V z pz0_0 pz0_5 pz0_6 pz0_7 pz0_8 pz0_9 pz0_10 pz0_11 pz0_12 pz0_13 pz0_14 pz0_18 pz0_19 pz0_22 pz0_23 pz0_29 bpz0_5 bpz0_6 bpz0_7 bpz0_8 bpz0_10 bpz0_11 bpz0_12 bpz0_13 bpz0_14 bpz0_18 bpz0_22 bpz0_29) mt_X10_is q_6_143 ⟨Nat.le_of_ble_eq_true rfl, Nat.le_of_ble_eq_true rfl⟩ hK hP hD hS hA hE [0] rfl rfl 0 rfl rfl rfl rfl hl.1 rfl (Nat.le_of_ble_eq_true rfl) dX10_eats_2 ⟨Nat.le_of_ble_eq_true rfl, Nat.le_of_ble_eq_true rfl⟩) hP hD hS hA [0] [1] rfl rfl rfl (by decide) (fun r_1 w H locs hw hP hD hS => ?_)
  obtain ⟨br_1, g_2, g_3, rfl⟩ := hw
  have hP : va_P V.1 vwCl [(z 3, aI V 900 fz3), (z 0, .inr (10, mo z pz0_0 pz0_5 pz0_6 pz0_7 pz0_8 pz0_9 pz0_10 pz0_11 pz0_12 pz0_13 pz0_14 pz0_18 pz0_19 pz0_22 pz0_23 pz0_29))] H := hP
  have hD : va_D A [(z 3, aI V 900 fz3), (z 0, .inr (10, mo z pz0_0 pz0_5 pz0_6 pz0_7 pz0_8 pz0_9 pz0_10 pz0_11 pz0_12 pz0_13 pz0_14 pz0_18 pz0_19 pz0_22 pz0_23 pz0_29))] := hD
  refine lv_if_ne (tgt := 10) hx hb dX10_eats_5 (by decide) (fun c_4 => ?_) (fun c_4 => ?_)
  · have b_5 : iv 1 1 r_1 := iv_n0 c_4 br_1 (iv_c (0 : Int32) (a := 0) (b := 0) (by decide)) (by decide)
    have c_6 : pz0_11 = 0 := (g_2 (iv_eqp b_5 (iv_c (1 : Int32) (by decide))))
    have b_7 : iv 0 0 pz0_11 := iv_q c_6 (iv_c (0 : Int32) (a := 0) (b := 0) (by decide))
    have c_8 : pz0_9 = 8 := (g_3 (iv_eqp b_5 (iv_c (1 : Int32) (by decide))))
    have b_9 : iv 8 8 pz0_9 := iv_q c_8 (iv_c (8 : Int32) (a := 8) (b := 8) (by decide))
    refine lv_aload_n hx hb dX10_eats_10 rfl (lv_at hl 0 rfl) ?_
    refine jnV (wr := []) (rnV (rest := []) ⟨hx, hb, hml, hown, hg⟩ (k_X10_next_0 l V z pz0_0 pz0_5 pz0_6 pz0_7 pz0_8 pz0_9 pz0_10 pz0_11 pz0_12 pz0_13 pz0_14 pz0_18 pz0_19 pz0_22 pz0_23 pz0_29 fz3 bpz0_5 bpz0_6 bpz0_7 bpz0_8 bpz0_10 (iv_w b_7 (by decide)) bpz0_12 bpz0_13 bpz0_14 bpz0_18 bpz0_22 bpz0_29 hf0.2.1) mt_X10_next q_6_117 ⟨Nat.le_of_ble_eq_true rfl, Nat.le_of_ble_eq_true rfl⟩ hK hP hD hS hA hE [1, 0] rfl rfl 1 rfl rfl rfl rfl hl.1 rfl (Nat.le_of_ble_eq_true rfl) dX10_eats_11 ⟨Nat.le_of_ble_eq_true rfl, Nat.le_of_ble_eq_true rfl⟩) hP hD hS hA [1, 0] [] rfl rfl rfl (by decide) (fun  w H locs hw hP hD hS => ?_)
    obtain ⟨v_10, v_11, v_12, v_13, bv_10, bv_11, bv_13, g_14, g_15, rfl⟩ := hw
    have hP : va_P V.1 vwCl [(z 0, .inr (10, mo z pz0_0 pz0_5 v_10 v_11 pz0_8 v_12 v_13 pz0_11 pz0_12 pz0_13 pz0_14 pz0_18 pz0_19 pz0_22 pz0_23 pz0_29)), (z 3, aI V 900 fz3)] H := hP
    have hD : va_D A [(z 0, .inr (10, mo z pz0_0 pz0_5 v_10 v_11 pz0_8 v_12 v_13 pz0_11 pz0_12 pz0_13 pz0_14 pz0_18 pz0_19 pz0_22 pz0_23 pz0_29)), (z 3, aI V 900 fz3)] := hD
    refine lv_iconst (v := 1) hx hb dX10_eats_14 (by decide) ?_
    exact fiZ rfl hx hb hr hlk hK hP hD hS dX10_eats_15 (Nat.le_of_ble_eq_true rfl) (Nat.le_of_ble_eq_true rfl) (⟨v_10, v_11, v_12, v_13, bv_10, bv_11, bv_13, (iv_c (1 : Int32) (by decide)), g_14, (by have q9 := g_15; have q8 := hf0.1; omega), (fun _ => iv_eqp b_7 (iv_c (0 : Int32) (by decide))), (fun _ => by have q9 := g_15; have q8 := hf0.2.2 (by rw [c_8]; decide); omega), rfl⟩)
  · have b_16 : iv 0 0 r_1 := iv_q c_4 (iv_c (0 : Int32) (a := 0) (b := 0) (by decide))
    refine lv_iconst (v := 0) hx hb dX10_eats_8 (by decide) ?_
    have hP := subP (ws' := [(z 0, .inr (10, mo z pz0_0 pz0_5 pz0_6 pz0_7 pz0_8 pz0_9 pz0_10 pz0_11 pz0_12 pz0_13 pz0_14 pz0_18 pz0_19 pz0_22 pz0_23 pz0_29)), (z 3, aI V 900 fz3)]) hP [1, 0] rfl
    have hD := hD.sub (ws' := [(z 0, .inr (10, mo z pz0_0 pz0_5 pz0_6 pz0_7 pz0_8 pz0_9 pz0_10 pz0_11 pz0_12 pz0_13 pz0_14 pz0_18 pz0_19 pz0_22 pz0_23 pz0_29)), (z 3, aI V 900 fz3)]) [1, 0] rfl rfl
    exact fiZ rfl hx hb hr hlk hK hP hD hS dX10_eats_9 (Nat.le_of_ble_eq_true rfl) (Nat.le_of_ble_eq_true rfl) (⟨pz0_6, pz0_7, pz0_9, pz0_10, bpz0_6, bpz0_7, bpz0_10, (iv_c (0 : Int32) (by decide)), hf0, (Int.le_refl _), (fun q9 => absurd q9 (by decide)), (fun q9 => absurd q9 (by decide)), rfl⟩)
set_option maxHeartbeats 4000000 in
set_option maxRecDepth 100000 in
theorem k_X10_named_2 (l : Launch) (V : GV) (z : Nat → Nat) (a2 : Int32) (a3 : Int32) (pz0_0 : Int32) (pz0_5 : Int32) (pz0_6 : Int32) (pz0_7 : Int32) (pz0_8 : Int32) (pz0_9 : Int32) (pz0_10 : Int32) (pz0_11 : Int32) (pz0_12 : Int32) (pz0_13 : Int32) (pz0_14 : Int32) (pz0_18 : Int32) (pz0_19 : Int32) (pz0_22 : Int32) (pz0_23 : Int32) (pz0_29 : Int32) (fz3 : Nat → Int32) (bpz0_5 : iv 0 900 pz0_5) (bpz0_6 : iv 0 900 pz0_6) (bpz0_7 : iv 0 900 pz0_7) (bpz0_8 : iv 0 900 pz0_8) (bpz0_10 : iv 0 999 pz0_10) (bpz0_11 : iv 0 4 pz0_11) (bpz0_12 : iv 0 900 pz0_12) (bpz0_13 : iv 0 4 pz0_13) (bpz0_14 : iv (-1) 900 pz0_14) (bpz0_18 : iv 0 2 pz0_18) (bpz0_22 : iv 0 9999 pz0_22) (bpz0_29 : iv 0 10000 pz0_29) (hf0 : PT pz0_6 pz0_7 pz0_8 pz0_9) : Ct l V yX10_named (.code yX10_named cX10_named 4 (some .int)) 8 [.ref (z 0), .int 8, .int a2, .int a3] [(z 0, .inr (10, mo z pz0_0 pz0_5 pz0_6 pz0_7 pz0_8 pz0_9 pz0_10 pz0_11 pz0_12 pz0_13 pz0_14 pz0_18 pz0_19 pz0_22 pz0_23 pz0_29)), (z 3, aI V 900 fz3)] 0 0 (QI V (fun (r : Int32) (w : va_W) => ∃ (v0 : Int32) (v1 : Int32) (v2 : Int32) (v3 : Int32) (v4 : Int32) (v5 : Int32), iv 0 900 v0 ∧ iv 0 900 v1 ∧ iv 0 999 v3 ∧ iv 0 4 v4 ∧ iv 0 900 v5 ∧ iv 0 999 r ∧ (PT v0 v1 pz0_8 v2) ∧ ((pz0_6 : Int32).toInt ≤ (v0 : Int32).toInt) ∧ (v4 = 0 → pz0_11 = 0) ∧ (v4 = 0 → (a2 : Int32).toInt ≤ (r : Int32).toInt ∧ (r : Int32).toInt ≤ (a3 : Int32).toInt) ∧ w = [(z 0, .inr (10, mo z pz0_0 pz0_5 v0 v1 pz0_8 v2 v3 v4 v5 pz0_13 pz0_14 pz0_18 pz0_19 pz0_22 pz0_23 pz0_29)), (z 3, aI V 900 fz3)])) := by
  refine Ct.of (by decide) (Nat.le_of_ble_eq_true rfl) (fun p e s m below meth c A ls hx hb hr hml hown hlk hnm hg hP hK hD hE hA hS hl => ?_)
  have hl : lv_has ls 4 [(0, .ref (z 0)), (1, .int 8), (2, .int a2), (3, .int a3)] := hl
  refine lv_aload_n hx hb dX10_named_0 rfl (lv_at hl 0 rfl) ?_
  refine lv_iload_n hx hb dX10_named_1 rfl (lv_at hl 1 rfl) ?_
  refine jnI (wr := []) (rnV (rest := []) ⟨hx, hb, hml, hown, hg⟩ (k_X10_eats_13 l V z pz0_0 pz0_5 pz0_6 pz0_7 pz0_8 pz0_9 pz0_10 pz0_11 pz0_12 pz0_13 pz0_14 pz0_18 pz0_19 pz0_22 pz0_23 pz0_29 fz3 bpz0_5 bpz0_6 bpz0_7 bpz0_8 bpz0_10 bpz0_11 bpz0_12 bpz0_13 bpz0_14 bpz0_18 bpz0_22 bpz0_29 hf0) mt_X10_eats q_6_139 ⟨Nat.le_of_ble_eq_true rfl, Nat.le_of_ble_eq_true rfl⟩ hK hP hD hS hA hE [0, 1] rfl rfl 0 rfl rfl rfl rfl hl.1 rfl (Nat.le_of_ble_eq_true rfl) dX10_named_2 ⟨Nat.le_of_ble_eq_true rfl, Nat.le_of_ble_eq_true rfl⟩) hP hD hS hA [0, 1] [] rfl rfl rfl (by decide) (fun r_1 w H locs hw hP hD hS => ?_)
  obtain ⟨v_2, v_3, v_4, v_5, bv_2, bv_3, bv_5, br_1, g_6, g_7, g_8, g_9, rfl⟩ := hw
  have hP : va_P V.1 vwCl [(z 0, .inr (10, mo z pz0_0 pz0_5 v_2 v_3 pz0_8 v_4 v_5 pz0_11 pz0_12 pz0_13 pz0_14 pz0_18 pz0_19 pz0_22 pz0_23 pz0_29)), (z 3, aI V 900 fz3)] H := hP
  have hD : va_D A [(z 0, .inr (10, mo z pz0_0 pz0_5 v_2 v_3 pz0_8 v_4 v_5 pz0_11 pz0_12 pz0_13 pz0_14 pz0_18 pz0_19 pz0_22 pz0_23 pz0_29)), (z 3, aI V 900 fz3)] := hD
  refine lv_if_ne (tgt := 13) hx hb dX10_named_5 (by decide) (fun c_10 => ?_) (fun c_10 => ?_)
  · have b_11 : iv 1 1 r_1 := iv_n0 c_10 br_1 (iv_c (0 : Int32) (a := 0) (b := 0) (by decide)) (by decide)
    have c_12 : pz0_11 = 0 := (g_8 (iv_eqp b_11 (iv_c (1 : Int32) (by decide))))
    have b_13 : iv 0 0 pz0_11 := iv_q c_12 (iv_c (0 : Int32) (a := 0) (b := 0) (by decide))
    refine lv_aload_n hx hb dX10_named_13 rfl (lv_at hl 0 rfl) ?_
    refine lv_iload_n hx hb dX10_named_14 rfl (lv_at hl 2 rfl) ?_
    refine lv_iload_n hx hb dX10_named_15 rfl (lv_at hl 3 rfl) ?_
    refine jnI (wr := []) (rnV (rest := []) ⟨hx, hb, hml, hown, hg⟩ (k_X10_takesOne_0 l V z a2 a3 pz0_0 pz0_5 v_2 v_3 pz0_8 v_4 v_5 pz0_11 pz0_12 pz0_13 pz0_14 pz0_18 pz0_19 pz0_22 pz0_23 pz0_29 fz3 bpz0_5 bv_2 bv_3 bpz0_8 bv_5 (iv_w b_13 (by decide)) bpz0_12 bpz0_13 bpz0_14 bpz0_18 bpz0_22 bpz0_29 g_6) mt_X10_takesOne q_6_155 ⟨Nat.le_of_ble_eq_true rfl, Nat.le_of_ble_eq_true rfl⟩ hK hP hD hS hA hE [0, 1] rfl rfl 0 rfl rfl rfl rfl hl.1 rfl (Nat.le_of_ble_eq_true rfl) dX10_named_16 ⟨Nat.le_of_ble_eq_true rfl, Nat.le_of_ble_eq_true rfl⟩) hP hD hS hA [0, 1] [] rfl rfl rfl (by decide) (fun r_14 w H locs hw hP hD hS => ?_)
    obtain ⟨v_15, v_16, v_17, v_18, v_19, v_20, bv_15, bv_16, bv_18, bv_19, bv_20, br_14, g_21, g_22, g_23, g_24, rfl⟩ := hw
    have hP : va_P V.1 vwCl [(z 0, .inr (10, mo z pz0_0 pz0_5 v_15 v_16 pz0_8 v_17 v_18 v_19 v_20 pz0_13 pz0_14 pz0_18 pz0_19 pz0_22 pz0_23 pz0_29)), (z 3, aI V 900 fz3)] H := hP
    have hD : va_D A [(z 0, .inr (10, mo z pz0_0 pz0_5 v_15 v_16 pz0_8 v_17 v_18 v_19 v_20 pz0_13 pz0_14 pz0_18 pz0_19 pz0_22 pz0_23 pz0_29)), (z 3, aI V 900 fz3)] := hD
    exact fiI hx hb hr hlk hK hP hD hS dX10_named_19 (Nat.le_of_ble_eq_true rfl) (Nat.le_of_ble_eq_true rfl) (⟨v_15, v_16, v_17, v_18, v_19, v_20, bv_15, bv_16, bv_18, bv_19, bv_20, br_14, g_21, (by have z_0 := g_7; have z_1 := g_22;have y_0 := hf0.1; have y_1 := g_6.1; have y_2 := g_21.1; omega), (fun q9 => ((g_23) q9)), g_24, rfl⟩)
  · have b_25 : iv 0 0 r_1 := iv_q c_10 (iv_c (0 : Int32) (a := 0) (b := 0) (by decide))
    refine lv_aload_n hx hb dX10_named_8 rfl (lv_at hl 0 rfl) ?_
    refine lv_iconst (v := 2) hx hb dX10_named_9 (by decide) ?_
    refine jnV (wr := [(z 3, aI V 900 fz3)]) (rnV (rest := []) ⟨hx, hb, hml, hown, hg⟩ (k_X10_fails_0 l V z 2 pz0_0 pz0_5 v_2 v_3 pz0_8 v_4 v_5 pz0_11 pz0_12 pz0_13 pz0_14 pz0_18 pz0_19 pz0_22 pz0_23 pz0_29 (iv_c (2 : Int32) (by decide)) bpz0_5 bv_2 bv_3 bpz0_8 bv_5 bpz0_11 bpz0_12 bpz0_13 bpz0_14 bpz0_18 bpz0_22 bpz0_29) mt_X10_fails q_6_147 ⟨Nat.le_of_ble_eq_true rfl, Nat.le_of_ble_eq_true rfl⟩ hK hP hD hS hA hE [0] rfl rfl 0 rfl rfl rfl rfl hl.1 rfl (Nat.le_of_ble_eq_true rfl) dX10_named_10 ⟨Nat.le_of_ble_eq_true rfl, Nat.le_of_ble_eq_true rfl⟩) hP hD hS hA [0] [1] rfl rfl rfl (by decide) (fun  w H locs hw hP hD hS => ?_)
    obtain ⟨v_26, v_27, bv_26, bv_27, rfl⟩ := hw
    have hP : va_P V.1 vwCl [(z 3, aI V 900 fz3), (z 0, .inr (10, mo z pz0_0 pz0_5 v_2 v_3 pz0_8 v_4 v_5 v_26 v_27 pz0_13 pz0_14 pz0_18 pz0_19 pz0_22 pz0_23 pz0_29))] H := hP
    have hD : va_D A [(z 3, aI V 900 fz3), (z 0, .inr (10, mo z pz0_0 pz0_5 v_2 v_3 pz0_8 v_4 v_5 v_26 v_27 pz0_13 pz0_14 pz0_18 pz0_19 pz0_22 pz0_23 pz0_29))] := hD
    refine lv_aload_n hx hb dX10_named_13 rfl (lv_at hl 0 rfl) ?_
    refine lv_iload_n hx hb dX10_named_14 rfl (lv_at hl 2 rfl) ?_
    refine lv_iload_n hx hb dX10_named_15 rfl (lv_at hl 3 rfl) ?_
    refine jnI (wr := []) (rnV (rest := []) ⟨hx, hb, hml, hown, hg⟩ (k_X10_takesOne_0 l V z a2 a3 pz0_0 pz0_5 v_2 v_3 pz0_8 v_4 v_5 v_26 v_27 pz0_13 pz0_14 pz0_18 pz0_19 pz0_22 pz0_23 pz0_29 fz3 bpz0_5 bv_2 bv_3 bpz0_8 bv_5 (iv_w bv_26 (by decide)) bv_27 bpz0_13 bpz0_14 bpz0_18 bpz0_22 bpz0_29 g_6) mt_X10_takesOne q_6_155 ⟨Nat.le_of_ble_eq_true rfl, Nat.le_of_ble_eq_true rfl⟩ hK hP hD hS hA hE [1, 0] rfl rfl 1 rfl rfl rfl rfl hl.1 rfl (Nat.le_of_ble_eq_true rfl) dX10_named_16 ⟨Nat.le_of_ble_eq_true rfl, Nat.le_of_ble_eq_true rfl⟩) hP hD hS hA [1, 0] [] rfl rfl rfl (by decide) (fun r_28 w H locs hw hP hD hS => ?_)
    obtain ⟨v_29, v_30, v_31, v_32, v_33, v_34, bv_29, bv_30, bv_32, bv_33, bv_34, br_28, g_35, g_36, g_37, g_38, rfl⟩ := hw
    have hP : va_P V.1 vwCl [(z 0, .inr (10, mo z pz0_0 pz0_5 v_29 v_30 pz0_8 v_31 v_32 v_33 v_34 pz0_13 pz0_14 pz0_18 pz0_19 pz0_22 pz0_23 pz0_29)), (z 3, aI V 900 fz3)] H := hP
    have hD : va_D A [(z 0, .inr (10, mo z pz0_0 pz0_5 v_29 v_30 pz0_8 v_31 v_32 v_33 v_34 pz0_13 pz0_14 pz0_18 pz0_19 pz0_22 pz0_23 pz0_29)), (z 3, aI V 900 fz3)] := hD
    exact fiI hx hb hr hlk hK hP hD hS dX10_named_19 (Nat.le_of_ble_eq_true rfl) (Nat.le_of_ble_eq_true rfl) (⟨v_29, v_30, v_31, v_32, v_33, v_34, bv_29, bv_30, bv_32, bv_33, bv_34, br_28, g_35, (by have z_0 := g_7; have z_1 := g_36;have y_0 := hf0.1; have y_1 := g_6.1; have y_2 := g_35.1; omega), (fun q9 => ((fun q8 => absurd q8 (iv_nz bv_26 (by decide))) ((g_37) q9))), g_38, rfl⟩)
theorem dX10_readVillage_0 : decode cX10_readVillage 0 = .ok (.aload_n 0, 1) := by decide +kernel
theorem dX10_readVillage_1 : decode cX10_readVillage 1 = .ok (.getfield 24, 3) := by decide +kernel
theorem dX10_readVillage_4 : decode cX10_readVillage 4 = .ok (.iconst 2, 1) := by decide +kernel
theorem dX10_readVillage_5 : decode cX10_readVillage 5 = .ok (.iaload, 1) := by decide +kernel
theorem dX10_readVillage_6 : decode cX10_readVillage 6 = .ok (.iconst 4, 1) := by decide +kernel
theorem dX10_readVillage_7 : decode cX10_readVillage 7 = .ok (.if_icmp .ne 8, 3) := by decide +kernel
theorem dX10_readVillage_15 : decode cX10_readVillage 15 = .ok (.aload_n 0, 1) := by decide +kernel
theorem dX10_readVillage_16 : decode cX10_readVillage 16 = .ok (.getfield 143, 3) := by decide +kernel
theorem dX10_readVillage_19 : decode cX10_readVillage 19 = .ok (.ifCond .eq 4, 3) := by decide +kernel
theorem dX10_readVillage_23 : decode cX10_readVillage 23 = .ok (.aload_n 0, 1) := by decide +kernel
theorem dX10_readVillage_24 : decode cX10_readVillage 24 = .ok (.invokevirtual 152, 3) := by decide +kernel
theorem dX10_readVillage_27 : decode cX10_readVillage 27 = .ok (.aload_n 0, 1) := by decide +kernel
theorem dX10_readVillage_28 : decode cX10_readVillage 28 = .ok (.getfield 24, 3) := by decide +kernel
theorem dX10_readVillage_31 : decode cX10_readVillage 31 = .ok (.bipush 18, 2) := by decide +kernel
theorem dX10_readVillage_33 : decode cX10_readVillage 33 = .ok (.aload_n 0, 1) := by decide +kernel
theorem dX10_readVillage_34 : decode cX10_readVillage 34 = .ok (.getfield 24, 3) := by decide +kernel
theorem dX10_readVillage_37 : decode cX10_readVillage 37 = .ok (.iconst 2, 1) := by decide +kernel
theorem dX10_readVillage_38 : decode cX10_readVillage 38 = .ok (.iaload, 1) := by decide +kernel
theorem dX10_readVillage_39 : decode cX10_readVillage 39 = .ok (.iadd, 1) := by decide +kernel
theorem dX10_readVillage_40 : decode cX10_readVillage 40 = .ok (.aload_n 0, 1) := by decide +kernel
theorem dX10_readVillage_41 : decode cX10_readVillage 41 = .ok (.bipush 8, 2) := by decide +kernel
theorem dX10_readVillage_43 : decode cX10_readVillage 43 = .ok (.iconst 0, 1) := by decide +kernel
theorem dX10_readVillage_44 : decode cX10_readVillage 44 = .ok (.bipush 9, 2) := by decide +kernel
theorem dX10_readVillage_46 : decode cX10_readVillage 46 = .ok (.invokevirtual 200, 3) := by decide +kernel
theorem dX10_readVillage_49 : decode cX10_readVillage 49 = .ok (.iastore, 1) := by decide +kernel
theorem dX10_readVillage_50 : decode cX10_readVillage 50 = .ok (.aload_n 0, 1) := by decide +kernel
theorem dX10_readVillage_51 : decode cX10_readVillage 51 = .ok (.getfield 143, 3) := by decide +kernel
theorem dX10_readVillage_54 : decode cX10_readVillage 54 = .ok (.ifCond .ne 13, 3) := by decide +kernel
theorem dX10_readVillage_67 : decode cX10_readVillage 67 = .ok (.return_, 1) := by decide +kernel
theorem dX10_readVillage_57 : decode cX10_readVillage 57 = .ok (.aload_n 0, 1) := by decide +kernel
theorem dX10_readVillage_58 : decode cX10_readVillage 58 = .ok (.getfield 24, 3) := by decide +kernel
theorem dX10_readVillage_61 : decode cX10_readVillage 61 = .ok (.iconst 2, 1) := by decide +kernel
theorem dX10_readVillage_62 : decode cX10_readVillage 62 = .ok (.dup2, 1) := by decide +kernel
theorem dX10_readVillage_63 : decode cX10_readVillage 63 = .ok (.iaload, 1) := by decide +kernel
theorem dX10_readVillage_64 : decode cX10_readVillage 64 = .ok (.iconst 1, 1) := by decide +kernel
theorem dX10_readVillage_65 : decode cX10_readVillage 65 = .ok (.iadd, 1) := by decide +kernel
theorem dX10_readVillage_66 : decode cX10_readVillage 66 = .ok (.iastore, 1) := by decide +kernel
theorem dX10_readVillage_22 : decode cX10_readVillage 22 = .ok (.return_, 1) := by decide +kernel
theorem dX10_readVillage_10 : decode cX10_readVillage 10 = .ok (.aload_n 0, 1) := by decide +kernel
theorem dX10_readVillage_11 : decode cX10_readVillage 11 = .ok (.iconst 4, 1) := by decide +kernel
theorem dX10_readVillage_12 : decode cX10_readVillage 12 = .ok (.invokevirtual 155, 3) := by decide +kernel
set_option maxHeartbeats 4000000 in
set_option maxRecDepth 100000 in
theorem k_X10_readVillage_0 (l : Launch) (V : GV) (z : Nat → Nat) (fz4 : Nat → Int32) (fz3 : Nat → Int32) (pz0_0 : Int32) (pz0_5 : Int32) (pz0_6 : Int32) (pz0_7 : Int32) (pz0_8 : Int32) (pz0_9 : Int32) (pz0_10 : Int32) (pz0_11 : Int32) (pz0_12 : Int32) (pz0_13 : Int32) (pz0_14 : Int32) (pz0_18 : Int32) (pz0_19 : Int32) (pz0_22 : Int32) (pz0_23 : Int32) (pz0_29 : Int32) (tfz4 : ivT tF fz4) (bpz0_5 : iv 0 900 pz0_5) (bpz0_6 : iv 0 900 pz0_6) (bpz0_7 : iv 0 900 pz0_7) (bpz0_8 : iv 0 900 pz0_8) (bpz0_10 : iv 0 999 pz0_10) (bpz0_11 : iv 0 4 pz0_11) (bpz0_12 : iv 0 900 pz0_12) (bpz0_13 : iv 0 4 pz0_13) (bpz0_14 : iv (-1) 900 pz0_14) (bpz0_18 : iv 0 2 pz0_18) (bpz0_22 : iv 0 9999 pz0_22) (bpz0_29 : iv 0 10000 pz0_29) (hf0 : PT pz0_6 pz0_7 pz0_8 pz0_9) (hf1 : PS pz0_11 pz0_6 fz4) : Ct l V yX10_readVillage (.code yX10_readVillage cX10_readVillage 1 none) 9 [.ref (z 0)] [(z 4, aI V 1025 fz4), (z 3, aI V 900 fz3), (z 0, .inr (10, mo z pz0_0 pz0_5 pz0_6 pz0_7 pz0_8 pz0_9 pz0_10 pz0_11 pz0_12 pz0_13 pz0_14 pz0_18 pz0_19 pz0_22 pz0_23 pz0_29))] 0 0 (QV V (fun (w : va_W) => ∃ (g0 : Nat → Int32) (v1 : Int32) (v2 : Int32) (v3 : Int32) (v4 : Int32) (v5 : Int32) (v6 : Int32), (ivT tF g0) ∧ iv 0 900 v1 ∧ iv 0 900 v2 ∧ iv 0 999 v4 ∧ iv 0 4 v5 ∧ iv 0 900 v6 ∧ (PT v1 v2 pz0_8 v3) ∧ (PS v5 v1 g0) ∧ ((pz0_6 : Int32).toInt ≤ (v1 : Int32).toInt) ∧ (v5 = 0 → pz0_11 = 0) ∧ w = [(z 4, aI V 1025 g0), (z 3, aI V 900 fz3), (z 0, .inr (10, mo z pz0_0 pz0_5 v1 v2 pz0_8 v3 v4 v5 v6 pz0_13 pz0_14 pz0_18 pz0_19 pz0_22 pz0_23 pz0_29))])) := by
  refine Ct.of (by decide) (Nat.le_of_ble_eq_true rfl) (fun p e s m below meth c A ls hx hb hr hml hown hlk hnm hg hP hK hD hE hA hS hl => ?_)
  have hl : lv_has ls 1 [(0, .ref (z 0))] := hl
  refine lv_aload_n hx hb dX10_readVillage_0 rfl (lv_at hl 0 rfl) ?_
  refine va_get (ci := 10) (v := .ref (z 4)) (C := RX10) (T := TX10) (N := 40) hx hb hg inX10 hown hK hP 2 rfl rfl 4 (by decide) (hg _ q_5_228) (fun _ h9 => h9) rfl dX10_readVillage_1 ?_
  refine lv_iconst (v := 2) hx hb dX10_readVillage_4 (by decide) ?_
  refine va_iald hx hb hK hP 0 0 rfl rfl (vin (by decide +kernel)) dX10_readVillage_5 ?_
  refine lv_topi (fun x_1 ex_1 => ?_)
  have bx_1 : iv 0 4 x_1 := by rw [ex_1]; exact rdT (a := 2) (n := 1) tfz4 (iv_c (2 : Int32) (a := 2) (b := 2) (by decide)) (by decide) (by decide +kernel)
  refine lv_iconst (v := 4) hx hb dX10_readVillage_6 (by decide) ?_
  refine lv_icmp_ne (tgt := 15) hx hb dX10_readVillage_7 (by decide) (fun c_2 => ?_) (fun c_2 => ?_)
  · have b_3 : iv 0 3 x_1 := iv_n1 c_2 bx_1 (iv_c (4 : Int32) (a := 4) (b := 4) (by decide)) (by decide)
    refine lv_aload_n hx hb dX10_readVillage_15 rfl (lv_at hl 0 rfl) ?_
    refine va_get (ci := 10) (v := .int pz0_11) (C := RX10) (T := TX10) (N := 40) hx hb hg inX10 hown hK hP 2 rfl rfl 11 (by decide) (hg _ q_5_235) (fun _ h9 => h9) rfl dX10_readVillage_16 ?_
    refine lv_if_eq (tgt := 23) hx hb dX10_readVillage_19 (by decide) (fun c_4 => ?_) (fun c_4 => ?_)
    · have b_5 : iv 0 0 pz0_11 := iv_q c_4 (iv_c (0 : Int32) (a := 0) (b := 0) (by decide))
      refine lv_aload_n hx hb dX10_readVillage_23 rfl (lv_at hl 0 rfl) ?_
      refine jnV (wr := [(z 4, aI V 1025 fz4)]) (rnV (rest := []) ⟨hx, hb, hml, hown, hg⟩ (k_X10_next_0 l V z pz0_0 pz0_5 pz0_6 pz0_7 pz0_8 pz0_9 pz0_10 pz0_11 pz0_12 pz0_13 pz0_14 pz0_18 pz0_19 pz0_22 pz0_23 pz0_29 fz3 bpz0_5 bpz0_6 bpz0_7 bpz0_8 bpz0_10 (iv_w b_5 (by decide)) bpz0_12 bpz0_13 bpz0_14 bpz0_18 bpz0_22 bpz0_29 hf0.2.1) mt_X10_next q_6_117 ⟨Nat.le_of_ble_eq_true rfl, Nat.le_of_ble_eq_true rfl⟩ hK hP hD hS hA hE [2, 1] rfl rfl 2 rfl rfl rfl rfl hl.1 rfl (Nat.le_of_ble_eq_true rfl) dX10_readVillage_24 ⟨Nat.le_of_ble_eq_true rfl, Nat.le_of_ble_eq_true rfl⟩) hP hD hS hA [2, 1] [0] rfl rfl rfl (by decide) (fun  w H locs hw hP hD hS => ?_)
      obtain ⟨v_6, v_7, v_8, v_9, bv_6, bv_7, bv_9, g_10, g_11, rfl⟩ := hw
      have hP : va_P V.1 vwCl [(z 4, aI V 1025 fz4), (z 0, .inr (10, mo z pz0_0 pz0_5 v_6 v_7 pz0_8 v_8 v_9 pz0_11 pz0_12 pz0_13 pz0_14 pz0_18 pz0_19 pz0_22 pz0_23 pz0_29)), (z 3, aI V 900 fz3)] H := hP
      have hD : va_D A [(z 4, aI V 1025 fz4), (z 0, .inr (10, mo z pz0_0 pz0_5 v_6 v_7 pz0_8 v_8 v_9 pz0_11 pz0_12 pz0_13 pz0_14 pz0_18 pz0_19 pz0_22 pz0_23 pz0_29)), (z 3, aI V 900 fz3)] := hD
      refine lv_aload_n hx hb dX10_readVillage_27 rfl (lv_at hl 0 rfl) ?_
      refine va_get (ci := 10) (v := .ref (z 4)) (C := RX10) (T := TX10) (N := 40) hx hb hg inX10 hown hK hP 1 rfl rfl 4 (by decide) (hg _ q_5_228) (fun _ h9 => h9) rfl dX10_readVillage_28 ?_
      refine lv_bipush (v := 18) hx hb dX10_readVillage_31 (by decide) ?_
      refine lv_aload_n hx hb dX10_readVillage_33 rfl (lv_at hl 0 rfl) ?_
      refine va_get (ci := 10) (v := .ref (z 4)) (C := RX10) (T := TX10) (N := 40) hx hb hg inX10 hown hK hP 1 rfl rfl 4 (by decide) (hg _ q_5_228) (fun _ h9 => h9) rfl dX10_readVillage_34 ?_
      refine lv_iconst (v := 2) hx hb dX10_readVillage_37 (by decide) ?_
      refine va_iald hx hb hK hP 0 0 rfl rfl (vin (by decide +kernel)) dX10_readVillage_38 ?_
      refine tpi (y := x_1) ex_1.symm ?_
      refine lv_iadd hx hb dX10_readVillage_39 ?_
      refine lv_topi (fun x_12 ex_12 => ?_)
      have bx_12 : iv 18 21 x_12 := by rw [ex_12]; exact iv_add (iv_c (18 : Int32) (a := 18) (b := 18) (by decide)) b_3 (by decide)
      refine lv_aload_n hx hb dX10_readVillage_40 rfl (lv_at hl 0 rfl) ?_
      refine lv_bipush (v := 8) hx hb dX10_readVillage_41 (by decide) ?_
      refine lv_iconst (v := 0) hx hb dX10_readVillage_43 (by decide) ?_
      refine lv_bipush (v := 9) hx hb dX10_readVillage_44 (by decide) ?_
      refine jnI (wr := [(z 4, aI V 1025 fz4)]) (rnV (rest := [.int x_12, .ref (z 4)]) ⟨hx, hb, hml, hown, hg⟩ (k_X10_named_2 l V z 0 9 pz0_0 pz0_5 v_6 v_7 pz0_8 v_8 v_9 pz0_11 pz0_12 pz0_13 pz0_14 pz0_18 pz0_19 pz0_22 pz0_23 pz0_29 fz3 bpz0_5 bv_6 bv_7 bpz0_8 bv_9 (iv_w b_5 (by decide)) bpz0_12 bpz0_13 bpz0_14 bpz0_18 bpz0_22 bpz0_29 g_10) mt_X10_named q_6_151 ⟨Nat.le_of_ble_eq_true rfl, Nat.le_of_ble_eq_true rfl⟩ hK hP hD hS hA hE [1, 2] rfl rfl 1 rfl rfl rfl rfl hl.1 rfl (Nat.le_of_ble_eq_true rfl) dX10_readVillage_46 ⟨Nat.le_of_ble_eq_true rfl, Nat.le_of_ble_eq_true rfl⟩) hP hD hS hA [1, 2] [0] rfl rfl rfl (by decide) (fun r_13 w H locs hw hP hD hS => ?_)
      obtain ⟨v_14, v_15, v_16, v_17, v_18, v_19, bv_14, bv_15, bv_17, bv_18, bv_19, br_13, g_20, g_21, g_22, g_23, rfl⟩ := hw
      have hP : va_P V.1 vwCl [(z 4, aI V 1025 fz4), (z 0, .inr (10, mo z pz0_0 pz0_5 v_14 v_15 pz0_8 v_16 v_17 v_18 v_19 pz0_13 pz0_14 pz0_18 pz0_19 pz0_22 pz0_23 pz0_29)), (z 3, aI V 900 fz3)] H := hP
      have hD : va_D A [(z 4, aI V 1025 fz4), (z 0, .inr (10, mo z pz0_0 pz0_5 v_14 v_15 pz0_8 v_16 v_17 v_18 v_19 pz0_13 pz0_14 pz0_18 pz0_19 pz0_22 pz0_23 pz0_29)), (z 3, aI V 900 fz3)] := hD
      refine va_iast hx hb hK hP hD hS 0 0 rfl rfl (iv_in bx_12 (by decide)) dX10_readVillage_49 (fun H locs hP hD hS => ?_)
      obtain ⟨f_24, ef_24, tf_24, hP, hD⟩ : ∃ f_24 : Nat → Int32, f_24 = (upd fz4 (x_12 : Int32).toNatClampNeg r_13) ∧ (ivT tF f_24) ∧ va_P V.1 vwCl [(z 4, aI V 1025 f_24), (z 0, .inr (10, mo z pz0_0 pz0_5 v_14 v_15 pz0_8 v_16 v_17 v_18 v_19 pz0_13 pz0_14 pz0_18 pz0_19 pz0_22 pz0_23 pz0_29)), (z 3, aI V 900 fz3)] H ∧ va_D A [(z 4, aI V 1025 f_24), (z 0, .inr (10, mo z pz0_0 pz0_5 v_14 v_15 pz0_8 v_16 v_17 v_18 v_19 pz0_13 pz0_14 pz0_18 pz0_19 pz0_22 pz0_23 pz0_29)), (z 3, aI V 900 fz3)] := ⟨_, rfl, upT (lo := (-2147483648)) (hi := 2147483647) (a := 18) (n := 4) tfz4 bx_12 (by decide) (iv_w br_13 (by decide)) (by decide +kernel), hP, hD⟩
      refine lv_aload_n hx hb dX10_readVillage_50 rfl (lv_at hl 0 rfl) ?_
      refine va_get (ci := 10) (v := .int v_18) (C := RX10) (T := TX10) (N := 40) hx hb hg inX10 hown hK hP 1 rfl rfl 11 (by decide) (hg _ q_5_235) (fun _ h9 => h9) rfl dX10_readVillage_51 ?_
      refine lv_if_ne (tgt := 67) hx hb dX10_readVillage_54 (by decide) (fun c_25 => ?_) (fun c_25 => ?_)
      · have b_26 : iv 1 4 v_18 := iv_n0 c_25 bv_18 (iv_c (0 : Int32) (a := 0) (b := 0) (by decide)) (by decide)
        have hP := subP (ws' := [(z 4, aI V 1025 f_24), (z 3, aI V 900 fz3), (z 0, .inr (10, mo z pz0_0 pz0_5 v_14 v_15 pz0_8 v_16 v_17 v_18 v_19 pz0_13 pz0_14 pz0_18 pz0_19 pz0_22 pz0_23 pz0_29))]) hP [0, 2, 1] rfl
        have hD := hD.sub (ws' := [(z 4, aI V 1025 f_24), (z 3, aI V 900 fz3), (z 0, .inr (10, mo z pz0_0 pz0_5 v_14 v_15 pz0_8 v_16 v_17 v_18 v_19 pz0_13 pz0_14 pz0_18 pz0_19 pz0_22 pz0_23 pz0_29))]) [0, 2, 1] rfl rfl
        exact fiV hx hb hr hlk hK hP hD hS dX10_readVillage_67 (Nat.le_of_ble_eq_true rfl) (Nat.le_of_ble_eq_true rfl) (⟨f_24, v_14, v_15, v_16, v_17, v_18, v_19, tf_24, bv_14, bv_15, bv_17, (iv_w b_26 (by decide)), bv_19, g_20, (PS_f b_26 (by decide)), (by have z_0 := g_11; have z_1 := g_21;have y_0 := hf0.1; have y_1 := g_10.1; have y_2 := g_20.1; omega), (fun q9 => ((fun q8 => absurd q8 (iv_nz b_26 (by decide))) q9)), rfl⟩)
      · have b_27 : iv 0 0 v_18 := iv_q c_25 (iv_c (0 : Int32) (a := 0) (b := 0) (by decide))
        refine lv_aload_n hx hb dX10_readVillage_57 rfl (lv_at hl 0 rfl) ?_
        refine va_get (ci := 10) (v := .ref (z 4)) (C := RX10) (T := TX10) (N := 40) hx hb hg inX10 hown hK hP 1 rfl rfl 4 (by decide) (hg _ q_5_228) (fun _ h9 => h9) rfl dX10_readVillage_58 ?_
        refine lv_iconst (v := 2) hx hb dX10_readVillage_61 (by decide) ?_
        refine lv_dup2_11 hx hb dX10_readVillage_62 rfl rfl ?_
        refine va_iald hx hb hK hP 0 0 rfl rfl (vin (by decide +kernel)) dX10_readVillage_63 ?_
        refine tpi (y := x_1) ((show f_24 (2 : Int32).toNatClampNeg = fz4 (2 : Int32).toNatClampNeg from by rw [ef_24]; exact upd_ne (cl_ne (iv_c (2 : Int32) (a := 2) (b := 2) (by decide)) bx_12 (by decide))).trans ex_1.symm) ?_
        refine lv_iconst (v := 1) hx hb dX10_readVillage_64 (by decide) ?_
        refine lv_iadd hx hb dX10_readVillage_65 ?_
        refine lv_topi (fun x_28 ex_28 => ?_)
        have bx_28 : iv 1 4 x_28 := by rw [ex_28]; exact iv_add b_3 (iv_c (1 : Int32) (a := 1) (b := 1) (by decide)) (by decide)
        refine va_iast hx hb hK hP hD hS 0 0 rfl rfl (vin (by decide +kernel)) dX10_readVillage_66 (fun H locs hP hD hS => ?_)
        obtain ⟨f_29, ef_29, tf_29, hP, hD⟩ : ∃ f_29 : Nat → Int32, f_29 = (upd f_24 (2 : Int32).toNatClampNeg x_28) ∧ (ivT tF f_29) ∧ va_P V.1 vwCl [(z 4, aI V 1025 f_29), (z 0, .inr (10, mo z pz0_0 pz0_5 v_14 v_15 pz0_8 v_16 v_17 v_18 v_19 pz0_13 pz0_14 pz0_18 pz0_19 pz0_22 pz0_23 pz0_29)), (z 3, aI V 900 fz3)] H ∧ va_D A [(z 4, aI V 1025 f_29), (z 0, .inr (10, mo z pz0_0 pz0_5 v_14 v_15 pz0_8 v_16 v_17 v_18 v_19 pz0_13 pz0_14 pz0_18 pz0_19 pz0_22 pz0_23 pz0_29)), (z 3, aI V 900 fz3)] := ⟨_, rfl, upT (lo := 0) (hi := 4) (a := 2) (n := 1) tf_24 (iv_c (2 : Int32) (a := 2) (b := 2) (by decide)) (by decide) (iv_w bx_28 (by decide)) (by decide +kernel), hP, hD⟩
        have hP := subP (ws' := [(z 4, aI V 1025 f_29), (z 3, aI V 900 fz3), (z 0, .inr (10, mo z pz0_0 pz0_5 v_14 v_15 pz0_8 v_16 v_17 v_18 v_19 pz0_13 pz0_14 pz0_18 pz0_19 pz0_22 pz0_23 pz0_29))]) hP [0, 2, 1] rfl
        have hD := hD.sub (ws' := [(z 4, aI V 1025 f_29), (z 3, aI V 900 fz3), (z 0, .inr (10, mo z pz0_0 pz0_5 v_14 v_15 pz0_8 v_16 v_17 v_18 v_19 pz0_13 pz0_14 pz0_18 pz0_19 pz0_22 pz0_23 pz0_29))]) [0, 2, 1] rfl rfl
        exact fiV hx hb hr hlk hK hP hD hS dX10_readVillage_67 (Nat.le_of_ble_eq_true rfl) (Nat.le_of_ble_eq_true rfl) (⟨f_29, v_14, v_15, v_16, v_17, v_18, v_19, tf_29, bv_14, bv_15, bv_17, (iv_w b_27 (by decide)), bv_19, g_20, (PS_up (lo := 0) (hi := 4) (c := 0) (k := 1) (i := 2) (n := 1) (PS_up (lo := 0) (hi := 9) (c := 18) (k := 1) (i := 0) (n := 4) (PS_a hf1 (fun q9 => ((g_22) q9)) (by have z_0 := g_11; have z_1 := g_21;have y_0 := hf0.1; have y_1 := g_10.1; have y_2 := g_20.1; omega)) ef_24 (show (x_12 : Int32).toInt = 18 + 1 * (x_1 : Int32).toInt from (by have q_x_12 := toInt_add ex_12 (iv_c (18 : Int32) (a := 18) (b := 18) (by decide)) b_3 (by decide); have k_x_12 : (18 : Int32).toInt = 18 := (by decide); omega)) b_3 (by decide) (by decide +kernel) (fun q7 => by have q8 := g_23 ((fun q9 => q9) q7); have z_0 : (0 : Int32).toInt = 0 := (by decide); have z_9 : (9 : Int32).toInt = 9 := (by decide); exact ⟨by omega, by omega⟩) bx_12 (by decide)) ef_29 (show (2 : Int32).toInt = 0 + 1 * (2 : Int32).toInt from (by omega)) (iv_c (2 : Int32) (a := 2) (b := 2) (by decide)) (by decide) (by decide +kernel) (fun _ => (iv_w bx_28 (by decide))) (iv_c (2 : Int32) (a := 2) (b := 2) (by decide)) (by decide)), (by have z_0 := g_11; have z_1 := g_21;have y_0 := hf0.1; have y_1 := g_10.1; have y_2 := g_20.1; omega), (fun q9 => ((g_22) q9)), rfl⟩)
    · have b_30 : iv 1 4 pz0_11 := iv_n0 c_4 bpz0_11 (iv_c (0 : Int32) (a := 0) (b := 0) (by decide)) (by decide)
      exact fiV hx hb hr hlk hK hP hD hS dX10_readVillage_22 (Nat.le_of_ble_eq_true rfl) (Nat.le_of_ble_eq_true rfl) (⟨fz4, pz0_6, pz0_7, pz0_9, pz0_10, pz0_11, pz0_12, tfz4, bpz0_6, bpz0_7, bpz0_10, (iv_w b_30 (by decide)), bpz0_12, hf0, hf1, (Int.le_refl _), (fun q9 => q9), rfl⟩)
  · have b_31 : iv 4 4 x_1 := iv_q c_2 (iv_c (4 : Int32) (a := 4) (b := 4) (by decide))
    refine lv_aload_n hx hb dX10_readVillage_10 rfl (lv_at hl 0 rfl) ?_
    refine lv_iconst (v := 4) hx hb dX10_readVillage_11 (by decide) ?_
    refine jnV (wr := [(z 4, aI V 1025 fz4), (z 3, aI V 900 fz3)]) (rnV (rest := []) ⟨hx, hb, hml, hown, hg⟩ (k_X10_fails_0 l V z 4 pz0_0 pz0_5 pz0_6 pz0_7 pz0_8 pz0_9 pz0_10 pz0_11 pz0_12 pz0_13 pz0_14 pz0_18 pz0_19 pz0_22 pz0_23 pz0_29 (iv_c (4 : Int32) (by decide)) bpz0_5 bpz0_6 bpz0_7 bpz0_8 bpz0_10 bpz0_11 bpz0_12 bpz0_13 bpz0_14 bpz0_18 bpz0_22 bpz0_29) mt_X10_fails q_6_147 ⟨Nat.le_of_ble_eq_true rfl, Nat.le_of_ble_eq_true rfl⟩ hK hP hD hS hA hE [2] rfl rfl 2 rfl rfl rfl rfl hl.1 rfl (Nat.le_of_ble_eq_true rfl) dX10_readVillage_12 ⟨Nat.le_of_ble_eq_true rfl, Nat.le_of_ble_eq_true rfl⟩) hP hD hS hA [2] [0, 1] rfl rfl rfl (by decide) (fun  w H locs hw hP hD hS => ?_)
    obtain ⟨v_32, v_33, bv_32, bv_33, rfl⟩ := hw
    have hP : va_P V.1 vwCl [(z 4, aI V 1025 fz4), (z 3, aI V 900 fz3), (z 0, .inr (10, mo z pz0_0 pz0_5 pz0_6 pz0_7 pz0_8 pz0_9 pz0_10 v_32 v_33 pz0_13 pz0_14 pz0_18 pz0_19 pz0_22 pz0_23 pz0_29))] H := hP
    have hD : va_D A [(z 4, aI V 1025 fz4), (z 3, aI V 900 fz3), (z 0, .inr (10, mo z pz0_0 pz0_5 pz0_6 pz0_7 pz0_8 pz0_9 pz0_10 v_32 v_33 pz0_13 pz0_14 pz0_18 pz0_19 pz0_22 pz0_23 pz0_29))] := hD
    refine lv_aload_n hx hb dX10_readVillage_15 rfl (lv_at hl 0 rfl) ?_
    refine va_get (ci := 10) (v := .int v_32) (C := RX10) (T := TX10) (N := 40) hx hb hg inX10 hown hK hP 2 rfl rfl 11 (by decide) (hg _ q_5_235) (fun _ h9 => h9) rfl dX10_readVillage_16 ?_
    refine lv_if_eq (tgt := 23) hx hb dX10_readVillage_19 (by decide) (fun c_34 => absurd c_34 (iv_ne bv_32 (iv_c (0 : Int32) (a := 0) (b := 0) (by decide)) (by decide))) (fun _ => ?_)
    exact fiV hx hb hr hlk hK hP hD hS dX10_readVillage_22 (Nat.le_of_ble_eq_true rfl) (Nat.le_of_ble_eq_true rfl) (⟨fz4, pz0_6, pz0_7, pz0_9, pz0_10, v_32, v_33, tfz4, bpz0_6, bpz0_7, bpz0_10, (iv_w bv_32 (by decide)), bv_33, hf0, (PS_f bv_32 (by decide)), (Int.le_refl _), (fun q9 => ((fun q8 => absurd q8 (iv_nz bv_32 (by decide))) q9)), rfl⟩)
set_option maxHeartbeats 4000000 in
set_option maxRecDepth 100000 in
theorem k_X10_is_29 (l : Launch) (V : GV) (z : Nat → Nat) (pz0_0 : Int32) (pz0_5 : Int32) (pz0_6 : Int32) (pz0_7 : Int32) (pz0_8 : Int32) (pz0_9 : Int32) (pz0_10 : Int32) (pz0_11 : Int32) (pz0_12 : Int32) (pz0_13 : Int32) (pz0_14 : Int32) (pz0_18 : Int32) (pz0_19 : Int32) (pz0_22 : Int32) (pz0_23 : Int32) (pz0_29 : Int32) (bpz0_5 : iv 0 900 pz0_5) (bpz0_6 : iv 0 900 pz0_6) (bpz0_7 : iv 0 900 pz0_7) (bpz0_8 : iv 0 900 pz0_8) (bpz0_10 : iv 0 999 pz0_10) (bpz0_11 : iv 0 4 pz0_11) (bpz0_12 : iv 0 900 pz0_12) (bpz0_13 : iv 0 4 pz0_13) (bpz0_14 : iv (-1) 900 pz0_14) (bpz0_18 : iv 0 2 pz0_18) (bpz0_22 : iv 0 9999 pz0_22) (bpz0_29 : iv 0 10000 pz0_29) : Ct l V yX10_is (.code yX10_is cX10_is 2 (some .boolean)) 1 [.ref (z 0), .int 3] [(z 0, .inr (10, mo z pz0_0 pz0_5 pz0_6 pz0_7 pz0_8 pz0_9 pz0_10 pz0_11 pz0_12 pz0_13 pz0_14 pz0_18 pz0_19 pz0_22 pz0_23 pz0_29))] 0 0 (QI V (fun (r : Int32) (w : va_W) => iv 0 1 r ∧ (r = 1 → pz0_11 = 0) ∧ (r = 1 → pz0_9 = (3 : Int32)) ∧ w = [(z 0, .inr (10, mo z pz0_0 pz0_5 pz0_6 pz0_7 pz0_8 pz0_9 pz0_10 pz0_11 pz0_12 pz0_13 pz0_14 pz0_18 pz0_19 pz0_22 pz0_23 pz0_29))])) := by
  refine Ct.of (by decide) (Nat.le_of_ble_eq_true rfl) (fun p e s m below meth c A ls hx hb hr hml hown hlk hnm hg hP hK hD hE hA hS hl => ?_)
  have hl : lv_has ls 2 [(0, .ref (z 0)), (1, .int 3)] := hl
  refine lv_aload_n hx hb dX10_is_0 rfl (lv_at hl 0 rfl) ?_
  refine va_get (ci := 10) (v := .int pz0_11) (C := RX10) (T := TX10) (N := 40) hx hb hg inX10 hown hK hP 0 rfl rfl 11 (by decide) (hg _ q_5_235) (fun _ h9 => h9) rfl dX10_is_1 ?_
  refine lv_if_ne (tgt := 19) hx hb dX10_is_4 (by decide) (fun c_1 => ?_) (fun c_1 => ?_)
  · have b_2 : iv 1 4 pz0_11 := iv_n0 c_1 bpz0_11 (iv_c (0 : Int32) (a := 0) (b := 0) (by decide)) (by decide)
    refine lv_iconst (v := 0) hx hb dX10_is_19 (by decide) ?_
    exact fiZ rfl hx hb hr hlk hK hP hD hS dX10_is_20 (Nat.le_of_ble_eq_true rfl) (Nat.le_of_ble_eq_true rfl) (⟨(iv_c (0 : Int32) (by decide)), (fun q9 => absurd q9 (by decide)), (fun q9 => absurd q9 (by decide)), rfl⟩)
  · have b_3 : iv 0 0 pz0_11 := iv_q c_1 (iv_c (0 : Int32) (a := 0) (b := 0) (by decide))
    refine lv_aload_n hx hb dX10_is_7 rfl (lv_at hl 0 rfl) ?_
    refine va_get (ci := 10) (v := .int pz0_9) (C := RX10) (T := TX10) (N := 40) hx hb hg inX10 hown hK hP 0 rfl rfl 9 (by decide) (hg _ q_5_233) (fun _ h9 => h9) rfl dX10_is_8 ?_
    refine lv_iload_n hx hb dX10_is_11 rfl (lv_at hl 1 rfl) ?_
    refine lv_icmp_ne (tgt := 19) hx hb dX10_is_12 (by decide) (fun c_4 => ?_) (fun c_4 => ?_)
    · refine lv_iconst (v := 0) hx hb dX10_is_19 (by decide) ?_
      exact fiZ rfl hx hb hr hlk hK hP hD hS dX10_is_20 (Nat.le_of_ble_eq_true rfl) (Nat.le_of_ble_eq_true rfl) (⟨(iv_c (0 : Int32) (by decide)), (fun q9 => absurd q9 (by decide)), (fun q9 => absurd q9 (by decide)), rfl⟩)
    · have b_5 : iv 3 3 pz0_9 := iv_q c_4 (iv_c (3 : Int32) (a := 3) (b := 3) (by decide))
      refine lv_iconst (v := 1) hx hb dX10_is_15 (by decide) ?_
      refine lv_goto (tgt := 20) hx hb dX10_is_16 (by decide) ?_
      exact fiZ rfl hx hb hr hlk hK hP hD hS dX10_is_20 (Nat.le_of_ble_eq_true rfl) (Nat.le_of_ble_eq_true rfl) (⟨(iv_c (1 : Int32) (by decide)), (fun _ => c_1), (fun _ => c_4), rfl⟩)
set_option maxHeartbeats 4000000 in
set_option maxRecDepth 100000 in
theorem k_X10_eats_14 (l : Launch) (V : GV) (z : Nat → Nat) (pz0_0 : Int32) (pz0_5 : Int32) (pz0_6 : Int32) (pz0_7 : Int32) (pz0_8 : Int32) (pz0_9 : Int32) (pz0_10 : Int32) (pz0_11 : Int32) (pz0_12 : Int32) (pz0_13 : Int32) (pz0_14 : Int32) (pz0_18 : Int32) (pz0_19 : Int32) (pz0_22 : Int32) (pz0_23 : Int32) (pz0_29 : Int32) (fz3 : Nat → Int32) (bpz0_5 : iv 0 900 pz0_5) (bpz0_6 : iv 0 900 pz0_6) (bpz0_7 : iv 0 900 pz0_7) (bpz0_8 : iv 0 900 pz0_8) (bpz0_10 : iv 0 999 pz0_10) (bpz0_11 : iv 0 4 pz0_11) (bpz0_12 : iv 0 900 pz0_12) (bpz0_13 : iv 0 4 pz0_13) (bpz0_14 : iv (-1) 900 pz0_14) (bpz0_18 : iv 0 2 pz0_18) (bpz0_22 : iv 0 9999 pz0_22) (bpz0_29 : iv 0 10000 pz0_29) (hf0 : PT pz0_6 pz0_7 pz0_8 pz0_9) : Ct l V yX10_eats (.code yX10_eats cX10_eats 2 (some .boolean)) 7 [.ref (z 0), .int 3] [(z 0, .inr (10, mo z pz0_0 pz0_5 pz0_6 pz0_7 pz0_8 pz0_9 pz0_10 pz0_11 pz0_12 pz0_13 pz0_14 pz0_18 pz0_19 pz0_22 pz0_23 pz0_29)), (z 3, aI V 900 fz3)] 0 0 (QI V (fun (r : Int32) (w : va_W) => ∃ (v0 : Int32) (v1 : Int32) (v2 : Int32) (v3 : Int32), iv 0 900 v0 ∧ iv 0 900 v1 ∧ iv 0 999 v3 ∧ iv 0 1 r ∧ (PT v0 v1 pz0_8 v2) ∧ ((pz0_6 : Int32).toInt ≤ (v0 : Int32).toInt) ∧ (r = 1 → pz0_11 = 0) ∧ (r = 1 → (pz0_6 : Int32).toInt + 1 ≤ (v0 : Int32).toInt) ∧ w = [(z 0, .inr (10, mo z pz0_0 pz0_5 v0 v1 pz0_8 v2 v3 pz0_11 pz0_12 pz0_13 pz0_14 pz0_18 pz0_19 pz0_22 pz0_23 pz0_29)), (z 3, aI V 900 fz3)])) := by
  refine Ct.of (by decide) (Nat.le_of_ble_eq_true rfl) (fun p e s m below meth c A ls hx hb hr hml hown hlk hnm hg hP hK hD hE hA hS hl => ?_)
  have hl : lv_has ls 2 [(0, .ref (z 0)), (1, .int 3)] := hl
  refine lv_aload_n hx hb dX10_eats_0 rfl (lv_at hl 0 rfl) ?_
  refine lv_iload_n hx hb dX10_eats_1 rfl (lv_at hl 1 rfl) ?_
  refine jnI (wr := [(z 3, aI V 900 fz3)]) (rnV (rest := []) ⟨hx, hb, hml, hown, hg⟩ (k_X10_is_29 l V z pz0_0 pz0_5 pz0_6 pz0_7 pz0_8 pz0_9 pz0_10 pz0_11 pz0_12 pz0_13 pz0_14 pz0_18 pz0_19 pz0_22 pz0_23 pz0_29 bpz0_5 bpz0_6 bpz0_7 bpz0_8 bpz0_10 bpz0_11 bpz0_12 bpz0_13 bpz0_14 bpz0_18 bpz0_22 bpz0_29) mt_X10_is q_6_143 ⟨Nat.le_of_ble_eq_true rfl, Nat.le_of_ble_eq_true rfl⟩ hK hP hD hS hA hE [0] rfl rfl 0 rfl rfl rfl rfl hl.1 rfl (Nat.le_of_ble_eq_true rfl) dX10_eats_2 ⟨Nat.le_of_ble_eq_true rfl, Nat.le_of_ble_eq_true rfl⟩) hP hD hS hA [0] [1] rfl rfl rfl (by decide) (fun r_1 w H locs hw hP hD hS => ?_)
  obtain ⟨br_1, g_2, g_3, rfl⟩ := hw
  have hP : va_P V.1 vwCl [(z 3, aI V 900 fz3), (z 0, .inr (10, mo z pz0_0 pz0_5 pz0_6 pz0_7 pz0_8 pz0_9 pz0_10 pz0_11 pz0_12 pz0_13 pz0_14 pz0_18 pz0_19 pz0_22 pz0_23 pz0_29))] H := hP
  have hD : va_D A [(z 3, aI V 900 fz3), (z 0, .inr (10, mo z pz0_0 pz0_5 pz0_6 pz0_7 pz0_8 pz0_9 pz0_10 pz0_11 pz0_12 pz0_13 pz0_14 pz0_18 pz0_19 pz0_22 pz0_23 pz0_29))] := hD
  refine lv_if_ne (tgt := 10) hx hb dX10_eats_5 (by decide) (fun c_4 => ?_) (fun c_4 => ?_)
  · have b_5 : iv 1 1 r_1 := iv_n0 c_4 br_1 (iv_c (0 : Int32) (a := 0) (b := 0) (by decide)) (by decide)
    have c_6 : pz0_11 = 0 := (g_2 (iv_eqp b_5 (iv_c (1 : Int32) (by decide))))
    have b_7 : iv 0 0 pz0_11 := iv_q c_6 (iv_c (0 : Int32) (a := 0) (b := 0) (by decide))
    have c_8 : pz0_9 = 3 := (g_3 (iv_eqp b_5 (iv_c (1 : Int32) (by decide))))
    have b_9 : iv 3 3 pz0_9 := iv_q c_8 (iv_c (3 : Int32) (a := 3) (b := 3) (by decide))
    refine lv_aload_n hx hb dX10_eats_10 rfl (lv_at hl 0 rfl) ?_
    refine jnV (wr := []) (rnV (rest := []) ⟨hx, hb, hml, hown, hg⟩ (k_X10_next_0 l V z pz0_0 pz0_5 pz0_6 pz0_7 pz0_8 pz0_9 pz0_10 pz0_11 pz0_12 pz0_13 pz0_14 pz0_18 pz0_19 pz0_22 pz0_23 pz0_29 fz3 bpz0_5 bpz0_6 bpz0_7 bpz0_8 bpz0_10 (iv_w b_7 (by decide)) bpz0_12 bpz0_13 bpz0_14 bpz0_18 bpz0_22 bpz0_29 hf0.2.1) mt_X10_next q_6_117 ⟨Nat.le_of_ble_eq_true rfl, Nat.le_of_ble_eq_true rfl⟩ hK hP hD hS hA hE [1, 0] rfl rfl 1 rfl rfl rfl rfl hl.1 rfl (Nat.le_of_ble_eq_true rfl) dX10_eats_11 ⟨Nat.le_of_ble_eq_true rfl, Nat.le_of_ble_eq_true rfl⟩) hP hD hS hA [1, 0] [] rfl rfl rfl (by decide) (fun  w H locs hw hP hD hS => ?_)
    obtain ⟨v_10, v_11, v_12, v_13, bv_10, bv_11, bv_13, g_14, g_15, rfl⟩ := hw
    have hP : va_P V.1 vwCl [(z 0, .inr (10, mo z pz0_0 pz0_5 v_10 v_11 pz0_8 v_12 v_13 pz0_11 pz0_12 pz0_13 pz0_14 pz0_18 pz0_19 pz0_22 pz0_23 pz0_29)), (z 3, aI V 900 fz3)] H := hP
    have hD : va_D A [(z 0, .inr (10, mo z pz0_0 pz0_5 v_10 v_11 pz0_8 v_12 v_13 pz0_11 pz0_12 pz0_13 pz0_14 pz0_18 pz0_19 pz0_22 pz0_23 pz0_29)), (z 3, aI V 900 fz3)] := hD
    refine lv_iconst (v := 1) hx hb dX10_eats_14 (by decide) ?_
    exact fiZ rfl hx hb hr hlk hK hP hD hS dX10_eats_15 (Nat.le_of_ble_eq_true rfl) (Nat.le_of_ble_eq_true rfl) (⟨v_10, v_11, v_12, v_13, bv_10, bv_11, bv_13, (iv_c (1 : Int32) (by decide)), g_14, (by have q9 := g_15; have q8 := hf0.1; omega), (fun _ => iv_eqp b_7 (iv_c (0 : Int32) (by decide))), (fun _ => by have q9 := g_15; have q8 := hf0.2.2 (by rw [c_8]; decide); omega), rfl⟩)
  · have b_16 : iv 0 0 r_1 := iv_q c_4 (iv_c (0 : Int32) (a := 0) (b := 0) (by decide))
    refine lv_iconst (v := 0) hx hb dX10_eats_8 (by decide) ?_
    have hP := subP (ws' := [(z 0, .inr (10, mo z pz0_0 pz0_5 pz0_6 pz0_7 pz0_8 pz0_9 pz0_10 pz0_11 pz0_12 pz0_13 pz0_14 pz0_18 pz0_19 pz0_22 pz0_23 pz0_29)), (z 3, aI V 900 fz3)]) hP [1, 0] rfl
    have hD := hD.sub (ws' := [(z 0, .inr (10, mo z pz0_0 pz0_5 pz0_6 pz0_7 pz0_8 pz0_9 pz0_10 pz0_11 pz0_12 pz0_13 pz0_14 pz0_18 pz0_19 pz0_22 pz0_23 pz0_29)), (z 3, aI V 900 fz3)]) [1, 0] rfl rfl
    exact fiZ rfl hx hb hr hlk hK hP hD hS dX10_eats_9 (Nat.le_of_ble_eq_true rfl) (Nat.le_of_ble_eq_true rfl) (⟨pz0_6, pz0_7, pz0_9, pz0_10, bpz0_6, bpz0_7, bpz0_10, (iv_c (0 : Int32) (by decide)), hf0, (Int.le_refl _), (fun q9 => absurd q9 (by decide)), (fun q9 => absurd q9 (by decide)), rfl⟩)
set_option maxHeartbeats 4000000 in
set_option maxRecDepth 100000 in
theorem k_X10_named_3 (l : Launch) (V : GV) (z : Nat → Nat) (a2 : Int32) (a3 : Int32) (pz0_0 : Int32) (pz0_5 : Int32) (pz0_6 : Int32) (pz0_7 : Int32) (pz0_8 : Int32) (pz0_9 : Int32) (pz0_10 : Int32) (pz0_11 : Int32) (pz0_12 : Int32) (pz0_13 : Int32) (pz0_14 : Int32) (pz0_18 : Int32) (pz0_19 : Int32) (pz0_22 : Int32) (pz0_23 : Int32) (pz0_29 : Int32) (fz3 : Nat → Int32) (bpz0_5 : iv 0 900 pz0_5) (bpz0_6 : iv 0 900 pz0_6) (bpz0_7 : iv 0 900 pz0_7) (bpz0_8 : iv 0 900 pz0_8) (bpz0_10 : iv 0 999 pz0_10) (bpz0_11 : iv 0 4 pz0_11) (bpz0_12 : iv 0 900 pz0_12) (bpz0_13 : iv 0 4 pz0_13) (bpz0_14 : iv (-1) 900 pz0_14) (bpz0_18 : iv 0 2 pz0_18) (bpz0_22 : iv 0 9999 pz0_22) (bpz0_29 : iv 0 10000 pz0_29) (hf0 : PT pz0_6 pz0_7 pz0_8 pz0_9) : Ct l V yX10_named (.code yX10_named cX10_named 4 (some .int)) 8 [.ref (z 0), .int 3, .int a2, .int a3] [(z 0, .inr (10, mo z pz0_0 pz0_5 pz0_6 pz0_7 pz0_8 pz0_9 pz0_10 pz0_11 pz0_12 pz0_13 pz0_14 pz0_18 pz0_19 pz0_22 pz0_23 pz0_29)), (z 3, aI V 900 fz3)] 0 0 (QI V (fun (r : Int32) (w : va_W) => ∃ (v0 : Int32) (v1 : Int32) (v2 : Int32) (v3 : Int32) (v4 : Int32) (v5 : Int32), iv 0 900 v0 ∧ iv 0 900 v1 ∧ iv 0 999 v3 ∧ iv 0 4 v4 ∧ iv 0 900 v5 ∧ iv 0 999 r ∧ (PT v0 v1 pz0_8 v2) ∧ ((pz0_6 : Int32).toInt ≤ (v0 : Int32).toInt) ∧ (v4 = 0 → pz0_11 = 0) ∧ (v4 = 0 → (a2 : Int32).toInt ≤ (r : Int32).toInt ∧ (r : Int32).toInt ≤ (a3 : Int32).toInt) ∧ w = [(z 0, .inr (10, mo z pz0_0 pz0_5 v0 v1 pz0_8 v2 v3 v4 v5 pz0_13 pz0_14 pz0_18 pz0_19 pz0_22 pz0_23 pz0_29)), (z 3, aI V 900 fz3)])) := by
  refine Ct.of (by decide) (Nat.le_of_ble_eq_true rfl) (fun p e s m below meth c A ls hx hb hr hml hown hlk hnm hg hP hK hD hE hA hS hl => ?_)
  have hl : lv_has ls 4 [(0, .ref (z 0)), (1, .int 3), (2, .int a2), (3, .int a3)] := hl
  refine lv_aload_n hx hb dX10_named_0 rfl (lv_at hl 0 rfl) ?_
  refine lv_iload_n hx hb dX10_named_1 rfl (lv_at hl 1 rfl) ?_
  refine jnI (wr := []) (rnV (rest := []) ⟨hx, hb, hml, hown, hg⟩ (k_X10_eats_14 l V z pz0_0 pz0_5 pz0_6 pz0_7 pz0_8 pz0_9 pz0_10 pz0_11 pz0_12 pz0_13 pz0_14 pz0_18 pz0_19 pz0_22 pz0_23 pz0_29 fz3 bpz0_5 bpz0_6 bpz0_7 bpz0_8 bpz0_10 bpz0_11 bpz0_12 bpz0_13 bpz0_14 bpz0_18 bpz0_22 bpz0_29 hf0) mt_X10_eats q_6_139 ⟨Nat.le_of_ble_eq_true rfl, Nat.le_of_ble_eq_true rfl⟩ hK hP hD hS hA hE [0, 1] rfl rfl 0 rfl rfl rfl rfl hl.1 rfl (Nat.le_of_ble_eq_true rfl) dX10_named_2 ⟨Nat.le_of_ble_eq_true rfl, Nat.le_of_ble_eq_true rfl⟩) hP hD hS hA [0, 1] [] rfl rfl rfl (by decide) (fun r_1 w H locs hw hP hD hS => ?_)
  obtain ⟨v_2, v_3, v_4, v_5, bv_2, bv_3, bv_5, br_1, g_6, g_7, g_8, g_9, rfl⟩ := hw
  have hP : va_P V.1 vwCl [(z 0, .inr (10, mo z pz0_0 pz0_5 v_2 v_3 pz0_8 v_4 v_5 pz0_11 pz0_12 pz0_13 pz0_14 pz0_18 pz0_19 pz0_22 pz0_23 pz0_29)), (z 3, aI V 900 fz3)] H := hP
  have hD : va_D A [(z 0, .inr (10, mo z pz0_0 pz0_5 v_2 v_3 pz0_8 v_4 v_5 pz0_11 pz0_12 pz0_13 pz0_14 pz0_18 pz0_19 pz0_22 pz0_23 pz0_29)), (z 3, aI V 900 fz3)] := hD
  refine lv_if_ne (tgt := 13) hx hb dX10_named_5 (by decide) (fun c_10 => ?_) (fun c_10 => ?_)
  · have b_11 : iv 1 1 r_1 := iv_n0 c_10 br_1 (iv_c (0 : Int32) (a := 0) (b := 0) (by decide)) (by decide)
    have c_12 : pz0_11 = 0 := (g_8 (iv_eqp b_11 (iv_c (1 : Int32) (by decide))))
    have b_13 : iv 0 0 pz0_11 := iv_q c_12 (iv_c (0 : Int32) (a := 0) (b := 0) (by decide))
    refine lv_aload_n hx hb dX10_named_13 rfl (lv_at hl 0 rfl) ?_
    refine lv_iload_n hx hb dX10_named_14 rfl (lv_at hl 2 rfl) ?_
    refine lv_iload_n hx hb dX10_named_15 rfl (lv_at hl 3 rfl) ?_
    refine jnI (wr := []) (rnV (rest := []) ⟨hx, hb, hml, hown, hg⟩ (k_X10_takesOne_0 l V z a2 a3 pz0_0 pz0_5 v_2 v_3 pz0_8 v_4 v_5 pz0_11 pz0_12 pz0_13 pz0_14 pz0_18 pz0_19 pz0_22 pz0_23 pz0_29 fz3 bpz0_5 bv_2 bv_3 bpz0_8 bv_5 (iv_w b_13 (by decide)) bpz0_12 bpz0_13 bpz0_14 bpz0_18 bpz0_22 bpz0_29 g_6) mt_X10_takesOne q_6_155 ⟨Nat.le_of_ble_eq_true rfl, Nat.le_of_ble_eq_true rfl⟩ hK hP hD hS hA hE [0, 1] rfl rfl 0 rfl rfl rfl rfl hl.1 rfl (Nat.le_of_ble_eq_true rfl) dX10_named_16 ⟨Nat.le_of_ble_eq_true rfl, Nat.le_of_ble_eq_true rfl⟩) hP hD hS hA [0, 1] [] rfl rfl rfl (by decide) (fun r_14 w H locs hw hP hD hS => ?_)
    obtain ⟨v_15, v_16, v_17, v_18, v_19, v_20, bv_15, bv_16, bv_18, bv_19, bv_20, br_14, g_21, g_22, g_23, g_24, rfl⟩ := hw
    have hP : va_P V.1 vwCl [(z 0, .inr (10, mo z pz0_0 pz0_5 v_15 v_16 pz0_8 v_17 v_18 v_19 v_20 pz0_13 pz0_14 pz0_18 pz0_19 pz0_22 pz0_23 pz0_29)), (z 3, aI V 900 fz3)] H := hP
    have hD : va_D A [(z 0, .inr (10, mo z pz0_0 pz0_5 v_15 v_16 pz0_8 v_17 v_18 v_19 v_20 pz0_13 pz0_14 pz0_18 pz0_19 pz0_22 pz0_23 pz0_29)), (z 3, aI V 900 fz3)] := hD
    exact fiI hx hb hr hlk hK hP hD hS dX10_named_19 (Nat.le_of_ble_eq_true rfl) (Nat.le_of_ble_eq_true rfl) (⟨v_15, v_16, v_17, v_18, v_19, v_20, bv_15, bv_16, bv_18, bv_19, bv_20, br_14, g_21, (by have z_0 := g_7; have z_1 := g_22;have y_0 := hf0.1; have y_1 := g_6.1; have y_2 := g_21.1; omega), (fun q9 => ((g_23) q9)), g_24, rfl⟩)
  · have b_25 : iv 0 0 r_1 := iv_q c_10 (iv_c (0 : Int32) (a := 0) (b := 0) (by decide))
    refine lv_aload_n hx hb dX10_named_8 rfl (lv_at hl 0 rfl) ?_
    refine lv_iconst (v := 2) hx hb dX10_named_9 (by decide) ?_
    refine jnV (wr := [(z 3, aI V 900 fz3)]) (rnV (rest := []) ⟨hx, hb, hml, hown, hg⟩ (k_X10_fails_0 l V z 2 pz0_0 pz0_5 v_2 v_3 pz0_8 v_4 v_5 pz0_11 pz0_12 pz0_13 pz0_14 pz0_18 pz0_19 pz0_22 pz0_23 pz0_29 (iv_c (2 : Int32) (by decide)) bpz0_5 bv_2 bv_3 bpz0_8 bv_5 bpz0_11 bpz0_12 bpz0_13 bpz0_14 bpz0_18 bpz0_22 bpz0_29) mt_X10_fails q_6_147 ⟨Nat.le_of_ble_eq_true rfl, Nat.le_of_ble_eq_true rfl⟩ hK hP hD hS hA hE [0] rfl rfl 0 rfl rfl rfl rfl hl.1 rfl (Nat.le_of_ble_eq_true rfl) dX10_named_10 ⟨Nat.le_of_ble_eq_true rfl, Nat.le_of_ble_eq_true rfl⟩) hP hD hS hA [0] [1] rfl rfl rfl (by decide) (fun  w H locs hw hP hD hS => ?_)
    obtain ⟨v_26, v_27, bv_26, bv_27, rfl⟩ := hw
    have hP : va_P V.1 vwCl [(z 3, aI V 900 fz3), (z 0, .inr (10, mo z pz0_0 pz0_5 v_2 v_3 pz0_8 v_4 v_5 v_26 v_27 pz0_13 pz0_14 pz0_18 pz0_19 pz0_22 pz0_23 pz0_29))] H := hP
    have hD : va_D A [(z 3, aI V 900 fz3), (z 0, .inr (10, mo z pz0_0 pz0_5 v_2 v_3 pz0_8 v_4 v_5 v_26 v_27 pz0_13 pz0_14 pz0_18 pz0_19 pz0_22 pz0_23 pz0_29))] := hD
    refine lv_aload_n hx hb dX10_named_13 rfl (lv_at hl 0 rfl) ?_
    refine lv_iload_n hx hb dX10_named_14 rfl (lv_at hl 2 rfl) ?_
    refine lv_iload_n hx hb dX10_named_15 rfl (lv_at hl 3 rfl) ?_
    refine jnI (wr := []) (rnV (rest := []) ⟨hx, hb, hml, hown, hg⟩ (k_X10_takesOne_0 l V z a2 a3 pz0_0 pz0_5 v_2 v_3 pz0_8 v_4 v_5 v_26 v_27 pz0_13 pz0_14 pz0_18 pz0_19 pz0_22 pz0_23 pz0_29 fz3 bpz0_5 bv_2 bv_3 bpz0_8 bv_5 (iv_w bv_26 (by decide)) bv_27 bpz0_13 bpz0_14 bpz0_18 bpz0_22 bpz0_29 g_6) mt_X10_takesOne q_6_155 ⟨Nat.le_of_ble_eq_true rfl, Nat.le_of_ble_eq_true rfl⟩ hK hP hD hS hA hE [1, 0] rfl rfl 1 rfl rfl rfl rfl hl.1 rfl (Nat.le_of_ble_eq_true rfl) dX10_named_16 ⟨Nat.le_of_ble_eq_true rfl, Nat.le_of_ble_eq_true rfl⟩) hP hD hS hA [1, 0] [] rfl rfl rfl (by decide) (fun r_28 w H locs hw hP hD hS => ?_)
    obtain ⟨v_29, v_30, v_31, v_32, v_33, v_34, bv_29, bv_30, bv_32, bv_33, bv_34, br_28, g_35, g_36, g_37, g_38, rfl⟩ := hw
    have hP : va_P V.1 vwCl [(z 0, .inr (10, mo z pz0_0 pz0_5 v_29 v_30 pz0_8 v_31 v_32 v_33 v_34 pz0_13 pz0_14 pz0_18 pz0_19 pz0_22 pz0_23 pz0_29)), (z 3, aI V 900 fz3)] H := hP
    have hD : va_D A [(z 0, .inr (10, mo z pz0_0 pz0_5 v_29 v_30 pz0_8 v_31 v_32 v_33 v_34 pz0_13 pz0_14 pz0_18 pz0_19 pz0_22 pz0_23 pz0_29)), (z 3, aI V 900 fz3)] := hD
    exact fiI hx hb hr hlk hK hP hD hS dX10_named_19 (Nat.le_of_ble_eq_true rfl) (Nat.le_of_ble_eq_true rfl) (⟨v_29, v_30, v_31, v_32, v_33, v_34, bv_29, bv_30, bv_32, bv_33, bv_34, br_28, g_35, (by have z_0 := g_7; have z_1 := g_36;have y_0 := hf0.1; have y_1 := g_6.1; have y_2 := g_35.1; omega), (fun q9 => ((fun q8 => absurd q8 (iv_nz bv_26 (by decide))) ((g_37) q9))), g_38, rfl⟩)
set_option maxHeartbeats 4000000 in
set_option maxRecDepth 100000 in
theorem k_X10_is_30 (l : Launch) (V : GV) (z : Nat → Nat) (pz0_0 : Int32) (pz0_5 : Int32) (pz0_6 : Int32) (pz0_7 : Int32) (pz0_8 : Int32) (pz0_9 : Int32) (pz0_10 : Int32) (pz0_11 : Int32) (pz0_12 : Int32) (pz0_13 : Int32) (pz0_14 : Int32) (pz0_18 : Int32) (pz0_19 : Int32) (pz0_22 : Int32) (pz0_23 : Int32) (pz0_29 : Int32) (bpz0_5 : iv 0 900 pz0_5) (bpz0_6 : iv 0 900 pz0_6) (bpz0_7 : iv 0 900 pz0_7) (bpz0_8 : iv 0 900 pz0_8) (bpz0_10 : iv 0 999 pz0_10) (bpz0_11 : iv 0 4 pz0_11) (bpz0_12 : iv 0 900 pz0_12) (bpz0_13 : iv 0 4 pz0_13) (bpz0_14 : iv (-1) 900 pz0_14) (bpz0_18 : iv 0 2 pz0_18) (bpz0_22 : iv 0 9999 pz0_22) (bpz0_29 : iv 0 10000 pz0_29) : Ct l V yX10_is (.code yX10_is cX10_is 2 (some .boolean)) 1 [.ref (z 0), .int 4] [(z 0, .inr (10, mo z pz0_0 pz0_5 pz0_6 pz0_7 pz0_8 pz0_9 pz0_10 pz0_11 pz0_12 pz0_13 pz0_14 pz0_18 pz0_19 pz0_22 pz0_23 pz0_29))] 0 0 (QI V (fun (r : Int32) (w : va_W) => iv 0 1 r ∧ (r = 1 → pz0_11 = 0) ∧ (r = 1 → pz0_9 = (4 : Int32)) ∧ w = [(z 0, .inr (10, mo z pz0_0 pz0_5 pz0_6 pz0_7 pz0_8 pz0_9 pz0_10 pz0_11 pz0_12 pz0_13 pz0_14 pz0_18 pz0_19 pz0_22 pz0_23 pz0_29))])) := by
  refine Ct.of (by decide) (Nat.le_of_ble_eq_true rfl) (fun p e s m below meth c A ls hx hb hr hml hown hlk hnm hg hP hK hD hE hA hS hl => ?_)
  have hl : lv_has ls 2 [(0, .ref (z 0)), (1, .int 4)] := hl
  refine lv_aload_n hx hb dX10_is_0 rfl (lv_at hl 0 rfl) ?_
  refine va_get (ci := 10) (v := .int pz0_11) (C := RX10) (T := TX10) (N := 40) hx hb hg inX10 hown hK hP 0 rfl rfl 11 (by decide) (hg _ q_5_235) (fun _ h9 => h9) rfl dX10_is_1 ?_
  refine lv_if_ne (tgt := 19) hx hb dX10_is_4 (by decide) (fun c_1 => ?_) (fun c_1 => ?_)
  · have b_2 : iv 1 4 pz0_11 := iv_n0 c_1 bpz0_11 (iv_c (0 : Int32) (a := 0) (b := 0) (by decide)) (by decide)
    refine lv_iconst (v := 0) hx hb dX10_is_19 (by decide) ?_
    exact fiZ rfl hx hb hr hlk hK hP hD hS dX10_is_20 (Nat.le_of_ble_eq_true rfl) (Nat.le_of_ble_eq_true rfl) (⟨(iv_c (0 : Int32) (by decide)), (fun q9 => absurd q9 (by decide)), (fun q9 => absurd q9 (by decide)), rfl⟩)
  · have b_3 : iv 0 0 pz0_11 := iv_q c_1 (iv_c (0 : Int32) (a := 0) (b := 0) (by decide))
    refine lv_aload_n hx hb dX10_is_7 rfl (lv_at hl 0 rfl) ?_
    refine va_get (ci := 10) (v := .int pz0_9) (C := RX10) (T := TX10) (N := 40) hx hb hg inX10 hown hK hP 0 rfl rfl 9 (by decide) (hg _ q_5_233) (fun _ h9 => h9) rfl dX10_is_8 ?_
    refine lv_iload_n hx hb dX10_is_11 rfl (lv_at hl 1 rfl) ?_
    refine lv_icmp_ne (tgt := 19) hx hb dX10_is_12 (by decide) (fun c_4 => ?_) (fun c_4 => ?_)
    · refine lv_iconst (v := 0) hx hb dX10_is_19 (by decide) ?_
      exact fiZ rfl hx hb hr hlk hK hP hD hS dX10_is_20 (Nat.le_of_ble_eq_true rfl) (Nat.le_of_ble_eq_true rfl) (⟨(iv_c (0 : Int32) (by decide)), (fun q9 => absurd q9 (by decide)), (fun q9 => absurd q9 (by decide)), rfl⟩)
    · have b_5 : iv 4 4 pz0_9 := iv_q c_4 (iv_c (4 : Int32) (a := 4) (b := 4) (by decide))
      refine lv_iconst (v := 1) hx hb dX10_is_15 (by decide) ?_
      refine lv_goto (tgt := 20) hx hb dX10_is_16 (by decide) ?_
      exact fiZ rfl hx hb hr hlk hK hP hD hS dX10_is_20 (Nat.le_of_ble_eq_true rfl) (Nat.le_of_ble_eq_true rfl) (⟨(iv_c (1 : Int32) (by decide)), (fun _ => c_1), (fun _ => c_4), rfl⟩)
set_option maxHeartbeats 4000000 in
set_option maxRecDepth 100000 in
theorem k_X10_eats_15 (l : Launch) (V : GV) (z : Nat → Nat) (pz0_0 : Int32) (pz0_5 : Int32) (pz0_6 : Int32) (pz0_7 : Int32) (pz0_8 : Int32) (pz0_9 : Int32) (pz0_10 : Int32) (pz0_11 : Int32) (pz0_12 : Int32) (pz0_13 : Int32) (pz0_14 : Int32) (pz0_18 : Int32) (pz0_19 : Int32) (pz0_22 : Int32) (pz0_23 : Int32) (pz0_29 : Int32) (fz3 : Nat → Int32) (bpz0_5 : iv 0 900 pz0_5) (bpz0_6 : iv 0 900 pz0_6) (bpz0_7 : iv 0 900 pz0_7) (bpz0_8 : iv 0 900 pz0_8) (bpz0_10 : iv 0 999 pz0_10) (bpz0_11 : iv 0 4 pz0_11) (bpz0_12 : iv 0 900 pz0_12) (bpz0_13 : iv 0 4 pz0_13) (bpz0_14 : iv (-1) 900 pz0_14) (bpz0_18 : iv 0 2 pz0_18) (bpz0_22 : iv 0 9999 pz0_22) (bpz0_29 : iv 0 10000 pz0_29) (hf0 : PT pz0_6 pz0_7 pz0_8 pz0_9) : Ct l V yX10_eats (.code yX10_eats cX10_eats 2 (some .boolean)) 7 [.ref (z 0), .int 4] [(z 0, .inr (10, mo z pz0_0 pz0_5 pz0_6 pz0_7 pz0_8 pz0_9 pz0_10 pz0_11 pz0_12 pz0_13 pz0_14 pz0_18 pz0_19 pz0_22 pz0_23 pz0_29)), (z 3, aI V 900 fz3)] 0 0 (QI V (fun (r : Int32) (w : va_W) => ∃ (v0 : Int32) (v1 : Int32) (v2 : Int32) (v3 : Int32), iv 0 900 v0 ∧ iv 0 900 v1 ∧ iv 0 999 v3 ∧ iv 0 1 r ∧ (PT v0 v1 pz0_8 v2) ∧ ((pz0_6 : Int32).toInt ≤ (v0 : Int32).toInt) ∧ (r = 1 → pz0_11 = 0) ∧ (r = 1 → (pz0_6 : Int32).toInt + 1 ≤ (v0 : Int32).toInt) ∧ w = [(z 0, .inr (10, mo z pz0_0 pz0_5 v0 v1 pz0_8 v2 v3 pz0_11 pz0_12 pz0_13 pz0_14 pz0_18 pz0_19 pz0_22 pz0_23 pz0_29)), (z 3, aI V 900 fz3)])) := by
  refine Ct.of (by decide) (Nat.le_of_ble_eq_true rfl) (fun p e s m below meth c A ls hx hb hr hml hown hlk hnm hg hP hK hD hE hA hS hl => ?_)
  have hl : lv_has ls 2 [(0, .ref (z 0)), (1, .int 4)] := hl
  refine lv_aload_n hx hb dX10_eats_0 rfl (lv_at hl 0 rfl) ?_
  refine lv_iload_n hx hb dX10_eats_1 rfl (lv_at hl 1 rfl) ?_
  refine jnI (wr := [(z 3, aI V 900 fz3)]) (rnV (rest := []) ⟨hx, hb, hml, hown, hg⟩ (k_X10_is_30 l V z pz0_0 pz0_5 pz0_6 pz0_7 pz0_8 pz0_9 pz0_10 pz0_11 pz0_12 pz0_13 pz0_14 pz0_18 pz0_19 pz0_22 pz0_23 pz0_29 bpz0_5 bpz0_6 bpz0_7 bpz0_8 bpz0_10 bpz0_11 bpz0_12 bpz0_13 bpz0_14 bpz0_18 bpz0_22 bpz0_29) mt_X10_is q_6_143 ⟨Nat.le_of_ble_eq_true rfl, Nat.le_of_ble_eq_true rfl⟩ hK hP hD hS hA hE [0] rfl rfl 0 rfl rfl rfl rfl hl.1 rfl (Nat.le_of_ble_eq_true rfl) dX10_eats_2 ⟨Nat.le_of_ble_eq_true rfl, Nat.le_of_ble_eq_true rfl⟩) hP hD hS hA [0] [1] rfl rfl rfl (by decide) (fun r_1 w H locs hw hP hD hS => ?_)
  obtain ⟨br_1, g_2, g_3, rfl⟩ := hw
  have hP : va_P V.1 vwCl [(z 3, aI V 900 fz3), (z 0, .inr (10, mo z pz0_0 pz0_5 pz0_6 pz0_7 pz0_8 pz0_9 pz0_10 pz0_11 pz0_12 pz0_13 pz0_14 pz0_18 pz0_19 pz0_22 pz0_23 pz0_29))] H := hP
  have hD : va_D A [(z 3, aI V 900 fz3), (z 0, .inr (10, mo z pz0_0 pz0_5 pz0_6 pz0_7 pz0_8 pz0_9 pz0_10 pz0_11 pz0_12 pz0_13 pz0_14 pz0_18 pz0_19 pz0_22 pz0_23 pz0_29))] := hD
  refine lv_if_ne (tgt := 10) hx hb dX10_eats_5 (by decide) (fun c_4 => ?_) (fun c_4 => ?_)
  · have b_5 : iv 1 1 r_1 := iv_n0 c_4 br_1 (iv_c (0 : Int32) (a := 0) (b := 0) (by decide)) (by decide)
    have c_6 : pz0_11 = 0 := (g_2 (iv_eqp b_5 (iv_c (1 : Int32) (by decide))))
    have b_7 : iv 0 0 pz0_11 := iv_q c_6 (iv_c (0 : Int32) (a := 0) (b := 0) (by decide))
    have c_8 : pz0_9 = 4 := (g_3 (iv_eqp b_5 (iv_c (1 : Int32) (by decide))))
    have b_9 : iv 4 4 pz0_9 := iv_q c_8 (iv_c (4 : Int32) (a := 4) (b := 4) (by decide))
    refine lv_aload_n hx hb dX10_eats_10 rfl (lv_at hl 0 rfl) ?_
    refine jnV (wr := []) (rnV (rest := []) ⟨hx, hb, hml, hown, hg⟩ (k_X10_next_0 l V z pz0_0 pz0_5 pz0_6 pz0_7 pz0_8 pz0_9 pz0_10 pz0_11 pz0_12 pz0_13 pz0_14 pz0_18 pz0_19 pz0_22 pz0_23 pz0_29 fz3 bpz0_5 bpz0_6 bpz0_7 bpz0_8 bpz0_10 (iv_w b_7 (by decide)) bpz0_12 bpz0_13 bpz0_14 bpz0_18 bpz0_22 bpz0_29 hf0.2.1) mt_X10_next q_6_117 ⟨Nat.le_of_ble_eq_true rfl, Nat.le_of_ble_eq_true rfl⟩ hK hP hD hS hA hE [1, 0] rfl rfl 1 rfl rfl rfl rfl hl.1 rfl (Nat.le_of_ble_eq_true rfl) dX10_eats_11 ⟨Nat.le_of_ble_eq_true rfl, Nat.le_of_ble_eq_true rfl⟩) hP hD hS hA [1, 0] [] rfl rfl rfl (by decide) (fun  w H locs hw hP hD hS => ?_)
    obtain ⟨v_10, v_11, v_12, v_13, bv_10, bv_11, bv_13, g_14, g_15, rfl⟩ := hw
    have hP : va_P V.1 vwCl [(z 0, .inr (10, mo z pz0_0 pz0_5 v_10 v_11 pz0_8 v_12 v_13 pz0_11 pz0_12 pz0_13 pz0_14 pz0_18 pz0_19 pz0_22 pz0_23 pz0_29)), (z 3, aI V 900 fz3)] H := hP
    have hD : va_D A [(z 0, .inr (10, mo z pz0_0 pz0_5 v_10 v_11 pz0_8 v_12 v_13 pz0_11 pz0_12 pz0_13 pz0_14 pz0_18 pz0_19 pz0_22 pz0_23 pz0_29)), (z 3, aI V 900 fz3)] := hD
    refine lv_iconst (v := 1) hx hb dX10_eats_14 (by decide) ?_
    exact fiZ rfl hx hb hr hlk hK hP hD hS dX10_eats_15 (Nat.le_of_ble_eq_true rfl) (Nat.le_of_ble_eq_true rfl) (⟨v_10, v_11, v_12, v_13, bv_10, bv_11, bv_13, (iv_c (1 : Int32) (by decide)), g_14, (by have q9 := g_15; have q8 := hf0.1; omega), (fun _ => iv_eqp b_7 (iv_c (0 : Int32) (by decide))), (fun _ => by have q9 := g_15; have q8 := hf0.2.2 (by rw [c_8]; decide); omega), rfl⟩)
  · have b_16 : iv 0 0 r_1 := iv_q c_4 (iv_c (0 : Int32) (a := 0) (b := 0) (by decide))
    refine lv_iconst (v := 0) hx hb dX10_eats_8 (by decide) ?_
    have hP := subP (ws' := [(z 0, .inr (10, mo z pz0_0 pz0_5 pz0_6 pz0_7 pz0_8 pz0_9 pz0_10 pz0_11 pz0_12 pz0_13 pz0_14 pz0_18 pz0_19 pz0_22 pz0_23 pz0_29)), (z 3, aI V 900 fz3)]) hP [1, 0] rfl
    have hD := hD.sub (ws' := [(z 0, .inr (10, mo z pz0_0 pz0_5 pz0_6 pz0_7 pz0_8 pz0_9 pz0_10 pz0_11 pz0_12 pz0_13 pz0_14 pz0_18 pz0_19 pz0_22 pz0_23 pz0_29)), (z 3, aI V 900 fz3)]) [1, 0] rfl rfl
    exact fiZ rfl hx hb hr hlk hK hP hD hS dX10_eats_9 (Nat.le_of_ble_eq_true rfl) (Nat.le_of_ble_eq_true rfl) (⟨pz0_6, pz0_7, pz0_9, pz0_10, bpz0_6, bpz0_7, bpz0_10, (iv_c (0 : Int32) (by decide)), hf0, (Int.le_refl _), (fun q9 => absurd q9 (by decide)), (fun q9 => absurd q9 (by decide)), rfl⟩)
set_option maxHeartbeats 4000000 in
set_option maxRecDepth 100000 in
theorem k_X10_named_4 (l : Launch) (V : GV) (z : Nat → Nat) (a2 : Int32) (a3 : Int32) (pz0_0 : Int32) (pz0_5 : Int32) (pz0_6 : Int32) (pz0_7 : Int32) (pz0_8 : Int32) (pz0_9 : Int32) (pz0_10 : Int32) (pz0_11 : Int32) (pz0_12 : Int32) (pz0_13 : Int32) (pz0_14 : Int32) (pz0_18 : Int32) (pz0_19 : Int32) (pz0_22 : Int32) (pz0_23 : Int32) (pz0_29 : Int32) (fz3 : Nat → Int32) (bpz0_5 : iv 0 900 pz0_5) (bpz0_6 : iv 0 900 pz0_6) (bpz0_7 : iv 0 900 pz0_7) (bpz0_8 : iv 0 900 pz0_8) (bpz0_10 : iv 0 999 pz0_10) (bpz0_11 : iv 0 4 pz0_11) (bpz0_12 : iv 0 900 pz0_12) (bpz0_13 : iv 0 4 pz0_13) (bpz0_14 : iv (-1) 900 pz0_14) (bpz0_18 : iv 0 2 pz0_18) (bpz0_22 : iv 0 9999 pz0_22) (bpz0_29 : iv 0 10000 pz0_29) (hf0 : PT pz0_6 pz0_7 pz0_8 pz0_9) : Ct l V yX10_named (.code yX10_named cX10_named 4 (some .int)) 8 [.ref (z 0), .int 4, .int a2, .int a3] [(z 0, .inr (10, mo z pz0_0 pz0_5 pz0_6 pz0_7 pz0_8 pz0_9 pz0_10 pz0_11 pz0_12 pz0_13 pz0_14 pz0_18 pz0_19 pz0_22 pz0_23 pz0_29)), (z 3, aI V 900 fz3)] 0 0 (QI V (fun (r : Int32) (w : va_W) => ∃ (v0 : Int32) (v1 : Int32) (v2 : Int32) (v3 : Int32) (v4 : Int32) (v5 : Int32), iv 0 900 v0 ∧ iv 0 900 v1 ∧ iv 0 999 v3 ∧ iv 0 4 v4 ∧ iv 0 900 v5 ∧ iv 0 999 r ∧ (PT v0 v1 pz0_8 v2) ∧ ((pz0_6 : Int32).toInt ≤ (v0 : Int32).toInt) ∧ (v4 = 0 → pz0_11 = 0) ∧ (v4 = 0 → (a2 : Int32).toInt ≤ (r : Int32).toInt ∧ (r : Int32).toInt ≤ (a3 : Int32).toInt) ∧ w = [(z 0, .inr (10, mo z pz0_0 pz0_5 v0 v1 pz0_8 v2 v3 v4 v5 pz0_13 pz0_14 pz0_18 pz0_19 pz0_22 pz0_23 pz0_29)), (z 3, aI V 900 fz3)])) := by
  refine Ct.of (by decide) (Nat.le_of_ble_eq_true rfl) (fun p e s m below meth c A ls hx hb hr hml hown hlk hnm hg hP hK hD hE hA hS hl => ?_)
  have hl : lv_has ls 4 [(0, .ref (z 0)), (1, .int 4), (2, .int a2), (3, .int a3)] := hl
  refine lv_aload_n hx hb dX10_named_0 rfl (lv_at hl 0 rfl) ?_
  refine lv_iload_n hx hb dX10_named_1 rfl (lv_at hl 1 rfl) ?_
  refine jnI (wr := []) (rnV (rest := []) ⟨hx, hb, hml, hown, hg⟩ (k_X10_eats_15 l V z pz0_0 pz0_5 pz0_6 pz0_7 pz0_8 pz0_9 pz0_10 pz0_11 pz0_12 pz0_13 pz0_14 pz0_18 pz0_19 pz0_22 pz0_23 pz0_29 fz3 bpz0_5 bpz0_6 bpz0_7 bpz0_8 bpz0_10 bpz0_11 bpz0_12 bpz0_13 bpz0_14 bpz0_18 bpz0_22 bpz0_29 hf0) mt_X10_eats q_6_139 ⟨Nat.le_of_ble_eq_true rfl, Nat.le_of_ble_eq_true rfl⟩ hK hP hD hS hA hE [0, 1] rfl rfl 0 rfl rfl rfl rfl hl.1 rfl (Nat.le_of_ble_eq_true rfl) dX10_named_2 ⟨Nat.le_of_ble_eq_true rfl, Nat.le_of_ble_eq_true rfl⟩) hP hD hS hA [0, 1] [] rfl rfl rfl (by decide) (fun r_1 w H locs hw hP hD hS => ?_)
  obtain ⟨v_2, v_3, v_4, v_5, bv_2, bv_3, bv_5, br_1, g_6, g_7, g_8, g_9, rfl⟩ := hw
  have hP : va_P V.1 vwCl [(z 0, .inr (10, mo z pz0_0 pz0_5 v_2 v_3 pz0_8 v_4 v_5 pz0_11 pz0_12 pz0_13 pz0_14 pz0_18 pz0_19 pz0_22 pz0_23 pz0_29)), (z 3, aI V 900 fz3)] H := hP
  have hD : va_D A [(z 0, .inr (10, mo z pz0_0 pz0_5 v_2 v_3 pz0_8 v_4 v_5 pz0_11 pz0_12 pz0_13 pz0_14 pz0_18 pz0_19 pz0_22 pz0_23 pz0_29)), (z 3, aI V 900 fz3)] := hD
  refine lv_if_ne (tgt := 13) hx hb dX10_named_5 (by decide) (fun c_10 => ?_) (fun c_10 => ?_)
  · have b_11 : iv 1 1 r_1 := iv_n0 c_10 br_1 (iv_c (0 : Int32) (a := 0) (b := 0) (by decide)) (by decide)
    have c_12 : pz0_11 = 0 := (g_8 (iv_eqp b_11 (iv_c (1 : Int32) (by decide))))
    have b_13 : iv 0 0 pz0_11 := iv_q c_12 (iv_c (0 : Int32) (a := 0) (b := 0) (by decide))
    refine lv_aload_n hx hb dX10_named_13 rfl (lv_at hl 0 rfl) ?_
    refine lv_iload_n hx hb dX10_named_14 rfl (lv_at hl 2 rfl) ?_
    refine lv_iload_n hx hb dX10_named_15 rfl (lv_at hl 3 rfl) ?_
    refine jnI (wr := []) (rnV (rest := []) ⟨hx, hb, hml, hown, hg⟩ (k_X10_takesOne_0 l V z a2 a3 pz0_0 pz0_5 v_2 v_3 pz0_8 v_4 v_5 pz0_11 pz0_12 pz0_13 pz0_14 pz0_18 pz0_19 pz0_22 pz0_23 pz0_29 fz3 bpz0_5 bv_2 bv_3 bpz0_8 bv_5 (iv_w b_13 (by decide)) bpz0_12 bpz0_13 bpz0_14 bpz0_18 bpz0_22 bpz0_29 g_6) mt_X10_takesOne q_6_155 ⟨Nat.le_of_ble_eq_true rfl, Nat.le_of_ble_eq_true rfl⟩ hK hP hD hS hA hE [0, 1] rfl rfl 0 rfl rfl rfl rfl hl.1 rfl (Nat.le_of_ble_eq_true rfl) dX10_named_16 ⟨Nat.le_of_ble_eq_true rfl, Nat.le_of_ble_eq_true rfl⟩) hP hD hS hA [0, 1] [] rfl rfl rfl (by decide) (fun r_14 w H locs hw hP hD hS => ?_)
    obtain ⟨v_15, v_16, v_17, v_18, v_19, v_20, bv_15, bv_16, bv_18, bv_19, bv_20, br_14, g_21, g_22, g_23, g_24, rfl⟩ := hw
    have hP : va_P V.1 vwCl [(z 0, .inr (10, mo z pz0_0 pz0_5 v_15 v_16 pz0_8 v_17 v_18 v_19 v_20 pz0_13 pz0_14 pz0_18 pz0_19 pz0_22 pz0_23 pz0_29)), (z 3, aI V 900 fz3)] H := hP
    have hD : va_D A [(z 0, .inr (10, mo z pz0_0 pz0_5 v_15 v_16 pz0_8 v_17 v_18 v_19 v_20 pz0_13 pz0_14 pz0_18 pz0_19 pz0_22 pz0_23 pz0_29)), (z 3, aI V 900 fz3)] := hD
    exact fiI hx hb hr hlk hK hP hD hS dX10_named_19 (Nat.le_of_ble_eq_true rfl) (Nat.le_of_ble_eq_true rfl) (⟨v_15, v_16, v_17, v_18, v_19, v_20, bv_15, bv_16, bv_18, bv_19, bv_20, br_14, g_21, (by have z_0 := g_7; have z_1 := g_22;have y_0 := hf0.1; have y_1 := g_6.1; have y_2 := g_21.1; omega), (fun q9 => ((g_23) q9)), g_24, rfl⟩)
  · have b_25 : iv 0 0 r_1 := iv_q c_10 (iv_c (0 : Int32) (a := 0) (b := 0) (by decide))
    refine lv_aload_n hx hb dX10_named_8 rfl (lv_at hl 0 rfl) ?_
    refine lv_iconst (v := 2) hx hb dX10_named_9 (by decide) ?_
    refine jnV (wr := [(z 3, aI V 900 fz3)]) (rnV (rest := []) ⟨hx, hb, hml, hown, hg⟩ (k_X10_fails_0 l V z 2 pz0_0 pz0_5 v_2 v_3 pz0_8 v_4 v_5 pz0_11 pz0_12 pz0_13 pz0_14 pz0_18 pz0_19 pz0_22 pz0_23 pz0_29 (iv_c (2 : Int32) (by decide)) bpz0_5 bv_2 bv_3 bpz0_8 bv_5 bpz0_11 bpz0_12 bpz0_13 bpz0_14 bpz0_18 bpz0_22 bpz0_29) mt_X10_fails q_6_147 ⟨Nat.le_of_ble_eq_true rfl, Nat.le_of_ble_eq_true rfl⟩ hK hP hD hS hA hE [0] rfl rfl 0 rfl rfl rfl rfl hl.1 rfl (Nat.le_of_ble_eq_true rfl) dX10_named_10 ⟨Nat.le_of_ble_eq_true rfl, Nat.le_of_ble_eq_true rfl⟩) hP hD hS hA [0] [1] rfl rfl rfl (by decide) (fun  w H locs hw hP hD hS => ?_)
    obtain ⟨v_26, v_27, bv_26, bv_27, rfl⟩ := hw
    have hP : va_P V.1 vwCl [(z 3, aI V 900 fz3), (z 0, .inr (10, mo z pz0_0 pz0_5 v_2 v_3 pz0_8 v_4 v_5 v_26 v_27 pz0_13 pz0_14 pz0_18 pz0_19 pz0_22 pz0_23 pz0_29))] H := hP
    have hD : va_D A [(z 3, aI V 900 fz3), (z 0, .inr (10, mo z pz0_0 pz0_5 v_2 v_3 pz0_8 v_4 v_5 v_26 v_27 pz0_13 pz0_14 pz0_18 pz0_19 pz0_22 pz0_23 pz0_29))] := hD
    refine lv_aload_n hx hb dX10_named_13 rfl (lv_at hl 0 rfl) ?_
    refine lv_iload_n hx hb dX10_named_14 rfl (lv_at hl 2 rfl) ?_
    refine lv_iload_n hx hb dX10_named_15 rfl (lv_at hl 3 rfl) ?_
    refine jnI (wr := []) (rnV (rest := []) ⟨hx, hb, hml, hown, hg⟩ (k_X10_takesOne_0 l V z a2 a3 pz0_0 pz0_5 v_2 v_3 pz0_8 v_4 v_5 v_26 v_27 pz0_13 pz0_14 pz0_18 pz0_19 pz0_22 pz0_23 pz0_29 fz3 bpz0_5 bv_2 bv_3 bpz0_8 bv_5 (iv_w bv_26 (by decide)) bv_27 bpz0_13 bpz0_14 bpz0_18 bpz0_22 bpz0_29 g_6) mt_X10_takesOne q_6_155 ⟨Nat.le_of_ble_eq_true rfl, Nat.le_of_ble_eq_true rfl⟩ hK hP hD hS hA hE [1, 0] rfl rfl 1 rfl rfl rfl rfl hl.1 rfl (Nat.le_of_ble_eq_true rfl) dX10_named_16 ⟨Nat.le_of_ble_eq_true rfl, Nat.le_of_ble_eq_true rfl⟩) hP hD hS hA [1, 0] [] rfl rfl rfl (by decide) (fun r_28 w H locs hw hP hD hS => ?_)
    obtain ⟨v_29, v_30, v_31, v_32, v_33, v_34, bv_29, bv_30, bv_32, bv_33, bv_34, br_28, g_35, g_36, g_37, g_38, rfl⟩ := hw
    have hP : va_P V.1 vwCl [(z 0, .inr (10, mo z pz0_0 pz0_5 v_29 v_30 pz0_8 v_31 v_32 v_33 v_34 pz0_13 pz0_14 pz0_18 pz0_19 pz0_22 pz0_23 pz0_29)), (z 3, aI V 900 fz3)] H := hP
    have hD : va_D A [(z 0, .inr (10, mo z pz0_0 pz0_5 v_29 v_30 pz0_8 v_31 v_32 v_33 v_34 pz0_13 pz0_14 pz0_18 pz0_19 pz0_22 pz0_23 pz0_29)), (z 3, aI V 900 fz3)] := hD
    exact fiI hx hb hr hlk hK hP hD hS dX10_named_19 (Nat.le_of_ble_eq_true rfl) (Nat.le_of_ble_eq_true rfl) (⟨v_29, v_30, v_31, v_32, v_33, v_34, bv_29, bv_30, bv_32, bv_33, bv_34, br_28, g_35, (by have z_0 := g_7; have z_1 := g_36;have y_0 := hf0.1; have y_1 := g_6.1; have y_2 := g_35.1; omega), (fun q9 => ((fun q8 => absurd q8 (iv_nz bv_26 (by decide))) ((g_37) q9))), g_38, rfl⟩)
set_option maxHeartbeats 4000000 in
set_option maxRecDepth 100000 in
theorem k_X10_is_31 (l : Launch) (V : GV) (z : Nat → Nat) (pz0_0 : Int32) (pz0_5 : Int32) (pz0_6 : Int32) (pz0_7 : Int32) (pz0_8 : Int32) (pz0_9 : Int32) (pz0_10 : Int32) (pz0_11 : Int32) (pz0_12 : Int32) (pz0_13 : Int32) (pz0_14 : Int32) (pz0_18 : Int32) (pz0_19 : Int32) (pz0_22 : Int32) (pz0_23 : Int32) (pz0_29 : Int32) (bpz0_5 : iv 0 900 pz0_5) (bpz0_6 : iv 0 900 pz0_6) (bpz0_7 : iv 0 900 pz0_7) (bpz0_8 : iv 0 900 pz0_8) (bpz0_10 : iv 0 999 pz0_10) (bpz0_11 : iv 0 4 pz0_11) (bpz0_12 : iv 0 900 pz0_12) (bpz0_13 : iv 0 4 pz0_13) (bpz0_14 : iv (-1) 900 pz0_14) (bpz0_18 : iv 0 2 pz0_18) (bpz0_22 : iv 0 9999 pz0_22) (bpz0_29 : iv 0 10000 pz0_29) : Ct l V yX10_is (.code yX10_is cX10_is 2 (some .boolean)) 1 [.ref (z 0), .int 5] [(z 0, .inr (10, mo z pz0_0 pz0_5 pz0_6 pz0_7 pz0_8 pz0_9 pz0_10 pz0_11 pz0_12 pz0_13 pz0_14 pz0_18 pz0_19 pz0_22 pz0_23 pz0_29))] 0 0 (QI V (fun (r : Int32) (w : va_W) => iv 0 1 r ∧ (r = 1 → pz0_11 = 0) ∧ (r = 1 → pz0_9 = (5 : Int32)) ∧ w = [(z 0, .inr (10, mo z pz0_0 pz0_5 pz0_6 pz0_7 pz0_8 pz0_9 pz0_10 pz0_11 pz0_12 pz0_13 pz0_14 pz0_18 pz0_19 pz0_22 pz0_23 pz0_29))])) := by
  refine Ct.of (by decide) (Nat.le_of_ble_eq_true rfl) (fun p e s m below meth c A ls hx hb hr hml hown hlk hnm hg hP hK hD hE hA hS hl => ?_)
  have hl : lv_has ls 2 [(0, .ref (z 0)), (1, .int 5)] := hl
  refine lv_aload_n hx hb dX10_is_0 rfl (lv_at hl 0 rfl) ?_
  refine va_get (ci := 10) (v := .int pz0_11) (C := RX10) (T := TX10) (N := 40) hx hb hg inX10 hown hK hP 0 rfl rfl 11 (by decide) (hg _ q_5_235) (fun _ h9 => h9) rfl dX10_is_1 ?_
  refine lv_if_ne (tgt := 19) hx hb dX10_is_4 (by decide) (fun c_1 => ?_) (fun c_1 => ?_)
  · have b_2 : iv 1 4 pz0_11 := iv_n0 c_1 bpz0_11 (iv_c (0 : Int32) (a := 0) (b := 0) (by decide)) (by decide)
    refine lv_iconst (v := 0) hx hb dX10_is_19 (by decide) ?_
    exact fiZ rfl hx hb hr hlk hK hP hD hS dX10_is_20 (Nat.le_of_ble_eq_true rfl) (Nat.le_of_ble_eq_true rfl) (⟨(iv_c (0 : Int32) (by decide)), (fun q9 => absurd q9 (by decide)), (fun q9 => absurd q9 (by decide)), rfl⟩)
  · have b_3 : iv 0 0 pz0_11 := iv_q c_1 (iv_c (0 : Int32) (a := 0) (b := 0) (by decide))
    refine lv_aload_n hx hb dX10_is_7 rfl (lv_at hl 0 rfl) ?_
    refine va_get (ci := 10) (v := .int pz0_9) (C := RX10) (T := TX10) (N := 40) hx hb hg inX10 hown hK hP 0 rfl rfl 9 (by decide) (hg _ q_5_233) (fun _ h9 => h9) rfl dX10_is_8 ?_
    refine lv_iload_n hx hb dX10_is_11 rfl (lv_at hl 1 rfl) ?_
    refine lv_icmp_ne (tgt := 19) hx hb dX10_is_12 (by decide) (fun c_4 => ?_) (fun c_4 => ?_)
    · refine lv_iconst (v := 0) hx hb dX10_is_19 (by decide) ?_
      exact fiZ rfl hx hb hr hlk hK hP hD hS dX10_is_20 (Nat.le_of_ble_eq_true rfl) (Nat.le_of_ble_eq_true rfl) (⟨(iv_c (0 : Int32) (by decide)), (fun q9 => absurd q9 (by decide)), (fun q9 => absurd q9 (by decide)), rfl⟩)
    · have b_5 : iv 5 5 pz0_9 := iv_q c_4 (iv_c (5 : Int32) (a := 5) (b := 5) (by decide))
      refine lv_iconst (v := 1) hx hb dX10_is_15 (by decide) ?_
      refine lv_goto (tgt := 20) hx hb dX10_is_16 (by decide) ?_
      exact fiZ rfl hx hb hr hlk hK hP hD hS dX10_is_20 (Nat.le_of_ble_eq_true rfl) (Nat.le_of_ble_eq_true rfl) (⟨(iv_c (1 : Int32) (by decide)), (fun _ => c_1), (fun _ => c_4), rfl⟩)
set_option maxHeartbeats 4000000 in
set_option maxRecDepth 100000 in
theorem k_X10_eats_16 (l : Launch) (V : GV) (z : Nat → Nat) (pz0_0 : Int32) (pz0_5 : Int32) (pz0_6 : Int32) (pz0_7 : Int32) (pz0_8 : Int32) (pz0_9 : Int32) (pz0_10 : Int32) (pz0_11 : Int32) (pz0_12 : Int32) (pz0_13 : Int32) (pz0_14 : Int32) (pz0_18 : Int32) (pz0_19 : Int32) (pz0_22 : Int32) (pz0_23 : Int32) (pz0_29 : Int32) (fz3 : Nat → Int32) (bpz0_5 : iv 0 900 pz0_5) (bpz0_6 : iv 0 900 pz0_6) (bpz0_7 : iv 0 900 pz0_7) (bpz0_8 : iv 0 900 pz0_8) (bpz0_10 : iv 0 999 pz0_10) (bpz0_11 : iv 0 4 pz0_11) (bpz0_12 : iv 0 900 pz0_12) (bpz0_13 : iv 0 4 pz0_13) (bpz0_14 : iv (-1) 900 pz0_14) (bpz0_18 : iv 0 2 pz0_18) (bpz0_22 : iv 0 9999 pz0_22) (bpz0_29 : iv 0 10000 pz0_29) (hf0 : PT pz0_6 pz0_7 pz0_8 pz0_9) : Ct l V yX10_eats (.code yX10_eats cX10_eats 2 (some .boolean)) 7 [.ref (z 0), .int 5] [(z 0, .inr (10, mo z pz0_0 pz0_5 pz0_6 pz0_7 pz0_8 pz0_9 pz0_10 pz0_11 pz0_12 pz0_13 pz0_14 pz0_18 pz0_19 pz0_22 pz0_23 pz0_29)), (z 3, aI V 900 fz3)] 0 0 (QI V (fun (r : Int32) (w : va_W) => ∃ (v0 : Int32) (v1 : Int32) (v2 : Int32) (v3 : Int32), iv 0 900 v0 ∧ iv 0 900 v1 ∧ iv 0 999 v3 ∧ iv 0 1 r ∧ (PT v0 v1 pz0_8 v2) ∧ ((pz0_6 : Int32).toInt ≤ (v0 : Int32).toInt) ∧ (r = 1 → pz0_11 = 0) ∧ (r = 1 → (pz0_6 : Int32).toInt + 1 ≤ (v0 : Int32).toInt) ∧ w = [(z 0, .inr (10, mo z pz0_0 pz0_5 v0 v1 pz0_8 v2 v3 pz0_11 pz0_12 pz0_13 pz0_14 pz0_18 pz0_19 pz0_22 pz0_23 pz0_29)), (z 3, aI V 900 fz3)])) := by
  refine Ct.of (by decide) (Nat.le_of_ble_eq_true rfl) (fun p e s m below meth c A ls hx hb hr hml hown hlk hnm hg hP hK hD hE hA hS hl => ?_)
  have hl : lv_has ls 2 [(0, .ref (z 0)), (1, .int 5)] := hl
  refine lv_aload_n hx hb dX10_eats_0 rfl (lv_at hl 0 rfl) ?_
  refine lv_iload_n hx hb dX10_eats_1 rfl (lv_at hl 1 rfl) ?_
  refine jnI (wr := [(z 3, aI V 900 fz3)]) (rnV (rest := []) ⟨hx, hb, hml, hown, hg⟩ (k_X10_is_31 l V z pz0_0 pz0_5 pz0_6 pz0_7 pz0_8 pz0_9 pz0_10 pz0_11 pz0_12 pz0_13 pz0_14 pz0_18 pz0_19 pz0_22 pz0_23 pz0_29 bpz0_5 bpz0_6 bpz0_7 bpz0_8 bpz0_10 bpz0_11 bpz0_12 bpz0_13 bpz0_14 bpz0_18 bpz0_22 bpz0_29) mt_X10_is q_6_143 ⟨Nat.le_of_ble_eq_true rfl, Nat.le_of_ble_eq_true rfl⟩ hK hP hD hS hA hE [0] rfl rfl 0 rfl rfl rfl rfl hl.1 rfl (Nat.le_of_ble_eq_true rfl) dX10_eats_2 ⟨Nat.le_of_ble_eq_true rfl, Nat.le_of_ble_eq_true rfl⟩) hP hD hS hA [0] [1] rfl rfl rfl (by decide) (fun r_1 w H locs hw hP hD hS => ?_)
  obtain ⟨br_1, g_2, g_3, rfl⟩ := hw
  have hP : va_P V.1 vwCl [(z 3, aI V 900 fz3), (z 0, .inr (10, mo z pz0_0 pz0_5 pz0_6 pz0_7 pz0_8 pz0_9 pz0_10 pz0_11 pz0_12 pz0_13 pz0_14 pz0_18 pz0_19 pz0_22 pz0_23 pz0_29))] H := hP
  have hD : va_D A [(z 3, aI V 900 fz3), (z 0, .inr (10, mo z pz0_0 pz0_5 pz0_6 pz0_7 pz0_8 pz0_9 pz0_10 pz0_11 pz0_12 pz0_13 pz0_14 pz0_18 pz0_19 pz0_22 pz0_23 pz0_29))] := hD
  refine lv_if_ne (tgt := 10) hx hb dX10_eats_5 (by decide) (fun c_4 => ?_) (fun c_4 => ?_)
  · have b_5 : iv 1 1 r_1 := iv_n0 c_4 br_1 (iv_c (0 : Int32) (a := 0) (b := 0) (by decide)) (by decide)
    have c_6 : pz0_11 = 0 := (g_2 (iv_eqp b_5 (iv_c (1 : Int32) (by decide))))
    have b_7 : iv 0 0 pz0_11 := iv_q c_6 (iv_c (0 : Int32) (a := 0) (b := 0) (by decide))
    have c_8 : pz0_9 = 5 := (g_3 (iv_eqp b_5 (iv_c (1 : Int32) (by decide))))
    have b_9 : iv 5 5 pz0_9 := iv_q c_8 (iv_c (5 : Int32) (a := 5) (b := 5) (by decide))
    refine lv_aload_n hx hb dX10_eats_10 rfl (lv_at hl 0 rfl) ?_
    refine jnV (wr := []) (rnV (rest := []) ⟨hx, hb, hml, hown, hg⟩ (k_X10_next_0 l V z pz0_0 pz0_5 pz0_6 pz0_7 pz0_8 pz0_9 pz0_10 pz0_11 pz0_12 pz0_13 pz0_14 pz0_18 pz0_19 pz0_22 pz0_23 pz0_29 fz3 bpz0_5 bpz0_6 bpz0_7 bpz0_8 bpz0_10 (iv_w b_7 (by decide)) bpz0_12 bpz0_13 bpz0_14 bpz0_18 bpz0_22 bpz0_29 hf0.2.1) mt_X10_next q_6_117 ⟨Nat.le_of_ble_eq_true rfl, Nat.le_of_ble_eq_true rfl⟩ hK hP hD hS hA hE [1, 0] rfl rfl 1 rfl rfl rfl rfl hl.1 rfl (Nat.le_of_ble_eq_true rfl) dX10_eats_11 ⟨Nat.le_of_ble_eq_true rfl, Nat.le_of_ble_eq_true rfl⟩) hP hD hS hA [1, 0] [] rfl rfl rfl (by decide) (fun  w H locs hw hP hD hS => ?_)
    obtain ⟨v_10, v_11, v_12, v_13, bv_10, bv_11, bv_13, g_14, g_15, rfl⟩ := hw
    have hP : va_P V.1 vwCl [(z 0, .inr (10, mo z pz0_0 pz0_5 v_10 v_11 pz0_8 v_12 v_13 pz0_11 pz0_12 pz0_13 pz0_14 pz0_18 pz0_19 pz0_22 pz0_23 pz0_29)), (z 3, aI V 900 fz3)] H := hP
    have hD : va_D A [(z 0, .inr (10, mo z pz0_0 pz0_5 v_10 v_11 pz0_8 v_12 v_13 pz0_11 pz0_12 pz0_13 pz0_14 pz0_18 pz0_19 pz0_22 pz0_23 pz0_29)), (z 3, aI V 900 fz3)] := hD
    refine lv_iconst (v := 1) hx hb dX10_eats_14 (by decide) ?_
    exact fiZ rfl hx hb hr hlk hK hP hD hS dX10_eats_15 (Nat.le_of_ble_eq_true rfl) (Nat.le_of_ble_eq_true rfl) (⟨v_10, v_11, v_12, v_13, bv_10, bv_11, bv_13, (iv_c (1 : Int32) (by decide)), g_14, (by have q9 := g_15; have q8 := hf0.1; omega), (fun _ => iv_eqp b_7 (iv_c (0 : Int32) (by decide))), (fun _ => by have q9 := g_15; have q8 := hf0.2.2 (by rw [c_8]; decide); omega), rfl⟩)
  · have b_16 : iv 0 0 r_1 := iv_q c_4 (iv_c (0 : Int32) (a := 0) (b := 0) (by decide))
    refine lv_iconst (v := 0) hx hb dX10_eats_8 (by decide) ?_
    have hP := subP (ws' := [(z 0, .inr (10, mo z pz0_0 pz0_5 pz0_6 pz0_7 pz0_8 pz0_9 pz0_10 pz0_11 pz0_12 pz0_13 pz0_14 pz0_18 pz0_19 pz0_22 pz0_23 pz0_29)), (z 3, aI V 900 fz3)]) hP [1, 0] rfl
    have hD := hD.sub (ws' := [(z 0, .inr (10, mo z pz0_0 pz0_5 pz0_6 pz0_7 pz0_8 pz0_9 pz0_10 pz0_11 pz0_12 pz0_13 pz0_14 pz0_18 pz0_19 pz0_22 pz0_23 pz0_29)), (z 3, aI V 900 fz3)]) [1, 0] rfl rfl
    exact fiZ rfl hx hb hr hlk hK hP hD hS dX10_eats_9 (Nat.le_of_ble_eq_true rfl) (Nat.le_of_ble_eq_true rfl) (⟨pz0_6, pz0_7, pz0_9, pz0_10, bpz0_6, bpz0_7, bpz0_10, (iv_c (0 : Int32) (by decide)), hf0, (Int.le_refl _), (fun q9 => absurd q9 (by decide)), (fun q9 => absurd q9 (by decide)), rfl⟩)
set_option maxHeartbeats 4000000 in
set_option maxRecDepth 100000 in
theorem k_X10_is_32 (l : Launch) (V : GV) (z : Nat → Nat) (pz0_0 : Int32) (pz0_5 : Int32) (pz0_6 : Int32) (pz0_7 : Int32) (pz0_8 : Int32) (pz0_9 : Int32) (pz0_10 : Int32) (pz0_11 : Int32) (pz0_12 : Int32) (pz0_13 : Int32) (pz0_14 : Int32) (pz0_18 : Int32) (pz0_19 : Int32) (pz0_22 : Int32) (pz0_23 : Int32) (pz0_29 : Int32) (bpz0_5 : iv 0 900 pz0_5) (bpz0_6 : iv 0 900 pz0_6) (bpz0_7 : iv 0 900 pz0_7) (bpz0_8 : iv 0 900 pz0_8) (bpz0_10 : iv 0 999 pz0_10) (bpz0_11 : iv 0 4 pz0_11) (bpz0_12 : iv 0 900 pz0_12) (bpz0_13 : iv 0 4 pz0_13) (bpz0_14 : iv (-1) 900 pz0_14) (bpz0_18 : iv 0 2 pz0_18) (bpz0_22 : iv 0 9999 pz0_22) (bpz0_29 : iv 0 10000 pz0_29) : Ct l V yX10_is (.code yX10_is cX10_is 2 (some .boolean)) 1 [.ref (z 0), .int 6] [(z 0, .inr (10, mo z pz0_0 pz0_5 pz0_6 pz0_7 pz0_8 pz0_9 pz0_10 pz0_11 pz0_12 pz0_13 pz0_14 pz0_18 pz0_19 pz0_22 pz0_23 pz0_29))] 0 0 (QI V (fun (r : Int32) (w : va_W) => iv 0 1 r ∧ (r = 1 → pz0_11 = 0) ∧ (r = 1 → pz0_9 = (6 : Int32)) ∧ w = [(z 0, .inr (10, mo z pz0_0 pz0_5 pz0_6 pz0_7 pz0_8 pz0_9 pz0_10 pz0_11 pz0_12 pz0_13 pz0_14 pz0_18 pz0_19 pz0_22 pz0_23 pz0_29))])) := by
  refine Ct.of (by decide) (Nat.le_of_ble_eq_true rfl) (fun p e s m below meth c A ls hx hb hr hml hown hlk hnm hg hP hK hD hE hA hS hl => ?_)
  have hl : lv_has ls 2 [(0, .ref (z 0)), (1, .int 6)] := hl
  refine lv_aload_n hx hb dX10_is_0 rfl (lv_at hl 0 rfl) ?_
  refine va_get (ci := 10) (v := .int pz0_11) (C := RX10) (T := TX10) (N := 40) hx hb hg inX10 hown hK hP 0 rfl rfl 11 (by decide) (hg _ q_5_235) (fun _ h9 => h9) rfl dX10_is_1 ?_
  refine lv_if_ne (tgt := 19) hx hb dX10_is_4 (by decide) (fun c_1 => ?_) (fun c_1 => ?_)
  · have b_2 : iv 1 4 pz0_11 := iv_n0 c_1 bpz0_11 (iv_c (0 : Int32) (a := 0) (b := 0) (by decide)) (by decide)
    refine lv_iconst (v := 0) hx hb dX10_is_19 (by decide) ?_
    exact fiZ rfl hx hb hr hlk hK hP hD hS dX10_is_20 (Nat.le_of_ble_eq_true rfl) (Nat.le_of_ble_eq_true rfl) (⟨(iv_c (0 : Int32) (by decide)), (fun q9 => absurd q9 (by decide)), (fun q9 => absurd q9 (by decide)), rfl⟩)
  · have b_3 : iv 0 0 pz0_11 := iv_q c_1 (iv_c (0 : Int32) (a := 0) (b := 0) (by decide))
    refine lv_aload_n hx hb dX10_is_7 rfl (lv_at hl 0 rfl) ?_
    refine va_get (ci := 10) (v := .int pz0_9) (C := RX10) (T := TX10) (N := 40) hx hb hg inX10 hown hK hP 0 rfl rfl 9 (by decide) (hg _ q_5_233) (fun _ h9 => h9) rfl dX10_is_8 ?_
    refine lv_iload_n hx hb dX10_is_11 rfl (lv_at hl 1 rfl) ?_
    refine lv_icmp_ne (tgt := 19) hx hb dX10_is_12 (by decide) (fun c_4 => ?_) (fun c_4 => ?_)
    · refine lv_iconst (v := 0) hx hb dX10_is_19 (by decide) ?_
      exact fiZ rfl hx hb hr hlk hK hP hD hS dX10_is_20 (Nat.le_of_ble_eq_true rfl) (Nat.le_of_ble_eq_true rfl) (⟨(iv_c (0 : Int32) (by decide)), (fun q9 => absurd q9 (by decide)), (fun q9 => absurd q9 (by decide)), rfl⟩)
    · have b_5 : iv 6 6 pz0_9 := iv_q c_4 (iv_c (6 : Int32) (a := 6) (b := 6) (by decide))
      refine lv_iconst (v := 1) hx hb dX10_is_15 (by decide) ?_
      refine lv_goto (tgt := 20) hx hb dX10_is_16 (by decide) ?_
      exact fiZ rfl hx hb hr hlk hK hP hD hS dX10_is_20 (Nat.le_of_ble_eq_true rfl) (Nat.le_of_ble_eq_true rfl) (⟨(iv_c (1 : Int32) (by decide)), (fun _ => c_1), (fun _ => c_4), rfl⟩)
set_option maxHeartbeats 4000000 in
set_option maxRecDepth 100000 in
theorem k_X10_eats_17 (l : Launch) (V : GV) (z : Nat → Nat) (pz0_0 : Int32) (pz0_5 : Int32) (pz0_6 : Int32) (pz0_7 : Int32) (pz0_8 : Int32) (pz0_9 : Int32) (pz0_10 : Int32) (pz0_11 : Int32) (pz0_12 : Int32) (pz0_13 : Int32) (pz0_14 : Int32) (pz0_18 : Int32) (pz0_19 : Int32) (pz0_22 : Int32) (pz0_23 : Int32) (pz0_29 : Int32) (fz3 : Nat → Int32) (bpz0_5 : iv 0 900 pz0_5) (bpz0_6 : iv 0 900 pz0_6) (bpz0_7 : iv 0 900 pz0_7) (bpz0_8 : iv 0 900 pz0_8) (bpz0_10 : iv 0 999 pz0_10) (bpz0_11 : iv 0 4 pz0_11) (bpz0_12 : iv 0 900 pz0_12) (bpz0_13 : iv 0 4 pz0_13) (bpz0_14 : iv (-1) 900 pz0_14) (bpz0_18 : iv 0 2 pz0_18) (bpz0_22 : iv 0 9999 pz0_22) (bpz0_29 : iv 0 10000 pz0_29) (hf0 : PT pz0_6 pz0_7 pz0_8 pz0_9) : Ct l V yX10_eats (.code yX10_eats cX10_eats 2 (some .boolean)) 7 [.ref (z 0), .int 6] [(z 0, .inr (10, mo z pz0_0 pz0_5 pz0_6 pz0_7 pz0_8 pz0_9 pz0_10 pz0_11 pz0_12 pz0_13 pz0_14 pz0_18 pz0_19 pz0_22 pz0_23 pz0_29)), (z 3, aI V 900 fz3)] 0 0 (QI V (fun (r : Int32) (w : va_W) => ∃ (v0 : Int32) (v1 : Int32) (v2 : Int32) (v3 : Int32), iv 0 900 v0 ∧ iv 0 900 v1 ∧ iv 0 999 v3 ∧ iv 0 1 r ∧ (PT v0 v1 pz0_8 v2) ∧ ((pz0_6 : Int32).toInt ≤ (v0 : Int32).toInt) ∧ (r = 1 → pz0_11 = 0) ∧ (r = 1 → (pz0_6 : Int32).toInt + 1 ≤ (v0 : Int32).toInt) ∧ w = [(z 0, .inr (10, mo z pz0_0 pz0_5 v0 v1 pz0_8 v2 v3 pz0_11 pz0_12 pz0_13 pz0_14 pz0_18 pz0_19 pz0_22 pz0_23 pz0_29)), (z 3, aI V 900 fz3)])) := by
  refine Ct.of (by decide) (Nat.le_of_ble_eq_true rfl) (fun p e s m below meth c A ls hx hb hr hml hown hlk hnm hg hP hK hD hE hA hS hl => ?_)
  have hl : lv_has ls 2 [(0, .ref (z 0)), (1, .int 6)] := hl
  refine lv_aload_n hx hb dX10_eats_0 rfl (lv_at hl 0 rfl) ?_
  refine lv_iload_n hx hb dX10_eats_1 rfl (lv_at hl 1 rfl) ?_
  refine jnI (wr := [(z 3, aI V 900 fz3)]) (rnV (rest := []) ⟨hx, hb, hml, hown, hg⟩ (k_X10_is_32 l V z pz0_0 pz0_5 pz0_6 pz0_7 pz0_8 pz0_9 pz0_10 pz0_11 pz0_12 pz0_13 pz0_14 pz0_18 pz0_19 pz0_22 pz0_23 pz0_29 bpz0_5 bpz0_6 bpz0_7 bpz0_8 bpz0_10 bpz0_11 bpz0_12 bpz0_13 bpz0_14 bpz0_18 bpz0_22 bpz0_29) mt_X10_is q_6_143 ⟨Nat.le_of_ble_eq_true rfl, Nat.le_of_ble_eq_true rfl⟩ hK hP hD hS hA hE [0] rfl rfl 0 rfl rfl rfl rfl hl.1 rfl (Nat.le_of_ble_eq_true rfl) dX10_eats_2 ⟨Nat.le_of_ble_eq_true rfl, Nat.le_of_ble_eq_true rfl⟩) hP hD hS hA [0] [1] rfl rfl rfl (by decide) (fun r_1 w H locs hw hP hD hS => ?_)
  obtain ⟨br_1, g_2, g_3, rfl⟩ := hw
  have hP : va_P V.1 vwCl [(z 3, aI V 900 fz3), (z 0, .inr (10, mo z pz0_0 pz0_5 pz0_6 pz0_7 pz0_8 pz0_9 pz0_10 pz0_11 pz0_12 pz0_13 pz0_14 pz0_18 pz0_19 pz0_22 pz0_23 pz0_29))] H := hP
  have hD : va_D A [(z 3, aI V 900 fz3), (z 0, .inr (10, mo z pz0_0 pz0_5 pz0_6 pz0_7 pz0_8 pz0_9 pz0_10 pz0_11 pz0_12 pz0_13 pz0_14 pz0_18 pz0_19 pz0_22 pz0_23 pz0_29))] := hD
  refine lv_if_ne (tgt := 10) hx hb dX10_eats_5 (by decide) (fun c_4 => ?_) (fun c_4 => ?_)
  · have b_5 : iv 1 1 r_1 := iv_n0 c_4 br_1 (iv_c (0 : Int32) (a := 0) (b := 0) (by decide)) (by decide)
    have c_6 : pz0_11 = 0 := (g_2 (iv_eqp b_5 (iv_c (1 : Int32) (by decide))))
    have b_7 : iv 0 0 pz0_11 := iv_q c_6 (iv_c (0 : Int32) (a := 0) (b := 0) (by decide))
    have c_8 : pz0_9 = 6 := (g_3 (iv_eqp b_5 (iv_c (1 : Int32) (by decide))))
    have b_9 : iv 6 6 pz0_9 := iv_q c_8 (iv_c (6 : Int32) (a := 6) (b := 6) (by decide))
    refine lv_aload_n hx hb dX10_eats_10 rfl (lv_at hl 0 rfl) ?_
    refine jnV (wr := []) (rnV (rest := []) ⟨hx, hb, hml, hown, hg⟩ (k_X10_next_0 l V z pz0_0 pz0_5 pz0_6 pz0_7 pz0_8 pz0_9 pz0_10 pz0_11 pz0_12 pz0_13 pz0_14 pz0_18 pz0_19 pz0_22 pz0_23 pz0_29 fz3 bpz0_5 bpz0_6 bpz0_7 bpz0_8 bpz0_10 (iv_w b_7 (by decide)) bpz0_12 bpz0_13 bpz0_14 bpz0_18 bpz0_22 bpz0_29 hf0.2.1) mt_X10_next q_6_117 ⟨Nat.le_of_ble_eq_true rfl, Nat.le_of_ble_eq_true rfl⟩ hK hP hD hS hA hE [1, 0] rfl rfl 1 rfl rfl rfl rfl hl.1 rfl (Nat.le_of_ble_eq_true rfl) dX10_eats_11 ⟨Nat.le_of_ble_eq_true rfl, Nat.le_of_ble_eq_true rfl⟩) hP hD hS hA [1, 0] [] rfl rfl rfl (by decide) (fun  w H locs hw hP hD hS => ?_)
    obtain ⟨v_10, v_11, v_12, v_13, bv_10, bv_11, bv_13, g_14, g_15, rfl⟩ := hw
    have hP : va_P V.1 vwCl [(z 0, .inr (10, mo z pz0_0 pz0_5 v_10 v_11 pz0_8 v_12 v_13 pz0_11 pz0_12 pz0_13 pz0_14 pz0_18 pz0_19 pz0_22 pz0_23 pz0_29)), (z 3, aI V 900 fz3)] H := hP
    have hD : va_D A [(z 0, .inr (10, mo z pz0_0 pz0_5 v_10 v_11 pz0_8 v_12 v_13 pz0_11 pz0_12 pz0_13 pz0_14 pz0_18 pz0_19 pz0_22 pz0_23 pz0_29)), (z 3, aI V 900 fz3)] := hD
    refine lv_iconst (v := 1) hx hb dX10_eats_14 (by decide) ?_
    exact fiZ rfl hx hb hr hlk hK hP hD hS dX10_eats_15 (Nat.le_of_ble_eq_true rfl) (Nat.le_of_ble_eq_true rfl) (⟨v_10, v_11, v_12, v_13, bv_10, bv_11, bv_13, (iv_c (1 : Int32) (by decide)), g_14, (by have q9 := g_15; have q8 := hf0.1; omega), (fun _ => iv_eqp b_7 (iv_c (0 : Int32) (by decide))), (fun _ => by have q9 := g_15; have q8 := hf0.2.2 (by rw [c_8]; decide); omega), rfl⟩)
  · have b_16 : iv 0 0 r_1 := iv_q c_4 (iv_c (0 : Int32) (a := 0) (b := 0) (by decide))
    refine lv_iconst (v := 0) hx hb dX10_eats_8 (by decide) ?_
    have hP := subP (ws' := [(z 0, .inr (10, mo z pz0_0 pz0_5 pz0_6 pz0_7 pz0_8 pz0_9 pz0_10 pz0_11 pz0_12 pz0_13 pz0_14 pz0_18 pz0_19 pz0_22 pz0_23 pz0_29)), (z 3, aI V 900 fz3)]) hP [1, 0] rfl
    have hD := hD.sub (ws' := [(z 0, .inr (10, mo z pz0_0 pz0_5 pz0_6 pz0_7 pz0_8 pz0_9 pz0_10 pz0_11 pz0_12 pz0_13 pz0_14 pz0_18 pz0_19 pz0_22 pz0_23 pz0_29)), (z 3, aI V 900 fz3)]) [1, 0] rfl rfl
    exact fiZ rfl hx hb hr hlk hK hP hD hS dX10_eats_9 (Nat.le_of_ble_eq_true rfl) (Nat.le_of_ble_eq_true rfl) (⟨pz0_6, pz0_7, pz0_9, pz0_10, bpz0_6, bpz0_7, bpz0_10, (iv_c (0 : Int32) (by decide)), hf0, (Int.le_refl _), (fun q9 => absurd q9 (by decide)), (fun q9 => absurd q9 (by decide)), rfl⟩)
