theorem dX10_perform_0 : decode cX10_perform 0 = .ok (.aload_n 0, 1) := by decide +kernel
theorem dX10_perform_1 : decode cX10_perform 1 = .ok (.iconst 0, 1) := by decide +kernel
theorem dX10_perform_2 : decode cX10_perform 2 = .ok (.putfield 1, 3) := by decide +kernel
theorem dX10_perform_5 : decode cX10_perform 5 = .ok (.aload_n 0, 1) := by decide +kernel
theorem dX10_perform_6 : decode cX10_perform 6 = .ok (.iload_n 1, 1) := by decide +kernel
theorem dX10_perform_7 : decode cX10_perform 7 = .ok (.invokevirtual 317, 3) := by decide +kernel
theorem dX10_perform_10 : decode cX10_perform 10 = .ok (.istore_n 2, 1) := by decide +kernel
theorem dX10_perform_11 : decode cX10_perform 11 = .ok (.iload_n 2, 1) := by decide +kernel
theorem dX10_perform_12 : decode cX10_perform 12 = .ok (.ifCond .eq 5, 3) := by decide +kernel
theorem dX10_perform_17 : decode cX10_perform 17 = .ok (.aload_n 0, 1) := by decide +kernel
theorem dX10_perform_18 : decode cX10_perform 18 = .ok (.invokevirtual 278, 3) := by decide +kernel
theorem dX10_perform_21 : decode cX10_perform 21 = .ok (.aload_n 0, 1) := by decide +kernel
theorem dX10_perform_22 : decode cX10_perform 22 = .ok (.iload_n 1, 1) := by decide +kernel
theorem dX10_perform_23 : decode cX10_perform 23 = .ok (.invokevirtual 320, 3) := by decide +kernel
theorem dX10_perform_26 : decode cX10_perform 26 = .ok (.istore_n 3, 1) := by decide +kernel
theorem dX10_perform_27 : decode cX10_perform 27 = .ok (.iload_n 3, 1) := by decide +kernel
theorem dX10_perform_28 : decode cX10_perform 28 = .ok (.ifCond .le 7, 3) := by decide +kernel
theorem dX10_perform_35 : decode cX10_perform 35 = .ok (.iload_n 3, 1) := by decide +kernel
theorem dX10_perform_36 : decode cX10_perform 36 = .ok (.ireturn, 1) := by decide +kernel
theorem dX10_perform_31 : decode cX10_perform 31 = .ok (.aload_n 0, 1) := by decide +kernel
theorem dX10_perform_32 : decode cX10_perform 32 = .ok (.invokevirtual 284, 3) := by decide +kernel
theorem dX10_perform_15 : decode cX10_perform 15 = .ok (.iload_n 2, 1) := by decide +kernel
theorem dX10_perform_16 : decode cX10_perform 16 = .ok (.ireturn, 1) := by decide +kernel
set_option maxHeartbeats 4000000 in
set_option maxRecDepth 100000 in
theorem k_X10_perform_0 (l : Launch) (V : GV) (z : Nat → Nat) (a1 : Int32) (pz0_0 : Int32) (pz0_5 : Int32) (pz0_6 : Int32) (pz0_7 : Int32) (pz0_8 : Int32) (pz0_9 : Int32) (pz0_10 : Int32) (pz0_11 : Int32) (pz0_12 : Int32) (pz0_13 : Int32) (pz0_14 : Int32) (pz0_18 : Int32) (pz0_19 : Int32) (pz0_22 : Int32) (pz0_23 : Int32) (pz0_29 : Int32) (fz1 : Nat → Int32) (fz15 : Nat → Int32) (fz16 : Nat → Int32) (fz17 : Nat → Int32) (fz37 : Nat → Int32) (fz38 : Nat → Int32) (fz39 : Nat → Int64) (bpz0_5 : iv 0 900 pz0_5) (bpz0_6 : iv 0 900 pz0_6) (bpz0_7 : iv 0 900 pz0_7) (bpz0_8 : iv 0 900 pz0_8) (bpz0_10 : iv 0 999 pz0_10) (bpz0_11 : iv 0 4 pz0_11) (bpz0_12 : iv 0 900 pz0_12) (bpz0_13 : iv 0 4 pz0_13) (bpz0_14 : iv (-1) 900 pz0_14) (bpz0_18 : iv 0 2 pz0_18) (bpz0_22 : iv 0 9999 pz0_22) (bpz0_29 : iv 0 10000 pz0_29) (tfz1 : ivT tA fz1) (tfz16 : ivT tW fz16) (tfz17 : ivT tS fz17) (tfz37 : ∀ j, iv (-1) 3 (fz37 j)) (tfz38 : ∀ j, iv 0 40 (fz38 j)) (hf0 : RW fz1) : Ct l V yX10_perform (.code yX10_perform cX10_perform 4 (some .int)) 8 [.ref (z 0), .int a1] [(z 0, .inr (10, mo z pz0_0 pz0_5 pz0_6 pz0_7 pz0_8 pz0_9 pz0_10 pz0_11 pz0_12 pz0_13 pz0_14 pz0_18 pz0_19 pz0_22 pz0_23 pz0_29)), (z 1, aI V 3075 fz1), (z 15, aI V 900 fz15), (z 16, aI V 6 fz16), (z 17, aI V 7 fz17), (z 37, aI V 4 fz37), (z 38, aI V 4 fz38), (z 39, aJ V 160 fz39)] 0 0 (QI V (fun (r : Int32) (w : va_W) => ∃ (v0 : Int32) (v1 : Int32) (g2 : Nat → Int32) (g3 : Nat → Int32) (g4 : Nat → Int32) (g5 : Nat → Int32), iv 0 2 v1 ∧ (ivT tA g2) ∧ (ivT tW g4) ∧ (ivT tS g5) ∧ iv (-6) 40 r ∧ (RW g2) ∧ w = [(z 0, .inr (10, mo z v0 pz0_5 pz0_6 pz0_7 pz0_8 pz0_9 pz0_10 pz0_11 pz0_12 pz0_13 pz0_14 v1 pz0_19 pz0_22 pz0_23 pz0_29)), (z 1, aI V 3075 g2), (z 15, aI V 900 g3), (z 16, aI V 6 g4), (z 17, aI V 7 g5), (z 37, aI V 4 fz37), (z 38, aI V 4 fz38), (z 39, aJ V 160 fz39)])) := by
  refine Ct.of (by decide) (Nat.le_of_ble_eq_true rfl) (fun p e s m below meth c A ls hx hb hr hml hown hlk hnm hg hP hK hD hE hA hS hl => ?_)
  have hl : lv_has ls 4 [(0, .ref (z 0)), (1, .int a1)] := hl
  refine lv_aload_n hx hb dX10_perform_0 rfl (lv_at hl 0 rfl) ?_
  refine lv_iconst (v := 0) hx hb dX10_perform_1 (by decide) ?_
  refine va_put (ci := 10) (v := .int 0) (ty := .int) (C := RX10) (T := TX10) (N := 40) hx hb hg inX10 tyX10 tyX10_ok nmX10 hown hK hP hD hS 0 rfl rfl 0 (by decide) (hg _ q_5_224) (fun _ h9 => h9) rfl (by decide +kernel) rfl rfl (Nat.le_of_ble_eq_true rfl) dX10_perform_2 (fun H locs hP hD hS => ?_)
  have hP : va_P V.1 vwCl [(z 0, .inr (10, mo z 0 pz0_5 pz0_6 pz0_7 pz0_8 pz0_9 pz0_10 pz0_11 pz0_12 pz0_13 pz0_14 pz0_18 pz0_19 pz0_22 pz0_23 pz0_29)), (z 1, aI V 3075 fz1), (z 15, aI V 900 fz15), (z 16, aI V 6 fz16), (z 17, aI V 7 fz17), (z 37, aI V 4 fz37), (z 38, aI V 4 fz38), (z 39, aJ V 160 fz39)] H := hP
  have hD : va_D A [(z 0, .inr (10, mo z 0 pz0_5 pz0_6 pz0_7 pz0_8 pz0_9 pz0_10 pz0_11 pz0_12 pz0_13 pz0_14 pz0_18 pz0_19 pz0_22 pz0_23 pz0_29)), (z 1, aI V 3075 fz1), (z 15, aI V 900 fz15), (z 16, aI V 6 fz16), (z 17, aI V 7 fz17), (z 37, aI V 4 fz37), (z 38, aI V 4 fz38), (z 39, aJ V 160 fz39)] := hD
  refine lv_aload_n hx hb dX10_perform_5 rfl (lv_at hl 0 rfl) ?_
  refine lv_iload_n hx hb dX10_perform_6 rfl (lv_at hl 1 rfl) ?_
  refine jnI (wr := [(z 1, aI V 3075 fz1), (z 15, aI V 900 fz15), (z 16, aI V 6 fz16), (z 17, aI V 7 fz17), (z 38, aI V 4 fz38), (z 39, aJ V 160 fz39)]) (rnV (rest := []) ⟨hx, hb, hml, hown, hg⟩ (k_X10_noTray_0 l V z a1 0 pz0_5 pz0_6 pz0_7 pz0_8 pz0_9 pz0_10 pz0_11 pz0_12 pz0_13 pz0_14 pz0_18 pz0_19 pz0_22 pz0_23 pz0_29 fz37 bpz0_5 bpz0_6 bpz0_7 bpz0_8 bpz0_10 bpz0_11 bpz0_12 bpz0_13 bpz0_14 bpz0_18 bpz0_22 bpz0_29 tfz37) mt_X10_noTray q_7_108 ⟨Nat.le_of_ble_eq_true rfl, Nat.le_of_ble_eq_true rfl⟩ hK hP hD hS hA hE [0, 5] rfl rfl 0 rfl rfl rfl rfl hl.1 rfl (Nat.le_of_ble_eq_true rfl) dX10_perform_7 ⟨Nat.le_of_ble_eq_true rfl, Nat.le_of_ble_eq_true rfl⟩) hP hD hS hA [0, 5] [1, 2, 3, 4, 6, 7] rfl rfl rfl (by decide) (fun r_1 w H locs hw hP hD hS => ?_)
  obtain ⟨br_1, g_2, rfl⟩ := hw
  have hP : va_P V.1 vwCl [(z 1, aI V 3075 fz1), (z 15, aI V 900 fz15), (z 16, aI V 6 fz16), (z 17, aI V 7 fz17), (z 38, aI V 4 fz38), (z 39, aJ V 160 fz39), (z 0, .inr (10, mo z 0 pz0_5 pz0_6 pz0_7 pz0_8 pz0_9 pz0_10 pz0_11 pz0_12 pz0_13 pz0_14 pz0_18 pz0_19 pz0_22 pz0_23 pz0_29)), (z 37, aI V 4 fz37)] H := hP
  have hD : va_D A [(z 1, aI V 3075 fz1), (z 15, aI V 900 fz15), (z 16, aI V 6 fz16), (z 17, aI V 7 fz17), (z 38, aI V 4 fz38), (z 39, aJ V 160 fz39), (z 0, .inr (10, mo z 0 pz0_5 pz0_6 pz0_7 pz0_8 pz0_9 pz0_10 pz0_11 pz0_12 pz0_13 pz0_14 pz0_18 pz0_19 pz0_22 pz0_23 pz0_29)), (z 37, aI V 4 fz37)] := hD
  refine lv_istore_n (lv' := [(2, .int r_1), (0, .ref (z 0)), (1, .int a1)]) hx hb dX10_perform_10 rfl hl (by decide) rfl (fun ls hl => ?_)
  refine lv_iload_n hx hb dX10_perform_11 rfl (lv_at hl 0 rfl) ?_
  refine lv_if_eq (tgt := 17) hx hb dX10_perform_12 (by decide) (fun c_3 => ?_) (fun c_3 => ?_)
  · have b_4 : iv 0 0 r_1 := iv_q c_3 (iv_c (0 : Int32) (a := 0) (b := 0) (by decide))
    have b_5 : iv 0 3 a1 := iv_cap (g_2 (iv_eqp b_4 (iv_c (0 : Int32) (by decide)))) (iv_top a1) (by decide)
    refine lv_aload_n hx hb dX10_perform_17 rfl (lv_at hl 1 rfl) ?_
    refine jnV (wr := [(z 15, aI V 900 fz15), (z 16, aI V 6 fz16), (z 38, aI V 4 fz38), (z 39, aJ V 160 fz39), (z 37, aI V 4 fz37)]) (rnV (rest := []) ⟨hx, hb, hml, hown, hg⟩ (k_X10_stores_0 l V z fz17 0 pz0_5 pz0_6 pz0_7 pz0_8 pz0_9 pz0_10 pz0_11 pz0_12 pz0_13 pz0_14 pz0_18 pz0_19 pz0_22 pz0_23 pz0_29 fz1 tfz17 bpz0_5 bpz0_6 bpz0_7 bpz0_8 bpz0_10 bpz0_11 bpz0_12 bpz0_13 bpz0_14 bpz0_18 bpz0_22 bpz0_29 tfz1) mt_X10_stores q_7_60 ⟨Nat.le_of_ble_eq_true rfl, Nat.le_of_ble_eq_true rfl⟩ hK hP hD hS hA hE [3, 6, 0] rfl rfl 6 rfl rfl rfl rfl hl.1 rfl (Nat.le_of_ble_eq_true rfl) dX10_perform_18 ⟨Nat.le_of_ble_eq_true rfl, Nat.le_of_ble_eq_true rfl⟩) hP hD hS hA [3, 6, 0] [1, 2, 4, 5, 7] rfl rfl rfl (by decide) (fun  w H locs hw hP hD hS => ?_)
    obtain ⟨f_6, tf_6, rfl⟩ := hw
    have hP : va_P V.1 vwCl [(z 15, aI V 900 fz15), (z 16, aI V 6 fz16), (z 38, aI V 4 fz38), (z 39, aJ V 160 fz39), (z 37, aI V 4 fz37), (z 17, aI V 7 f_6), (z 0, .inr (10, mo z 0 pz0_5 pz0_6 pz0_7 pz0_8 pz0_9 pz0_10 pz0_11 pz0_12 pz0_13 pz0_14 pz0_18 pz0_19 pz0_22 pz0_23 pz0_29)), (z 1, aI V 3075 fz1)] H := hP
    have hD : va_D A [(z 15, aI V 900 fz15), (z 16, aI V 6 fz16), (z 38, aI V 4 fz38), (z 39, aJ V 160 fz39), (z 37, aI V 4 fz37), (z 17, aI V 7 f_6), (z 0, .inr (10, mo z 0 pz0_5 pz0_6 pz0_7 pz0_8 pz0_9 pz0_10 pz0_11 pz0_12 pz0_13 pz0_14 pz0_18 pz0_19 pz0_22 pz0_23 pz0_29)), (z 1, aI V 3075 fz1)] := hD
    refine lv_aload_n hx hb dX10_perform_21 rfl (lv_at hl 1 rfl) ?_
    refine lv_iload_n hx hb dX10_perform_22 rfl (lv_at hl 2 rfl) ?_
    refine jnI (wr := [(z 37, aI V 4 fz37), (z 17, aI V 7 f_6)]) (rnV (rest := []) ⟨hx, hb, hml, hown, hg⟩ (k_X10_tells_0 l V z a1 fz15 fz16 fz38 fz39 0 pz0_5 pz0_6 pz0_7 pz0_8 pz0_9 pz0_10 pz0_11 pz0_12 pz0_13 pz0_14 pz0_18 pz0_19 pz0_22 pz0_23 pz0_29 fz1 b_5 tfz16 tfz38 bpz0_5 bpz0_6 bpz0_7 bpz0_8 bpz0_10 bpz0_11 bpz0_12 bpz0_13 bpz0_14 bpz0_18 bpz0_22 bpz0_29 tfz1 hf0) mt_X10_tells q_7_112 ⟨Nat.le_of_ble_eq_true rfl, Nat.le_of_ble_eq_true rfl⟩ hK hP hD hS hA hE [0, 1, 2, 3, 6, 7] rfl rfl 6 rfl rfl rfl rfl hl.1 rfl (Nat.le_of_ble_eq_true rfl) dX10_perform_23 ⟨Nat.le_of_ble_eq_true rfl, Nat.le_of_ble_eq_true rfl⟩) hP hD hS hA [0, 1, 2, 3, 6, 7] [4, 5] rfl rfl rfl (by decide) (fun r_7 w H locs hw hP hD hS => ?_)
    obtain ⟨f_8, f_9, v_10, f_11, tf_9, bv_10, tf_11, br_7, g_12, rfl⟩ := hw
    have hP : va_P V.1 vwCl [(z 37, aI V 4 fz37), (z 17, aI V 7 f_6), (z 15, aI V 900 f_8), (z 16, aI V 6 f_9), (z 38, aI V 4 fz38), (z 39, aJ V 160 fz39), (z 0, .inr (10, mo z 0 pz0_5 pz0_6 pz0_7 pz0_8 pz0_9 pz0_10 pz0_11 pz0_12 pz0_13 pz0_14 v_10 pz0_19 pz0_22 pz0_23 pz0_29)), (z 1, aI V 3075 f_11)] H := hP
    have hD : va_D A [(z 37, aI V 4 fz37), (z 17, aI V 7 f_6), (z 15, aI V 900 f_8), (z 16, aI V 6 f_9), (z 38, aI V 4 fz38), (z 39, aJ V 160 fz39), (z 0, .inr (10, mo z 0 pz0_5 pz0_6 pz0_7 pz0_8 pz0_9 pz0_10 pz0_11 pz0_12 pz0_13 pz0_14 v_10 pz0_19 pz0_22 pz0_23 pz0_29)), (z 1, aI V 3075 f_11)] := hD
    refine lv_istore_n (lv' := [(3, .int r_7), (2, .int r_1), (0, .ref (z 0)), (1, .int a1)]) hx hb dX10_perform_26 rfl hl (by decide) rfl (fun ls hl => ?_)
    refine lv_iload_n hx hb dX10_perform_27 rfl (lv_at hl 0 rfl) ?_
    refine lv_if_le (tgt := 35) hx hb dX10_perform_28 (by decide) (fun c_13 => ?_) (fun c_13 => ?_)
    · have b_14 : iv 0 0 r_7 := iv_e1 c_13 br_7 (iv_c (0 : Int32) (a := 0) (b := 0) (by decide)) (by decide)
      refine lv_iload_n hx hb dX10_perform_35 rfl (lv_at hl 0 rfl) ?_
      have hP := subP (ws' := [(z 0, .inr (10, mo z 0 pz0_5 pz0_6 pz0_7 pz0_8 pz0_9 pz0_10 pz0_11 pz0_12 pz0_13 pz0_14 v_10 pz0_19 pz0_22 pz0_23 pz0_29)), (z 1, aI V 3075 f_11), (z 15, aI V 900 f_8), (z 16, aI V 6 f_9), (z 17, aI V 7 f_6), (z 37, aI V 4 fz37), (z 38, aI V 4 fz38), (z 39, aJ V 160 fz39)]) hP [6, 7, 2, 3, 1, 0, 4, 5] rfl
      have hD := hD.sub (ws' := [(z 0, .inr (10, mo z 0 pz0_5 pz0_6 pz0_7 pz0_8 pz0_9 pz0_10 pz0_11 pz0_12 pz0_13 pz0_14 v_10 pz0_19 pz0_22 pz0_23 pz0_29)), (z 1, aI V 3075 f_11), (z 15, aI V 900 f_8), (z 16, aI V 6 f_9), (z 17, aI V 7 f_6), (z 37, aI V 4 fz37), (z 38, aI V 4 fz38), (z 39, aJ V 160 fz39)]) [6, 7, 2, 3, 1, 0, 4, 5] rfl rfl
      exact fiI hx hb hr hlk hK hP hD hS dX10_perform_36 (Nat.le_of_ble_eq_true rfl) (Nat.le_of_ble_eq_true rfl) (⟨0, v_10, f_11, f_8, f_9, f_6, bv_10, tf_11, tf_9, tf_6, (iv_w b_14 (by decide)), g_12, rfl⟩)
    · have b_15 : iv 1 40 r_7 := iv_l2 (Int32.not_le.mp c_13) (iv_c (0 : Int32) (a := 0) (b := 0) (by decide)) br_7 (by decide)
      refine lv_aload_n hx hb dX10_perform_31 rfl (lv_at hl 2 rfl) ?_
      refine jnV (wr := [(z 37, aI V 4 fz37), (z 15, aI V 900 f_8), (z 16, aI V 6 f_9), (z 38, aI V 4 fz38), (z 39, aJ V 160 fz39)]) (rnV (rest := []) ⟨hx, hb, hml, hown, hg⟩ (k_X10_notes_0 l V z f_6 0 pz0_5 pz0_6 pz0_7 pz0_8 pz0_9 pz0_10 pz0_11 pz0_12 pz0_13 pz0_14 v_10 pz0_19 pz0_22 pz0_23 pz0_29 f_11 tf_6 bpz0_5 bpz0_6 bpz0_7 bpz0_8 bpz0_10 bpz0_11 bpz0_12 bpz0_13 bpz0_14 bv_10 bpz0_22 bpz0_29 tf_11 g_12) mt_X10_notes q_7_72 ⟨Nat.le_of_ble_eq_true rfl, Nat.le_of_ble_eq_true rfl⟩ hK hP hD hS hA hE [1, 6, 7] rfl rfl 6 rfl rfl rfl rfl hl.1 rfl (Nat.le_of_ble_eq_true rfl) dX10_perform_32 ⟨Nat.le_of_ble_eq_true rfl, Nat.le_of_ble_eq_true rfl⟩) hP hD hS hA [1, 6, 7] [0, 2, 3, 4, 5] rfl rfl rfl (by decide) (fun  w H locs hw hP hD hS => ?_)
      obtain ⟨f_16, tf_16, g_17, rfl⟩ := hw
      have hP : va_P V.1 vwCl [(z 37, aI V 4 fz37), (z 15, aI V 900 f_8), (z 16, aI V 6 f_9), (z 38, aI V 4 fz38), (z 39, aJ V 160 fz39), (z 17, aI V 7 f_6), (z 0, .inr (10, mo z 0 pz0_5 pz0_6 pz0_7 pz0_8 pz0_9 pz0_10 pz0_11 pz0_12 pz0_13 pz0_14 v_10 pz0_19 pz0_22 pz0_23 pz0_29)), (z 1, aI V 3075 f_16)] H := hP
      have hD : va_D A [(z 37, aI V 4 fz37), (z 15, aI V 900 f_8), (z 16, aI V 6 f_9), (z 38, aI V 4 fz38), (z 39, aJ V 160 fz39), (z 17, aI V 7 f_6), (z 0, .inr (10, mo z 0 pz0_5 pz0_6 pz0_7 pz0_8 pz0_9 pz0_10 pz0_11 pz0_12 pz0_13 pz0_14 v_10 pz0_19 pz0_22 pz0_23 pz0_29)), (z 1, aI V 3075 f_16)] := hD
      refine lv_iload_n hx hb dX10_perform_35 rfl (lv_at hl 0 rfl) ?_
      have hP := subP (ws' := [(z 0, .inr (10, mo z 0 pz0_5 pz0_6 pz0_7 pz0_8 pz0_9 pz0_10 pz0_11 pz0_12 pz0_13 pz0_14 v_10 pz0_19 pz0_22 pz0_23 pz0_29)), (z 1, aI V 3075 f_16), (z 15, aI V 900 f_8), (z 16, aI V 6 f_9), (z 17, aI V 7 f_6), (z 37, aI V 4 fz37), (z 38, aI V 4 fz38), (z 39, aJ V 160 fz39)]) hP [6, 7, 1, 2, 5, 0, 3, 4] rfl
      have hD := hD.sub (ws' := [(z 0, .inr (10, mo z 0 pz0_5 pz0_6 pz0_7 pz0_8 pz0_9 pz0_10 pz0_11 pz0_12 pz0_13 pz0_14 v_10 pz0_19 pz0_22 pz0_23 pz0_29)), (z 1, aI V 3075 f_16), (z 15, aI V 900 f_8), (z 16, aI V 6 f_9), (z 17, aI V 7 f_6), (z 37, aI V 4 fz37), (z 38, aI V 4 fz38), (z 39, aJ V 160 fz39)]) [6, 7, 1, 2, 5, 0, 3, 4] rfl rfl
      exact fiI hx hb hr hlk hK hP hD hS dX10_perform_36 (Nat.le_of_ble_eq_true rfl) (Nat.le_of_ble_eq_true rfl) (⟨0, v_10, f_16, f_8, f_9, f_6, bv_10, tf_16, tf_9, tf_6, (iv_w b_15 (by decide)), g_17, rfl⟩)
  · have b_18 : iv (-6) (-1) r_1 := iv_n1 c_3 br_1 (iv_c (0 : Int32) (a := 0) (b := 0) (by decide)) (by decide)
    refine lv_iload_n hx hb dX10_perform_15 rfl (lv_at hl 0 rfl) ?_
    have hP := subP (ws' := [(z 0, .inr (10, mo z 0 pz0_5 pz0_6 pz0_7 pz0_8 pz0_9 pz0_10 pz0_11 pz0_12 pz0_13 pz0_14 pz0_18 pz0_19 pz0_22 pz0_23 pz0_29)), (z 1, aI V 3075 fz1), (z 15, aI V 900 fz15), (z 16, aI V 6 fz16), (z 17, aI V 7 fz17), (z 37, aI V 4 fz37), (z 38, aI V 4 fz38), (z 39, aJ V 160 fz39)]) hP [6, 0, 1, 2, 3, 7, 4, 5] rfl
    have hD := hD.sub (ws' := [(z 0, .inr (10, mo z 0 pz0_5 pz0_6 pz0_7 pz0_8 pz0_9 pz0_10 pz0_11 pz0_12 pz0_13 pz0_14 pz0_18 pz0_19 pz0_22 pz0_23 pz0_29)), (z 1, aI V 3075 fz1), (z 15, aI V 900 fz15), (z 16, aI V 6 fz16), (z 17, aI V 7 fz17), (z 37, aI V 4 fz37), (z 38, aI V 4 fz38), (z 39, aJ V 160 fz39)]) [6, 0, 1, 2, 3, 7, 4, 5] rfl rfl
    exact fiI hx hb hr hlk hK hP hD hS dX10_perform_16 (Nat.le_of_ble_eq_true rfl) (Nat.le_of_ble_eq_true rfl) (⟨0, pz0_18, fz1, fz15, fz16, fz17, bpz0_18, tfz1, tfz16, tfz17, (iv_w b_18 (by decide)), hf0, rfl⟩)
theorem dX10_draw_0 : decode cX10_draw 0 = .ok (.aload_n 0, 1) := by decide +kernel
theorem q_7_152 : Cond.constant "BeaconDelayModel" 329 (1103515245 : Int32) ∈ gw := gw_7 (i := 152) (by decide +kernel) rfl
theorem dX10_draw_1 : decode cX10_draw 1 = .ok (.ldc_w 329, 3) := by decide +kernel
theorem dX10_draw_4 : decode cX10_draw 4 = .ok (.aload_n 0, 1) := by decide +kernel
theorem q_6_3 : Cond.fieldLink "BeaconDelayModel" 330 "BeaconDelayModel" "x" "I" ∈ gw := gw_6 (i := 3) (by decide +kernel) rfl
theorem dX10_draw_5 : decode cX10_draw 5 = .ok (.getfield 330, 3) := by decide +kernel
theorem dX10_draw_8 : decode cX10_draw 8 = .ok (.imul, 1) := by decide +kernel
theorem dX10_draw_9 : decode cX10_draw 9 = .ok (.sipush 12345, 3) := by decide +kernel
theorem dX10_draw_12 : decode cX10_draw 12 = .ok (.iadd, 1) := by decide +kernel
theorem dX10_draw_13 : decode cX10_draw 13 = .ok (.putfield 330, 3) := by decide +kernel
theorem dX10_draw_16 : decode cX10_draw 16 = .ok (.aload_n 0, 1) := by decide +kernel
theorem dX10_draw_17 : decode cX10_draw 17 = .ok (.getfield 330, 3) := by decide +kernel
theorem dX10_draw_20 : decode cX10_draw 20 = .ok (.bipush 16, 2) := by decide +kernel
theorem dX10_draw_22 : decode cX10_draw 22 = .ok (.iushr, 1) := by decide +kernel
theorem dX10_draw_23 : decode cX10_draw 23 = .ok (.iload_n 1, 1) := by decide +kernel
theorem dX10_draw_24 : decode cX10_draw 24 = .ok (.irem, 1) := by decide +kernel
theorem dX10_draw_25 : decode cX10_draw 25 = .ok (.ireturn, 1) := by decide +kernel
set_option maxHeartbeats 4000000 in
set_option maxRecDepth 100000 in
theorem k_X10_draw_0 (l : Launch) (V : GV) (z : Nat → Nat) (pz0_0 : Int32) (pz0_5 : Int32) (pz0_6 : Int32) (pz0_7 : Int32) (pz0_8 : Int32) (pz0_9 : Int32) (pz0_10 : Int32) (pz0_11 : Int32) (pz0_12 : Int32) (pz0_13 : Int32) (pz0_14 : Int32) (pz0_18 : Int32) (pz0_19 : Int32) (pz0_22 : Int32) (pz0_23 : Int32) (pz0_29 : Int32) (bpz0_5 : iv 0 900 pz0_5) (bpz0_6 : iv 0 900 pz0_6) (bpz0_7 : iv 0 900 pz0_7) (bpz0_8 : iv 0 900 pz0_8) (bpz0_10 : iv 0 999 pz0_10) (bpz0_11 : iv 0 4 pz0_11) (bpz0_12 : iv 0 900 pz0_12) (bpz0_13 : iv 0 4 pz0_13) (bpz0_14 : iv (-1) 900 pz0_14) (bpz0_18 : iv 0 2 pz0_18) (bpz0_22 : iv 0 9999 pz0_22) (bpz0_29 : iv 0 10000 pz0_29) : Ct l V yX10_draw (.code yX10_draw cX10_draw 2 (some .int)) 1 [.ref (z 0), .int 6] [(z 0, .inr (10, mo z pz0_0 pz0_5 pz0_6 pz0_7 pz0_8 pz0_9 pz0_10 pz0_11 pz0_12 pz0_13 pz0_14 pz0_18 pz0_19 pz0_22 pz0_23 pz0_29))] 0 0 (QI V (fun (r : Int32) (w : va_W) => ∃ (v0 : Int32), iv 0 5 r ∧ w = [(z 0, .inr (10, mo z pz0_0 pz0_5 pz0_6 pz0_7 pz0_8 pz0_9 pz0_10 pz0_11 pz0_12 pz0_13 pz0_14 pz0_18 v0 pz0_22 pz0_23 pz0_29))])) := by
  refine Ct.of (by decide) (Nat.le_of_ble_eq_true rfl) (fun p e s m below meth c A ls hx hb hr hml hown hlk hnm hg hP hK hD hE hA hS hl => ?_)
  have hl : lv_has ls 2 [(0, .ref (z 0)), (1, .int 6)] := hl
  refine lv_aload_n hx hb dX10_draw_0 rfl (lv_at hl 0 rfl) ?_
  refine lv_ldcw (v := 1103515245) hx hb hown (hg _ q_7_152) dX10_draw_1 ?_
  refine lv_aload_n hx hb dX10_draw_4 rfl (lv_at hl 0 rfl) ?_
  refine va_get (ci := 10) (v := .int pz0_19) (C := RX10) (T := TX10) (N := 40) hx hb hg inX10 hown hK hP 0 rfl rfl 19 (by decide) (hg _ q_6_3) (fun _ h9 => h9) rfl dX10_draw_5 ?_
  refine lv_imul hx hb dX10_draw_8 ?_
  refine lv_topi (fun x_1 ex_1 => ?_)
  refine lv_sipush (v := 12345) hx hb dX10_draw_9 (by decide) ?_
  refine lv_iadd hx hb dX10_draw_12 ?_
  refine lv_topi (fun x_2 ex_2 => ?_)
  refine va_put (ci := 10) (v := .int x_2) (ty := .int) (C := RX10) (T := TX10) (N := 40) hx hb hg inX10 tyX10 tyX10_ok nmX10 hown hK hP hD hS 0 rfl rfl 19 (by decide) (hg _ q_6_3) (fun _ h9 => h9) rfl (by decide +kernel) rfl rfl (Nat.le_of_ble_eq_true rfl) dX10_draw_13 (fun H locs hP hD hS => ?_)
  have hP : va_P V.1 vwCl [(z 0, .inr (10, mo z pz0_0 pz0_5 pz0_6 pz0_7 pz0_8 pz0_9 pz0_10 pz0_11 pz0_12 pz0_13 pz0_14 pz0_18 x_2 pz0_22 pz0_23 pz0_29))] H := hP
  have hD : va_D A [(z 0, .inr (10, mo z pz0_0 pz0_5 pz0_6 pz0_7 pz0_8 pz0_9 pz0_10 pz0_11 pz0_12 pz0_13 pz0_14 pz0_18 x_2 pz0_22 pz0_23 pz0_29))] := hD
  refine lv_aload_n hx hb dX10_draw_16 rfl (lv_at hl 0 rfl) ?_
  refine va_get (ci := 10) (v := .int x_2) (C := RX10) (T := TX10) (N := 40) hx hb hg inX10 hown hK hP 0 rfl rfl 19 (by decide) (hg _ q_6_3) (fun _ h9 => h9) rfl dX10_draw_17 ?_
  refine lv_bipush (v := 16) hx hb dX10_draw_20 (by decide) ?_
  refine lv_iushr hx hb dX10_draw_22 rfl ?_
  refine lv_topi (fun x_3 ex_3 => ?_)
  have bx_3 : iv 0 65535 x_3 := by rw [ex_3]; exact iv_ushr16 _
  refine lv_iload_n hx hb dX10_draw_23 rfl (lv_at hl 1 rfl) ?_
  refine lv_irem hx hb dX10_draw_24 (by decide) ?_
  refine lv_topi (fun x_4 ex_4 => ?_)
  have bx_4 : iv 0 5 x_4 := by rw [ex_4]; exact iv_remp bx_3 (k := 6) (by decide) (by decide)
  exact fiI hx hb hr hlk hK hP hD hS dX10_draw_25 (Nat.le_of_ble_eq_true rfl) (Nat.le_of_ble_eq_true rfl) (⟨x_2, bx_4, rfl⟩)
set_option maxHeartbeats 4000000 in
set_option maxRecDepth 100000 in
theorem k_X10_draw_1 (l : Launch) (V : GV) (z : Nat → Nat) (pz0_0 : Int32) (pz0_5 : Int32) (pz0_6 : Int32) (pz0_7 : Int32) (pz0_8 : Int32) (pz0_9 : Int32) (pz0_10 : Int32) (pz0_11 : Int32) (pz0_12 : Int32) (pz0_13 : Int32) (pz0_14 : Int32) (pz0_18 : Int32) (pz0_19 : Int32) (pz0_22 : Int32) (pz0_23 : Int32) (pz0_29 : Int32) (bpz0_5 : iv 0 900 pz0_5) (bpz0_6 : iv 0 900 pz0_6) (bpz0_7 : iv 0 900 pz0_7) (bpz0_8 : iv 0 900 pz0_8) (bpz0_10 : iv 0 999 pz0_10) (bpz0_11 : iv 0 4 pz0_11) (bpz0_12 : iv 0 900 pz0_12) (bpz0_13 : iv 0 4 pz0_13) (bpz0_14 : iv (-1) 900 pz0_14) (bpz0_18 : iv 0 2 pz0_18) (bpz0_22 : iv 0 9999 pz0_22) (bpz0_29 : iv 0 10000 pz0_29) : Ct l V yX10_draw (.code yX10_draw cX10_draw 2 (some .int)) 1 [.ref (z 0), .int 10] [(z 0, .inr (10, mo z pz0_0 pz0_5 pz0_6 pz0_7 pz0_8 pz0_9 pz0_10 pz0_11 pz0_12 pz0_13 pz0_14 pz0_18 pz0_19 pz0_22 pz0_23 pz0_29))] 0 0 (QI V (fun (r : Int32) (w : va_W) => ∃ (v0 : Int32), iv 0 9 r ∧ w = [(z 0, .inr (10, mo z pz0_0 pz0_5 pz0_6 pz0_7 pz0_8 pz0_9 pz0_10 pz0_11 pz0_12 pz0_13 pz0_14 pz0_18 v0 pz0_22 pz0_23 pz0_29))])) := by
  refine Ct.of (by decide) (Nat.le_of_ble_eq_true rfl) (fun p e s m below meth c A ls hx hb hr hml hown hlk hnm hg hP hK hD hE hA hS hl => ?_)
  have hl : lv_has ls 2 [(0, .ref (z 0)), (1, .int 10)] := hl
  refine lv_aload_n hx hb dX10_draw_0 rfl (lv_at hl 0 rfl) ?_
  refine lv_ldcw (v := 1103515245) hx hb hown (hg _ q_7_152) dX10_draw_1 ?_
  refine lv_aload_n hx hb dX10_draw_4 rfl (lv_at hl 0 rfl) ?_
  refine va_get (ci := 10) (v := .int pz0_19) (C := RX10) (T := TX10) (N := 40) hx hb hg inX10 hown hK hP 0 rfl rfl 19 (by decide) (hg _ q_6_3) (fun _ h9 => h9) rfl dX10_draw_5 ?_
  refine lv_imul hx hb dX10_draw_8 ?_
  refine lv_topi (fun x_1 ex_1 => ?_)
  refine lv_sipush (v := 12345) hx hb dX10_draw_9 (by decide) ?_
  refine lv_iadd hx hb dX10_draw_12 ?_
  refine lv_topi (fun x_2 ex_2 => ?_)
  refine va_put (ci := 10) (v := .int x_2) (ty := .int) (C := RX10) (T := TX10) (N := 40) hx hb hg inX10 tyX10 tyX10_ok nmX10 hown hK hP hD hS 0 rfl rfl 19 (by decide) (hg _ q_6_3) (fun _ h9 => h9) rfl (by decide +kernel) rfl rfl (Nat.le_of_ble_eq_true rfl) dX10_draw_13 (fun H locs hP hD hS => ?_)
  have hP : va_P V.1 vwCl [(z 0, .inr (10, mo z pz0_0 pz0_5 pz0_6 pz0_7 pz0_8 pz0_9 pz0_10 pz0_11 pz0_12 pz0_13 pz0_14 pz0_18 x_2 pz0_22 pz0_23 pz0_29))] H := hP
  have hD : va_D A [(z 0, .inr (10, mo z pz0_0 pz0_5 pz0_6 pz0_7 pz0_8 pz0_9 pz0_10 pz0_11 pz0_12 pz0_13 pz0_14 pz0_18 x_2 pz0_22 pz0_23 pz0_29))] := hD
  refine lv_aload_n hx hb dX10_draw_16 rfl (lv_at hl 0 rfl) ?_
  refine va_get (ci := 10) (v := .int x_2) (C := RX10) (T := TX10) (N := 40) hx hb hg inX10 hown hK hP 0 rfl rfl 19 (by decide) (hg _ q_6_3) (fun _ h9 => h9) rfl dX10_draw_17 ?_
  refine lv_bipush (v := 16) hx hb dX10_draw_20 (by decide) ?_
  refine lv_iushr hx hb dX10_draw_22 rfl ?_
  refine lv_topi (fun x_3 ex_3 => ?_)
  have bx_3 : iv 0 65535 x_3 := by rw [ex_3]; exact iv_ushr16 _
  refine lv_iload_n hx hb dX10_draw_23 rfl (lv_at hl 1 rfl) ?_
  refine lv_irem hx hb dX10_draw_24 (by decide) ?_
  refine lv_topi (fun x_4 ex_4 => ?_)
  have bx_4 : iv 0 9 x_4 := by rw [ex_4]; exact iv_remp bx_3 (k := 10) (by decide) (by decide)
  exact fiI hx hb hr hlk hK hP hD hS dX10_draw_25 (Nat.le_of_ble_eq_true rfl) (Nat.le_of_ble_eq_true rfl) (⟨x_2, bx_4, rfl⟩)
set_option maxHeartbeats 4000000 in
set_option maxRecDepth 100000 in
theorem k_X10_draw_2 (l : Launch) (V : GV) (z : Nat → Nat) (pz0_0 : Int32) (pz0_5 : Int32) (pz0_6 : Int32) (pz0_7 : Int32) (pz0_8 : Int32) (pz0_9 : Int32) (pz0_10 : Int32) (pz0_11 : Int32) (pz0_12 : Int32) (pz0_13 : Int32) (pz0_14 : Int32) (pz0_18 : Int32) (pz0_19 : Int32) (pz0_22 : Int32) (pz0_23 : Int32) (pz0_29 : Int32) (bpz0_5 : iv 0 900 pz0_5) (bpz0_6 : iv 0 900 pz0_6) (bpz0_7 : iv 0 900 pz0_7) (bpz0_8 : iv 0 900 pz0_8) (bpz0_10 : iv 0 999 pz0_10) (bpz0_11 : iv 0 4 pz0_11) (bpz0_12 : iv 0 900 pz0_12) (bpz0_13 : iv 0 4 pz0_13) (bpz0_14 : iv (-1) 900 pz0_14) (bpz0_18 : iv 0 2 pz0_18) (bpz0_22 : iv 0 9999 pz0_22) (bpz0_29 : iv 0 10000 pz0_29) : Ct l V yX10_draw (.code yX10_draw cX10_draw 2 (some .int)) 1 [.ref (z 0), .int 4] [(z 0, .inr (10, mo z pz0_0 pz0_5 pz0_6 pz0_7 pz0_8 pz0_9 pz0_10 pz0_11 pz0_12 pz0_13 pz0_14 pz0_18 pz0_19 pz0_22 pz0_23 pz0_29))] 0 0 (QI V (fun (r : Int32) (w : va_W) => ∃ (v0 : Int32), iv 0 3 r ∧ w = [(z 0, .inr (10, mo z pz0_0 pz0_5 pz0_6 pz0_7 pz0_8 pz0_9 pz0_10 pz0_11 pz0_12 pz0_13 pz0_14 pz0_18 v0 pz0_22 pz0_23 pz0_29))])) := by
  refine Ct.of (by decide) (Nat.le_of_ble_eq_true rfl) (fun p e s m below meth c A ls hx hb hr hml hown hlk hnm hg hP hK hD hE hA hS hl => ?_)
  have hl : lv_has ls 2 [(0, .ref (z 0)), (1, .int 4)] := hl
  refine lv_aload_n hx hb dX10_draw_0 rfl (lv_at hl 0 rfl) ?_
  refine lv_ldcw (v := 1103515245) hx hb hown (hg _ q_7_152) dX10_draw_1 ?_
  refine lv_aload_n hx hb dX10_draw_4 rfl (lv_at hl 0 rfl) ?_
  refine va_get (ci := 10) (v := .int pz0_19) (C := RX10) (T := TX10) (N := 40) hx hb hg inX10 hown hK hP 0 rfl rfl 19 (by decide) (hg _ q_6_3) (fun _ h9 => h9) rfl dX10_draw_5 ?_
  refine lv_imul hx hb dX10_draw_8 ?_
  refine lv_topi (fun x_1 ex_1 => ?_)
  refine lv_sipush (v := 12345) hx hb dX10_draw_9 (by decide) ?_
  refine lv_iadd hx hb dX10_draw_12 ?_
  refine lv_topi (fun x_2 ex_2 => ?_)
  refine va_put (ci := 10) (v := .int x_2) (ty := .int) (C := RX10) (T := TX10) (N := 40) hx hb hg inX10 tyX10 tyX10_ok nmX10 hown hK hP hD hS 0 rfl rfl 19 (by decide) (hg _ q_6_3) (fun _ h9 => h9) rfl (by decide +kernel) rfl rfl (Nat.le_of_ble_eq_true rfl) dX10_draw_13 (fun H locs hP hD hS => ?_)
  have hP : va_P V.1 vwCl [(z 0, .inr (10, mo z pz0_0 pz0_5 pz0_6 pz0_7 pz0_8 pz0_9 pz0_10 pz0_11 pz0_12 pz0_13 pz0_14 pz0_18 x_2 pz0_22 pz0_23 pz0_29))] H := hP
  have hD : va_D A [(z 0, .inr (10, mo z pz0_0 pz0_5 pz0_6 pz0_7 pz0_8 pz0_9 pz0_10 pz0_11 pz0_12 pz0_13 pz0_14 pz0_18 x_2 pz0_22 pz0_23 pz0_29))] := hD
  refine lv_aload_n hx hb dX10_draw_16 rfl (lv_at hl 0 rfl) ?_
  refine va_get (ci := 10) (v := .int x_2) (C := RX10) (T := TX10) (N := 40) hx hb hg inX10 hown hK hP 0 rfl rfl 19 (by decide) (hg _ q_6_3) (fun _ h9 => h9) rfl dX10_draw_17 ?_
  refine lv_bipush (v := 16) hx hb dX10_draw_20 (by decide) ?_
  refine lv_iushr hx hb dX10_draw_22 rfl ?_
  refine lv_topi (fun x_3 ex_3 => ?_)
  have bx_3 : iv 0 65535 x_3 := by rw [ex_3]; exact iv_ushr16 _
  refine lv_iload_n hx hb dX10_draw_23 rfl (lv_at hl 1 rfl) ?_
  refine lv_irem hx hb dX10_draw_24 (by decide) ?_
  refine lv_topi (fun x_4 ex_4 => ?_)
  have bx_4 : iv 0 3 x_4 := by rw [ex_4]; exact iv_remp bx_3 (k := 4) (by decide) (by decide)
  exact fiI hx hb hr hlk hK hP hD hS dX10_draw_25 (Nat.le_of_ble_eq_true rfl) (Nat.le_of_ble_eq_true rfl) (⟨x_2, bx_4, rfl⟩)
theorem dX10_drawn_0 : decode cX10_drawn 0 = .ok (.aload_n 0, 1) := by decide +kernel
theorem dX10_drawn_1 : decode cX10_drawn 1 = .ok (.bipush 6, 2) := by decide +kernel
theorem q_7_151 : Cond.code yX10_draw prog_12_method_73_code 2 (some FieldType.int) ∈ gw := gw_7 (i := 151) (rfl) rfl
theorem q_7_150 : Cond.instanceMethod yX10_draw ∈ gw := gw_7 (i := 150) (by decide +kernel) rfl
theorem q_s_100 : Cond.selects "BeaconDelayModel" yX10_draw yX10_draw ∈ gw := gw_s (i := 100) (by decide +kernel) rfl
theorem mt_X10_draw : MtV yX10_draw cX10_draw 2 (some .int) 1 := ⟨⟨q_7_151, q_1_9, by decide +kernel, by decide +kernel, by decide +kernel⟩, q_7_150, q_s_100⟩
theorem q_7_148 : Cond.methodLink "BeaconDelayModel" 333 yX10_draw ∈ gw := gw_7 (i := 148) (by decide +kernel) rfl
theorem dX10_drawn_3 : decode cX10_drawn 3 = .ok (.invokevirtual 333, 3) := by decide +kernel
theorem dX10_drawn_6 : decode cX10_drawn 6 = .ok (.istore_n 1, 1) := by decide +kernel
theorem dX10_drawn_7 : decode cX10_drawn 7 = .ok (.iload_n 1, 1) := by decide +kernel
theorem dX10_drawn_8 : decode cX10_drawn 8 = .ok (.iconst 3, 1) := by decide +kernel
theorem dX10_drawn_9 : decode cX10_drawn 9 = .ok (.if_icmp .ge 7, 3) := by decide +kernel
theorem dX10_drawn_16 : decode cX10_drawn 16 = .ok (.iload_n 1, 1) := by decide +kernel
theorem dX10_drawn_17 : decode cX10_drawn 17 = .ok (.iconst 3, 1) := by decide +kernel
theorem dX10_drawn_18 : decode cX10_drawn 18 = .ok (.if_icmp .ne 11, 3) := by decide +kernel
theorem dX10_drawn_29 : decode cX10_drawn 29 = .ok (.iload_n 1, 1) := by decide +kernel
theorem dX10_drawn_30 : decode cX10_drawn 30 = .ok (.iconst 4, 1) := by decide +kernel
theorem dX10_drawn_31 : decode cX10_drawn 31 = .ok (.if_icmp .ne 14, 3) := by decide +kernel
theorem dX10_drawn_45 : decode cX10_drawn 45 = .ok (.bipush 20, 2) := by decide +kernel
theorem dX10_drawn_47 : decode cX10_drawn 47 = .ok (.aload_n 0, 1) := by decide +kernel
theorem dX10_drawn_48 : decode cX10_drawn 48 = .ok (.bipush 10, 2) := by decide +kernel
theorem dX10_drawn_50 : decode cX10_drawn 50 = .ok (.invokevirtual 333, 3) := by decide +kernel
theorem dX10_drawn_53 : decode cX10_drawn 53 = .ok (.iadd, 1) := by decide +kernel
theorem dX10_drawn_54 : decode cX10_drawn 54 = .ok (.ireturn, 1) := by decide +kernel
theorem dX10_drawn_34 : decode cX10_drawn 34 = .ok (.bipush 10, 2) := by decide +kernel
theorem dX10_drawn_36 : decode cX10_drawn 36 = .ok (.aload_n 0, 1) := by decide +kernel
theorem dX10_drawn_37 : decode cX10_drawn 37 = .ok (.iconst 4, 1) := by decide +kernel
theorem dX10_drawn_38 : decode cX10_drawn 38 = .ok (.invokevirtual 333, 3) := by decide +kernel
theorem dX10_drawn_41 : decode cX10_drawn 41 = .ok (.iadd, 1) := by decide +kernel
theorem dX10_drawn_42 : decode cX10_drawn 42 = .ok (.goto 12, 3) := by decide +kernel
theorem dX10_drawn_21 : decode cX10_drawn 21 = .ok (.aload_n 0, 1) := by decide +kernel
theorem dX10_drawn_22 : decode cX10_drawn 22 = .ok (.iconst 4, 1) := by decide +kernel
theorem dX10_drawn_23 : decode cX10_drawn 23 = .ok (.invokevirtual 333, 3) := by decide +kernel
theorem dX10_drawn_26 : decode cX10_drawn 26 = .ok (.goto 28, 3) := by decide +kernel
theorem dX10_drawn_12 : decode cX10_drawn 12 = .ok (.iconst 0, 1) := by decide +kernel
theorem dX10_drawn_13 : decode cX10_drawn 13 = .ok (.goto 41, 3) := by decide +kernel
set_option maxHeartbeats 4000000 in
set_option maxRecDepth 100000 in
theorem k_X10_drawn_0 (l : Launch) (V : GV) (z : Nat → Nat) (pz0_0 : Int32) (pz0_5 : Int32) (pz0_6 : Int32) (pz0_7 : Int32) (pz0_8 : Int32) (pz0_9 : Int32) (pz0_10 : Int32) (pz0_11 : Int32) (pz0_12 : Int32) (pz0_13 : Int32) (pz0_14 : Int32) (pz0_18 : Int32) (pz0_19 : Int32) (pz0_22 : Int32) (pz0_23 : Int32) (pz0_29 : Int32) (bpz0_5 : iv 0 900 pz0_5) (bpz0_6 : iv 0 900 pz0_6) (bpz0_7 : iv 0 900 pz0_7) (bpz0_8 : iv 0 900 pz0_8) (bpz0_10 : iv 0 999 pz0_10) (bpz0_11 : iv 0 4 pz0_11) (bpz0_12 : iv 0 900 pz0_12) (bpz0_13 : iv 0 4 pz0_13) (bpz0_14 : iv (-1) 900 pz0_14) (bpz0_18 : iv 0 2 pz0_18) (bpz0_22 : iv 0 9999 pz0_22) (bpz0_29 : iv 0 10000 pz0_29) : Ct l V yX10_drawn (.code yX10_drawn cX10_drawn 2 (some .int)) 2 [.ref (z 0)] [(z 0, .inr (10, mo z pz0_0 pz0_5 pz0_6 pz0_7 pz0_8 pz0_9 pz0_10 pz0_11 pz0_12 pz0_13 pz0_14 pz0_18 pz0_19 pz0_22 pz0_23 pz0_29))] 0 0 (QI V (fun (r : Int32) (w : va_W) => ∃ (v0 : Int32), iv 0 29 r ∧ w = [(z 0, .inr (10, mo z pz0_0 pz0_5 pz0_6 pz0_7 pz0_8 pz0_9 pz0_10 pz0_11 pz0_12 pz0_13 pz0_14 pz0_18 v0 pz0_22 pz0_23 pz0_29))])) := by
  refine Ct.of (by decide) (Nat.le_of_ble_eq_true rfl) (fun p e s m below meth c A ls hx hb hr hml hown hlk hnm hg hP hK hD hE hA hS hl => ?_)
  have hl : lv_has ls 2 [(0, .ref (z 0))] := hl
  refine lv_aload_n hx hb dX10_drawn_0 rfl (lv_at hl 0 rfl) ?_
  refine lv_bipush (v := 6) hx hb dX10_drawn_1 (by decide) ?_
  refine jnI (wr := []) (rnV (rest := []) ⟨hx, hb, hml, hown, hg⟩ (k_X10_draw_0 l V z pz0_0 pz0_5 pz0_6 pz0_7 pz0_8 pz0_9 pz0_10 pz0_11 pz0_12 pz0_13 pz0_14 pz0_18 pz0_19 pz0_22 pz0_23 pz0_29 bpz0_5 bpz0_6 bpz0_7 bpz0_8 bpz0_10 bpz0_11 bpz0_12 bpz0_13 bpz0_14 bpz0_18 bpz0_22 bpz0_29) mt_X10_draw q_7_148 ⟨Nat.le_of_ble_eq_true rfl, Nat.le_of_ble_eq_true rfl⟩ hK hP hD hS hA hE [0] rfl rfl 0 rfl rfl rfl rfl hl.1 rfl (Nat.le_of_ble_eq_true rfl) dX10_drawn_3 ⟨Nat.le_of_ble_eq_true rfl, Nat.le_of_ble_eq_true rfl⟩) hP hD hS hA [0] [] rfl rfl rfl (by decide) (fun r_1 w H locs hw hP hD hS => ?_)
  obtain ⟨v_2, br_1, rfl⟩ := hw
  have hP : va_P V.1 vwCl [(z 0, .inr (10, mo z pz0_0 pz0_5 pz0_6 pz0_7 pz0_8 pz0_9 pz0_10 pz0_11 pz0_12 pz0_13 pz0_14 pz0_18 v_2 pz0_22 pz0_23 pz0_29))] H := hP
  have hD : va_D A [(z 0, .inr (10, mo z pz0_0 pz0_5 pz0_6 pz0_7 pz0_8 pz0_9 pz0_10 pz0_11 pz0_12 pz0_13 pz0_14 pz0_18 v_2 pz0_22 pz0_23 pz0_29))] := hD
  refine lv_istore_n (lv' := [(1, .int r_1), (0, .ref (z 0))]) hx hb dX10_drawn_6 rfl hl (by decide) rfl (fun ls hl => ?_)
  refine lv_iload_n hx hb dX10_drawn_7 rfl (lv_at hl 0 rfl) ?_
  refine lv_iconst (v := 3) hx hb dX10_drawn_8 (by decide) ?_
  refine lv_icmp_ge (tgt := 16) hx hb dX10_drawn_9 (by decide) (fun c_3 => ?_) (fun c_3 => ?_)
  · have b_4 : iv 3 5 r_1 := iv_e2 c_3 (iv_c (3 : Int32) (a := 3) (b := 3) (by decide)) br_1 (by decide)
    refine lv_iload_n hx hb dX10_drawn_16 rfl (lv_at hl 0 rfl) ?_
    refine lv_iconst (v := 3) hx hb dX10_drawn_17 (by decide) ?_
    refine lv_icmp_ne (tgt := 29) hx hb dX10_drawn_18 (by decide) (fun c_5 => ?_) (fun c_5 => ?_)
    · have b_6 : iv 4 5 r_1 := iv_n0 c_5 b_4 (iv_c (3 : Int32) (a := 3) (b := 3) (by decide)) (by decide)
      refine lv_iload_n hx hb dX10_drawn_29 rfl (lv_at hl 0 rfl) ?_
      refine lv_iconst (v := 4) hx hb dX10_drawn_30 (by decide) ?_
      refine lv_icmp_ne (tgt := 45) hx hb dX10_drawn_31 (by decide) (fun c_7 => ?_) (fun c_7 => ?_)
      · have b_8 : iv 5 5 r_1 := iv_n0 c_7 b_6 (iv_c (4 : Int32) (a := 4) (b := 4) (by decide)) (by decide)
        refine lv_bipush (v := 20) hx hb dX10_drawn_45 (by decide) ?_
        refine lv_aload_n hx hb dX10_drawn_47 rfl (lv_at hl 1 rfl) ?_
        refine lv_bipush (v := 10) hx hb dX10_drawn_48 (by decide) ?_
        refine jnI (wr := []) (rnV (rest := [.int 20]) ⟨hx, hb, hml, hown, hg⟩ (k_X10_draw_1 l V z pz0_0 pz0_5 pz0_6 pz0_7 pz0_8 pz0_9 pz0_10 pz0_11 pz0_12 pz0_13 pz0_14 pz0_18 v_2 pz0_22 pz0_23 pz0_29 bpz0_5 bpz0_6 bpz0_7 bpz0_8 bpz0_10 bpz0_11 bpz0_12 bpz0_13 bpz0_14 bpz0_18 bpz0_22 bpz0_29) mt_X10_draw q_7_148 ⟨Nat.le_of_ble_eq_true rfl, Nat.le_of_ble_eq_true rfl⟩ hK hP hD hS hA hE [0] rfl rfl 0 rfl rfl rfl rfl hl.1 rfl (Nat.le_of_ble_eq_true rfl) dX10_drawn_50 ⟨Nat.le_of_ble_eq_true rfl, Nat.le_of_ble_eq_true rfl⟩) hP hD hS hA [0] [] rfl rfl rfl (by decide) (fun r_9 w H locs hw hP hD hS => ?_)
        obtain ⟨v_10, br_9, rfl⟩ := hw
        have hP : va_P V.1 vwCl [(z 0, .inr (10, mo z pz0_0 pz0_5 pz0_6 pz0_7 pz0_8 pz0_9 pz0_10 pz0_11 pz0_12 pz0_13 pz0_14 pz0_18 v_10 pz0_22 pz0_23 pz0_29))] H := hP
        have hD : va_D A [(z 0, .inr (10, mo z pz0_0 pz0_5 pz0_6 pz0_7 pz0_8 pz0_9 pz0_10 pz0_11 pz0_12 pz0_13 pz0_14 pz0_18 v_10 pz0_22 pz0_23 pz0_29))] := hD
        refine lv_iadd hx hb dX10_drawn_53 ?_
        refine lv_topi (fun x_11 ex_11 => ?_)
        have bx_11 : iv 20 29 x_11 := by rw [ex_11]; exact iv_add (iv_c (20 : Int32) (a := 20) (b := 20) (by decide)) br_9 (by decide)
        exact fiI hx hb hr hlk hK hP hD hS dX10_drawn_54 (Nat.le_of_ble_eq_true rfl) (Nat.le_of_ble_eq_true rfl) (⟨v_10, (iv_w bx_11 (by decide)), rfl⟩)
      · have b_12 : iv 4 4 r_1 := iv_q c_7 (iv_c (4 : Int32) (a := 4) (b := 4) (by decide))
        refine lv_bipush (v := 10) hx hb dX10_drawn_34 (by decide) ?_
        refine lv_aload_n hx hb dX10_drawn_36 rfl (lv_at hl 1 rfl) ?_
        refine lv_iconst (v := 4) hx hb dX10_drawn_37 (by decide) ?_
        refine jnI (wr := []) (rnV (rest := [.int 10]) ⟨hx, hb, hml, hown, hg⟩ (k_X10_draw_2 l V z pz0_0 pz0_5 pz0_6 pz0_7 pz0_8 pz0_9 pz0_10 pz0_11 pz0_12 pz0_13 pz0_14 pz0_18 v_2 pz0_22 pz0_23 pz0_29 bpz0_5 bpz0_6 bpz0_7 bpz0_8 bpz0_10 bpz0_11 bpz0_12 bpz0_13 bpz0_14 bpz0_18 bpz0_22 bpz0_29) mt_X10_draw q_7_148 ⟨Nat.le_of_ble_eq_true rfl, Nat.le_of_ble_eq_true rfl⟩ hK hP hD hS hA hE [0] rfl rfl 0 rfl rfl rfl rfl hl.1 rfl (Nat.le_of_ble_eq_true rfl) dX10_drawn_38 ⟨Nat.le_of_ble_eq_true rfl, Nat.le_of_ble_eq_true rfl⟩) hP hD hS hA [0] [] rfl rfl rfl (by decide) (fun r_13 w H locs hw hP hD hS => ?_)
        obtain ⟨v_14, br_13, rfl⟩ := hw
        have hP : va_P V.1 vwCl [(z 0, .inr (10, mo z pz0_0 pz0_5 pz0_6 pz0_7 pz0_8 pz0_9 pz0_10 pz0_11 pz0_12 pz0_13 pz0_14 pz0_18 v_14 pz0_22 pz0_23 pz0_29))] H := hP
        have hD : va_D A [(z 0, .inr (10, mo z pz0_0 pz0_5 pz0_6 pz0_7 pz0_8 pz0_9 pz0_10 pz0_11 pz0_12 pz0_13 pz0_14 pz0_18 v_14 pz0_22 pz0_23 pz0_29))] := hD
        refine lv_iadd hx hb dX10_drawn_41 ?_
        refine lv_topi (fun x_15 ex_15 => ?_)
        have bx_15 : iv 10 13 x_15 := by rw [ex_15]; exact iv_add (iv_c (10 : Int32) (a := 10) (b := 10) (by decide)) br_13 (by decide)
        refine lv_goto (tgt := 54) hx hb dX10_drawn_42 (by decide) ?_
        exact fiI hx hb hr hlk hK hP hD hS dX10_drawn_54 (Nat.le_of_ble_eq_true rfl) (Nat.le_of_ble_eq_true rfl) (⟨v_14, (iv_w bx_15 (by decide)), rfl⟩)
    · have b_16 : iv 3 3 r_1 := iv_q c_5 (iv_c (3 : Int32) (a := 3) (b := 3) (by decide))
      refine lv_aload_n hx hb dX10_drawn_21 rfl (lv_at hl 1 rfl) ?_
      refine lv_iconst (v := 4) hx hb dX10_drawn_22 (by decide) ?_
      refine jnI (wr := []) (rnV (rest := []) ⟨hx, hb, hml, hown, hg⟩ (k_X10_draw_2 l V z pz0_0 pz0_5 pz0_6 pz0_7 pz0_8 pz0_9 pz0_10 pz0_11 pz0_12 pz0_13 pz0_14 pz0_18 v_2 pz0_22 pz0_23 pz0_29 bpz0_5 bpz0_6 bpz0_7 bpz0_8 bpz0_10 bpz0_11 bpz0_12 bpz0_13 bpz0_14 bpz0_18 bpz0_22 bpz0_29) mt_X10_draw q_7_148 ⟨Nat.le_of_ble_eq_true rfl, Nat.le_of_ble_eq_true rfl⟩ hK hP hD hS hA hE [0] rfl rfl 0 rfl rfl rfl rfl hl.1 rfl (Nat.le_of_ble_eq_true rfl) dX10_drawn_23 ⟨Nat.le_of_ble_eq_true rfl, Nat.le_of_ble_eq_true rfl⟩) hP hD hS hA [0] [] rfl rfl rfl (by decide) (fun r_17 w H locs hw hP hD hS => ?_)
      obtain ⟨v_18, br_17, rfl⟩ := hw
      have hP : va_P V.1 vwCl [(z 0, .inr (10, mo z pz0_0 pz0_5 pz0_6 pz0_7 pz0_8 pz0_9 pz0_10 pz0_11 pz0_12 pz0_13 pz0_14 pz0_18 v_18 pz0_22 pz0_23 pz0_29))] H := hP
      have hD : va_D A [(z 0, .inr (10, mo z pz0_0 pz0_5 pz0_6 pz0_7 pz0_8 pz0_9 pz0_10 pz0_11 pz0_12 pz0_13 pz0_14 pz0_18 v_18 pz0_22 pz0_23 pz0_29))] := hD
      refine lv_goto (tgt := 54) hx hb dX10_drawn_26 (by decide) ?_
      exact fiI hx hb hr hlk hK hP hD hS dX10_drawn_54 (Nat.le_of_ble_eq_true rfl) (Nat.le_of_ble_eq_true rfl) (⟨v_18, (iv_w br_17 (by decide)), rfl⟩)
  · have b_19 : iv 0 2 r_1 := iv_l1 (Int32.not_le.mp c_3) br_1 (iv_c (3 : Int32) (a := 3) (b := 3) (by decide)) (by decide)
    refine lv_iconst (v := 0) hx hb dX10_drawn_12 (by decide) ?_
    refine lv_goto (tgt := 54) hx hb dX10_drawn_13 (by decide) ?_
    exact fiI hx hb hr hlk hK hP hD hS dX10_drawn_54 (Nat.le_of_ble_eq_true rfl) (Nat.le_of_ble_eq_true rfl) (⟨v_2, (iv_c (0 : Int32) (by decide)), rfl⟩)
theorem dX10_century_0 : decode cX10_century 0 = .ok (.aload_n 0, 1) := by decide +kernel
theorem dX10_century_1 : decode cX10_century 1 = .ok (.iconst 0, 1) := by decide +kernel
theorem dX10_century_2 : decode cX10_century 2 = .ok (.putfield 1, 3) := by decide +kernel
theorem dX10_century_5 : decode cX10_century 5 = .ok (.iload_n 2, 1) := by decide +kernel
theorem dX10_century_6 : decode cX10_century 6 = .ok (.i2l, 1) := by decide +kernel
theorem dX10_century_7 : decode cX10_century 7 = .ok (.lconst 1, 1) := by decide +kernel
theorem q_7_143 : Cond.constantLong "BeaconDelayModel" 336 (40 : Int64) ∈ gw := gw_7 (i := 143) (by decide +kernel) rfl
theorem dX10_century_8 : decode cX10_century 8 = .ok (.ldc2_w 336, 3) := by decide +kernel
theorem dX10_century_11 : decode cX10_century 11 = .ok (.invokestatic 159, 3) := by decide +kernel
theorem dX10_century_14 : decode cX10_century 14 = .ok (.ifCond .ne 6, 3) := by decide +kernel
theorem dX10_century_20 : decode cX10_century 20 = .ok (.aload_n 0, 1) := by decide +kernel
theorem dX10_century_21 : decode cX10_century 21 = .ok (.invokevirtual 278, 3) := by decide +kernel
theorem dX10_century_24 : decode cX10_century 24 = .ok (.aload_n 0, 1) := by decide +kernel
theorem dX10_century_25 : decode cX10_century 25 = .ok (.iload_n 1, 1) := by decide +kernel
theorem dX10_century_26 : decode cX10_century 26 = .ok (.putfield 330, 3) := by decide +kernel
theorem dX10_century_29 : decode cX10_century 29 = .ok (.iconst 0, 1) := by decide +kernel
theorem dX10_century_30 : decode cX10_century 30 = .ok (.istore_n 3, 1) := by decide +kernel
theorem dX10_century_31 : decode cX10_century 31 = .ok (.iconst 0, 1) := by decide +kernel
theorem dX10_century_32 : decode cX10_century 32 = .ok (.istore 4, 2) := by decide +kernel
theorem dX10_century_34 : decode cX10_century 34 = .ok (.iload 4, 2) := by decide +kernel
theorem dX10_century_36 : decode cX10_century 36 = .ok (.iload_n 2, 1) := by decide +kernel
theorem dX10_century_37 : decode cX10_century 37 = .ok (.if_icmp .ge 37, 3) := by decide +kernel
theorem dX10_century_74 : decode cX10_century 74 = .ok (.iload_n 3, 1) := by decide +kernel
theorem dX10_century_75 : decode cX10_century 75 = .ok (.ifCond .le 7, 3) := by decide +kernel
theorem dX10_century_82 : decode cX10_century 82 = .ok (.iload_n 3, 1) := by decide +kernel
theorem dX10_century_83 : decode cX10_century 83 = .ok (.ireturn, 1) := by decide +kernel
theorem dX10_century_78 : decode cX10_century 78 = .ok (.aload_n 0, 1) := by decide +kernel
theorem dX10_century_79 : decode cX10_century 79 = .ok (.invokevirtual 284, 3) := by decide +kernel
theorem dX10_century_40 : decode cX10_century 40 = .ok (.aload_n 0, 1) := by decide +kernel
theorem q_7_147 : Cond.code yX10_drawn prog_12_method_74_code 2 (some FieldType.int) ∈ gw := gw_7 (i := 147) (rfl) rfl
theorem q_7_146 : Cond.instanceMethod yX10_drawn ∈ gw := gw_7 (i := 146) (by decide +kernel) rfl
theorem q_s_99 : Cond.selects "BeaconDelayModel" yX10_drawn yX10_drawn ∈ gw := gw_s (i := 99) (by decide +kernel) rfl
theorem mt_X10_drawn : MtV yX10_drawn cX10_drawn 2 (some .int) 0 := ⟨⟨q_7_147, q_1_9, by decide +kernel, by decide +kernel, by decide +kernel⟩, q_7_146, q_s_99⟩
theorem q_7_144 : Cond.methodLink "BeaconDelayModel" 338 yX10_drawn ∈ gw := gw_7 (i := 144) (by decide +kernel) rfl
theorem dX10_century_41 : decode cX10_century 41 = .ok (.invokevirtual 338, 3) := by decide +kernel
theorem dX10_century_44 : decode cX10_century 44 = .ok (.istore 5, 2) := by decide +kernel
theorem dX10_century_46 : decode cX10_century 46 = .ok (.aload_n 0, 1) := by decide +kernel
theorem dX10_century_47 : decode cX10_century 47 = .ok (.iload 5, 2) := by decide +kernel
theorem dX10_century_49 : decode cX10_century 49 = .ok (.i2l, 1) := by decide +kernel
theorem dX10_century_50 : decode cX10_century 50 = .ok (.invokevirtual 309, 3) := by decide +kernel
theorem dX10_century_53 : decode cX10_century 53 = .ok (.ifCond .eq 6, 3) := by decide +kernel
theorem dX10_century_59 : decode cX10_century 59 = .ok (.aload_n 0, 1) := by decide +kernel
theorem dX10_century_60 : decode cX10_century 60 = .ok (.iload 5, 2) := by decide +kernel
theorem dX10_century_62 : decode cX10_century 62 = .ok (.invokevirtual 312, 3) := by decide +kernel
theorem dX10_century_65 : decode cX10_century 65 = .ok (.iinc 3 1, 3) := by decide +kernel
theorem dX10_century_68 : decode cX10_century 68 = .ok (.iinc 4 1, 3) := by decide +kernel
theorem dX10_century_71 : decode cX10_century 71 = .ok (.goto (-37), 3) := by decide +kernel
theorem dX10_century_56 : decode cX10_century 56 = .ok (.goto 12, 3) := by decide +kernel
theorem dX10_century_17 : decode cX10_century 17 = .ok (.bipush (-3), 2) := by decide +kernel
theorem dX10_century_19 : decode cX10_century 19 = .ok (.ireturn, 1) := by decide +kernel
set_option maxHeartbeats 4000000 in
set_option maxRecDepth 100000 in
theorem k_X10_century_0 (l : Launch) (V : GV) (z : Nat → Nat) (a1 : Int32) (a2 : Int32) (pz0_0 : Int32) (pz0_5 : Int32) (pz0_6 : Int32) (pz0_7 : Int32) (pz0_8 : Int32) (pz0_9 : Int32) (pz0_10 : Int32) (pz0_11 : Int32) (pz0_12 : Int32) (pz0_13 : Int32) (pz0_14 : Int32) (pz0_18 : Int32) (pz0_19 : Int32) (pz0_22 : Int32) (pz0_23 : Int32) (pz0_29 : Int32) (fz1 : Nat → Int32) (fz15 : Nat → Int32) (fz16 : Nat → Int32) (fz17 : Nat → Int32) (bpz0_5 : iv 0 900 pz0_5) (bpz0_6 : iv 0 900 pz0_6) (bpz0_7 : iv 0 900 pz0_7) (bpz0_8 : iv 0 900 pz0_8) (bpz0_10 : iv 0 999 pz0_10) (bpz0_11 : iv 0 4 pz0_11) (bpz0_12 : iv 0 900 pz0_12) (bpz0_13 : iv 0 4 pz0_13) (bpz0_14 : iv (-1) 900 pz0_14) (bpz0_18 : iv 0 2 pz0_18) (bpz0_22 : iv 0 9999 pz0_22) (bpz0_29 : iv 0 10000 pz0_29) (tfz1 : ivT tA fz1) (tfz16 : ivT tW fz16) (tfz17 : ivT tS fz17) (hf0 : RW fz1) : Ct l V yX10_century (.code yX10_century cX10_century 6 (some .int)) 7 [.ref (z 0), .int a1, .int a2] [(z 0, .inr (10, mo z pz0_0 pz0_5 pz0_6 pz0_7 pz0_8 pz0_9 pz0_10 pz0_11 pz0_12 pz0_13 pz0_14 pz0_18 pz0_19 pz0_22 pz0_23 pz0_29)), (z 1, aI V 3075 fz1), (z 15, aI V 900 fz15), (z 16, aI V 6 fz16), (z 17, aI V 7 fz17)] 0 0 (QI V (fun (r : Int32) (w : va_W) => ∃ (v0 : Int32) (v1 : Int32) (g2 : Nat → Int32) (g3 : Nat → Int32) (g4 : Nat → Int32) (g5 : Nat → Int32), (ivT tA g2) ∧ (ivT tW g4) ∧ (ivT tS g5) ∧ (RW g2) ∧ w = [(z 0, .inr (10, mo z v0 pz0_5 pz0_6 pz0_7 pz0_8 pz0_9 pz0_10 pz0_11 pz0_12 pz0_13 pz0_14 pz0_18 v1 pz0_22 pz0_23 pz0_29)), (z 1, aI V 3075 g2), (z 15, aI V 900 g3), (z 16, aI V 6 g4), (z 17, aI V 7 g5)])) := by
  refine Ct.of (by decide) (Nat.le_of_ble_eq_true rfl) (fun p e s m below meth c A ls hx hb hr hml hown hlk hnm hg hP hK hD hE hA hS hl => ?_)
  have hl : lv_has ls 6 [(0, .ref (z 0)), (1, .int a1), (2, .int a2)] := hl
  refine lv_aload_n hx hb dX10_century_0 rfl (lv_at hl 0 rfl) ?_
  refine lv_iconst (v := 0) hx hb dX10_century_1 (by decide) ?_
  refine va_put (ci := 10) (v := .int 0) (ty := .int) (C := RX10) (T := TX10) (N := 40) hx hb hg inX10 tyX10 tyX10_ok nmX10 hown hK hP hD hS 0 rfl rfl 0 (by decide) (hg _ q_5_224) (fun _ h9 => h9) rfl (by decide +kernel) rfl rfl (Nat.le_of_ble_eq_true rfl) dX10_century_2 (fun H locs hP hD hS => ?_)
  have hP : va_P V.1 vwCl [(z 0, .inr (10, mo z 0 pz0_5 pz0_6 pz0_7 pz0_8 pz0_9 pz0_10 pz0_11 pz0_12 pz0_13 pz0_14 pz0_18 pz0_19 pz0_22 pz0_23 pz0_29)), (z 1, aI V 3075 fz1), (z 15, aI V 900 fz15), (z 16, aI V 6 fz16), (z 17, aI V 7 fz17)] H := hP
  have hD : va_D A [(z 0, .inr (10, mo z 0 pz0_5 pz0_6 pz0_7 pz0_8 pz0_9 pz0_10 pz0_11 pz0_12 pz0_13 pz0_14 pz0_18 pz0_19 pz0_22 pz0_23 pz0_29)), (z 1, aI V 3075 fz1), (z 15, aI V 900 fz15), (z 16, aI V 6 fz16), (z 17, aI V 7 fz17)] := hD
  refine lv_iload_n hx hb dX10_century_5 rfl (lv_at hl 2 rfl) ?_
  refine lv_i2l hx hb dX10_century_6 rfl ?_
  refine lv_topl (fun j_1 ej_1 => ?_)
  refine lv_lconst (v := 1) hx hb dX10_century_7 (by decide) ?_
  refine lv_ldc2 (v := 40) hx hb hown (hg _ q_7_143) dX10_century_8 ?_
  refine jnI (wr := [(z 0, .inr (10, mo z 0 pz0_5 pz0_6 pz0_7 pz0_8 pz0_9 pz0_10 pz0_11 pz0_12 pz0_13 pz0_14 pz0_18 pz0_19 pz0_22 pz0_23 pz0_29)), (z 1, aI V 3075 fz1), (z 15, aI V 900 fz15), (z 16, aI V 6 fz16), (z 17, aI V 7 fz17)]) (rnS (rest := []) ⟨hx, hb, hml, hown, hg⟩ (k_X10_within_0 l V j_1 1 40) mt_X10_within q_6_114 ⟨Nat.le_of_ble_eq_true rfl, Nat.le_of_ble_eq_true rfl⟩ hK hP hD hS hA hE [] rfl rfl rfl hl.1 rfl (Nat.le_of_ble_eq_true rfl) dX10_century_11 ⟨Nat.le_of_ble_eq_true rfl, Nat.le_of_ble_eq_true rfl⟩) hP hD hS hA [] [0, 1, 2, 3, 4] rfl rfl rfl (by decide) (fun r_2 w H locs hw hP hD hS => ?_)
  obtain ⟨br_2, g_3, g_4, g_5, rfl⟩ := hw
  have hP : va_P V.1 vwCl [(z 0, .inr (10, mo z 0 pz0_5 pz0_6 pz0_7 pz0_8 pz0_9 pz0_10 pz0_11 pz0_12 pz0_13 pz0_14 pz0_18 pz0_19 pz0_22 pz0_23 pz0_29)), (z 1, aI V 3075 fz1), (z 15, aI V 900 fz15), (z 16, aI V 6 fz16), (z 17, aI V 7 fz17)] H := hP
  have hD : va_D A [(z 0, .inr (10, mo z 0 pz0_5 pz0_6 pz0_7 pz0_8 pz0_9 pz0_10 pz0_11 pz0_12 pz0_13 pz0_14 pz0_18 pz0_19 pz0_22 pz0_23 pz0_29)), (z 1, aI V 3075 fz1), (z 15, aI V 900 fz15), (z 16, aI V 6 fz16), (z 17, aI V 7 fz17)] := hD
  refine lv_if_ne (tgt := 20) hx hb dX10_century_14 (by decide) (fun c_6 => ?_) (fun c_6 => ?_)
  · have b_7 : iv 1 1 r_2 := iv_n0 c_6 br_2 (iv_c (0 : Int32) (a := 0) (b := 0) (by decide)) (by decide)
    have c_8 : (1 : Int64) ≤ j_1 := (g_4 (iv_eqp b_7 (iv_c (1 : Int32) (by decide))))
    have b_9 : ivL 1 9223372036854775807 j_1 := ivL_e2 c_8 (ivL_c (1 : Int64) (a := 1) (b := 1) (by decide)) (ivL_top j_1) (by decide)
    have b_10 : iv 1 2147483647 a2 := iv_cap (ivL_i ej_1 b_9) (iv_top a2) (by decide)
    have c_11 : j_1 ≤ 40 := (g_5 (iv_eqp b_7 (iv_c (1 : Int32) (by decide))))
    have b_12 : ivL 1 40 j_1 := ivL_e1 c_11 b_9 (ivL_c (40 : Int64) (a := 40) (b := 40) (by decide)) (by decide)
    have b_13 : iv 1 40 a2 := iv_cap (ivL_i ej_1 b_12) b_10 (by decide)
    refine lv_aload_n hx hb dX10_century_20 rfl (lv_at hl 0 rfl) ?_
    refine jnV (wr := [(z 15, aI V 900 fz15), (z 16, aI V 6 fz16)]) (rnV (rest := []) ⟨hx, hb, hml, hown, hg⟩ (k_X10_stores_0 l V z fz17 0 pz0_5 pz0_6 pz0_7 pz0_8 pz0_9 pz0_10 pz0_11 pz0_12 pz0_13 pz0_14 pz0_18 pz0_19 pz0_22 pz0_23 pz0_29 fz1 tfz17 bpz0_5 bpz0_6 bpz0_7 bpz0_8 bpz0_10 bpz0_11 bpz0_12 bpz0_13 bpz0_14 bpz0_18 bpz0_22 bpz0_29 tfz1) mt_X10_stores q_7_60 ⟨Nat.le_of_ble_eq_true rfl, Nat.le_of_ble_eq_true rfl⟩ hK hP hD hS hA hE [4, 0, 1] rfl rfl 0 rfl rfl rfl rfl hl.1 rfl (Nat.le_of_ble_eq_true rfl) dX10_century_21 ⟨Nat.le_of_ble_eq_true rfl, Nat.le_of_ble_eq_true rfl⟩) hP hD hS hA [4, 0, 1] [2, 3] rfl rfl rfl (by decide) (fun  w H locs hw hP hD hS => ?_)
    obtain ⟨f_14, tf_14, rfl⟩ := hw
    have hP : va_P V.1 vwCl [(z 15, aI V 900 fz15), (z 16, aI V 6 fz16), (z 17, aI V 7 f_14), (z 0, .inr (10, mo z 0 pz0_5 pz0_6 pz0_7 pz0_8 pz0_9 pz0_10 pz0_11 pz0_12 pz0_13 pz0_14 pz0_18 pz0_19 pz0_22 pz0_23 pz0_29)), (z 1, aI V 3075 fz1)] H := hP
    have hD : va_D A [(z 15, aI V 900 fz15), (z 16, aI V 6 fz16), (z 17, aI V 7 f_14), (z 0, .inr (10, mo z 0 pz0_5 pz0_6 pz0_7 pz0_8 pz0_9 pz0_10 pz0_11 pz0_12 pz0_13 pz0_14 pz0_18 pz0_19 pz0_22 pz0_23 pz0_29)), (z 1, aI V 3075 fz1)] := hD
    refine lv_aload_n hx hb dX10_century_24 rfl (lv_at hl 0 rfl) ?_
    refine lv_iload_n hx hb dX10_century_25 rfl (lv_at hl 1 rfl) ?_
    refine va_put (ci := 10) (v := .int a1) (ty := .int) (C := RX10) (T := TX10) (N := 40) hx hb hg inX10 tyX10 tyX10_ok nmX10 hown hK hP hD hS 3 rfl rfl 19 (by decide) (hg _ q_6_3) (fun _ h9 => h9) rfl (by decide +kernel) rfl rfl (Nat.le_of_ble_eq_true rfl) dX10_century_26 (fun H locs hP hD hS => ?_)
    have hP : va_P V.1 vwCl [(z 15, aI V 900 fz15), (z 16, aI V 6 fz16), (z 17, aI V 7 f_14), (z 0, .inr (10, mo z 0 pz0_5 pz0_6 pz0_7 pz0_8 pz0_9 pz0_10 pz0_11 pz0_12 pz0_13 pz0_14 pz0_18 a1 pz0_22 pz0_23 pz0_29)), (z 1, aI V 3075 fz1)] H := hP
    have hD : va_D A [(z 15, aI V 900 fz15), (z 16, aI V 6 fz16), (z 17, aI V 7 f_14), (z 0, .inr (10, mo z 0 pz0_5 pz0_6 pz0_7 pz0_8 pz0_9 pz0_10 pz0_11 pz0_12 pz0_13 pz0_14 pz0_18 a1 pz0_22 pz0_23 pz0_29)), (z 1, aI V 3075 fz1)] := hD
    refine lv_iconst (v := 0) hx hb dX10_century_29 (by decide) ?_
    refine lv_istore_n (lv' := [(3, .int 0), (0, .ref (z 0)), (1, .int a1), (2, .int a2)]) hx hb dX10_century_30 rfl hl (by decide) rfl (fun ls hl => ?_)
    refine lv_iconst (v := 0) hx hb dX10_century_31 (by decide) ?_
    refine lv_istore (lv' := [(4, .int 0), (3, .int 0), (0, .ref (z 0)), (1, .int a1), (2, .int a2)]) hx hb dX10_century_32 hl (by decide) rfl (fun ls hl => ?_)
    refine loopF (X := fun (n_21 : Nat) (H : Heap) (locs : List Loc) (ls : Array Slot) => ∃ (u_15 : Int32) (u_16 : Int32) (f_17 : Nat → Int32) (f_18 : Nat → Int32) (u_19 : Int32) (f_20 : Nat → Int32), (iv 0 2147483647 u_15) ∧ (ivT tW f_18) ∧ (ivT tA f_20) ∧ (RW f_20) ∧ n_21 = (2147483647 - (u_15 : Int32).toInt).toNat ∧ va_P V.1 vwCl [(z 15, aI V 900 f_17), (z 16, aI V 6 f_18), (z 17, aI V 7 f_14), (z 0, .inr (10, mo z 0 pz0_5 pz0_6 pz0_7 pz0_8 pz0_9 pz0_10 pz0_11 pz0_12 pz0_13 pz0_14 pz0_18 u_19 pz0_22 pz0_23 pz0_29)), (z 1, aI V 3075 f_20)] H ∧ va_D A [(z 15, aI V 900 f_17), (z 16, aI V 6 f_18), (z 17, aI V 7 f_14), (z 0, .inr (10, mo z 0 pz0_5 pz0_6 pz0_7 pz0_8 pz0_9 pz0_10 pz0_11 pz0_12 pz0_13 pz0_14 pz0_18 u_19 pz0_22 pz0_23 pz0_29)), (z 1, aI V 3075 f_20)] ∧ va_S A s.heap H locs ∧ lv_has ls 6 [(4, .int u_15), (3, .int u_16), (0, .ref (z 0)), (1, .int a1), (2, .int a2)]) (g := fun ls => F0 m 34 ls []) (fun n_21 H locs ls hX ihn_21 => ?_) _ ⟨0, 0, fz15, fz16, a1, fz1, (iv_c (0 : Int32) (by decide)), tfz16, tfz1, hf0, rfl, hP, hD, hS, lv_sub hl [0, 1, 2, 3, 4] rfl⟩
    obtain ⟨u_15, u_16, f_17, f_18, u_19, f_20, bu_15, tf_18, tf_20, inn_21_0, en_21, hP, hD, hS, hl⟩ := hX
    refine lv_iload hx hb dX10_century_34 (lv_at hl 0 rfl) ?_
    refine lv_iload_n hx hb dX10_century_36 rfl (lv_at hl 4 rfl) ?_
    refine lv_icmp_ge (tgt := 74) hx hb dX10_century_37 (by decide) (fun c_22 => ?_) (fun c_22 => ?_)
    · have b_23 : iv 1 2147483647 u_15 := iv_e2 c_22 b_13 bu_15 (by decide)
      refine lv_iload_n hx hb dX10_century_74 rfl (lv_at hl 1 rfl) ?_
      refine lv_if_le (tgt := 82) hx hb dX10_century_75 (by decide) (fun c_24 => ?_) (fun c_24 => ?_)
      · have b_25 : iv (-2147483648) 0 u_16 := iv_e1 c_24 (iv_top u_16) (iv_c (0 : Int32) (a := 0) (b := 0) (by decide)) (by decide)
        refine lv_iload_n hx hb dX10_century_82 rfl (lv_at hl 1 rfl) ?_
        have hP := subP (ws' := [(z 0, .inr (10, mo z 0 pz0_5 pz0_6 pz0_7 pz0_8 pz0_9 pz0_10 pz0_11 pz0_12 pz0_13 pz0_14 pz0_18 u_19 pz0_22 pz0_23 pz0_29)), (z 1, aI V 3075 f_20), (z 15, aI V 900 f_17), (z 16, aI V 6 f_18), (z 17, aI V 7 f_14)]) hP [3, 4, 0, 1, 2] rfl
        have hD := hD.sub (ws' := [(z 0, .inr (10, mo z 0 pz0_5 pz0_6 pz0_7 pz0_8 pz0_9 pz0_10 pz0_11 pz0_12 pz0_13 pz0_14 pz0_18 u_19 pz0_22 pz0_23 pz0_29)), (z 1, aI V 3075 f_20), (z 15, aI V 900 f_17), (z 16, aI V 6 f_18), (z 17, aI V 7 f_14)]) [3, 4, 0, 1, 2] rfl rfl
        exact fiI hx hb hr hlk hK hP hD hS dX10_century_83 (Nat.le_of_ble_eq_true rfl) (Nat.le_of_ble_eq_true rfl) (⟨0, u_19, f_20, f_17, f_18, f_14, tf_20, tf_18, tf_14, inn_21_0, rfl⟩)
      · have b_26 : iv 1 2147483647 u_16 := iv_l2 (Int32.not_le.mp c_24) (iv_c (0 : Int32) (a := 0) (b := 0) (by decide)) (iv_top u_16) (by decide)
        refine lv_aload_n hx hb dX10_century_78 rfl (lv_at hl 2 rfl) ?_
        refine jnV (wr := [(z 15, aI V 900 f_17), (z 16, aI V 6 f_18)]) (rnV (rest := []) ⟨hx, hb, hml, hown, hg⟩ (k_X10_notes_0 l V z f_14 0 pz0_5 pz0_6 pz0_7 pz0_8 pz0_9 pz0_10 pz0_11 pz0_12 pz0_13 pz0_14 pz0_18 u_19 pz0_22 pz0_23 pz0_29 f_20 tf_14 bpz0_5 bpz0_6 bpz0_7 bpz0_8 bpz0_10 bpz0_11 bpz0_12 bpz0_13 bpz0_14 bpz0_18 bpz0_22 bpz0_29 tf_20 inn_21_0) mt_X10_notes q_7_72 ⟨Nat.le_of_ble_eq_true rfl, Nat.le_of_ble_eq_true rfl⟩ hK hP hD hS hA hE [2, 3, 4] rfl rfl 3 rfl rfl rfl rfl hl.1 rfl (Nat.le_of_ble_eq_true rfl) dX10_century_79 ⟨Nat.le_of_ble_eq_true rfl, Nat.le_of_ble_eq_true rfl⟩) hP hD hS hA [2, 3, 4] [0, 1] rfl rfl rfl (by decide) (fun  w H locs hw hP hD hS => ?_)
        obtain ⟨f_27, tf_27, g_28, rfl⟩ := hw
        have hP : va_P V.1 vwCl [(z 15, aI V 900 f_17), (z 16, aI V 6 f_18), (z 17, aI V 7 f_14), (z 0, .inr (10, mo z 0 pz0_5 pz0_6 pz0_7 pz0_8 pz0_9 pz0_10 pz0_11 pz0_12 pz0_13 pz0_14 pz0_18 u_19 pz0_22 pz0_23 pz0_29)), (z 1, aI V 3075 f_27)] H := hP
        have hD : va_D A [(z 15, aI V 900 f_17), (z 16, aI V 6 f_18), (z 17, aI V 7 f_14), (z 0, .inr (10, mo z 0 pz0_5 pz0_6 pz0_7 pz0_8 pz0_9 pz0_10 pz0_11 pz0_12 pz0_13 pz0_14 pz0_18 u_19 pz0_22 pz0_23 pz0_29)), (z 1, aI V 3075 f_27)] := hD
        refine lv_iload_n hx hb dX10_century_82 rfl (lv_at hl 1 rfl) ?_
        have hP := subP (ws' := [(z 0, .inr (10, mo z 0 pz0_5 pz0_6 pz0_7 pz0_8 pz0_9 pz0_10 pz0_11 pz0_12 pz0_13 pz0_14 pz0_18 u_19 pz0_22 pz0_23 pz0_29)), (z 1, aI V 3075 f_27), (z 15, aI V 900 f_17), (z 16, aI V 6 f_18), (z 17, aI V 7 f_14)]) hP [3, 4, 0, 1, 2] rfl
        have hD := hD.sub (ws' := [(z 0, .inr (10, mo z 0 pz0_5 pz0_6 pz0_7 pz0_8 pz0_9 pz0_10 pz0_11 pz0_12 pz0_13 pz0_14 pz0_18 u_19 pz0_22 pz0_23 pz0_29)), (z 1, aI V 3075 f_27), (z 15, aI V 900 f_17), (z 16, aI V 6 f_18), (z 17, aI V 7 f_14)]) [3, 4, 0, 1, 2] rfl rfl
        exact fiI hx hb hr hlk hK hP hD hS dX10_century_83 (Nat.le_of_ble_eq_true rfl) (Nat.le_of_ble_eq_true rfl) (⟨0, u_19, f_27, f_17, f_18, f_14, tf_27, tf_18, tf_14, g_28, rfl⟩)
    · have b_29 : iv 0 39 u_15 := iv_l1 (Int32.not_le.mp c_22) bu_15 b_13 (by decide)
      refine lv_aload_n hx hb dX10_century_40 rfl (lv_at hl 2 rfl) ?_
      refine jnI (wr := [(z 15, aI V 900 f_17), (z 16, aI V 6 f_18), (z 17, aI V 7 f_14), (z 1, aI V 3075 f_20)]) (rnV (rest := []) ⟨hx, hb, hml, hown, hg⟩ (k_X10_drawn_0 l V z 0 pz0_5 pz0_6 pz0_7 pz0_8 pz0_9 pz0_10 pz0_11 pz0_12 pz0_13 pz0_14 pz0_18 u_19 pz0_22 pz0_23 pz0_29 bpz0_5 bpz0_6 bpz0_7 bpz0_8 bpz0_10 bpz0_11 bpz0_12 bpz0_13 bpz0_14 bpz0_18 bpz0_22 bpz0_29) mt_X10_drawn q_7_144 ⟨Nat.le_of_ble_eq_true rfl, Nat.le_of_ble_eq_true rfl⟩ hK hP hD hS hA hE [3] rfl rfl 3 rfl rfl rfl rfl hl.1 rfl (Nat.le_of_ble_eq_true rfl) dX10_century_41 ⟨Nat.le_of_ble_eq_true rfl, Nat.le_of_ble_eq_true rfl⟩) hP hD hS hA [3] [0, 1, 2, 4] rfl rfl rfl (by decide) (fun r_30 w H locs hw hP hD hS => ?_)
      obtain ⟨v_31, br_30, rfl⟩ := hw
      have hP : va_P V.1 vwCl [(z 15, aI V 900 f_17), (z 16, aI V 6 f_18), (z 17, aI V 7 f_14), (z 1, aI V 3075 f_20), (z 0, .inr (10, mo z 0 pz0_5 pz0_6 pz0_7 pz0_8 pz0_9 pz0_10 pz0_11 pz0_12 pz0_13 pz0_14 pz0_18 v_31 pz0_22 pz0_23 pz0_29))] H := hP
      have hD : va_D A [(z 15, aI V 900 f_17), (z 16, aI V 6 f_18), (z 17, aI V 7 f_14), (z 1, aI V 3075 f_20), (z 0, .inr (10, mo z 0 pz0_5 pz0_6 pz0_7 pz0_8 pz0_9 pz0_10 pz0_11 pz0_12 pz0_13 pz0_14 pz0_18 v_31 pz0_22 pz0_23 pz0_29))] := hD
      refine lv_istore (lv' := [(5, .int r_30), (4, .int u_15), (3, .int u_16), (0, .ref (z 0)), (1, .int a1), (2, .int a2)]) hx hb dX10_century_44 hl (by decide) rfl (fun ls hl => ?_)
      refine lv_aload_n hx hb dX10_century_46 rfl (lv_at hl 3 rfl) ?_
      refine lv_iload hx hb dX10_century_47 (lv_at hl 0 rfl) ?_
      refine lv_i2l hx hb dX10_century_49 rfl ?_
      refine lv_topl (fun j_32 ej_32 => ?_)
      have bj_32 : ivL 0 29 j_32 := by rw [ej_32]; exact ivL_of br_30
      refine jnI (wr := [(z 15, aI V 900 f_17), (z 16, aI V 6 f_18), (z 17, aI V 7 f_14)]) (rnV (rest := []) ⟨hx, hb, hml, hown, hg⟩ (k_X10_whyNot_0 l V z j_32 0 pz0_5 pz0_6 pz0_7 pz0_8 pz0_9 pz0_10 pz0_11 pz0_12 pz0_13 pz0_14 pz0_18 v_31 pz0_22 pz0_23 pz0_29 f_20 bpz0_5 bpz0_6 bpz0_7 bpz0_8 bpz0_10 bpz0_11 bpz0_12 bpz0_13 bpz0_14 bpz0_18 bpz0_22 bpz0_29 tf_20) mt_X10_whyNot q_7_116 ⟨Nat.le_of_ble_eq_true rfl, Nat.le_of_ble_eq_true rfl⟩ hK hP hD hS hA hE [4, 3] rfl rfl 4 rfl rfl rfl rfl hl.1 rfl (Nat.le_of_ble_eq_true rfl) dX10_century_50 ⟨Nat.le_of_ble_eq_true rfl, Nat.le_of_ble_eq_true rfl⟩) hP hD hS hA [4, 3] [0, 1, 2] rfl rfl rfl (by decide) (fun r_33 w H locs hw hP hD hS => ?_)
      obtain ⟨br_33, g_34, g_35, rfl⟩ := hw
      have hP : va_P V.1 vwCl [(z 15, aI V 900 f_17), (z 16, aI V 6 f_18), (z 17, aI V 7 f_14), (z 0, .inr (10, mo z 0 pz0_5 pz0_6 pz0_7 pz0_8 pz0_9 pz0_10 pz0_11 pz0_12 pz0_13 pz0_14 pz0_18 v_31 pz0_22 pz0_23 pz0_29)), (z 1, aI V 3075 f_20)] H := hP
      have hD : va_D A [(z 15, aI V 900 f_17), (z 16, aI V 6 f_18), (z 17, aI V 7 f_14), (z 0, .inr (10, mo z 0 pz0_5 pz0_6 pz0_7 pz0_8 pz0_9 pz0_10 pz0_11 pz0_12 pz0_13 pz0_14 pz0_18 v_31 pz0_22 pz0_23 pz0_29)), (z 1, aI V 3075 f_20)] := hD
      refine lv_if_eq (tgt := 59) hx hb dX10_century_53 (by decide) (fun c_36 => ?_) (fun c_36 => ?_)
      · have b_37 : iv 0 0 r_33 := iv_q c_36 (iv_c (0 : Int32) (a := 0) (b := 0) (by decide))
        refine lv_aload_n hx hb dX10_century_59 rfl (lv_at hl 3 rfl) ?_
        refine lv_iload hx hb dX10_century_60 (lv_at hl 0 rfl) ?_
        refine jnV (wr := [(z 17, aI V 7 f_14)]) (rnV (rest := []) ⟨hx, hb, hml, hown, hg⟩ (k_X10_does_0 l V z r_30 f_17 f_18 0 pz0_5 pz0_6 pz0_7 pz0_8 pz0_9 pz0_10 pz0_11 pz0_12 pz0_13 pz0_14 pz0_18 v_31 pz0_22 pz0_23 pz0_29 f_20 br_30 tf_18 bpz0_5 bpz0_6 bpz0_7 bpz0_8 bpz0_10 bpz0_11 bpz0_12 bpz0_13 bpz0_14 bpz0_18 bpz0_22 bpz0_29 tf_20 inn_21_0 (by have q9 := (g_34 (iv_eqp b_37 (iv_c (0 : Int32) (by decide)))); rw [ej_32, toI64] at q9; exact q9)) mt_X10_does q_7_123 ⟨Nat.le_of_ble_eq_true rfl, Nat.le_of_ble_eq_true rfl⟩ hK hP hD hS hA hE [0, 1, 3, 4] rfl rfl 3 rfl rfl rfl rfl hl.1 rfl (Nat.le_of_ble_eq_true rfl) dX10_century_62 ⟨Nat.le_of_ble_eq_true rfl, Nat.le_of_ble_eq_true rfl⟩) hP hD hS hA [0, 1, 3, 4] [2] rfl rfl rfl (by decide) (fun  w H locs hw hP hD hS => ?_)
        obtain ⟨f_38, f_39, f_40, tf_39, tf_40, g_41, rfl⟩ := hw
        have hP : va_P V.1 vwCl [(z 17, aI V 7 f_14), (z 15, aI V 900 f_38), (z 16, aI V 6 f_39), (z 0, .inr (10, mo z 0 pz0_5 pz0_6 pz0_7 pz0_8 pz0_9 pz0_10 pz0_11 pz0_12 pz0_13 pz0_14 pz0_18 v_31 pz0_22 pz0_23 pz0_29)), (z 1, aI V 3075 f_40)] H := hP
        have hD : va_D A [(z 17, aI V 7 f_14), (z 15, aI V 900 f_38), (z 16, aI V 6 f_39), (z 0, .inr (10, mo z 0 pz0_5 pz0_6 pz0_7 pz0_8 pz0_9 pz0_10 pz0_11 pz0_12 pz0_13 pz0_14 pz0_18 v_31 pz0_22 pz0_23 pz0_29)), (z 1, aI V 3075 f_40)] := hD
        obtain ⟨x_42, ex_42⟩ : ∃ z9 : Int32, z9 = u_16 + 1 := ⟨_, rfl⟩
        refine lv_iinc (v := x_42) (lv' := [(3, .int x_42), (5, .int r_30), (4, .int u_15), (0, .ref (z 0)), (1, .int a1), (2, .int a2)]) hx hb dX10_century_65 hl (k := 2) rfl (by rw [ex_42]; rfl) (by decide) rfl (fun ls hl => ?_)
        obtain ⟨x_43, ex_43⟩ : ∃ z9 : Int32, z9 = u_15 + 1 := ⟨_, rfl⟩
        have bx_43 : iv 1 40 x_43 := by rw [ex_43]; exact iv_add b_29 (iv_c (1 : Int32) (a := 1) (b := 1) (by decide)) (by decide)
        refine lv_iinc (v := x_43) (lv' := [(4, .int x_43), (3, .int x_42), (5, .int r_30), (0, .ref (z 0)), (1, .int a1), (2, .int a2)]) hx hb dX10_century_68 hl (k := 2) rfl (by rw [ex_43]; rfl) (by decide) rfl (fun ls hl => ?_)
        refine lv_goto (tgt := 34) hx hb dX10_century_71 (by decide) ?_
        have hP := subP (ws' := [(z 15, aI V 900 f_38), (z 16, aI V 6 f_39), (z 17, aI V 7 f_14), (z 0, .inr (10, mo z 0 pz0_5 pz0_6 pz0_7 pz0_8 pz0_9 pz0_10 pz0_11 pz0_12 pz0_13 pz0_14 pz0_18 v_31 pz0_22 pz0_23 pz0_29)), (z 1, aI V 3075 f_40)]) hP [1, 2, 0, 3, 4] rfl
        have hD := hD.sub (ws' := [(z 15, aI V 900 f_38), (z 16, aI V 6 f_39), (z 17, aI V 7 f_14), (z 0, .inr (10, mo z 0 pz0_5 pz0_6 pz0_7 pz0_8 pz0_9 pz0_10 pz0_11 pz0_12 pz0_13 pz0_14 pz0_18 v_31 pz0_22 pz0_23 pz0_29)), (z 1, aI V 3075 f_40)]) [1, 2, 0, 3, 4] rfl rfl
        exact ihn_21 _ _ _ _ (by rw [en_21, ex_43]; exact mu_up b_29 (by decide)) ⟨x_43, x_42, f_38, f_39, v_31, f_40, (iv_w bx_43 (by decide)), tf_39, tf_40, g_41, rfl, hP, hD, hS, lv_sub hl [0, 1, 3, 4, 5] rfl⟩
      · have b_44 : iv 1 2 r_33 := iv_n0 c_36 br_33 (iv_c (0 : Int32) (a := 0) (b := 0) (by decide)) (by decide)
        refine lv_goto (tgt := 68) hx hb dX10_century_56 (by decide) ?_
        obtain ⟨x_45, ex_45⟩ : ∃ z9 : Int32, z9 = u_15 + 1 := ⟨_, rfl⟩
        have bx_45 : iv 1 40 x_45 := by rw [ex_45]; exact iv_add b_29 (iv_c (1 : Int32) (a := 1) (b := 1) (by decide)) (by decide)
        refine lv_iinc (v := x_45) (lv' := [(4, .int x_45), (5, .int r_30), (3, .int u_16), (0, .ref (z 0)), (1, .int a1), (2, .int a2)]) hx hb dX10_century_68 hl (k := 1) rfl (by rw [ex_45]; rfl) (by decide) rfl (fun ls hl => ?_)
        refine lv_goto (tgt := 34) hx hb dX10_century_71 (by decide) ?_
        exact ihn_21 _ _ _ _ (by rw [en_21, ex_45]; exact mu_up b_29 (by decide)) ⟨x_45, u_16, f_17, f_18, v_31, f_20, (iv_w bx_45 (by decide)), tf_18, tf_20, inn_21_0, rfl, hP, hD, hS, lv_sub hl [0, 2, 3, 4, 5] rfl⟩
  · have b_46 : iv 0 0 r_2 := iv_q c_6 (iv_c (0 : Int32) (a := 0) (b := 0) (by decide))
    refine lv_bipush (v := (-3)) hx hb dX10_century_17 (by decide) ?_
    exact fiI hx hb hr hlk hK hP hD hS dX10_century_19 (Nat.le_of_ble_eq_true rfl) (Nat.le_of_ble_eq_true rfl) (⟨0, pz0_19, fz1, fz15, fz16, fz17, tfz1, tfz16, tfz17, hf0, rfl⟩)
theorem dX10_laysLine_0 : decode cX10_laysLine 0 = .ok (.iconst 0, 1) := by decide +kernel
theorem dX10_laysLine_1 : decode cX10_laysLine 1 = .ok (.istore_n 1, 1) := by decide +kernel
theorem dX10_laysLine_2 : decode cX10_laysLine 2 = .ok (.iload_n 1, 1) := by decide +kernel
theorem dX10_laysLine_3 : decode cX10_laysLine 3 = .ok (.sipush 10000, 3) := by decide +kernel
theorem dX10_laysLine_6 : decode cX10_laysLine 6 = .ok (.if_icmp .ge 16, 3) := by decide +kernel
theorem dX10_laysLine_22 : decode cX10_laysLine 22 = .ok (.aload_n 0, 1) := by decide +kernel
theorem dX10_laysLine_23 : decode cX10_laysLine 23 = .ok (.invokevirtual 269, 3) := by decide +kernel
theorem dX10_laysLine_26 : decode cX10_laysLine 26 = .ok (.istore_n 1, 1) := by decide +kernel
theorem dX10_laysLine_27 : decode cX10_laysLine 27 = .ok (.iconst 0, 1) := by decide +kernel
theorem dX10_laysLine_28 : decode cX10_laysLine 28 = .ok (.istore_n 2, 1) := by decide +kernel
theorem dX10_laysLine_29 : decode cX10_laysLine 29 = .ok (.aload_n 0, 1) := by decide +kernel
theorem q_6_5 : Cond.fieldLink "BeaconDelayModel" 42 "BeaconDelayModel" "placeIn" "[I" ∈ gw := gw_6 (i := 5) (by decide +kernel) rfl
theorem dX10_laysLine_30 : decode cX10_laysLine 30 = .ok (.getfield 42, 3) := by decide +kernel
theorem dX10_laysLine_33 : decode cX10_laysLine 33 = .ok (.iload_n 1, 1) := by decide +kernel
theorem dX10_laysLine_34 : decode cX10_laysLine 34 = .ok (.iaload, 1) := by decide +kernel
theorem dX10_laysLine_35 : decode cX10_laysLine 35 = .ok (.iconst (-1), 1) := by decide +kernel
theorem dX10_laysLine_36 : decode cX10_laysLine 36 = .ok (.if_icmp .ne 37, 3) := by decide +kernel
theorem dX10_laysLine_73 : decode cX10_laysLine 73 = .ok (.aload_n 0, 1) := by decide +kernel
theorem dX10_laysLine_74 : decode cX10_laysLine 74 = .ok (.aload_n 0, 1) := by decide +kernel
theorem dX10_laysLine_75 : decode cX10_laysLine 75 = .ok (.getfield 42, 3) := by decide +kernel
theorem dX10_laysLine_78 : decode cX10_laysLine 78 = .ok (.iload_n 1, 1) := by decide +kernel
theorem dX10_laysLine_79 : decode cX10_laysLine 79 = .ok (.iaload, 1) := by decide +kernel
theorem q_6_6 : Cond.fieldLink "BeaconDelayModel" 341 "BeaconDelayModel" "tail" "I" ∈ gw := gw_6 (i := 6) (by decide +kernel) rfl
theorem dX10_laysLine_80 : decode cX10_laysLine 80 = .ok (.putfield 341, 3) := by decide +kernel
theorem dX10_laysLine_83 : decode cX10_laysLine 83 = .ok (.aload_n 0, 1) := by decide +kernel
theorem dX10_laysLine_84 : decode cX10_laysLine 84 = .ok (.iload_n 2, 1) := by decide +kernel
theorem dX10_laysLine_85 : decode cX10_laysLine 85 = .ok (.aload_n 0, 1) := by decide +kernel
theorem dX10_laysLine_86 : decode cX10_laysLine 86 = .ok (.getfield 341, 3) := by decide +kernel
theorem dX10_laysLine_89 : decode cX10_laysLine 89 = .ok (.isub, 1) := by decide +kernel
theorem q_6_7 : Cond.fieldLink "BeaconDelayModel" 344 "BeaconDelayModel" "round1" "I" ∈ gw := gw_6 (i := 7) (by decide +kernel) rfl
theorem dX10_laysLine_90 : decode cX10_laysLine 90 = .ok (.putfield 344, 3) := by decide +kernel
theorem dX10_laysLine_93 : decode cX10_laysLine 93 = .ok (.return_, 1) := by decide +kernel
theorem dX10_laysLine_39 : decode cX10_laysLine 39 = .ok (.aload_n 0, 1) := by decide +kernel
theorem dX10_laysLine_40 : decode cX10_laysLine 40 = .ok (.getfield 42, 3) := by decide +kernel
theorem dX10_laysLine_43 : decode cX10_laysLine 43 = .ok (.iload_n 1, 1) := by decide +kernel
theorem dX10_laysLine_44 : decode cX10_laysLine 44 = .ok (.iload_n 2, 1) := by decide +kernel
theorem dX10_laysLine_45 : decode cX10_laysLine 45 = .ok (.iastore, 1) := by decide +kernel
theorem dX10_laysLine_46 : decode cX10_laysLine 46 = .ok (.aload_n 0, 1) := by decide +kernel
theorem q_6_4 : Cond.fieldLink "BeaconDelayModel" 39 "BeaconDelayModel" "line" "[I" ∈ gw := gw_6 (i := 4) (by decide +kernel) rfl
theorem dX10_laysLine_47 : decode cX10_laysLine 47 = .ok (.getfield 39, 3) := by decide +kernel
theorem dX10_laysLine_50 : decode cX10_laysLine 50 = .ok (.iload_n 2, 1) := by decide +kernel
theorem dX10_laysLine_51 : decode cX10_laysLine 51 = .ok (.iload_n 1, 1) := by decide +kernel
theorem dX10_laysLine_52 : decode cX10_laysLine 52 = .ok (.iastore, 1) := by decide +kernel
theorem dX10_laysLine_53 : decode cX10_laysLine 53 = .ok (.iinc 2 1, 3) := by decide +kernel
theorem dX10_laysLine_56 : decode cX10_laysLine 56 = .ok (.aload_n 0, 1) := by decide +kernel
theorem dX10_laysLine_57 : decode cX10_laysLine 57 = .ok (.iload_n 1, 1) := by decide +kernel
theorem dX10_laysLine_58 : decode cX10_laysLine 58 = .ok (.iconst 0, 1) := by decide +kernel
theorem dX10_laysLine_59 : decode cX10_laysLine 59 = .ok (.aload_n 0, 1) := by decide +kernel
theorem dX10_laysLine_60 : decode cX10_laysLine 60 = .ok (.getfield 13, 3) := by decide +kernel
theorem dX10_laysLine_63 : decode cX10_laysLine 63 = .ok (.bipush 51, 2) := by decide +kernel
theorem dX10_laysLine_65 : decode cX10_laysLine 65 = .ok (.iaload, 1) := by decide +kernel
theorem dX10_laysLine_66 : decode cX10_laysLine 66 = .ok (.invokevirtual 272, 3) := by decide +kernel
theorem dX10_laysLine_69 : decode cX10_laysLine 69 = .ok (.istore_n 1, 1) := by decide +kernel
theorem dX10_laysLine_70 : decode cX10_laysLine 70 = .ok (.goto (-41), 3) := by decide +kernel
theorem dX10_laysLine_9 : decode cX10_laysLine 9 = .ok (.aload_n 0, 1) := by decide +kernel
theorem dX10_laysLine_10 : decode cX10_laysLine 10 = .ok (.getfield 42, 3) := by decide +kernel
theorem dX10_laysLine_13 : decode cX10_laysLine 13 = .ok (.iload_n 1, 1) := by decide +kernel
theorem dX10_laysLine_14 : decode cX10_laysLine 14 = .ok (.iconst (-1), 1) := by decide +kernel
theorem dX10_laysLine_15 : decode cX10_laysLine 15 = .ok (.iastore, 1) := by decide +kernel
theorem dX10_laysLine_16 : decode cX10_laysLine 16 = .ok (.iinc 1 1, 3) := by decide +kernel
theorem dX10_laysLine_19 : decode cX10_laysLine 19 = .ok (.goto (-17), 3) := by decide +kernel
set_option maxHeartbeats 4000000 in
set_option maxRecDepth 100000 in
theorem k_X10_laysLine_0 (l : Launch) (V : GV) (z : Nat → Nat) (fz15 : Nat → Int32) (fz16 : Nat → Int32) (fz20 : Nat → Int32) (fz21 : Nat → Int32) (pz0_0 : Int32) (pz0_5 : Int32) (pz0_6 : Int32) (pz0_7 : Int32) (pz0_8 : Int32) (pz0_9 : Int32) (pz0_10 : Int32) (pz0_11 : Int32) (pz0_12 : Int32) (pz0_13 : Int32) (pz0_14 : Int32) (pz0_18 : Int32) (pz0_19 : Int32) (pz0_22 : Int32) (pz0_23 : Int32) (pz0_29 : Int32) (fz1 : Nat → Int32) (tfz16 : ivT tW fz16) (tfz20 : ∀ j, iv 0 9999 (fz20 j)) (tfz21 : ∀ j, iv (-1) 9999 (fz21 j)) (bpz0_5 : iv 0 900 pz0_5) (bpz0_6 : iv 0 900 pz0_6) (bpz0_7 : iv 0 900 pz0_7) (bpz0_8 : iv 0 900 pz0_8) (bpz0_10 : iv 0 999 pz0_10) (bpz0_11 : iv 0 4 pz0_11) (bpz0_12 : iv 0 900 pz0_12) (bpz0_13 : iv 0 4 pz0_13) (bpz0_14 : iv (-1) 900 pz0_14) (bpz0_18 : iv 0 2 pz0_18) (bpz0_22 : iv 0 9999 pz0_22) (bpz0_29 : iv 0 10000 pz0_29) (tfz1 : ivT tA fz1) (hf0 : RW fz1) : Ct l V yX10_laysLine (.code yX10_laysLine cX10_laysLine 3 none) 5 [.ref (z 0)] [(z 15, aI V 900 fz15), (z 16, aI V 6 fz16), (z 20, aI V 10001 fz20), (z 21, aI V 10000 fz21), (z 0, .inr (10, mo z pz0_0 pz0_5 pz0_6 pz0_7 pz0_8 pz0_9 pz0_10 pz0_11 pz0_12 pz0_13 pz0_14 pz0_18 pz0_19 pz0_22 pz0_23 pz0_29)), (z 1, aI V 3075 fz1)] 0 0 (QV V (fun (w : va_W) => ∃ (g0 : Nat → Int32) (g1 : Nat → Int32) (g2 : Nat → Int32) (g3 : Nat → Int32) (v4 : Int32) (v5 : Int32), (ivT tW g1) ∧ (∀ j, iv 0 9999 (g2 j)) ∧ (∀ j, iv (-1) 9999 (g3 j)) ∧ iv 0 9999 v4 ∧ (RW fz1) ∧ (1 ≤ (v5 : Int32).toInt ∧ 0 ≤ (v4 : Int32).toInt ∧ (v4 : Int32).toInt + (v5 : Int32).toInt ≤ 10000) ∧ w = [(z 15, aI V 900 g0), (z 16, aI V 6 g1), (z 20, aI V 10001 g2), (z 21, aI V 10000 g3), (z 0, .inr (10, mo z pz0_0 pz0_5 pz0_6 pz0_7 pz0_8 pz0_9 pz0_10 pz0_11 pz0_12 pz0_13 pz0_14 pz0_18 pz0_19 v4 v5 pz0_29)), (z 1, aI V 3075 fz1)])) := by
  refine Ct.of (by decide) (Nat.le_of_ble_eq_true rfl) (fun p e s m below meth c A ls hx hb hr hml hown hlk hnm hg hP hK hD hE hA hS hl => ?_)
  have hl : lv_has ls 3 [(0, .ref (z 0))] := hl
  refine lv_iconst (v := 0) hx hb dX10_laysLine_0 (by decide) ?_
  refine lv_istore_n (lv' := [(1, .int 0), (0, .ref (z 0))]) hx hb dX10_laysLine_1 rfl hl (by decide) rfl (fun ls hl => ?_)
  refine loopF (X := fun (n_3 : Nat) (H : Heap) (locs : List Loc) (ls : Array Slot) => ∃ (u_1 : Int32) (f_2 : Nat → Int32), (iv 0 10000 u_1) ∧ (∀ j, iv (-1) 9999 (f_2 j)) ∧ (∀ j : Nat, (j : Int) < (u_1 : Int32).toInt → f_2 j = -1) ∧ n_3 = (2147483647 - (u_1 : Int32).toInt).toNat ∧ va_P V.1 vwCl [(z 15, aI V 900 fz15), (z 16, aI V 6 fz16), (z 20, aI V 10001 fz20), (z 21, aI V 10000 f_2), (z 0, .inr (10, mo z pz0_0 pz0_5 pz0_6 pz0_7 pz0_8 pz0_9 pz0_10 pz0_11 pz0_12 pz0_13 pz0_14 pz0_18 pz0_19 pz0_22 pz0_23 pz0_29)), (z 1, aI V 3075 fz1)] H ∧ va_D A [(z 15, aI V 900 fz15), (z 16, aI V 6 fz16), (z 20, aI V 10001 fz20), (z 21, aI V 10000 f_2), (z 0, .inr (10, mo z pz0_0 pz0_5 pz0_6 pz0_7 pz0_8 pz0_9 pz0_10 pz0_11 pz0_12 pz0_13 pz0_14 pz0_18 pz0_19 pz0_22 pz0_23 pz0_29)), (z 1, aI V 3075 fz1)] ∧ va_S A s.heap H locs ∧ lv_has ls 3 [(1, .int u_1), (0, .ref (z 0))]) (g := fun ls => F0 m 2 ls []) (fun n_3 H locs ls hX ihn_3 => ?_) _ ⟨0, fz21, (iv_c (0 : Int32) (by decide)), tfz21, (fun j hj => absurd hj (by have h9 : (0 : Int32).toInt = 0 := (by decide); omega)), rfl, hP, hD, hS, lv_sub hl [0, 1] rfl⟩
  obtain ⟨u_1, f_2, bu_1, tf_2, inn_3_0, en_3, hP, hD, hS, hl⟩ := hX
  refine lv_iload_n hx hb dX10_laysLine_2 rfl (lv_at hl 0 rfl) ?_
  refine lv_sipush (v := 10000) hx hb dX10_laysLine_3 (by decide) ?_
  refine lv_icmp_ge (tgt := 22) hx hb dX10_laysLine_6 (by decide) (fun c_4 => ?_) (fun c_4 => ?_)
  · have b_5 : iv 10000 10000 u_1 := iv_e2 c_4 (iv_c (10000 : Int32) (a := 10000) (b := 10000) (by decide)) bu_1 (by decide)
    refine lv_aload_n hx hb dX10_laysLine_22 rfl (lv_at hl 1 rfl) ?_
    refine jnI (wr := [(z 15, aI V 900 fz15), (z 16, aI V 6 fz16), (z 20, aI V 10001 fz20), (z 21, aI V 10000 f_2)]) (rnV (rest := []) ⟨hx, hb, hml, hown, hg⟩ (k_X10_standNow_0 l V z pz0_0 pz0_5 pz0_6 pz0_7 pz0_8 pz0_9 pz0_10 pz0_11 pz0_12 pz0_13 pz0_14 pz0_18 pz0_19 pz0_22 pz0_23 pz0_29 fz1 bpz0_5 bpz0_6 bpz0_7 bpz0_8 bpz0_10 bpz0_11 bpz0_12 bpz0_13 bpz0_14 bpz0_18 bpz0_22 bpz0_29 tfz1) mt_X10_standNow q_7_11 ⟨Nat.le_of_ble_eq_true rfl, Nat.le_of_ble_eq_true rfl⟩ hK hP hD hS hA hE [4, 5] rfl rfl 4 rfl rfl rfl rfl hl.1 rfl (Nat.le_of_ble_eq_true rfl) dX10_laysLine_23 ⟨Nat.le_of_ble_eq_true rfl, Nat.le_of_ble_eq_true rfl⟩) hP hD hS hA [4, 5] [0, 1, 2, 3] rfl rfl rfl (by decide) (fun r_6 w H locs hw hP hD hS => ?_)
    obtain ⟨br_6, er_6, rfl⟩ := hw
    have hP : va_P V.1 vwCl [(z 15, aI V 900 fz15), (z 16, aI V 6 fz16), (z 20, aI V 10001 fz20), (z 21, aI V 10000 f_2), (z 0, .inr (10, mo z pz0_0 pz0_5 pz0_6 pz0_7 pz0_8 pz0_9 pz0_10 pz0_11 pz0_12 pz0_13 pz0_14 pz0_18 pz0_19 pz0_22 pz0_23 pz0_29)), (z 1, aI V 3075 fz1)] H := hP
    have hD : va_D A [(z 15, aI V 900 fz15), (z 16, aI V 6 fz16), (z 20, aI V 10001 fz20), (z 21, aI V 10000 f_2), (z 0, .inr (10, mo z pz0_0 pz0_5 pz0_6 pz0_7 pz0_8 pz0_9 pz0_10 pz0_11 pz0_12 pz0_13 pz0_14 pz0_18 pz0_19 pz0_22 pz0_23 pz0_29)), (z 1, aI V 3075 fz1)] := hD
    refine lv_istore_n (lv' := [(1, .int r_6), (0, .ref (z 0))]) hx hb dX10_laysLine_26 rfl hl (by decide) rfl (fun ls hl => ?_)
    refine lv_iconst (v := 0) hx hb dX10_laysLine_27 (by decide) ?_
    refine lv_istore_n (lv' := [(2, .int 0), (1, .int r_6), (0, .ref (z 0))]) hx hb dX10_laysLine_28 rfl hl (by decide) rfl (fun ls hl => ?_)
    refine loopF (X := fun (n_13 : Nat) (H : Heap) (locs : List Loc) (ls : Array Slot) => ∃ (u_7 : Int32) (u_8 : Int32) (f_9 : Nat → Int32) (f_10 : Nat → Int32) (f_11 : Nat → Int32) (f_12 : Nat → Int32), (iv 0 10000 u_7) ∧ (iv 0 9999 u_8) ∧ (ivT tW f_10) ∧ (∀ j, iv 0 9999 (f_11 j)) ∧ (∀ j, iv (-1) 9999 (f_12 j)) ∧ (FN u_7 f_12 10000 10000) ∧ (PL u_7 f_12) ∧ (RW fz1) ∧ n_13 = nn f_12 10000 ∧ va_P V.1 vwCl [(z 15, aI V 900 f_9), (z 16, aI V 6 f_10), (z 20, aI V 10001 f_11), (z 21, aI V 10000 f_12), (z 0, .inr (10, mo z pz0_0 pz0_5 pz0_6 pz0_7 pz0_8 pz0_9 pz0_10 pz0_11 pz0_12 pz0_13 pz0_14 pz0_18 pz0_19 pz0_22 pz0_23 pz0_29)), (z 1, aI V 3075 fz1)] H ∧ va_D A [(z 15, aI V 900 f_9), (z 16, aI V 6 f_10), (z 20, aI V 10001 f_11), (z 21, aI V 10000 f_12), (z 0, .inr (10, mo z pz0_0 pz0_5 pz0_6 pz0_7 pz0_8 pz0_9 pz0_10 pz0_11 pz0_12 pz0_13 pz0_14 pz0_18 pz0_19 pz0_22 pz0_23 pz0_29)), (z 1, aI V 3075 fz1)] ∧ va_S A s.heap H locs ∧ lv_has ls 3 [(2, .int u_7), (1, .int u_8), (0, .ref (z 0))]) (g := fun ls => F0 m 29 ls []) (fun n_13 H locs ls hX ihn_13 => ?_) _ ⟨0, r_6, fz15, fz16, fz20, f_2, (iv_c (0 : Int32) (by decide)), br_6, tfz16, tfz20, tf_2, (FN_i (by decide) (by decide)), (PL_0 inn_3_0 (Int32.not_lt.mpr c_4) (by decide)), hf0, rfl, hP, hD, hS, lv_sub hl [0, 1, 2] rfl⟩
    obtain ⟨u_7, u_8, f_9, f_10, f_11, f_12, bu_7, bu_8, tf_10, tf_11, tf_12, inn_13_0, inn_13_1, inn_13_2, en_13, hP, hD, hS, hl⟩ := hX
    refine lv_aload_n hx hb dX10_laysLine_29 rfl (lv_at hl 2 rfl) ?_
    refine va_get (ci := 10) (v := .ref (z 21)) (C := RX10) (T := TX10) (N := 40) hx hb hg inX10 hown hK hP 4 rfl rfl 21 (by decide) (hg _ q_6_5) (fun _ h9 => h9) rfl dX10_laysLine_30 ?_
    refine lv_iload_n hx hb dX10_laysLine_33 rfl (lv_at hl 1 rfl) ?_
    refine va_iald hx hb hK hP 3 0 rfl rfl (iv_in bu_8 (by decide)) dX10_laysLine_34 ?_
    refine lv_topi (fun x_14 ex_14 => ?_)
    have bx_14 : iv (-1) 9999 x_14 := by rw [ex_14]; exact tf_12 _
    refine lv_iconst (v := (-1)) hx hb dX10_laysLine_35 (by decide) ?_
    refine lv_icmp_ne (tgt := 73) hx hb dX10_laysLine_36 (by decide) (fun c_15 => ?_) (fun c_15 => ?_)
    · have b_16 : iv 0 9999 x_14 := iv_n0 c_15 bx_14 (iv_c ((-1) : Int32) (a := (-1)) (b := (-1)) (by decide)) (by decide)
      refine lv_aload_n hx hb dX10_laysLine_73 rfl (lv_at hl 2 rfl) ?_
      refine lv_aload_n hx hb dX10_laysLine_74 rfl (lv_at hl 2 rfl) ?_
      refine va_get (ci := 10) (v := .ref (z 21)) (C := RX10) (T := TX10) (N := 40) hx hb hg inX10 hown hK hP 4 rfl rfl 21 (by decide) (hg _ q_6_5) (fun _ h9 => h9) rfl dX10_laysLine_75 ?_
      refine lv_iload_n hx hb dX10_laysLine_78 rfl (lv_at hl 1 rfl) ?_
      refine va_iald hx hb hK hP 3 0 rfl rfl (iv_in bu_8 (by decide)) dX10_laysLine_79 ?_
      refine tpi (y := x_14) ex_14.symm ?_
      refine va_put (ci := 10) (v := .int x_14) (ty := .int) (C := RX10) (T := TX10) (N := 40) hx hb hg inX10 tyX10 tyX10_ok nmX10 hown hK hP hD hS 4 rfl rfl 22 (by decide) (hg _ q_6_6) (fun _ h9 => h9) rfl (by decide +kernel) rfl rfl (Nat.le_of_ble_eq_true rfl) dX10_laysLine_80 (fun H locs hP hD hS => ?_)
      have hP : va_P V.1 vwCl [(z 15, aI V 900 f_9), (z 16, aI V 6 f_10), (z 20, aI V 10001 f_11), (z 21, aI V 10000 f_12), (z 0, .inr (10, mo z pz0_0 pz0_5 pz0_6 pz0_7 pz0_8 pz0_9 pz0_10 pz0_11 pz0_12 pz0_13 pz0_14 pz0_18 pz0_19 x_14 pz0_23 pz0_29)), (z 1, aI V 3075 fz1)] H := hP
      have hD : va_D A [(z 15, aI V 900 f_9), (z 16, aI V 6 f_10), (z 20, aI V 10001 f_11), (z 21, aI V 10000 f_12), (z 0, .inr (10, mo z pz0_0 pz0_5 pz0_6 pz0_7 pz0_8 pz0_9 pz0_10 pz0_11 pz0_12 pz0_13 pz0_14 pz0_18 pz0_19 x_14 pz0_23 pz0_29)), (z 1, aI V 3075 fz1)] := hD
      refine lv_aload_n hx hb dX10_laysLine_83 rfl (lv_at hl 2 rfl) ?_
      refine lv_iload_n hx hb dX10_laysLine_84 rfl (lv_at hl 0 rfl) ?_
      refine lv_aload_n hx hb dX10_laysLine_85 rfl (lv_at hl 2 rfl) ?_
      refine va_get (ci := 10) (v := .int x_14) (C := RX10) (T := TX10) (N := 40) hx hb hg inX10 hown hK hP 4 rfl rfl 22 (by decide) (hg _ q_6_6) (fun _ h9 => h9) rfl dX10_laysLine_86 ?_
      refine lv_isub hx hb dX10_laysLine_89 ?_
      refine lv_topi (fun x_17 ex_17 => ?_)
      have bx_17 : iv (-9999) 10000 x_17 := by rw [ex_17]; exact iv_sub bu_7 b_16 (by decide)
      refine va_put (ci := 10) (v := .int x_17) (ty := .int) (C := RX10) (T := TX10) (N := 40) hx hb hg inX10 tyX10 tyX10_ok nmX10 hown hK hP hD hS 4 rfl rfl 23 (by decide) (hg _ q_6_7) (fun _ h9 => h9) rfl (by decide +kernel) rfl rfl (Nat.le_of_ble_eq_true rfl) dX10_laysLine_90 (fun H locs hP hD hS => ?_)
      have hP : va_P V.1 vwCl [(z 15, aI V 900 f_9), (z 16, aI V 6 f_10), (z 20, aI V 10001 f_11), (z 21, aI V 10000 f_12), (z 0, .inr (10, mo z pz0_0 pz0_5 pz0_6 pz0_7 pz0_8 pz0_9 pz0_10 pz0_11 pz0_12 pz0_13 pz0_14 pz0_18 pz0_19 x_14 x_17 pz0_29)), (z 1, aI V 3075 fz1)] H := hP
      have hD : va_D A [(z 15, aI V 900 f_9), (z 16, aI V 6 f_10), (z 20, aI V 10001 f_11), (z 21, aI V 10000 f_12), (z 0, .inr (10, mo z pz0_0 pz0_5 pz0_6 pz0_7 pz0_8 pz0_9 pz0_10 pz0_11 pz0_12 pz0_13 pz0_14 pz0_18 pz0_19 x_14 x_17 pz0_29)), (z 1, aI V 3075 fz1)] := hD
      exact fiV hx hb hr hlk hK hP hD hS dX10_laysLine_93 (Nat.le_of_ble_eq_true rfl) (Nat.le_of_ble_eq_true rfl) (⟨f_9, f_10, f_11, f_12, x_14, x_17, tf_10, tf_11, tf_12, b_16, inn_13_2, (by have q1 := toInt_sub ex_17 bu_7 b_16 (by decide); have q2 := inn_13_1 (u_8 : Int32).toNatClampNeg (by have q9 := bu_8; have q8 := clampNat q9.1; unfold iv at q9; omega); rw [← ex_14] at q2; have q3 := bu_7; have q4 := b_16; unfold iv at q3 q4; omega), rfl⟩)
    · have b_18 : iv (-1) (-1) x_14 := iv_q c_15 (iv_c ((-1) : Int32) (a := (-1)) (b := (-1)) (by decide))
      have b_19 : iv 0 9999 u_7 := by have q9 := FN_lt inn_13_0 (ex_14.symm.trans c_15) (by have q9 := bu_8; have q8 := clampNat q9.1; unfold iv at q9; omega); have q8 := bu_7; unfold iv at *; omega
      refine lv_aload_n hx hb dX10_laysLine_39 rfl (lv_at hl 2 rfl) ?_
      refine va_get (ci := 10) (v := .ref (z 21)) (C := RX10) (T := TX10) (N := 40) hx hb hg inX10 hown hK hP 4 rfl rfl 21 (by decide) (hg _ q_6_5) (fun _ h9 => h9) rfl dX10_laysLine_40 ?_
      refine lv_iload_n hx hb dX10_laysLine_43 rfl (lv_at hl 1 rfl) ?_
      refine lv_iload_n hx hb dX10_laysLine_44 rfl (lv_at hl 0 rfl) ?_
      refine va_iast hx hb hK hP hD hS 3 0 rfl rfl (iv_in bu_8 (by decide)) dX10_laysLine_45 (fun H locs hP hD hS => ?_)
      obtain ⟨f_20, ef_20, tf_20, hP, hD⟩ : ∃ f_20 : Nat → Int32, f_20 = (upd f_12 (u_8 : Int32).toNatClampNeg u_7) ∧ (∀ j, iv (-1) 9999 (f_20 j)) ∧ va_P V.1 vwCl [(z 15, aI V 900 f_9), (z 16, aI V 6 f_10), (z 20, aI V 10001 f_11), (z 21, aI V 10000 f_20), (z 0, .inr (10, mo z pz0_0 pz0_5 pz0_6 pz0_7 pz0_8 pz0_9 pz0_10 pz0_11 pz0_12 pz0_13 pz0_14 pz0_18 pz0_19 pz0_22 pz0_23 pz0_29)), (z 1, aI V 3075 fz1)] H ∧ va_D A [(z 15, aI V 900 f_9), (z 16, aI V 6 f_10), (z 20, aI V 10001 f_11), (z 21, aI V 10000 f_20), (z 0, .inr (10, mo z pz0_0 pz0_5 pz0_6 pz0_7 pz0_8 pz0_9 pz0_10 pz0_11 pz0_12 pz0_13 pz0_14 pz0_18 pz0_19 pz0_22 pz0_23 pz0_29)), (z 1, aI V 3075 fz1)] := ⟨_, rfl, ivU tf_12 _ (iv_w b_19 (by decide)), hP, hD⟩
      refine lv_aload_n hx hb dX10_laysLine_46 rfl (lv_at hl 2 rfl) ?_
      refine va_get (ci := 10) (v := .ref (z 20)) (C := RX10) (T := TX10) (N := 40) hx hb hg inX10 hown hK hP 4 rfl rfl 20 (by decide) (hg _ q_6_4) (fun _ h9 => h9) rfl dX10_laysLine_47 ?_
      refine lv_iload_n hx hb dX10_laysLine_50 rfl (lv_at hl 0 rfl) ?_
      refine lv_iload_n hx hb dX10_laysLine_51 rfl (lv_at hl 1 rfl) ?_
      refine va_iast hx hb hK hP hD hS 2 0 rfl rfl (iv_in b_19 (by decide)) dX10_laysLine_52 (fun H locs hP hD hS => ?_)
      obtain ⟨f_21, ef_21, tf_21, hP, hD⟩ : ∃ f_21 : Nat → Int32, f_21 = (upd f_11 (u_7 : Int32).toNatClampNeg u_8) ∧ (∀ j, iv 0 9999 (f_21 j)) ∧ va_P V.1 vwCl [(z 15, aI V 900 f_9), (z 16, aI V 6 f_10), (z 20, aI V 10001 f_21), (z 21, aI V 10000 f_20), (z 0, .inr (10, mo z pz0_0 pz0_5 pz0_6 pz0_7 pz0_8 pz0_9 pz0_10 pz0_11 pz0_12 pz0_13 pz0_14 pz0_18 pz0_19 pz0_22 pz0_23 pz0_29)), (z 1, aI V 3075 fz1)] H ∧ va_D A [(z 15, aI V 900 f_9), (z 16, aI V 6 f_10), (z 20, aI V 10001 f_21), (z 21, aI V 10000 f_20), (z 0, .inr (10, mo z pz0_0 pz0_5 pz0_6 pz0_7 pz0_8 pz0_9 pz0_10 pz0_11 pz0_12 pz0_13 pz0_14 pz0_18 pz0_19 pz0_22 pz0_23 pz0_29)), (z 1, aI V 3075 fz1)] := ⟨_, rfl, ivU tf_11 _ bu_8, hP, hD⟩
      obtain ⟨x_22, ex_22⟩ : ∃ z9 : Int32, z9 = u_7 + 1 := ⟨_, rfl⟩
      have bx_22 : iv 1 10000 x_22 := by rw [ex_22]; exact iv_add b_19 (iv_c (1 : Int32) (a := 1) (b := 1) (by decide)) (by decide)
      refine lv_iinc (v := x_22) (lv' := [(2, .int x_22), (1, .int u_8), (0, .ref (z 0))]) hx hb dX10_laysLine_53 hl (k := 0) rfl (by rw [ex_22]; rfl) (by decide) rfl (fun ls hl => ?_)
      refine lv_aload_n hx hb dX10_laysLine_56 rfl (lv_at hl 2 rfl) ?_
      refine lv_iload_n hx hb dX10_laysLine_57 rfl (lv_at hl 1 rfl) ?_
      refine lv_iconst (v := 0) hx hb dX10_laysLine_58 (by decide) ?_
      refine lv_aload_n hx hb dX10_laysLine_59 rfl (lv_at hl 2 rfl) ?_
      refine va_get (ci := 10) (v := .ref (z 1)) (C := RX10) (T := TX10) (N := 40) hx hb hg inX10 hown hK hP 4 rfl rfl 1 (by decide) (hg _ q_5_225) (fun _ h9 => h9) rfl dX10_laysLine_60 ?_
      refine lv_bipush (v := 51) hx hb dX10_laysLine_63 (by decide) ?_
      refine va_iald hx hb hK hP 5 0 rfl rfl (vin (by decide +kernel)) dX10_laysLine_65 ?_
      refine lv_topi (fun x_23 ex_23 => ?_)
      have bx_23 : iv 0 9 x_23 := by rw [ex_23]; exact rdT (a := 51) (n := 1) tfz1 (iv_c (51 : Int32) (a := 51) (b := 51) (by decide)) (by decide) (by decide +kernel)
      refine jnI (wr := [(z 20, aI V 10001 f_21), (z 21, aI V 10000 f_20)]) (rnV (rest := []) ⟨hx, hb, hml, hown, hg⟩ (k_X10_nightTo_0 l V z u_8 0 x_23 f_9 f_10 pz0_0 pz0_5 pz0_6 pz0_7 pz0_8 pz0_9 pz0_10 pz0_11 pz0_12 pz0_13 pz0_14 pz0_18 pz0_19 pz0_22 pz0_23 pz0_29 fz1 bu_8 tf_10 bpz0_5 bpz0_6 bpz0_7 bpz0_8 bpz0_10 bpz0_11 bpz0_12 bpz0_13 bpz0_14 bpz0_18 bpz0_22 bpz0_29 tfz1 inn_13_2) mt_X10_nightTo q_7_18 ⟨Nat.le_of_ble_eq_true rfl, Nat.le_of_ble_eq_true rfl⟩ hK hP hD hS hA hE [0, 1, 4, 5] rfl rfl 4 rfl rfl rfl rfl hl.1 rfl (Nat.le_of_ble_eq_true rfl) dX10_laysLine_66 ⟨Nat.le_of_ble_eq_true rfl, Nat.le_of_ble_eq_true rfl⟩) hP hD hS hA [0, 1, 4, 5] [2, 3] rfl rfl rfl (by decide) (fun r_24 w H locs hw hP hD hS => ?_)
      obtain ⟨f_25, f_26, tf_26, br_24, g_27, rfl⟩ := hw
      have hP : va_P V.1 vwCl [(z 20, aI V 10001 f_21), (z 21, aI V 10000 f_20), (z 15, aI V 900 f_25), (z 16, aI V 6 f_26), (z 0, .inr (10, mo z pz0_0 pz0_5 pz0_6 pz0_7 pz0_8 pz0_9 pz0_10 pz0_11 pz0_12 pz0_13 pz0_14 pz0_18 pz0_19 pz0_22 pz0_23 pz0_29)), (z 1, aI V 3075 fz1)] H := hP
      have hD : va_D A [(z 20, aI V 10001 f_21), (z 21, aI V 10000 f_20), (z 15, aI V 900 f_25), (z 16, aI V 6 f_26), (z 0, .inr (10, mo z pz0_0 pz0_5 pz0_6 pz0_7 pz0_8 pz0_9 pz0_10 pz0_11 pz0_12 pz0_13 pz0_14 pz0_18 pz0_19 pz0_22 pz0_23 pz0_29)), (z 1, aI V 3075 fz1)] := hD
      refine lv_istore_n (lv' := [(1, .int r_24), (2, .int x_22), (0, .ref (z 0))]) hx hb dX10_laysLine_69 rfl hl (by decide) rfl (fun ls hl => ?_)
      refine lv_goto (tgt := 29) hx hb dX10_laysLine_70 (by decide) ?_
      have hP := subP (ws' := [(z 15, aI V 900 f_25), (z 16, aI V 6 f_26), (z 20, aI V 10001 f_21), (z 21, aI V 10000 f_20), (z 0, .inr (10, mo z pz0_0 pz0_5 pz0_6 pz0_7 pz0_8 pz0_9 pz0_10 pz0_11 pz0_12 pz0_13 pz0_14 pz0_18 pz0_19 pz0_22 pz0_23 pz0_29)), (z 1, aI V 3075 fz1)]) hP [2, 3, 0, 1, 4, 5] rfl
      have hD := hD.sub (ws' := [(z 15, aI V 900 f_25), (z 16, aI V 6 f_26), (z 20, aI V 10001 f_21), (z 21, aI V 10000 f_20), (z 0, .inr (10, mo z pz0_0 pz0_5 pz0_6 pz0_7 pz0_8 pz0_9 pz0_10 pz0_11 pz0_12 pz0_13 pz0_14 pz0_18 pz0_19 pz0_22 pz0_23 pz0_29)), (z 1, aI V 3075 fz1)]) [2, 3, 0, 1, 4, 5] rfl rfl
      exact ihn_13 _ _ _ _ (by rw [en_13]; exact nn_dec ef_20 (by have q9 := bu_8; have q8 := clampNat q9.1; unfold iv at q9; omega) (ne_m1 b_19.1) (ex_14.symm.trans c_15)) ⟨x_22, r_24, f_25, f_26, f_21, f_20, (iv_w bx_22 (by decide)), (iv_w br_24 (by decide)), tf_26, tf_21, tf_20, (by rw [ef_20]; exact FN_s inn_13_0 (inc_toInt ex_22 b_19 (by decide)) (ex_14.symm.trans c_15) (by have q9 := bu_8; have q8 := clampNat q9.1; unfold iv at q9; omega) (ne_m1 b_19.1)), (PL_s inn_13_1 ef_20 (inc_toInt ex_22 b_19 (by decide))), g_27, rfl, hP, hD, hS, lv_sub hl [1, 0, 2] rfl⟩
  · have b_28 : iv 0 9999 u_1 := iv_l1 (Int32.not_le.mp c_4) bu_1 (iv_c (10000 : Int32) (a := 10000) (b := 10000) (by decide)) (by decide)
    refine lv_aload_n hx hb dX10_laysLine_9 rfl (lv_at hl 1 rfl) ?_
    refine va_get (ci := 10) (v := .ref (z 21)) (C := RX10) (T := TX10) (N := 40) hx hb hg inX10 hown hK hP 4 rfl rfl 21 (by decide) (hg _ q_6_5) (fun _ h9 => h9) rfl dX10_laysLine_10 ?_
    refine lv_iload_n hx hb dX10_laysLine_13 rfl (lv_at hl 0 rfl) ?_
    refine lv_iconst (v := (-1)) hx hb dX10_laysLine_14 (by decide) ?_
    refine va_iast hx hb hK hP hD hS 3 0 rfl rfl (iv_in b_28 (by decide)) dX10_laysLine_15 (fun H locs hP hD hS => ?_)
    obtain ⟨f_29, ef_29, tf_29, hP, hD⟩ : ∃ f_29 : Nat → Int32, f_29 = (upd f_2 (u_1 : Int32).toNatClampNeg (-1)) ∧ (∀ j, iv (-1) 9999 (f_29 j)) ∧ va_P V.1 vwCl [(z 15, aI V 900 fz15), (z 16, aI V 6 fz16), (z 20, aI V 10001 fz20), (z 21, aI V 10000 f_29), (z 0, .inr (10, mo z pz0_0 pz0_5 pz0_6 pz0_7 pz0_8 pz0_9 pz0_10 pz0_11 pz0_12 pz0_13 pz0_14 pz0_18 pz0_19 pz0_22 pz0_23 pz0_29)), (z 1, aI V 3075 fz1)] H ∧ va_D A [(z 15, aI V 900 fz15), (z 16, aI V 6 fz16), (z 20, aI V 10001 fz20), (z 21, aI V 10000 f_29), (z 0, .inr (10, mo z pz0_0 pz0_5 pz0_6 pz0_7 pz0_8 pz0_9 pz0_10 pz0_11 pz0_12 pz0_13 pz0_14 pz0_18 pz0_19 pz0_22 pz0_23 pz0_29)), (z 1, aI V 3075 fz1)] := ⟨_, rfl, ivU tf_2 _ (iv_c ((-1) : Int32) (by decide)), hP, hD⟩
    obtain ⟨x_30, ex_30⟩ : ∃ z9 : Int32, z9 = u_1 + 1 := ⟨_, rfl⟩
    have bx_30 : iv 1 10000 x_30 := by rw [ex_30]; exact iv_add b_28 (iv_c (1 : Int32) (a := 1) (b := 1) (by decide)) (by decide)
    refine lv_iinc (v := x_30) (lv' := [(1, .int x_30), (0, .ref (z 0))]) hx hb dX10_laysLine_16 hl (k := 0) rfl (by rw [ex_30]; rfl) (by decide) rfl (fun ls hl => ?_)
    refine lv_goto (tgt := 2) hx hb dX10_laysLine_19 (by decide) ?_
    exact ihn_3 _ _ _ _ (by rw [en_3, ex_30]; exact mu_up b_28 (by decide)) ⟨x_30, f_29, (iv_w bx_30 (by decide)), tf_29, (FL_s inn_3_0 b_28 (by decide) ef_29 ex_30), rfl, hP, hD, hS, lv_sub hl [0, 1] rfl⟩
theorem dX10_standAt_0 : decode cX10_standAt 0 = .ok (.aload_n 0, 1) := by decide +kernel
theorem dX10_standAt_1 : decode cX10_standAt 1 = .ok (.getfield 39, 3) := by decide +kernel
theorem dX10_standAt_4 : decode cX10_standAt 4 = .ok (.iload_n 1, 1) := by decide +kernel
theorem dX10_standAt_5 : decode cX10_standAt 5 = .ok (.aload_n 0, 1) := by decide +kernel
theorem dX10_standAt_6 : decode cX10_standAt 6 = .ok (.getfield 341, 3) := by decide +kernel
theorem dX10_standAt_9 : decode cX10_standAt 9 = .ok (.if_icmp .ge 7, 3) := by decide +kernel
theorem dX10_standAt_16 : decode cX10_standAt 16 = .ok (.aload_n 0, 1) := by decide +kernel
theorem dX10_standAt_17 : decode cX10_standAt 17 = .ok (.getfield 341, 3) := by decide +kernel
theorem dX10_standAt_20 : decode cX10_standAt 20 = .ok (.iload_n 1, 1) := by decide +kernel
theorem dX10_standAt_21 : decode cX10_standAt 21 = .ok (.aload_n 0, 1) := by decide +kernel
theorem dX10_standAt_22 : decode cX10_standAt 22 = .ok (.getfield 341, 3) := by decide +kernel
theorem dX10_standAt_25 : decode cX10_standAt 25 = .ok (.isub, 1) := by decide +kernel
theorem dX10_standAt_26 : decode cX10_standAt 26 = .ok (.aload_n 0, 1) := by decide +kernel
theorem dX10_standAt_27 : decode cX10_standAt 27 = .ok (.getfield 344, 3) := by decide +kernel
theorem dX10_standAt_30 : decode cX10_standAt 30 = .ok (.irem, 1) := by decide +kernel
theorem dX10_standAt_31 : decode cX10_standAt 31 = .ok (.iadd, 1) := by decide +kernel
theorem dX10_standAt_32 : decode cX10_standAt 32 = .ok (.iaload, 1) := by decide +kernel
theorem dX10_standAt_33 : decode cX10_standAt 33 = .ok (.ireturn, 1) := by decide +kernel
theorem dX10_standAt_12 : decode cX10_standAt 12 = .ok (.iload_n 1, 1) := by decide +kernel
theorem dX10_standAt_13 : decode cX10_standAt 13 = .ok (.goto 19, 3) := by decide +kernel
set_option maxHeartbeats 4000000 in
set_option maxRecDepth 100000 in
theorem k_X10_standAt_0 (l : Launch) (V : GV) (z : Nat → Nat) (a1 : Int32) (fz20 : Nat → Int32) (pz0_0 : Int32) (pz0_5 : Int32) (pz0_6 : Int32) (pz0_7 : Int32) (pz0_8 : Int32) (pz0_9 : Int32) (pz0_10 : Int32) (pz0_11 : Int32) (pz0_12 : Int32) (pz0_13 : Int32) (pz0_14 : Int32) (pz0_18 : Int32) (pz0_19 : Int32) (pz0_22 : Int32) (pz0_23 : Int32) (pz0_29 : Int32) (ba1 : iv 0 99999 a1) (tfz20 : ∀ j, iv 0 9999 (fz20 j)) (bpz0_5 : iv 0 900 pz0_5) (bpz0_6 : iv 0 900 pz0_6) (bpz0_7 : iv 0 900 pz0_7) (bpz0_8 : iv 0 900 pz0_8) (bpz0_10 : iv 0 999 pz0_10) (bpz0_11 : iv 0 4 pz0_11) (bpz0_12 : iv 0 900 pz0_12) (bpz0_13 : iv 0 4 pz0_13) (bpz0_14 : iv (-1) 900 pz0_14) (bpz0_18 : iv 0 2 pz0_18) (bpz0_22 : iv 0 9999 pz0_22) (bpz0_29 : iv 0 10000 pz0_29) (hf0 : 1 ≤ (pz0_23 : Int32).toInt ∧ 0 ≤ (pz0_22 : Int32).toInt ∧ (pz0_22 : Int32).toInt + (pz0_23 : Int32).toInt ≤ 10000) : Ct l V yX10_standAt (.code yX10_standAt cX10_standAt 2 (some .int)) 1 [.ref (z 0), .int a1] [(z 20, aI V 10001 fz20), (z 0, .inr (10, mo z pz0_0 pz0_5 pz0_6 pz0_7 pz0_8 pz0_9 pz0_10 pz0_11 pz0_12 pz0_13 pz0_14 pz0_18 pz0_19 pz0_22 pz0_23 pz0_29))] 0 0 (QI V (fun (r : Int32) (w : va_W) => iv 0 9999 r ∧ w = [(z 20, aI V 10001 fz20), (z 0, .inr (10, mo z pz0_0 pz0_5 pz0_6 pz0_7 pz0_8 pz0_9 pz0_10 pz0_11 pz0_12 pz0_13 pz0_14 pz0_18 pz0_19 pz0_22 pz0_23 pz0_29))])) := by
  refine Ct.of (by decide) (Nat.le_of_ble_eq_true rfl) (fun p e s m below meth c A ls hx hb hr hml hown hlk hnm hg hP hK hD hE hA hS hl => ?_)
  have hl : lv_has ls 2 [(0, .ref (z 0)), (1, .int a1)] := hl
  refine lv_aload_n hx hb dX10_standAt_0 rfl (lv_at hl 0 rfl) ?_
  refine va_get (ci := 10) (v := .ref (z 20)) (C := RX10) (T := TX10) (N := 40) hx hb hg inX10 hown hK hP 1 rfl rfl 20 (by decide) (hg _ q_6_4) (fun _ h9 => h9) rfl dX10_standAt_1 ?_
  refine lv_iload_n hx hb dX10_standAt_4 rfl (lv_at hl 1 rfl) ?_
  refine lv_aload_n hx hb dX10_standAt_5 rfl (lv_at hl 0 rfl) ?_
  refine va_get (ci := 10) (v := .int pz0_22) (C := RX10) (T := TX10) (N := 40) hx hb hg inX10 hown hK hP 1 rfl rfl 22 (by decide) (hg _ q_6_6) (fun _ h9 => h9) rfl dX10_standAt_6 ?_
  refine lv_icmp_ge (tgt := 16) hx hb dX10_standAt_9 (by decide) (fun c_1 => ?_) (fun c_1 => ?_)
  · refine lv_aload_n hx hb dX10_standAt_16 rfl (lv_at hl 0 rfl) ?_
    refine va_get (ci := 10) (v := .int pz0_22) (C := RX10) (T := TX10) (N := 40) hx hb hg inX10 hown hK hP 1 rfl rfl 22 (by decide) (hg _ q_6_6) (fun _ h9 => h9) rfl dX10_standAt_17 ?_
    refine lv_iload_n hx hb dX10_standAt_20 rfl (lv_at hl 1 rfl) ?_
    refine lv_aload_n hx hb dX10_standAt_21 rfl (lv_at hl 0 rfl) ?_
    refine va_get (ci := 10) (v := .int pz0_22) (C := RX10) (T := TX10) (N := 40) hx hb hg inX10 hown hK hP 1 rfl rfl 22 (by decide) (hg _ q_6_6) (fun _ h9 => h9) rfl dX10_standAt_22 ?_
    refine lv_isub hx hb dX10_standAt_25 ?_
    refine lv_topi (fun x_2 ex_2 => ?_)
    have bx_2 : iv 0 99999 x_2 := by rw [ex_2]; exact iv_subl c_1 ba1 bpz0_22 (by decide)
    refine lv_aload_n hx hb dX10_standAt_26 rfl (lv_at hl 0 rfl) ?_
    refine va_get (ci := 10) (v := .int pz0_23) (C := RX10) (T := TX10) (N := 40) hx hb hg inX10 hown hK hP 1 rfl rfl 23 (by decide) (hg _ q_6_7) (fun _ h9 => h9) rfl dX10_standAt_27 ?_
    have b_3 : iv 1 10000 pz0_23 := by have q9 := hf0; unfold iv; omega
    refine lv_irem hx hb dX10_standAt_30 (iv_nz b_3 (by decide)) ?_
    refine lv_topi (fun x_4 ex_4 => ?_)
    refine lv_iadd hx hb dX10_standAt_31 ?_
    refine lv_topi (fun x_5 ex_5 => ?_)
    have b_6 : iv 0 9999 x_5 := by have q9 := hf0; have q8 := rem_lt ex_4 bx_2 b_3 (by decide); have q7 := toInt_add ex_5 bpz0_22 (c := 0) (d := 10000) ⟨by omega, by omega⟩ (by decide); have q6 := bpz0_22; unfold iv at *; omega
    refine va_iald hx hb hK hP 0 0 rfl rfl (iv_in b_6 (by decide)) dX10_standAt_32 ?_
    refine lv_topi (fun x_7 ex_7 => ?_)
    have bx_7 : iv 0 9999 x_7 := by rw [ex_7]; exact tfz20 _
    exact fiI hx hb hr hlk hK hP hD hS dX10_standAt_33 (Nat.le_of_ble_eq_true rfl) (Nat.le_of_ble_eq_true rfl) (⟨bx_7, rfl⟩)
  · have b_8 : iv 0 9998 a1 := iv_l1 (Int32.not_le.mp c_1) ba1 bpz0_22 (by decide)
    have b_9 : iv 1 9999 pz0_22 := iv_l2 (Int32.not_le.mp c_1) ba1 bpz0_22 (by decide)
    refine lv_iload_n hx hb dX10_standAt_12 rfl (lv_at hl 1 rfl) ?_
    refine lv_goto (tgt := 32) hx hb dX10_standAt_13 (by decide) ?_
    refine va_iald hx hb hK hP 0 0 rfl rfl (iv_in b_8 (by decide)) dX10_standAt_32 ?_
    refine lv_topi (fun x_10 ex_10 => ?_)
    have bx_10 : iv 0 9999 x_10 := by rw [ex_10]; exact tfz20 _
    exact fiI hx hb hr hlk hK hP hD hS dX10_standAt_33 (Nat.le_of_ble_eq_true rfl) (Nat.le_of_ble_eq_true rfl) (⟨bx_10, rfl⟩)
theorem dX10_lies_0 : decode cX10_lies 0 = .ok (.aload_n 0, 1) := by decide +kernel
theorem dX10_lies_1 : decode cX10_lies 1 = .ok (.iconst 0, 1) := by decide +kernel
theorem dX10_lies_2 : decode cX10_lies 2 = .ok (.putfield 1, 3) := by decide +kernel
theorem dX10_lies_5 : decode cX10_lies 5 = .ok (.aload_n 0, 1) := by decide +kernel
theorem dX10_lies_6 : decode cX10_lies 6 = .ok (.iload_n 1, 1) := by decide +kernel
theorem dX10_lies_7 : decode cX10_lies 7 = .ok (.i2l, 1) := by decide +kernel
theorem dX10_lies_8 : decode cX10_lies 8 = .ok (.invokevirtual 262, 3) := by decide +kernel
theorem dX10_lies_11 : decode cX10_lies 11 = .ok (.ifCond .ne 6, 3) := by decide +kernel
theorem dX10_lies_17 : decode cX10_lies 17 = .ok (.iload_n 2, 1) := by decide +kernel
theorem dX10_lies_18 : decode cX10_lies 18 = .ok (.i2l, 1) := by decide +kernel
theorem dX10_lies_19 : decode cX10_lies 19 = .ok (.lconst 0, 1) := by decide +kernel
theorem q_7_157 : Cond.constantLong "BeaconDelayModel" 347 (99999 : Int64) ∈ gw := gw_7 (i := 157) (by decide +kernel) rfl
theorem dX10_lies_20 : decode cX10_lies 20 = .ok (.ldc2_w 347, 3) := by decide +kernel
theorem dX10_lies_23 : decode cX10_lies 23 = .ok (.invokestatic 159, 3) := by decide +kernel
theorem dX10_lies_26 : decode cX10_lies 26 = .ok (.ifCond .ne 6, 3) := by decide +kernel
theorem dX10_lies_32 : decode cX10_lies 32 = .ok (.aload_n 0, 1) := by decide +kernel
theorem q_7_161 : Cond.code yX10_laysLine prog_12_method_76_code 3 none ∈ gw := gw_7 (i := 161) (rfl) rfl
theorem q_7_160 : Cond.instanceMethod yX10_laysLine ∈ gw := gw_7 (i := 160) (by decide +kernel) rfl
theorem q_s_101 : Cond.selects "BeaconDelayModel" yX10_laysLine yX10_laysLine ∈ gw := gw_s (i := 101) (by decide +kernel) rfl
theorem mt_X10_laysLine : MtV yX10_laysLine cX10_laysLine 3 none 0 := ⟨⟨q_7_161, q_1_9, by decide +kernel, by decide +kernel, by decide +kernel⟩, q_7_160, q_s_101⟩
theorem q_7_158 : Cond.methodLink "BeaconDelayModel" 349 yX10_laysLine ∈ gw := gw_7 (i := 158) (by decide +kernel) rfl
theorem dX10_lies_33 : decode cX10_lies 33 = .ok (.invokevirtual 349, 3) := by decide +kernel
theorem dX10_lies_36 : decode cX10_lies 36 = .ok (.aload_n 0, 1) := by decide +kernel
theorem dX10_lies_37 : decode cX10_lies 37 = .ok (.iload_n 2, 1) := by decide +kernel
theorem q_7_165 : Cond.code yX10_standAt prog_12_method_77_code 2 (some FieldType.int) ∈ gw := gw_7 (i := 165) (rfl) rfl
theorem q_7_164 : Cond.instanceMethod yX10_standAt ∈ gw := gw_7 (i := 164) (by decide +kernel) rfl
theorem q_s_102 : Cond.selects "BeaconDelayModel" yX10_standAt yX10_standAt ∈ gw := gw_s (i := 102) (by decide +kernel) rfl
theorem mt_X10_standAt : MtV yX10_standAt cX10_standAt 2 (some .int) 1 := ⟨⟨q_7_165, q_1_9, by decide +kernel, by decide +kernel, by decide +kernel⟩, q_7_164, q_s_102⟩
theorem q_7_162 : Cond.methodLink "BeaconDelayModel" 352 yX10_standAt ∈ gw := gw_7 (i := 162) (by decide +kernel) rfl
theorem dX10_lies_38 : decode cX10_lies 38 = .ok (.invokevirtual 352, 3) := by decide +kernel
theorem dX10_lies_41 : decode cX10_lies 41 = .ok (.iload_n 1, 1) := by decide +kernel
theorem dX10_lies_42 : decode cX10_lies 42 = .ok (.invokestatic 231, 3) := by decide +kernel
theorem dX10_lies_45 : decode cX10_lies 45 = .ok (.ireturn, 1) := by decide +kernel
theorem dX10_lies_29 : decode cX10_lies 29 = .ok (.bipush (-3), 2) := by decide +kernel
theorem dX10_lies_31 : decode cX10_lies 31 = .ok (.ireturn, 1) := by decide +kernel
theorem dX10_lies_14 : decode cX10_lies 14 = .ok (.bipush (-2), 2) := by decide +kernel
theorem dX10_lies_16 : decode cX10_lies 16 = .ok (.ireturn, 1) := by decide +kernel
set_option maxHeartbeats 4000000 in
set_option maxRecDepth 100000 in
theorem k_X10_lies_0 (l : Launch) (V : GV) (z : Nat → Nat) (a1 : Int32) (a2 : Int32) (pz0_0 : Int32) (pz0_5 : Int32) (pz0_6 : Int32) (pz0_7 : Int32) (pz0_8 : Int32) (pz0_9 : Int32) (pz0_10 : Int32) (pz0_11 : Int32) (pz0_12 : Int32) (pz0_13 : Int32) (pz0_14 : Int32) (pz0_18 : Int32) (pz0_19 : Int32) (pz0_22 : Int32) (pz0_23 : Int32) (pz0_29 : Int32) (fz1 : Nat → Int32) (fz15 : Nat → Int32) (fz16 : Nat → Int32) (fz20 : Nat → Int32) (fz21 : Nat → Int32) (bpz0_5 : iv 0 900 pz0_5) (bpz0_6 : iv 0 900 pz0_6) (bpz0_7 : iv 0 900 pz0_7) (bpz0_8 : iv 0 900 pz0_8) (bpz0_10 : iv 0 999 pz0_10) (bpz0_11 : iv 0 4 pz0_11) (bpz0_12 : iv 0 900 pz0_12) (bpz0_13 : iv 0 4 pz0_13) (bpz0_14 : iv (-1) 900 pz0_14) (bpz0_18 : iv 0 2 pz0_18) (bpz0_22 : iv 0 9999 pz0_22) (bpz0_29 : iv 0 10000 pz0_29) (tfz1 : ivT tA fz1) (tfz16 : ivT tW fz16) (tfz20 : ∀ j, iv 0 9999 (fz20 j)) (tfz21 : ∀ j, iv (-1) 9999 (fz21 j)) (hf0 : RW fz1) : Ct l V yX10_lies (.code yX10_lies cX10_lies 3 (some .int)) 6 [.ref (z 0), .int a1, .int a2] [(z 0, .inr (10, mo z pz0_0 pz0_5 pz0_6 pz0_7 pz0_8 pz0_9 pz0_10 pz0_11 pz0_12 pz0_13 pz0_14 pz0_18 pz0_19 pz0_22 pz0_23 pz0_29)), (z 1, aI V 3075 fz1), (z 15, aI V 900 fz15), (z 16, aI V 6 fz16), (z 20, aI V 10001 fz20), (z 21, aI V 10000 fz21)] 0 0 (QI V (fun (r : Int32) (w : va_W) => ∃ (v0 : Int32) (v1 : Int32) (v2 : Int32) (g3 : Nat → Int32) (g4 : Nat → Int32) (g5 : Nat → Int32) (g6 : Nat → Int32), iv 0 9999 v1 ∧ (ivT tW g4) ∧ (∀ j, iv 0 9999 (g5 j)) ∧ (∀ j, iv (-1) 9999 (g6 j)) ∧ iv (-3) 4 r ∧ (RW fz1) ∧ w = [(z 0, .inr (10, mo z v0 pz0_5 pz0_6 pz0_7 pz0_8 pz0_9 pz0_10 pz0_11 pz0_12 pz0_13 pz0_14 pz0_18 pz0_19 v1 v2 pz0_29)), (z 1, aI V 3075 fz1), (z 15, aI V 900 g3), (z 16, aI V 6 g4), (z 20, aI V 10001 g5), (z 21, aI V 10000 g6)])) := by
  refine Ct.of (by decide) (Nat.le_of_ble_eq_true rfl) (fun p e s m below meth c A ls hx hb hr hml hown hlk hnm hg hP hK hD hE hA hS hl => ?_)
  have hl : lv_has ls 3 [(0, .ref (z 0)), (1, .int a1), (2, .int a2)] := hl
  refine lv_aload_n hx hb dX10_lies_0 rfl (lv_at hl 0 rfl) ?_
  refine lv_iconst (v := 0) hx hb dX10_lies_1 (by decide) ?_
  refine va_put (ci := 10) (v := .int 0) (ty := .int) (C := RX10) (T := TX10) (N := 40) hx hb hg inX10 tyX10 tyX10_ok nmX10 hown hK hP hD hS 0 rfl rfl 0 (by decide) (hg _ q_5_224) (fun _ h9 => h9) rfl (by decide +kernel) rfl rfl (Nat.le_of_ble_eq_true rfl) dX10_lies_2 (fun H locs hP hD hS => ?_)
  have hP : va_P V.1 vwCl [(z 0, .inr (10, mo z 0 pz0_5 pz0_6 pz0_7 pz0_8 pz0_9 pz0_10 pz0_11 pz0_12 pz0_13 pz0_14 pz0_18 pz0_19 pz0_22 pz0_23 pz0_29)), (z 1, aI V 3075 fz1), (z 15, aI V 900 fz15), (z 16, aI V 6 fz16), (z 20, aI V 10001 fz20), (z 21, aI V 10000 fz21)] H := hP
  have hD : va_D A [(z 0, .inr (10, mo z 0 pz0_5 pz0_6 pz0_7 pz0_8 pz0_9 pz0_10 pz0_11 pz0_12 pz0_13 pz0_14 pz0_18 pz0_19 pz0_22 pz0_23 pz0_29)), (z 1, aI V 3075 fz1), (z 15, aI V 900 fz15), (z 16, aI V 6 fz16), (z 20, aI V 10001 fz20), (z 21, aI V 10000 fz21)] := hD
  refine lv_aload_n hx hb dX10_lies_5 rfl (lv_at hl 0 rfl) ?_
  refine lv_iload_n hx hb dX10_lies_6 rfl (lv_at hl 1 rfl) ?_
  refine lv_i2l hx hb dX10_lies_7 rfl ?_
  refine lv_topl (fun j_1 ej_1 => ?_)
  refine jnI (wr := [(z 15, aI V 900 fz15), (z 16, aI V 6 fz16), (z 20, aI V 10001 fz20), (z 21, aI V 10000 fz21)]) (rnV (rest := []) ⟨hx, hb, hml, hown, hg⟩ (k_X10_isHill_0 l V z j_1 0 pz0_5 pz0_6 pz0_7 pz0_8 pz0_9 pz0_10 pz0_11 pz0_12 pz0_13 pz0_14 pz0_18 pz0_19 pz0_22 pz0_23 pz0_29 fz1 bpz0_5 bpz0_6 bpz0_7 bpz0_8 bpz0_10 bpz0_11 bpz0_12 bpz0_13 bpz0_14 bpz0_18 bpz0_22 bpz0_29 tfz1) mt_X10_isHill q_6_235 ⟨Nat.le_of_ble_eq_true rfl, Nat.le_of_ble_eq_true rfl⟩ hK hP hD hS hA hE [0, 1] rfl rfl 0 rfl rfl rfl rfl hl.1 rfl (Nat.le_of_ble_eq_true rfl) dX10_lies_8 ⟨Nat.le_of_ble_eq_true rfl, Nat.le_of_ble_eq_true rfl⟩) hP hD hS hA [0, 1] [2, 3, 4, 5] rfl rfl rfl (by decide) (fun r_2 w H locs hw hP hD hS => ?_)
  obtain ⟨br_2, g_3, rfl⟩ := hw
  have hP : va_P V.1 vwCl [(z 15, aI V 900 fz15), (z 16, aI V 6 fz16), (z 20, aI V 10001 fz20), (z 21, aI V 10000 fz21), (z 0, .inr (10, mo z 0 pz0_5 pz0_6 pz0_7 pz0_8 pz0_9 pz0_10 pz0_11 pz0_12 pz0_13 pz0_14 pz0_18 pz0_19 pz0_22 pz0_23 pz0_29)), (z 1, aI V 3075 fz1)] H := hP
  have hD : va_D A [(z 15, aI V 900 fz15), (z 16, aI V 6 fz16), (z 20, aI V 10001 fz20), (z 21, aI V 10000 fz21), (z 0, .inr (10, mo z 0 pz0_5 pz0_6 pz0_7 pz0_8 pz0_9 pz0_10 pz0_11 pz0_12 pz0_13 pz0_14 pz0_18 pz0_19 pz0_22 pz0_23 pz0_29)), (z 1, aI V 3075 fz1)] := hD
  refine lv_if_ne (tgt := 17) hx hb dX10_lies_11 (by decide) (fun c_4 => ?_) (fun c_4 => ?_)
  · have b_5 : iv 1 1 r_2 := iv_n0 c_4 br_2 (iv_c (0 : Int32) (a := 0) (b := 0) (by decide)) (by decide)
    have b_6 : ivL 0 3 j_1 := ivL_cap (g_3 (iv_eqp b_5 (iv_c (1 : Int32) (by decide)))) (ivL_top j_1) (by decide)
    have b_7 : iv 0 3 a1 := iv_cap (ivL_i ej_1 b_6) (iv_top a1) (by decide)
    refine lv_iload_n hx hb dX10_lies_17 rfl (lv_at hl 2 rfl) ?_
    refine lv_i2l hx hb dX10_lies_18 rfl ?_
    refine lv_topl (fun j_8 ej_8 => ?_)
    refine lv_lconst (v := 0) hx hb dX10_lies_19 (by decide) ?_
    refine lv_ldc2 (v := 99999) hx hb hown (hg _ q_7_157) dX10_lies_20 ?_
    refine jnI (wr := [(z 15, aI V 900 fz15), (z 16, aI V 6 fz16), (z 20, aI V 10001 fz20), (z 21, aI V 10000 fz21), (z 0, .inr (10, mo z 0 pz0_5 pz0_6 pz0_7 pz0_8 pz0_9 pz0_10 pz0_11 pz0_12 pz0_13 pz0_14 pz0_18 pz0_19 pz0_22 pz0_23 pz0_29)), (z 1, aI V 3075 fz1)]) (rnS (rest := []) ⟨hx, hb, hml, hown, hg⟩ (k_X10_within_0 l V j_8 0 99999) mt_X10_within q_6_114 ⟨Nat.le_of_ble_eq_true rfl, Nat.le_of_ble_eq_true rfl⟩ hK hP hD hS hA hE [] rfl rfl rfl hl.1 rfl (Nat.le_of_ble_eq_true rfl) dX10_lies_23 ⟨Nat.le_of_ble_eq_true rfl, Nat.le_of_ble_eq_true rfl⟩) hP hD hS hA [] [0, 1, 2, 3, 4, 5] rfl rfl rfl (by decide) (fun r_9 w H locs hw hP hD hS => ?_)
    obtain ⟨br_9, g_10, g_11, g_12, rfl⟩ := hw
    have hP : va_P V.1 vwCl [(z 15, aI V 900 fz15), (z 16, aI V 6 fz16), (z 20, aI V 10001 fz20), (z 21, aI V 10000 fz21), (z 0, .inr (10, mo z 0 pz0_5 pz0_6 pz0_7 pz0_8 pz0_9 pz0_10 pz0_11 pz0_12 pz0_13 pz0_14 pz0_18 pz0_19 pz0_22 pz0_23 pz0_29)), (z 1, aI V 3075 fz1)] H := hP
    have hD : va_D A [(z 15, aI V 900 fz15), (z 16, aI V 6 fz16), (z 20, aI V 10001 fz20), (z 21, aI V 10000 fz21), (z 0, .inr (10, mo z 0 pz0_5 pz0_6 pz0_7 pz0_8 pz0_9 pz0_10 pz0_11 pz0_12 pz0_13 pz0_14 pz0_18 pz0_19 pz0_22 pz0_23 pz0_29)), (z 1, aI V 3075 fz1)] := hD
    refine lv_if_ne (tgt := 32) hx hb dX10_lies_26 (by decide) (fun c_13 => ?_) (fun c_13 => ?_)
    · have b_14 : iv 1 1 r_9 := iv_n0 c_13 br_9 (iv_c (0 : Int32) (a := 0) (b := 0) (by decide)) (by decide)
      have c_15 : (0 : Int64) ≤ j_8 := (g_11 (iv_eqp b_14 (iv_c (1 : Int32) (by decide))))
      have b_16 : ivL 0 9223372036854775807 j_8 := ivL_e2 c_15 (ivL_c (0 : Int64) (a := 0) (b := 0) (by decide)) (ivL_top j_8) (by decide)
      have b_17 : iv 0 2147483647 a2 := iv_cap (ivL_i ej_8 b_16) (iv_top a2) (by decide)
      have c_18 : j_8 ≤ 99999 := (g_12 (iv_eqp b_14 (iv_c (1 : Int32) (by decide))))
      have b_19 : ivL 0 99999 j_8 := ivL_e1 c_18 b_16 (ivL_c (99999 : Int64) (a := 99999) (b := 99999) (by decide)) (by decide)
      have b_20 : iv 0 99999 a2 := iv_cap (ivL_i ej_8 b_19) b_17 (by decide)
      refine lv_aload_n hx hb dX10_lies_32 rfl (lv_at hl 0 rfl) ?_
      refine jnV (wr := []) (rnV (rest := []) ⟨hx, hb, hml, hown, hg⟩ (k_X10_laysLine_0 l V z fz15 fz16 fz20 fz21 0 pz0_5 pz0_6 pz0_7 pz0_8 pz0_9 pz0_10 pz0_11 pz0_12 pz0_13 pz0_14 pz0_18 pz0_19 pz0_22 pz0_23 pz0_29 fz1 tfz16 tfz20 tfz21 bpz0_5 bpz0_6 bpz0_7 bpz0_8 bpz0_10 bpz0_11 bpz0_12 bpz0_13 bpz0_14 bpz0_18 bpz0_22 bpz0_29 tfz1 hf0) mt_X10_laysLine q_7_158 ⟨Nat.le_of_ble_eq_true rfl, Nat.le_of_ble_eq_true rfl⟩ hK hP hD hS hA hE [0, 1, 2, 3, 4, 5] rfl rfl 4 rfl rfl rfl rfl hl.1 rfl (Nat.le_of_ble_eq_true rfl) dX10_lies_33 ⟨Nat.le_of_ble_eq_true rfl, Nat.le_of_ble_eq_true rfl⟩) hP hD hS hA [0, 1, 2, 3, 4, 5] [] rfl rfl rfl (by decide) (fun  w H locs hw hP hD hS => ?_)
      obtain ⟨f_21, f_22, f_23, f_24, v_25, v_26, tf_22, tf_23, tf_24, bv_25, g_27, g_28, rfl⟩ := hw
      have hP : va_P V.1 vwCl [(z 15, aI V 900 f_21), (z 16, aI V 6 f_22), (z 20, aI V 10001 f_23), (z 21, aI V 10000 f_24), (z 0, .inr (10, mo z 0 pz0_5 pz0_6 pz0_7 pz0_8 pz0_9 pz0_10 pz0_11 pz0_12 pz0_13 pz0_14 pz0_18 pz0_19 v_25 v_26 pz0_29)), (z 1, aI V 3075 fz1)] H := hP
      have hD : va_D A [(z 15, aI V 900 f_21), (z 16, aI V 6 f_22), (z 20, aI V 10001 f_23), (z 21, aI V 10000 f_24), (z 0, .inr (10, mo z 0 pz0_5 pz0_6 pz0_7 pz0_8 pz0_9 pz0_10 pz0_11 pz0_12 pz0_13 pz0_14 pz0_18 pz0_19 v_25 v_26 pz0_29)), (z 1, aI V 3075 fz1)] := hD
      refine lv_aload_n hx hb dX10_lies_36 rfl (lv_at hl 0 rfl) ?_
      refine lv_iload_n hx hb dX10_lies_37 rfl (lv_at hl 2 rfl) ?_
      refine jnI (wr := [(z 15, aI V 900 f_21), (z 16, aI V 6 f_22), (z 21, aI V 10000 f_24), (z 1, aI V 3075 fz1)]) (rnV (rest := []) ⟨hx, hb, hml, hown, hg⟩ (k_X10_standAt_0 l V z a2 f_23 0 pz0_5 pz0_6 pz0_7 pz0_8 pz0_9 pz0_10 pz0_11 pz0_12 pz0_13 pz0_14 pz0_18 pz0_19 v_25 v_26 pz0_29 b_20 tf_23 bpz0_5 bpz0_6 bpz0_7 bpz0_8 bpz0_10 bpz0_11 bpz0_12 bpz0_13 bpz0_14 bpz0_18 bv_25 bpz0_29 g_28) mt_X10_standAt q_7_162 ⟨Nat.le_of_ble_eq_true rfl, Nat.le_of_ble_eq_true rfl⟩ hK hP hD hS hA hE [2, 4] rfl rfl 4 rfl rfl rfl rfl hl.1 rfl (Nat.le_of_ble_eq_true rfl) dX10_lies_38 ⟨Nat.le_of_ble_eq_true rfl, Nat.le_of_ble_eq_true rfl⟩) hP hD hS hA [2, 4] [0, 1, 3, 5] rfl rfl rfl (by decide) (fun r_29 w H locs hw hP hD hS => ?_)
      obtain ⟨br_29, rfl⟩ := hw
      have hP : va_P V.1 vwCl [(z 15, aI V 900 f_21), (z 16, aI V 6 f_22), (z 21, aI V 10000 f_24), (z 1, aI V 3075 fz1), (z 20, aI V 10001 f_23), (z 0, .inr (10, mo z 0 pz0_5 pz0_6 pz0_7 pz0_8 pz0_9 pz0_10 pz0_11 pz0_12 pz0_13 pz0_14 pz0_18 pz0_19 v_25 v_26 pz0_29))] H := hP
      have hD : va_D A [(z 15, aI V 900 f_21), (z 16, aI V 6 f_22), (z 21, aI V 10000 f_24), (z 1, aI V 3075 fz1), (z 20, aI V 10001 f_23), (z 0, .inr (10, mo z 0 pz0_5 pz0_6 pz0_7 pz0_8 pz0_9 pz0_10 pz0_11 pz0_12 pz0_13 pz0_14 pz0_18 pz0_19 v_25 v_26 pz0_29))] := hD
      refine lv_iload_n hx hb dX10_lies_41 rfl (lv_at hl 1 rfl) ?_
      refine jnI (wr := [(z 15, aI V 900 f_21), (z 16, aI V 6 f_22), (z 21, aI V 10000 f_24), (z 1, aI V 3075 fz1), (z 20, aI V 10001 f_23), (z 0, .inr (10, mo z 0 pz0_5 pz0_6 pz0_7 pz0_8 pz0_9 pz0_10 pz0_11 pz0_12 pz0_13 pz0_14 pz0_18 pz0_19 v_25 v_26 pz0_29))]) (rnS (rest := []) ⟨hx, hb, hml, hown, hg⟩ (k_X10_stackIn_0 l V r_29 a1 br_29 b_7) mt_X10_stackIn q_7_26 ⟨Nat.le_of_ble_eq_true rfl, Nat.le_of_ble_eq_true rfl⟩ hK hP hD hS hA hE [] rfl rfl rfl hl.1 rfl (Nat.le_of_ble_eq_true rfl) dX10_lies_42 ⟨Nat.le_of_ble_eq_true rfl, Nat.le_of_ble_eq_true rfl⟩) hP hD hS hA [] [0, 1, 2, 3, 4, 5] rfl rfl rfl (by decide) (fun r_30 w H locs hw hP hD hS => ?_)
      obtain ⟨br_30, er_30, rfl⟩ := hw
      have hP : va_P V.1 vwCl [(z 15, aI V 900 f_21), (z 16, aI V 6 f_22), (z 21, aI V 10000 f_24), (z 1, aI V 3075 fz1), (z 20, aI V 10001 f_23), (z 0, .inr (10, mo z 0 pz0_5 pz0_6 pz0_7 pz0_8 pz0_9 pz0_10 pz0_11 pz0_12 pz0_13 pz0_14 pz0_18 pz0_19 v_25 v_26 pz0_29))] H := hP
      have hD : va_D A [(z 15, aI V 900 f_21), (z 16, aI V 6 f_22), (z 21, aI V 10000 f_24), (z 1, aI V 3075 fz1), (z 20, aI V 10001 f_23), (z 0, .inr (10, mo z 0 pz0_5 pz0_6 pz0_7 pz0_8 pz0_9 pz0_10 pz0_11 pz0_12 pz0_13 pz0_14 pz0_18 pz0_19 v_25 v_26 pz0_29))] := hD
      have hP := subP (ws' := [(z 0, .inr (10, mo z 0 pz0_5 pz0_6 pz0_7 pz0_8 pz0_9 pz0_10 pz0_11 pz0_12 pz0_13 pz0_14 pz0_18 pz0_19 v_25 v_26 pz0_29)), (z 1, aI V 3075 fz1), (z 15, aI V 900 f_21), (z 16, aI V 6 f_22), (z 20, aI V 10001 f_23), (z 21, aI V 10000 f_24)]) hP [5, 3, 0, 1, 4, 2] rfl
      have hD := hD.sub (ws' := [(z 0, .inr (10, mo z 0 pz0_5 pz0_6 pz0_7 pz0_8 pz0_9 pz0_10 pz0_11 pz0_12 pz0_13 pz0_14 pz0_18 pz0_19 v_25 v_26 pz0_29)), (z 1, aI V 3075 fz1), (z 15, aI V 900 f_21), (z 16, aI V 6 f_22), (z 20, aI V 10001 f_23), (z 21, aI V 10000 f_24)]) [5, 3, 0, 1, 4, 2] rfl rfl
      exact fiI hx hb hr hlk hK hP hD hS dX10_lies_45 (Nat.le_of_ble_eq_true rfl) (Nat.le_of_ble_eq_true rfl) (⟨0, v_25, v_26, f_21, f_22, f_23, f_24, bv_25, tf_22, tf_23, tf_24, (iv_w br_30 (by decide)), g_27, rfl⟩)
    · have b_31 : iv 0 0 r_9 := iv_q c_13 (iv_c (0 : Int32) (a := 0) (b := 0) (by decide))
      refine lv_bipush (v := (-3)) hx hb dX10_lies_29 (by decide) ?_
      have hP := subP (ws' := [(z 0, .inr (10, mo z 0 pz0_5 pz0_6 pz0_7 pz0_8 pz0_9 pz0_10 pz0_11 pz0_12 pz0_13 pz0_14 pz0_18 pz0_19 pz0_22 pz0_23 pz0_29)), (z 1, aI V 3075 fz1), (z 15, aI V 900 fz15), (z 16, aI V 6 fz16), (z 20, aI V 10001 fz20), (z 21, aI V 10000 fz21)]) hP [4, 5, 0, 1, 2, 3] rfl
      have hD := hD.sub (ws' := [(z 0, .inr (10, mo z 0 pz0_5 pz0_6 pz0_7 pz0_8 pz0_9 pz0_10 pz0_11 pz0_12 pz0_13 pz0_14 pz0_18 pz0_19 pz0_22 pz0_23 pz0_29)), (z 1, aI V 3075 fz1), (z 15, aI V 900 fz15), (z 16, aI V 6 fz16), (z 20, aI V 10001 fz20), (z 21, aI V 10000 fz21)]) [4, 5, 0, 1, 2, 3] rfl rfl
      exact fiI hx hb hr hlk hK hP hD hS dX10_lies_31 (Nat.le_of_ble_eq_true rfl) (Nat.le_of_ble_eq_true rfl) (⟨0, pz0_22, pz0_23, fz15, fz16, fz20, fz21, bpz0_22, tfz16, tfz20, tfz21, (iv_c ((-3) : Int32) (by decide)), hf0, rfl⟩)
  · have b_32 : iv 0 0 r_2 := iv_q c_4 (iv_c (0 : Int32) (a := 0) (b := 0) (by decide))
    refine lv_bipush (v := (-2)) hx hb dX10_lies_14 (by decide) ?_
    have hP := subP (ws' := [(z 0, .inr (10, mo z 0 pz0_5 pz0_6 pz0_7 pz0_8 pz0_9 pz0_10 pz0_11 pz0_12 pz0_13 pz0_14 pz0_18 pz0_19 pz0_22 pz0_23 pz0_29)), (z 1, aI V 3075 fz1), (z 15, aI V 900 fz15), (z 16, aI V 6 fz16), (z 20, aI V 10001 fz20), (z 21, aI V 10000 fz21)]) hP [4, 5, 0, 1, 2, 3] rfl
    have hD := hD.sub (ws' := [(z 0, .inr (10, mo z 0 pz0_5 pz0_6 pz0_7 pz0_8 pz0_9 pz0_10 pz0_11 pz0_12 pz0_13 pz0_14 pz0_18 pz0_19 pz0_22 pz0_23 pz0_29)), (z 1, aI V 3075 fz1), (z 15, aI V 900 fz15), (z 16, aI V 6 fz16), (z 20, aI V 10001 fz20), (z 21, aI V 10000 fz21)]) [4, 5, 0, 1, 2, 3] rfl rfl
    exact fiI hx hb hr hlk hK hP hD hS dX10_lies_16 (Nat.le_of_ble_eq_true rfl) (Nat.le_of_ble_eq_true rfl) (⟨0, pz0_22, pz0_23, fz15, fz16, fz20, fz21, bpz0_22, tfz16, tfz20, tfz21, (iv_c ((-2) : Int32) (by decide)), hf0, rfl⟩)
theorem dX10_round_0 : decode cX10_round 0 = .ok (.aload_n 0, 1) := by decide +kernel
theorem dX10_round_1 : decode cX10_round 1 = .ok (.iconst 0, 1) := by decide +kernel
theorem dX10_round_2 : decode cX10_round 2 = .ok (.putfield 1, 3) := by decide +kernel
theorem dX10_round_5 : decode cX10_round 5 = .ok (.iload_n 1, 1) := by decide +kernel
theorem dX10_round_6 : decode cX10_round 6 = .ok (.i2l, 1) := by decide +kernel
theorem dX10_round_7 : decode cX10_round 7 = .ok (.lconst 0, 1) := by decide +kernel
theorem dX10_round_8 : decode cX10_round 8 = .ok (.lconst 1, 1) := by decide +kernel
theorem dX10_round_9 : decode cX10_round 9 = .ok (.invokestatic 159, 3) := by decide +kernel
theorem dX10_round_12 : decode cX10_round 12 = .ok (.ifCond .ne 6, 3) := by decide +kernel
theorem dX10_round_18 : decode cX10_round 18 = .ok (.aload_n 0, 1) := by decide +kernel
theorem dX10_round_19 : decode cX10_round 19 = .ok (.invokevirtual 349, 3) := by decide +kernel
theorem dX10_round_22 : decode cX10_round 22 = .ok (.iload_n 1, 1) := by decide +kernel
theorem dX10_round_23 : decode cX10_round 23 = .ok (.ifCond .ne 10, 3) := by decide +kernel
theorem dX10_round_33 : decode cX10_round 33 = .ok (.aload_n 0, 1) := by decide +kernel
theorem dX10_round_34 : decode cX10_round 34 = .ok (.getfield 344, 3) := by decide +kernel
theorem dX10_round_37 : decode cX10_round 37 = .ok (.ireturn, 1) := by decide +kernel
theorem dX10_round_26 : decode cX10_round 26 = .ok (.aload_n 0, 1) := by decide +kernel
theorem dX10_round_27 : decode cX10_round 27 = .ok (.getfield 341, 3) := by decide +kernel
theorem dX10_round_30 : decode cX10_round 30 = .ok (.goto 7, 3) := by decide +kernel
theorem dX10_round_15 : decode cX10_round 15 = .ok (.bipush (-2), 2) := by decide +kernel
theorem dX10_round_17 : decode cX10_round 17 = .ok (.ireturn, 1) := by decide +kernel
set_option maxHeartbeats 4000000 in
set_option maxRecDepth 100000 in
theorem k_X10_round_0 (l : Launch) (V : GV) (z : Nat → Nat) (a1 : Int32) (pz0_0 : Int32) (pz0_5 : Int32) (pz0_6 : Int32) (pz0_7 : Int32) (pz0_8 : Int32) (pz0_9 : Int32) (pz0_10 : Int32) (pz0_11 : Int32) (pz0_12 : Int32) (pz0_13 : Int32) (pz0_14 : Int32) (pz0_18 : Int32) (pz0_19 : Int32) (pz0_22 : Int32) (pz0_23 : Int32) (pz0_29 : Int32) (fz1 : Nat → Int32) (fz15 : Nat → Int32) (fz16 : Nat → Int32) (fz20 : Nat → Int32) (fz21 : Nat → Int32) (bpz0_5 : iv 0 900 pz0_5) (bpz0_6 : iv 0 900 pz0_6) (bpz0_7 : iv 0 900 pz0_7) (bpz0_8 : iv 0 900 pz0_8) (bpz0_10 : iv 0 999 pz0_10) (bpz0_11 : iv 0 4 pz0_11) (bpz0_12 : iv 0 900 pz0_12) (bpz0_13 : iv 0 4 pz0_13) (bpz0_14 : iv (-1) 900 pz0_14) (bpz0_18 : iv 0 2 pz0_18) (bpz0_22 : iv 0 9999 pz0_22) (bpz0_29 : iv 0 10000 pz0_29) (tfz1 : ivT tA fz1) (tfz16 : ivT tW fz16) (tfz20 : ∀ j, iv 0 9999 (fz20 j)) (tfz21 : ∀ j, iv (-1) 9999 (fz21 j)) (hf0 : RW fz1) : Ct l V yX10_round (.code yX10_round cX10_round 2 (some .int)) 6 [.ref (z 0), .int a1] [(z 0, .inr (10, mo z pz0_0 pz0_5 pz0_6 pz0_7 pz0_8 pz0_9 pz0_10 pz0_11 pz0_12 pz0_13 pz0_14 pz0_18 pz0_19 pz0_22 pz0_23 pz0_29)), (z 1, aI V 3075 fz1), (z 15, aI V 900 fz15), (z 16, aI V 6 fz16), (z 20, aI V 10001 fz20), (z 21, aI V 10000 fz21)] 0 0 (QI V (fun (r : Int32) (w : va_W) => ∃ (v0 : Int32) (v1 : Int32) (v2 : Int32) (g3 : Nat → Int32) (g4 : Nat → Int32) (g5 : Nat → Int32) (g6 : Nat → Int32), iv 0 9999 v1 ∧ (ivT tW g4) ∧ (∀ j, iv 0 9999 (g5 j)) ∧ (∀ j, iv (-1) 9999 (g6 j)) ∧ (RW fz1) ∧ w = [(z 0, .inr (10, mo z v0 pz0_5 pz0_6 pz0_7 pz0_8 pz0_9 pz0_10 pz0_11 pz0_12 pz0_13 pz0_14 pz0_18 pz0_19 v1 v2 pz0_29)), (z 1, aI V 3075 fz1), (z 15, aI V 900 g3), (z 16, aI V 6 g4), (z 20, aI V 10001 g5), (z 21, aI V 10000 g6)])) := by
  refine Ct.of (by decide) (Nat.le_of_ble_eq_true rfl) (fun p e s m below meth c A ls hx hb hr hml hown hlk hnm hg hP hK hD hE hA hS hl => ?_)
  have hl : lv_has ls 2 [(0, .ref (z 0)), (1, .int a1)] := hl
  refine lv_aload_n hx hb dX10_round_0 rfl (lv_at hl 0 rfl) ?_
  refine lv_iconst (v := 0) hx hb dX10_round_1 (by decide) ?_
  refine va_put (ci := 10) (v := .int 0) (ty := .int) (C := RX10) (T := TX10) (N := 40) hx hb hg inX10 tyX10 tyX10_ok nmX10 hown hK hP hD hS 0 rfl rfl 0 (by decide) (hg _ q_5_224) (fun _ h9 => h9) rfl (by decide +kernel) rfl rfl (Nat.le_of_ble_eq_true rfl) dX10_round_2 (fun H locs hP hD hS => ?_)
  have hP : va_P V.1 vwCl [(z 0, .inr (10, mo z 0 pz0_5 pz0_6 pz0_7 pz0_8 pz0_9 pz0_10 pz0_11 pz0_12 pz0_13 pz0_14 pz0_18 pz0_19 pz0_22 pz0_23 pz0_29)), (z 1, aI V 3075 fz1), (z 15, aI V 900 fz15), (z 16, aI V 6 fz16), (z 20, aI V 10001 fz20), (z 21, aI V 10000 fz21)] H := hP
  have hD : va_D A [(z 0, .inr (10, mo z 0 pz0_5 pz0_6 pz0_7 pz0_8 pz0_9 pz0_10 pz0_11 pz0_12 pz0_13 pz0_14 pz0_18 pz0_19 pz0_22 pz0_23 pz0_29)), (z 1, aI V 3075 fz1), (z 15, aI V 900 fz15), (z 16, aI V 6 fz16), (z 20, aI V 10001 fz20), (z 21, aI V 10000 fz21)] := hD
  refine lv_iload_n hx hb dX10_round_5 rfl (lv_at hl 1 rfl) ?_
  refine lv_i2l hx hb dX10_round_6 rfl ?_
  refine lv_topl (fun j_1 ej_1 => ?_)
  refine lv_lconst (v := 0) hx hb dX10_round_7 (by decide) ?_
  refine lv_lconst (v := 1) hx hb dX10_round_8 (by decide) ?_
  refine jnI (wr := [(z 0, .inr (10, mo z 0 pz0_5 pz0_6 pz0_7 pz0_8 pz0_9 pz0_10 pz0_11 pz0_12 pz0_13 pz0_14 pz0_18 pz0_19 pz0_22 pz0_23 pz0_29)), (z 1, aI V 3075 fz1), (z 15, aI V 900 fz15), (z 16, aI V 6 fz16), (z 20, aI V 10001 fz20), (z 21, aI V 10000 fz21)]) (rnS (rest := []) ⟨hx, hb, hml, hown, hg⟩ (k_X10_within_0 l V j_1 0 1) mt_X10_within q_6_114 ⟨Nat.le_of_ble_eq_true rfl, Nat.le_of_ble_eq_true rfl⟩ hK hP hD hS hA hE [] rfl rfl rfl hl.1 rfl (Nat.le_of_ble_eq_true rfl) dX10_round_9 ⟨Nat.le_of_ble_eq_true rfl, Nat.le_of_ble_eq_true rfl⟩) hP hD hS hA [] [0, 1, 2, 3, 4, 5] rfl rfl rfl (by decide) (fun r_2 w H locs hw hP hD hS => ?_)
  obtain ⟨br_2, g_3, g_4, g_5, rfl⟩ := hw
  have hP : va_P V.1 vwCl [(z 0, .inr (10, mo z 0 pz0_5 pz0_6 pz0_7 pz0_8 pz0_9 pz0_10 pz0_11 pz0_12 pz0_13 pz0_14 pz0_18 pz0_19 pz0_22 pz0_23 pz0_29)), (z 1, aI V 3075 fz1), (z 15, aI V 900 fz15), (z 16, aI V 6 fz16), (z 20, aI V 10001 fz20), (z 21, aI V 10000 fz21)] H := hP
  have hD : va_D A [(z 0, .inr (10, mo z 0 pz0_5 pz0_6 pz0_7 pz0_8 pz0_9 pz0_10 pz0_11 pz0_12 pz0_13 pz0_14 pz0_18 pz0_19 pz0_22 pz0_23 pz0_29)), (z 1, aI V 3075 fz1), (z 15, aI V 900 fz15), (z 16, aI V 6 fz16), (z 20, aI V 10001 fz20), (z 21, aI V 10000 fz21)] := hD
  refine lv_if_ne (tgt := 18) hx hb dX10_round_12 (by decide) (fun c_6 => ?_) (fun c_6 => ?_)
  · have b_7 : iv 1 1 r_2 := iv_n0 c_6 br_2 (iv_c (0 : Int32) (a := 0) (b := 0) (by decide)) (by decide)
    have c_8 : (0 : Int64) ≤ j_1 := (g_4 (iv_eqp b_7 (iv_c (1 : Int32) (by decide))))
    have b_9 : ivL 0 9223372036854775807 j_1 := ivL_e2 c_8 (ivL_c (0 : Int64) (a := 0) (b := 0) (by decide)) (ivL_top j_1) (by decide)
    have b_10 : iv 0 2147483647 a1 := iv_cap (ivL_i ej_1 b_9) (iv_top a1) (by decide)
    have c_11 : j_1 ≤ 1 := (g_5 (iv_eqp b_7 (iv_c (1 : Int32) (by decide))))
    have b_12 : ivL 0 1 j_1 := ivL_e1 c_11 b_9 (ivL_c (1 : Int64) (a := 1) (b := 1) (by decide)) (by decide)
    have b_13 : iv 0 1 a1 := iv_cap (ivL_i ej_1 b_12) b_10 (by decide)
    refine lv_aload_n hx hb dX10_round_18 rfl (lv_at hl 0 rfl) ?_
    refine jnV (wr := []) (rnV (rest := []) ⟨hx, hb, hml, hown, hg⟩ (k_X10_laysLine_0 l V z fz15 fz16 fz20 fz21 0 pz0_5 pz0_6 pz0_7 pz0_8 pz0_9 pz0_10 pz0_11 pz0_12 pz0_13 pz0_14 pz0_18 pz0_19 pz0_22 pz0_23 pz0_29 fz1 tfz16 tfz20 tfz21 bpz0_5 bpz0_6 bpz0_7 bpz0_8 bpz0_10 bpz0_11 bpz0_12 bpz0_13 bpz0_14 bpz0_18 bpz0_22 bpz0_29 tfz1 hf0) mt_X10_laysLine q_7_158 ⟨Nat.le_of_ble_eq_true rfl, Nat.le_of_ble_eq_true rfl⟩ hK hP hD hS hA hE [2, 3, 4, 5, 0, 1] rfl rfl 0 rfl rfl rfl rfl hl.1 rfl (Nat.le_of_ble_eq_true rfl) dX10_round_19 ⟨Nat.le_of_ble_eq_true rfl, Nat.le_of_ble_eq_true rfl⟩) hP hD hS hA [2, 3, 4, 5, 0, 1] [] rfl rfl rfl (by decide) (fun  w H locs hw hP hD hS => ?_)
    obtain ⟨f_14, f_15, f_16, f_17, v_18, v_19, tf_15, tf_16, tf_17, bv_18, g_20, g_21, rfl⟩ := hw
    have hP : va_P V.1 vwCl [(z 15, aI V 900 f_14), (z 16, aI V 6 f_15), (z 20, aI V 10001 f_16), (z 21, aI V 10000 f_17), (z 0, .inr (10, mo z 0 pz0_5 pz0_6 pz0_7 pz0_8 pz0_9 pz0_10 pz0_11 pz0_12 pz0_13 pz0_14 pz0_18 pz0_19 v_18 v_19 pz0_29)), (z 1, aI V 3075 fz1)] H := hP
    have hD : va_D A [(z 15, aI V 900 f_14), (z 16, aI V 6 f_15), (z 20, aI V 10001 f_16), (z 21, aI V 10000 f_17), (z 0, .inr (10, mo z 0 pz0_5 pz0_6 pz0_7 pz0_8 pz0_9 pz0_10 pz0_11 pz0_12 pz0_13 pz0_14 pz0_18 pz0_19 v_18 v_19 pz0_29)), (z 1, aI V 3075 fz1)] := hD
    refine lv_iload_n hx hb dX10_round_22 rfl (lv_at hl 1 rfl) ?_
    refine lv_if_ne (tgt := 33) hx hb dX10_round_23 (by decide) (fun c_22 => ?_) (fun c_22 => ?_)
    · have b_23 : iv 1 1 a1 := iv_n0 c_22 b_13 (iv_c (0 : Int32) (a := 0) (b := 0) (by decide)) (by decide)
      refine lv_aload_n hx hb dX10_round_33 rfl (lv_at hl 0 rfl) ?_
      refine va_get (ci := 10) (v := .int v_19) (C := RX10) (T := TX10) (N := 40) hx hb hg inX10 hown hK hP 4 rfl rfl 23 (by decide) (hg _ q_6_7) (fun _ h9 => h9) rfl dX10_round_34 ?_
      have hP := subP (ws' := [(z 0, .inr (10, mo z 0 pz0_5 pz0_6 pz0_7 pz0_8 pz0_9 pz0_10 pz0_11 pz0_12 pz0_13 pz0_14 pz0_18 pz0_19 v_18 v_19 pz0_29)), (z 1, aI V 3075 fz1), (z 15, aI V 900 f_14), (z 16, aI V 6 f_15), (z 20, aI V 10001 f_16), (z 21, aI V 10000 f_17)]) hP [4, 5, 0, 1, 2, 3] rfl
      have hD := hD.sub (ws' := [(z 0, .inr (10, mo z 0 pz0_5 pz0_6 pz0_7 pz0_8 pz0_9 pz0_10 pz0_11 pz0_12 pz0_13 pz0_14 pz0_18 pz0_19 v_18 v_19 pz0_29)), (z 1, aI V 3075 fz1), (z 15, aI V 900 f_14), (z 16, aI V 6 f_15), (z 20, aI V 10001 f_16), (z 21, aI V 10000 f_17)]) [4, 5, 0, 1, 2, 3] rfl rfl
      exact fiI hx hb hr hlk hK hP hD hS dX10_round_37 (Nat.le_of_ble_eq_true rfl) (Nat.le_of_ble_eq_true rfl) (⟨0, v_18, v_19, f_14, f_15, f_16, f_17, bv_18, tf_15, tf_16, tf_17, g_20, rfl⟩)
    · have b_24 : iv 0 0 a1 := iv_q c_22 (iv_c (0 : Int32) (a := 0) (b := 0) (by decide))
      refine lv_aload_n hx hb dX10_round_26 rfl (lv_at hl 0 rfl) ?_
      refine va_get (ci := 10) (v := .int v_18) (C := RX10) (T := TX10) (N := 40) hx hb hg inX10 hown hK hP 4 rfl rfl 22 (by decide) (hg _ q_6_6) (fun _ h9 => h9) rfl dX10_round_27 ?_
      refine lv_goto (tgt := 37) hx hb dX10_round_30 (by decide) ?_
      have hP := subP (ws' := [(z 0, .inr (10, mo z 0 pz0_5 pz0_6 pz0_7 pz0_8 pz0_9 pz0_10 pz0_11 pz0_12 pz0_13 pz0_14 pz0_18 pz0_19 v_18 v_19 pz0_29)), (z 1, aI V 3075 fz1), (z 15, aI V 900 f_14), (z 16, aI V 6 f_15), (z 20, aI V 10001 f_16), (z 21, aI V 10000 f_17)]) hP [4, 5, 0, 1, 2, 3] rfl
      have hD := hD.sub (ws' := [(z 0, .inr (10, mo z 0 pz0_5 pz0_6 pz0_7 pz0_8 pz0_9 pz0_10 pz0_11 pz0_12 pz0_13 pz0_14 pz0_18 pz0_19 v_18 v_19 pz0_29)), (z 1, aI V 3075 fz1), (z 15, aI V 900 f_14), (z 16, aI V 6 f_15), (z 20, aI V 10001 f_16), (z 21, aI V 10000 f_17)]) [4, 5, 0, 1, 2, 3] rfl rfl
      exact fiI hx hb hr hlk hK hP hD hS dX10_round_37 (Nat.le_of_ble_eq_true rfl) (Nat.le_of_ble_eq_true rfl) (⟨0, v_18, v_19, f_14, f_15, f_16, f_17, bv_18, tf_15, tf_16, tf_17, g_20, rfl⟩)
  · have b_25 : iv 0 0 r_2 := iv_q c_6 (iv_c (0 : Int32) (a := 0) (b := 0) (by decide))
    refine lv_bipush (v := (-2)) hx hb dX10_round_15 (by decide) ?_
    exact fiI hx hb hr hlk hK hP hD hS dX10_round_17 (Nat.le_of_ble_eq_true rfl) (Nat.le_of_ble_eq_true rfl) (⟨0, pz0_22, pz0_23, fz15, fz16, fz20, fz21, bpz0_22, tfz16, tfz20, tfz21, hf0, rfl⟩)
theorem dX10_bare_0 : decode cX10_bare 0 = .ok (.aload_n 0, 1) := by decide +kernel
theorem dX10_bare_1 : decode cX10_bare 1 = .ok (.iconst 0, 1) := by decide +kernel
theorem dX10_bare_2 : decode cX10_bare 2 = .ok (.putfield 1, 3) := by decide +kernel
theorem dX10_bare_5 : decode cX10_bare 5 = .ok (.aload_n 0, 1) := by decide +kernel
theorem dX10_bare_6 : decode cX10_bare 6 = .ok (.invokevirtual 349, 3) := by decide +kernel
theorem dX10_bare_9 : decode cX10_bare 9 = .ok (.iconst 0, 1) := by decide +kernel
theorem dX10_bare_10 : decode cX10_bare 10 = .ok (.istore_n 1, 1) := by decide +kernel
theorem dX10_bare_11 : decode cX10_bare 11 = .ok (.iload_n 1, 1) := by decide +kernel
theorem dX10_bare_12 : decode cX10_bare 12 = .ok (.aload_n 0, 1) := by decide +kernel
theorem dX10_bare_13 : decode cX10_bare 13 = .ok (.getfield 341, 3) := by decide +kernel
theorem dX10_bare_16 : decode cX10_bare 16 = .ok (.aload_n 0, 1) := by decide +kernel
theorem dX10_bare_17 : decode cX10_bare 17 = .ok (.getfield 344, 3) := by decide +kernel
theorem dX10_bare_20 : decode cX10_bare 20 = .ok (.iadd, 1) := by decide +kernel
theorem dX10_bare_21 : decode cX10_bare 21 = .ok (.if_icmp .ge 24, 3) := by decide +kernel
theorem dX10_bare_45 : decode cX10_bare 45 = .ok (.iconst (-1), 1) := by decide +kernel
theorem dX10_bare_46 : decode cX10_bare 46 = .ok (.ireturn, 1) := by decide +kernel
theorem dX10_bare_24 : decode cX10_bare 24 = .ok (.aload_n 0, 1) := by decide +kernel
theorem dX10_bare_25 : decode cX10_bare 25 = .ok (.getfield 39, 3) := by decide +kernel
theorem dX10_bare_28 : decode cX10_bare 28 = .ok (.iload_n 1, 1) := by decide +kernel
theorem dX10_bare_29 : decode cX10_bare 29 = .ok (.iaload, 1) := by decide +kernel
theorem dX10_bare_30 : decode cX10_bare 30 = .ok (.sipush 625, 3) := by decide +kernel
theorem dX10_bare_33 : decode cX10_bare 33 = .ok (.irem, 1) := by decide +kernel
theorem dX10_bare_34 : decode cX10_bare 34 = .ok (.ifCond .ne 5, 3) := by decide +kernel
theorem dX10_bare_39 : decode cX10_bare 39 = .ok (.iinc 1 1, 3) := by decide +kernel
theorem dX10_bare_42 : decode cX10_bare 42 = .ok (.goto (-31), 3) := by decide +kernel
theorem dX10_bare_37 : decode cX10_bare 37 = .ok (.iload_n 1, 1) := by decide +kernel
theorem dX10_bare_38 : decode cX10_bare 38 = .ok (.ireturn, 1) := by decide +kernel
set_option maxHeartbeats 4000000 in
set_option maxRecDepth 100000 in
theorem k_X10_bare_0 (l : Launch) (V : GV) (z : Nat → Nat) (pz0_0 : Int32) (pz0_5 : Int32) (pz0_6 : Int32) (pz0_7 : Int32) (pz0_8 : Int32) (pz0_9 : Int32) (pz0_10 : Int32) (pz0_11 : Int32) (pz0_12 : Int32) (pz0_13 : Int32) (pz0_14 : Int32) (pz0_18 : Int32) (pz0_19 : Int32) (pz0_22 : Int32) (pz0_23 : Int32) (pz0_29 : Int32) (fz1 : Nat → Int32) (fz15 : Nat → Int32) (fz16 : Nat → Int32) (fz20 : Nat → Int32) (fz21 : Nat → Int32) (bpz0_5 : iv 0 900 pz0_5) (bpz0_6 : iv 0 900 pz0_6) (bpz0_7 : iv 0 900 pz0_7) (bpz0_8 : iv 0 900 pz0_8) (bpz0_10 : iv 0 999 pz0_10) (bpz0_11 : iv 0 4 pz0_11) (bpz0_12 : iv 0 900 pz0_12) (bpz0_13 : iv 0 4 pz0_13) (bpz0_14 : iv (-1) 900 pz0_14) (bpz0_18 : iv 0 2 pz0_18) (bpz0_22 : iv 0 9999 pz0_22) (bpz0_29 : iv 0 10000 pz0_29) (tfz1 : ivT tA fz1) (tfz16 : ivT tW fz16) (tfz20 : ∀ j, iv 0 9999 (fz20 j)) (tfz21 : ∀ j, iv (-1) 9999 (fz21 j)) (hf0 : RW fz1) : Ct l V yX10_bare (.code yX10_bare cX10_bare 2 (some .int)) 6 [.ref (z 0)] [(z 0, .inr (10, mo z pz0_0 pz0_5 pz0_6 pz0_7 pz0_8 pz0_9 pz0_10 pz0_11 pz0_12 pz0_13 pz0_14 pz0_18 pz0_19 pz0_22 pz0_23 pz0_29)), (z 1, aI V 3075 fz1), (z 15, aI V 900 fz15), (z 16, aI V 6 fz16), (z 20, aI V 10001 fz20), (z 21, aI V 10000 fz21)] 0 0 (QI V (fun (r : Int32) (w : va_W) => ∃ (v0 : Int32) (v1 : Int32) (v2 : Int32) (g3 : Nat → Int32) (g4 : Nat → Int32) (g5 : Nat → Int32) (g6 : Nat → Int32), iv 0 9999 v1 ∧ (ivT tW g4) ∧ (∀ j, iv 0 9999 (g5 j)) ∧ (∀ j, iv (-1) 9999 (g6 j)) ∧ iv (-1) 9999 r ∧ (RW fz1) ∧ w = [(z 0, .inr (10, mo z v0 pz0_5 pz0_6 pz0_7 pz0_8 pz0_9 pz0_10 pz0_11 pz0_12 pz0_13 pz0_14 pz0_18 pz0_19 v1 v2 pz0_29)), (z 1, aI V 3075 fz1), (z 15, aI V 900 g3), (z 16, aI V 6 g4), (z 20, aI V 10001 g5), (z 21, aI V 10000 g6)])) := by
  refine Ct.of (by decide) (Nat.le_of_ble_eq_true rfl) (fun p e s m below meth c A ls hx hb hr hml hown hlk hnm hg hP hK hD hE hA hS hl => ?_)
  have hl : lv_has ls 2 [(0, .ref (z 0))] := hl
  refine lv_aload_n hx hb dX10_bare_0 rfl (lv_at hl 0 rfl) ?_
  refine lv_iconst (v := 0) hx hb dX10_bare_1 (by decide) ?_
  refine va_put (ci := 10) (v := .int 0) (ty := .int) (C := RX10) (T := TX10) (N := 40) hx hb hg inX10 tyX10 tyX10_ok nmX10 hown hK hP hD hS 0 rfl rfl 0 (by decide) (hg _ q_5_224) (fun _ h9 => h9) rfl (by decide +kernel) rfl rfl (Nat.le_of_ble_eq_true rfl) dX10_bare_2 (fun H locs hP hD hS => ?_)
  have hP : va_P V.1 vwCl [(z 0, .inr (10, mo z 0 pz0_5 pz0_6 pz0_7 pz0_8 pz0_9 pz0_10 pz0_11 pz0_12 pz0_13 pz0_14 pz0_18 pz0_19 pz0_22 pz0_23 pz0_29)), (z 1, aI V 3075 fz1), (z 15, aI V 900 fz15), (z 16, aI V 6 fz16), (z 20, aI V 10001 fz20), (z 21, aI V 10000 fz21)] H := hP
  have hD : va_D A [(z 0, .inr (10, mo z 0 pz0_5 pz0_6 pz0_7 pz0_8 pz0_9 pz0_10 pz0_11 pz0_12 pz0_13 pz0_14 pz0_18 pz0_19 pz0_22 pz0_23 pz0_29)), (z 1, aI V 3075 fz1), (z 15, aI V 900 fz15), (z 16, aI V 6 fz16), (z 20, aI V 10001 fz20), (z 21, aI V 10000 fz21)] := hD
  refine lv_aload_n hx hb dX10_bare_5 rfl (lv_at hl 0 rfl) ?_
  refine jnV (wr := []) (rnV (rest := []) ⟨hx, hb, hml, hown, hg⟩ (k_X10_laysLine_0 l V z fz15 fz16 fz20 fz21 0 pz0_5 pz0_6 pz0_7 pz0_8 pz0_9 pz0_10 pz0_11 pz0_12 pz0_13 pz0_14 pz0_18 pz0_19 pz0_22 pz0_23 pz0_29 fz1 tfz16 tfz20 tfz21 bpz0_5 bpz0_6 bpz0_7 bpz0_8 bpz0_10 bpz0_11 bpz0_12 bpz0_13 bpz0_14 bpz0_18 bpz0_22 bpz0_29 tfz1 hf0) mt_X10_laysLine q_7_158 ⟨Nat.le_of_ble_eq_true rfl, Nat.le_of_ble_eq_true rfl⟩ hK hP hD hS hA hE [2, 3, 4, 5, 0, 1] rfl rfl 0 rfl rfl rfl rfl hl.1 rfl (Nat.le_of_ble_eq_true rfl) dX10_bare_6 ⟨Nat.le_of_ble_eq_true rfl, Nat.le_of_ble_eq_true rfl⟩) hP hD hS hA [2, 3, 4, 5, 0, 1] [] rfl rfl rfl (by decide) (fun  w H locs hw hP hD hS => ?_)
  obtain ⟨f_1, f_2, f_3, f_4, v_5, v_6, tf_2, tf_3, tf_4, bv_5, g_7, g_8, rfl⟩ := hw
  have hP : va_P V.1 vwCl [(z 15, aI V 900 f_1), (z 16, aI V 6 f_2), (z 20, aI V 10001 f_3), (z 21, aI V 10000 f_4), (z 0, .inr (10, mo z 0 pz0_5 pz0_6 pz0_7 pz0_8 pz0_9 pz0_10 pz0_11 pz0_12 pz0_13 pz0_14 pz0_18 pz0_19 v_5 v_6 pz0_29)), (z 1, aI V 3075 fz1)] H := hP
  have hD : va_D A [(z 15, aI V 900 f_1), (z 16, aI V 6 f_2), (z 20, aI V 10001 f_3), (z 21, aI V 10000 f_4), (z 0, .inr (10, mo z 0 pz0_5 pz0_6 pz0_7 pz0_8 pz0_9 pz0_10 pz0_11 pz0_12 pz0_13 pz0_14 pz0_18 pz0_19 v_5 v_6 pz0_29)), (z 1, aI V 3075 fz1)] := hD
  refine lv_iconst (v := 0) hx hb dX10_bare_9 (by decide) ?_
  refine lv_istore_n (lv' := [(1, .int 0), (0, .ref (z 0))]) hx hb dX10_bare_10 rfl hl (by decide) rfl (fun ls hl => ?_)
  refine loopF (X := fun (n_10 : Nat) (H : Heap) (locs : List Loc) (ls : Array Slot) => ∃ (u_9 : Int32), (iv 0 2147483647 u_9) ∧ n_10 = (2147483647 - (u_9 : Int32).toInt).toNat ∧ va_P V.1 vwCl [(z 15, aI V 900 f_1), (z 16, aI V 6 f_2), (z 20, aI V 10001 f_3), (z 21, aI V 10000 f_4), (z 0, .inr (10, mo z 0 pz0_5 pz0_6 pz0_7 pz0_8 pz0_9 pz0_10 pz0_11 pz0_12 pz0_13 pz0_14 pz0_18 pz0_19 v_5 v_6 pz0_29)), (z 1, aI V 3075 fz1)] H ∧ va_D A [(z 15, aI V 900 f_1), (z 16, aI V 6 f_2), (z 20, aI V 10001 f_3), (z 21, aI V 10000 f_4), (z 0, .inr (10, mo z 0 pz0_5 pz0_6 pz0_7 pz0_8 pz0_9 pz0_10 pz0_11 pz0_12 pz0_13 pz0_14 pz0_18 pz0_19 v_5 v_6 pz0_29)), (z 1, aI V 3075 fz1)] ∧ va_S A s.heap H locs ∧ lv_has ls 2 [(1, .int u_9), (0, .ref (z 0))]) (g := fun ls => F0 m 11 ls []) (fun n_10 H locs ls hX ihn_10 => ?_) _ ⟨0, (iv_c (0 : Int32) (by decide)), rfl, hP, hD, hS, lv_sub hl [0, 1] rfl⟩
  obtain ⟨u_9, bu_9, en_10, hP, hD, hS, hl⟩ := hX
  refine lv_iload_n hx hb dX10_bare_11 rfl (lv_at hl 0 rfl) ?_
  refine lv_aload_n hx hb dX10_bare_12 rfl (lv_at hl 1 rfl) ?_
  refine va_get (ci := 10) (v := .int v_5) (C := RX10) (T := TX10) (N := 40) hx hb hg inX10 hown hK hP 4 rfl rfl 22 (by decide) (hg _ q_6_6) (fun _ h9 => h9) rfl dX10_bare_13 ?_
  refine lv_aload_n hx hb dX10_bare_16 rfl (lv_at hl 1 rfl) ?_
  refine va_get (ci := 10) (v := .int v_6) (C := RX10) (T := TX10) (N := 40) hx hb hg inX10 hown hK hP 4 rfl rfl 23 (by decide) (hg _ q_6_7) (fun _ h9 => h9) rfl dX10_bare_17 ?_
  refine lv_iadd hx hb dX10_bare_20 ?_
  refine lv_topi (fun x_11 ex_11 => ?_)
  have b_12 : iv 1 10000 x_11 := by have q9 := g_8; have q8 := toInt_add ex_11 (a := 0) (b := 10000) ⟨by omega, by omega⟩ (c := 0) (d := 10000) ⟨by omega, by omega⟩ (by decide); unfold iv; omega
  refine lv_icmp_ge (tgt := 45) hx hb dX10_bare_21 (by decide) (fun c_13 => ?_) (fun c_13 => ?_)
  · have b_14 : iv 1 2147483647 u_9 := iv_e2 c_13 b_12 bu_9 (by decide)
    refine lv_iconst (v := (-1)) hx hb dX10_bare_45 (by decide) ?_
    have hP := subP (ws' := [(z 0, .inr (10, mo z 0 pz0_5 pz0_6 pz0_7 pz0_8 pz0_9 pz0_10 pz0_11 pz0_12 pz0_13 pz0_14 pz0_18 pz0_19 v_5 v_6 pz0_29)), (z 1, aI V 3075 fz1), (z 15, aI V 900 f_1), (z 16, aI V 6 f_2), (z 20, aI V 10001 f_3), (z 21, aI V 10000 f_4)]) hP [4, 5, 0, 1, 2, 3] rfl
    have hD := hD.sub (ws' := [(z 0, .inr (10, mo z 0 pz0_5 pz0_6 pz0_7 pz0_8 pz0_9 pz0_10 pz0_11 pz0_12 pz0_13 pz0_14 pz0_18 pz0_19 v_5 v_6 pz0_29)), (z 1, aI V 3075 fz1), (z 15, aI V 900 f_1), (z 16, aI V 6 f_2), (z 20, aI V 10001 f_3), (z 21, aI V 10000 f_4)]) [4, 5, 0, 1, 2, 3] rfl rfl
    exact fiI hx hb hr hlk hK hP hD hS dX10_bare_46 (Nat.le_of_ble_eq_true rfl) (Nat.le_of_ble_eq_true rfl) (⟨0, v_5, v_6, f_1, f_2, f_3, f_4, bv_5, tf_2, tf_3, tf_4, (iv_c ((-1) : Int32) (by decide)), g_7, rfl⟩)
  · have b_15 : iv 0 9999 u_9 := iv_l1 (Int32.not_le.mp c_13) bu_9 b_12 (by decide)
    refine lv_aload_n hx hb dX10_bare_24 rfl (lv_at hl 1 rfl) ?_
    refine va_get (ci := 10) (v := .ref (z 20)) (C := RX10) (T := TX10) (N := 40) hx hb hg inX10 hown hK hP 4 rfl rfl 20 (by decide) (hg _ q_6_4) (fun _ h9 => h9) rfl dX10_bare_25 ?_
    refine lv_iload_n hx hb dX10_bare_28 rfl (lv_at hl 0 rfl) ?_
    refine va_iald hx hb hK hP 2 0 rfl rfl (iv_in b_15 (by decide)) dX10_bare_29 ?_
    refine lv_topi (fun x_16 ex_16 => ?_)
    have bx_16 : iv 0 9999 x_16 := by rw [ex_16]; exact tf_3 _
    refine lv_sipush (v := 625) hx hb dX10_bare_30 (by decide) ?_
    refine lv_irem hx hb dX10_bare_33 (by decide) ?_
    refine lv_topi (fun x_17 ex_17 => ?_)
    have bx_17 : iv 0 624 x_17 := by rw [ex_17]; exact iv_remp bx_16 (k := 625) (by decide) (by decide)
    refine lv_if_ne (tgt := 39) hx hb dX10_bare_34 (by decide) (fun c_18 => ?_) (fun c_18 => ?_)
    · have b_19 : iv 1 624 x_17 := iv_n0 c_18 bx_17 (iv_c (0 : Int32) (a := 0) (b := 0) (by decide)) (by decide)
      obtain ⟨x_20, ex_20⟩ : ∃ z9 : Int32, z9 = u_9 + 1 := ⟨_, rfl⟩
      have bx_20 : iv 1 10000 x_20 := by rw [ex_20]; exact iv_add b_15 (iv_c (1 : Int32) (a := 1) (b := 1) (by decide)) (by decide)
      refine lv_iinc (v := x_20) (lv' := [(1, .int x_20), (0, .ref (z 0))]) hx hb dX10_bare_39 hl (k := 0) rfl (by rw [ex_20]; rfl) (by decide) rfl (fun ls hl => ?_)
      refine lv_goto (tgt := 11) hx hb dX10_bare_42 (by decide) ?_
      exact ihn_10 _ _ _ _ (by rw [en_10, ex_20]; exact mu_up b_15 (by decide)) ⟨x_20, (iv_w bx_20 (by decide)), rfl, hP, hD, hS, lv_sub hl [0, 1] rfl⟩
    · have b_21 : iv 0 0 x_17 := iv_q c_18 (iv_c (0 : Int32) (a := 0) (b := 0) (by decide))
      refine lv_iload_n hx hb dX10_bare_37 rfl (lv_at hl 0 rfl) ?_
      have hP := subP (ws' := [(z 0, .inr (10, mo z 0 pz0_5 pz0_6 pz0_7 pz0_8 pz0_9 pz0_10 pz0_11 pz0_12 pz0_13 pz0_14 pz0_18 pz0_19 v_5 v_6 pz0_29)), (z 1, aI V 3075 fz1), (z 15, aI V 900 f_1), (z 16, aI V 6 f_2), (z 20, aI V 10001 f_3), (z 21, aI V 10000 f_4)]) hP [4, 5, 0, 1, 2, 3] rfl
      have hD := hD.sub (ws' := [(z 0, .inr (10, mo z 0 pz0_5 pz0_6 pz0_7 pz0_8 pz0_9 pz0_10 pz0_11 pz0_12 pz0_13 pz0_14 pz0_18 pz0_19 v_5 v_6 pz0_29)), (z 1, aI V 3075 fz1), (z 15, aI V 900 f_1), (z 16, aI V 6 f_2), (z 20, aI V 10001 f_3), (z 21, aI V 10000 f_4)]) [4, 5, 0, 1, 2, 3] rfl rfl
      exact fiI hx hb hr hlk hK hP hD hS dX10_bare_38 (Nat.le_of_ble_eq_true rfl) (Nat.le_of_ble_eq_true rfl) (⟨0, v_5, v_6, f_1, f_2, f_3, f_4, bv_5, tf_2, tf_3, tf_4, (iv_w b_15 (by decide)), g_7, rfl⟩)
theorem dX10_rests_0 : decode cX10_rests 0 = .ok (.aload_n 0, 1) := by decide +kernel
theorem dX10_rests_1 : decode cX10_rests 1 = .ok (.iconst 0, 1) := by decide +kernel
theorem dX10_rests_2 : decode cX10_rests 2 = .ok (.putfield 1, 3) := by decide +kernel
theorem dX10_rests_5 : decode cX10_rests 5 = .ok (.iconst 1, 1) := by decide +kernel
theorem dX10_rests_6 : decode cX10_rests 6 = .ok (.istore_n 1, 1) := by decide +kernel
theorem dX10_rests_7 : decode cX10_rests 7 = .ok (.iconst 0, 1) := by decide +kernel
theorem dX10_rests_8 : decode cX10_rests 8 = .ok (.istore_n 2, 1) := by decide +kernel
theorem dX10_rests_9 : decode cX10_rests 9 = .ok (.iload_n 2, 1) := by decide +kernel
theorem dX10_rests_10 : decode cX10_rests 10 = .ok (.aload_n 0, 1) := by decide +kernel
theorem dX10_rests_11 : decode cX10_rests 11 = .ok (.getfield 13, 3) := by decide +kernel
theorem dX10_rests_14 : decode cX10_rests 14 = .ok (.iconst 1, 1) := by decide +kernel
theorem dX10_rests_15 : decode cX10_rests 15 = .ok (.iaload, 1) := by decide +kernel
theorem dX10_rests_16 : decode cX10_rests 16 = .ok (.if_icmp .ge 13, 3) := by decide +kernel
theorem dX10_rests_29 : decode cX10_rests 29 = .ok (.iconst 0, 1) := by decide +kernel
theorem dX10_rests_30 : decode cX10_rests 30 = .ok (.istore_n 2, 1) := by decide +kernel
theorem dX10_rests_31 : decode cX10_rests 31 = .ok (.iconst 0, 1) := by decide +kernel
theorem dX10_rests_32 : decode cX10_rests 32 = .ok (.istore_n 3, 1) := by decide +kernel
theorem dX10_rests_33 : decode cX10_rests 33 = .ok (.iload_n 3, 1) := by decide +kernel
theorem dX10_rests_34 : decode cX10_rests 34 = .ok (.iconst 1, 1) := by decide +kernel
theorem dX10_rests_35 : decode cX10_rests 35 = .ok (.aload_n 0, 1) := by decide +kernel
theorem dX10_rests_36 : decode cX10_rests 36 = .ok (.getfield 13, 3) := by decide +kernel
theorem dX10_rests_39 : decode cX10_rests 39 = .ok (.iconst 1, 1) := by decide +kernel
theorem dX10_rests_40 : decode cX10_rests 40 = .ok (.iaload, 1) := by decide +kernel
theorem dX10_rests_41 : decode cX10_rests 41 = .ok (.ishl, 1) := by decide +kernel
theorem dX10_rests_42 : decode cX10_rests 42 = .ok (.if_icmp .ge 63, 3) := by decide +kernel
theorem dX10_rests_105 : decode cX10_rests 105 = .ok (.iload_n 2, 1) := by decide +kernel
theorem dX10_rests_106 : decode cX10_rests 106 = .ok (.ireturn, 1) := by decide +kernel
theorem dX10_rests_45 : decode cX10_rests 45 = .ok (.iconst 0, 1) := by decide +kernel
theorem dX10_rests_46 : decode cX10_rests 46 = .ok (.istore 4, 2) := by decide +kernel
theorem dX10_rests_48 : decode cX10_rests 48 = .ok (.iload 4, 2) := by decide +kernel
theorem dX10_rests_50 : decode cX10_rests 50 = .ok (.iload_n 1, 1) := by decide +kernel
theorem dX10_rests_51 : decode cX10_rests 51 = .ok (.if_icmp .ge 48, 3) := by decide +kernel
theorem dX10_rests_99 : decode cX10_rests 99 = .ok (.iinc 3 1, 3) := by decide +kernel
theorem dX10_rests_102 : decode cX10_rests 102 = .ok (.goto (-69), 3) := by decide +kernel
theorem dX10_rests_54 : decode cX10_rests 54 = .ok (.iload_n 2, 1) := by decide +kernel
theorem dX10_rests_55 : decode cX10_rests 55 = .ok (.aload_n 0, 1) := by decide +kernel
theorem dX10_rests_56 : decode cX10_rests 56 = .ok (.sipush 625, 3) := by decide +kernel
theorem dX10_rests_59 : decode cX10_rests 59 = .ok (.iload_n 3, 1) := by decide +kernel
theorem dX10_rests_60 : decode cX10_rests 60 = .ok (.imul, 1) := by decide +kernel
theorem dX10_rests_61 : decode cX10_rests 61 = .ok (.iload 4, 2) := by decide +kernel
theorem dX10_rests_63 : decode cX10_rests 63 = .ok (.iadd, 1) := by decide +kernel
theorem dX10_rests_64 : decode cX10_rests 64 = .ok (.iconst 0, 1) := by decide +kernel
theorem dX10_rests_65 : decode cX10_rests 65 = .ok (.aload_n 0, 1) := by decide +kernel
theorem dX10_rests_66 : decode cX10_rests 66 = .ok (.getfield 13, 3) := by decide +kernel
theorem dX10_rests_69 : decode cX10_rests 69 = .ok (.bipush 51, 2) := by decide +kernel
theorem dX10_rests_71 : decode cX10_rests 71 = .ok (.iaload, 1) := by decide +kernel
theorem dX10_rests_72 : decode cX10_rests 72 = .ok (.invokevirtual 272, 3) := by decide +kernel
theorem dX10_rests_75 : decode cX10_rests 75 = .ok (.sipush 625, 3) := by decide +kernel
theorem dX10_rests_78 : decode cX10_rests 78 = .ok (.iload_n 3, 1) := by decide +kernel
theorem dX10_rests_79 : decode cX10_rests 79 = .ok (.imul, 1) := by decide +kernel
theorem dX10_rests_80 : decode cX10_rests 80 = .ok (.iload 4, 2) := by decide +kernel
theorem dX10_rests_82 : decode cX10_rests 82 = .ok (.iadd, 1) := by decide +kernel
theorem dX10_rests_83 : decode cX10_rests 83 = .ok (.if_icmp .ne 7, 3) := by decide +kernel
theorem dX10_rests_90 : decode cX10_rests 90 = .ok (.iconst 0, 1) := by decide +kernel
theorem dX10_rests_91 : decode cX10_rests 91 = .ok (.iadd, 1) := by decide +kernel
theorem dX10_rests_92 : decode cX10_rests 92 = .ok (.istore_n 2, 1) := by decide +kernel
theorem dX10_rests_93 : decode cX10_rests 93 = .ok (.iinc 4 1, 3) := by decide +kernel
theorem dX10_rests_96 : decode cX10_rests 96 = .ok (.goto (-48), 3) := by decide +kernel
theorem dX10_rests_86 : decode cX10_rests 86 = .ok (.iconst 1, 1) := by decide +kernel
theorem dX10_rests_87 : decode cX10_rests 87 = .ok (.goto 4, 3) := by decide +kernel
theorem dX10_rests_19 : decode cX10_rests 19 = .ok (.iload_n 1, 1) := by decide +kernel
theorem dX10_rests_20 : decode cX10_rests 20 = .ok (.iconst 5, 1) := by decide +kernel
theorem dX10_rests_21 : decode cX10_rests 21 = .ok (.imul, 1) := by decide +kernel
theorem dX10_rests_22 : decode cX10_rests 22 = .ok (.istore_n 1, 1) := by decide +kernel
theorem dX10_rests_23 : decode cX10_rests 23 = .ok (.iinc 2 1, 3) := by decide +kernel
theorem dX10_rests_26 : decode cX10_rests 26 = .ok (.goto (-17), 3) := by decide +kernel
set_option maxHeartbeats 4000000 in
set_option maxRecDepth 100000 in
theorem k_X10_rests_0 (l : Launch) (V : GV) (z : Nat → Nat) (pz0_0 : Int32) (pz0_5 : Int32) (pz0_6 : Int32) (pz0_7 : Int32) (pz0_8 : Int32) (pz0_9 : Int32) (pz0_10 : Int32) (pz0_11 : Int32) (pz0_12 : Int32) (pz0_13 : Int32) (pz0_14 : Int32) (pz0_18 : Int32) (pz0_19 : Int32) (pz0_22 : Int32) (pz0_23 : Int32) (pz0_29 : Int32) (fz1 : Nat → Int32) (fz15 : Nat → Int32) (fz16 : Nat → Int32) (bpz0_5 : iv 0 900 pz0_5) (bpz0_6 : iv 0 900 pz0_6) (bpz0_7 : iv 0 900 pz0_7) (bpz0_8 : iv 0 900 pz0_8) (bpz0_10 : iv 0 999 pz0_10) (bpz0_11 : iv 0 4 pz0_11) (bpz0_12 : iv 0 900 pz0_12) (bpz0_13 : iv 0 4 pz0_13) (bpz0_14 : iv (-1) 900 pz0_14) (bpz0_18 : iv 0 2 pz0_18) (bpz0_22 : iv 0 9999 pz0_22) (bpz0_29 : iv 0 10000 pz0_29) (tfz1 : ivT tA fz1) (tfz16 : ivT tW fz16) (hf0 : RW fz1) : Ct l V yX10_rests (.code yX10_rests cX10_rests 5 (some .int)) 5 [.ref (z 0)] [(z 0, .inr (10, mo z pz0_0 pz0_5 pz0_6 pz0_7 pz0_8 pz0_9 pz0_10 pz0_11 pz0_12 pz0_13 pz0_14 pz0_18 pz0_19 pz0_22 pz0_23 pz0_29)), (z 1, aI V 3075 fz1), (z 15, aI V 900 fz15), (z 16, aI V 6 fz16)] 0 0 (QI V (fun (r : Int32) (w : va_W) => ∃ (v0 : Int32) (g1 : Nat → Int32) (g2 : Nat → Int32), (ivT tW g2) ∧ (RW fz1) ∧ w = [(z 0, .inr (10, mo z v0 pz0_5 pz0_6 pz0_7 pz0_8 pz0_9 pz0_10 pz0_11 pz0_12 pz0_13 pz0_14 pz0_18 pz0_19 pz0_22 pz0_23 pz0_29)), (z 1, aI V 3075 fz1), (z 15, aI V 900 g1), (z 16, aI V 6 g2)])) := by
  refine Ct.of (by decide) (Nat.le_of_ble_eq_true rfl) (fun p e s m below meth c A ls hx hb hr hml hown hlk hnm hg hP hK hD hE hA hS hl => ?_)
  have hl : lv_has ls 5 [(0, .ref (z 0))] := hl
  refine lv_aload_n hx hb dX10_rests_0 rfl (lv_at hl 0 rfl) ?_
  refine lv_iconst (v := 0) hx hb dX10_rests_1 (by decide) ?_
  refine va_put (ci := 10) (v := .int 0) (ty := .int) (C := RX10) (T := TX10) (N := 40) hx hb hg inX10 tyX10 tyX10_ok nmX10 hown hK hP hD hS 0 rfl rfl 0 (by decide) (hg _ q_5_224) (fun _ h9 => h9) rfl (by decide +kernel) rfl rfl (Nat.le_of_ble_eq_true rfl) dX10_rests_2 (fun H locs hP hD hS => ?_)
  have hP : va_P V.1 vwCl [(z 0, .inr (10, mo z 0 pz0_5 pz0_6 pz0_7 pz0_8 pz0_9 pz0_10 pz0_11 pz0_12 pz0_13 pz0_14 pz0_18 pz0_19 pz0_22 pz0_23 pz0_29)), (z 1, aI V 3075 fz1), (z 15, aI V 900 fz15), (z 16, aI V 6 fz16)] H := hP
  have hD : va_D A [(z 0, .inr (10, mo z 0 pz0_5 pz0_6 pz0_7 pz0_8 pz0_9 pz0_10 pz0_11 pz0_12 pz0_13 pz0_14 pz0_18 pz0_19 pz0_22 pz0_23 pz0_29)), (z 1, aI V 3075 fz1), (z 15, aI V 900 fz15), (z 16, aI V 6 fz16)] := hD
  refine lv_iconst (v := 1) hx hb dX10_rests_5 (by decide) ?_
  refine lv_istore_n (lv' := [(1, .int 1), (0, .ref (z 0))]) hx hb dX10_rests_6 rfl hl (by decide) rfl (fun ls hl => ?_)
  refine lv_iconst (v := 0) hx hb dX10_rests_7 (by decide) ?_
  refine lv_istore_n (lv' := [(2, .int 0), (1, .int 1), (0, .ref (z 0))]) hx hb dX10_rests_8 rfl hl (by decide) rfl (fun ls hl => ?_)
  refine lv_iload_n hx hb dX10_rests_9 rfl (lv_at hl 0 rfl) ?_
  refine lv_aload_n hx hb dX10_rests_10 rfl (lv_at hl 2 rfl) ?_
  refine va_get (ci := 10) (v := .ref (z 1)) (C := RX10) (T := TX10) (N := 40) hx hb hg inX10 hown hK hP 0 rfl rfl 1 (by decide) (hg _ q_5_225) (fun _ h9 => h9) rfl dX10_rests_11 ?_
  refine lv_iconst (v := 1) hx hb dX10_rests_14 (by decide) ?_
  refine va_iald hx hb hK hP 1 0 rfl rfl (vin (by decide +kernel)) dX10_rests_15 ?_
  refine lv_topi (fun x_1 ex_1 => ?_)
  have bx_1 : iv 0 4 x_1 := by rw [ex_1]; exact rdT (a := 1) (n := 1) tfz1 (iv_c (1 : Int32) (a := 1) (b := 1) (by decide)) (by decide) (by decide +kernel)
  refine lv_icmp_ge (tgt := 29) hx hb dX10_rests_16 (by decide) (fun c_2 => ?_) (fun c_2 => ?_)
  · have b_3 : iv 0 0 x_1 := iv_e1 c_2 bx_1 (iv_c (0 : Int32) (a := 0) (b := 0) (by decide)) (by decide)
    refine lv_iconst (v := 0) hx hb dX10_rests_29 (by decide) ?_
    refine lv_istore_n (lv' := [(2, .int 0), (1, .int 1), (0, .ref (z 0))]) hx hb dX10_rests_30 rfl hl (by decide) rfl (fun ls hl => ?_)
    refine lv_iconst (v := 0) hx hb dX10_rests_31 (by decide) ?_
    refine lv_istore_n (lv' := [(3, .int 0), (2, .int 0), (1, .int 1), (0, .ref (z 0))]) hx hb dX10_rests_32 rfl hl (by decide) rfl (fun ls hl => ?_)
    refine loopF (X := fun (n_8 : Nat) (H : Heap) (locs : List Loc) (ls : Array Slot) => ∃ (u_4 : Int32) (u_5 : Int32) (f_6 : Nat → Int32) (f_7 : Nat → Int32), (iv 0 2147483647 u_4) ∧ (ivT tW f_7) ∧ (RW fz1) ∧ n_8 = (2147483647 - (u_4 : Int32).toInt).toNat ∧ va_P V.1 vwCl [(z 0, .inr (10, mo z 0 pz0_5 pz0_6 pz0_7 pz0_8 pz0_9 pz0_10 pz0_11 pz0_12 pz0_13 pz0_14 pz0_18 pz0_19 pz0_22 pz0_23 pz0_29)), (z 1, aI V 3075 fz1), (z 15, aI V 900 f_6), (z 16, aI V 6 f_7)] H ∧ va_D A [(z 0, .inr (10, mo z 0 pz0_5 pz0_6 pz0_7 pz0_8 pz0_9 pz0_10 pz0_11 pz0_12 pz0_13 pz0_14 pz0_18 pz0_19 pz0_22 pz0_23 pz0_29)), (z 1, aI V 3075 fz1), (z 15, aI V 900 f_6), (z 16, aI V 6 f_7)] ∧ va_S A s.heap H locs ∧ lv_has ls 5 [(3, .int u_4), (2, .int u_5), (1, .int 1), (0, .ref (z 0))]) (g := fun ls => F0 m 33 ls []) (fun n_8 H locs ls hX ihn_8 => ?_) _ ⟨0, 0, fz15, fz16, (iv_c (0 : Int32) (by decide)), tfz16, hf0, rfl, hP, hD, hS, lv_sub hl [0, 1, 2, 3] rfl⟩
    obtain ⟨u_4, u_5, f_6, f_7, bu_4, tf_7, inn_8_0, en_8, hP, hD, hS, hl⟩ := hX
    refine lv_iload_n hx hb dX10_rests_33 rfl (lv_at hl 0 rfl) ?_
    refine lv_iconst (v := 1) hx hb dX10_rests_34 (by decide) ?_
    refine lv_aload_n hx hb dX10_rests_35 rfl (lv_at hl 3 rfl) ?_
    refine va_get (ci := 10) (v := .ref (z 1)) (C := RX10) (T := TX10) (N := 40) hx hb hg inX10 hown hK hP 0 rfl rfl 1 (by decide) (hg _ q_5_225) (fun _ h9 => h9) rfl dX10_rests_36 ?_
    refine lv_iconst (v := 1) hx hb dX10_rests_39 (by decide) ?_
    refine va_iald hx hb hK hP 1 0 rfl rfl (vin (by decide +kernel)) dX10_rests_40 ?_
    refine tpi (y := x_1) ex_1.symm ?_
    refine tpi (y := 0) (iv_eqp b_3 (iv_c (0 : Int32) (by decide))) ?_
    refine lv_ishl hx hb dX10_rests_41 ?_
    refine tpi (y := 1) (by decide +kernel) ?_
    refine lv_icmp_ge (tgt := 105) hx hb dX10_rests_42 (by decide) (fun c_9 => ?_) (fun c_9 => ?_)
    · have b_10 : iv 1 2147483647 u_4 := iv_e2 c_9 (iv_c (1 : Int32) (a := 1) (b := 1) (by decide)) bu_4 (by decide)
      refine lv_iload_n hx hb dX10_rests_105 rfl (lv_at hl 1 rfl) ?_
      exact fiI hx hb hr hlk hK hP hD hS dX10_rests_106 (Nat.le_of_ble_eq_true rfl) (Nat.le_of_ble_eq_true rfl) (⟨0, f_6, f_7, tf_7, inn_8_0, rfl⟩)
    · have b_11 : iv 0 0 u_4 := iv_l1 (Int32.not_le.mp c_9) bu_4 (iv_c (1 : Int32) (a := 1) (b := 1) (by decide)) (by decide)
      refine lv_iconst (v := 0) hx hb dX10_rests_45 (by decide) ?_
      refine lv_istore (lv' := [(4, .int 0), (3, .int u_4), (2, .int u_5), (1, .int 1), (0, .ref (z 0))]) hx hb dX10_rests_46 hl (by decide) rfl (fun ls hl => ?_)
      refine loopF (X := fun (n_16 : Nat) (H : Heap) (locs : List Loc) (ls : Array Slot) => ∃ (u_12 : Int32) (u_13 : Int32) (f_14 : Nat → Int32) (f_15 : Nat → Int32), (iv 0 2147483647 u_12) ∧ (ivT tW f_15) ∧ (RW fz1) ∧ n_16 = (2147483647 - (u_12 : Int32).toInt).toNat ∧ va_P V.1 vwCl [(z 0, .inr (10, mo z 0 pz0_5 pz0_6 pz0_7 pz0_8 pz0_9 pz0_10 pz0_11 pz0_12 pz0_13 pz0_14 pz0_18 pz0_19 pz0_22 pz0_23 pz0_29)), (z 1, aI V 3075 fz1), (z 15, aI V 900 f_14), (z 16, aI V 6 f_15)] H ∧ va_D A [(z 0, .inr (10, mo z 0 pz0_5 pz0_6 pz0_7 pz0_8 pz0_9 pz0_10 pz0_11 pz0_12 pz0_13 pz0_14 pz0_18 pz0_19 pz0_22 pz0_23 pz0_29)), (z 1, aI V 3075 fz1), (z 15, aI V 900 f_14), (z 16, aI V 6 f_15)] ∧ va_S A s.heap H locs ∧ lv_has ls 5 [(4, .int u_12), (3, .int u_4), (2, .int u_13), (1, .int 1), (0, .ref (z 0))]) (g := fun ls => F0 m 48 ls []) (fun n_16 H locs ls hX ihn_16 => ?_) _ ⟨0, u_5, f_6, f_7, (iv_c (0 : Int32) (by decide)), tf_7, inn_8_0, rfl, hP, hD, hS, lv_sub hl [0, 1, 2, 3, 4] rfl⟩
      obtain ⟨u_12, u_13, f_14, f_15, bu_12, tf_15, inn_16_0, en_16, hP, hD, hS, hl⟩ := hX
      refine lv_iload hx hb dX10_rests_48 (lv_at hl 0 rfl) ?_
      refine lv_iload_n hx hb dX10_rests_50 rfl (lv_at hl 3 rfl) ?_
      refine lv_icmp_ge (tgt := 99) hx hb dX10_rests_51 (by decide) (fun c_17 => ?_) (fun c_17 => ?_)
      · have b_18 : iv 1 2147483647 u_12 := iv_e2 c_17 (iv_c (1 : Int32) (a := 1) (b := 1) (by decide)) bu_12 (by decide)
        obtain ⟨x_19, ex_19⟩ : ∃ z9 : Int32, z9 = u_4 + 1 := ⟨_, rfl⟩
        have bx_19 : iv 1 1 x_19 := by rw [ex_19]; exact iv_add b_11 (iv_c (1 : Int32) (a := 1) (b := 1) (by decide)) (by decide)
        refine lv_iinc (v := x_19) (lv' := [(3, .int x_19), (4, .int u_12), (2, .int u_13), (1, .int 1), (0, .ref (z 0))]) hx hb dX10_rests_99 hl (k := 1) rfl (by rw [ex_19]; rfl) (by decide) rfl (fun ls hl => ?_)
        refine lv_goto (tgt := 33) hx hb dX10_rests_102 (by decide) ?_
        exact ihn_8 _ _ _ _ (by rw [en_8, ex_19]; exact mu_up b_11 (by decide)) ⟨x_19, u_13, f_14, f_15, (iv_w bx_19 (by decide)), tf_15, inn_16_0, rfl, hP, hD, hS, lv_sub hl [0, 2, 3, 4] rfl⟩
      · have b_20 : iv 0 0 u_12 := iv_l1 (Int32.not_le.mp c_17) bu_12 (iv_c (1 : Int32) (a := 1) (b := 1) (by decide)) (by decide)
        refine lv_iload_n hx hb dX10_rests_54 rfl (lv_at hl 2 rfl) ?_
        refine lv_aload_n hx hb dX10_rests_55 rfl (lv_at hl 4 rfl) ?_
        refine lv_sipush (v := 625) hx hb dX10_rests_56 (by decide) ?_
        refine lv_iload_n hx hb dX10_rests_59 rfl (lv_at hl 1 rfl) ?_
        refine lv_imul hx hb dX10_rests_60 ?_
        refine lv_topi (fun x_21 ex_21 => ?_)
        have bx_21 : iv 0 0 x_21 := by rw [ex_21]; exact iv_cmul (iv_c (625 : Int32) (a := 625) (b := 625) (by decide)) b_11 (by decide)
        refine lv_iload hx hb dX10_rests_61 (lv_at hl 0 rfl) ?_
        refine lv_iadd hx hb dX10_rests_63 ?_
        refine lv_topi (fun x_22 ex_22 => ?_)
        have bx_22 : iv 0 0 x_22 := by rw [ex_22]; exact iv_add bx_21 b_20 (by decide)
        refine lv_iconst (v := 0) hx hb dX10_rests_64 (by decide) ?_
        refine lv_aload_n hx hb dX10_rests_65 rfl (lv_at hl 4 rfl) ?_
        refine va_get (ci := 10) (v := .ref (z 1)) (C := RX10) (T := TX10) (N := 40) hx hb hg inX10 hown hK hP 0 rfl rfl 1 (by decide) (hg _ q_5_225) (fun _ h9 => h9) rfl dX10_rests_66 ?_
        refine lv_bipush (v := 51) hx hb dX10_rests_69 (by decide) ?_
        refine va_iald hx hb hK hP 1 0 rfl rfl (vin (by decide +kernel)) dX10_rests_71 ?_
        refine lv_topi (fun x_23 ex_23 => ?_)
        have bx_23 : iv 0 9 x_23 := by rw [ex_23]; exact rdT (a := 51) (n := 1) tfz1 (iv_c (51 : Int32) (a := 51) (b := 51) (by decide)) (by decide) (by decide +kernel)
        refine jnI (wr := []) (rnV (rest := [.int u_13]) ⟨hx, hb, hml, hown, hg⟩ (k_X10_nightTo_0 l V z x_22 0 x_23 f_14 f_15 0 pz0_5 pz0_6 pz0_7 pz0_8 pz0_9 pz0_10 pz0_11 pz0_12 pz0_13 pz0_14 pz0_18 pz0_19 pz0_22 pz0_23 pz0_29 fz1 (iv_w bx_22 (by decide)) tf_15 bpz0_5 bpz0_6 bpz0_7 bpz0_8 bpz0_10 bpz0_11 bpz0_12 bpz0_13 bpz0_14 bpz0_18 bpz0_22 bpz0_29 tfz1 inn_16_0) mt_X10_nightTo q_7_18 ⟨Nat.le_of_ble_eq_true rfl, Nat.le_of_ble_eq_true rfl⟩ hK hP hD hS hA hE [2, 3, 0, 1] rfl rfl 0 rfl rfl rfl rfl hl.1 rfl (Nat.le_of_ble_eq_true rfl) dX10_rests_72 ⟨Nat.le_of_ble_eq_true rfl, Nat.le_of_ble_eq_true rfl⟩) hP hD hS hA [2, 3, 0, 1] [] rfl rfl rfl (by decide) (fun r_24 w H locs hw hP hD hS => ?_)
        obtain ⟨f_25, f_26, tf_26, br_24, g_27, rfl⟩ := hw
        have hP : va_P V.1 vwCl [(z 15, aI V 900 f_25), (z 16, aI V 6 f_26), (z 0, .inr (10, mo z 0 pz0_5 pz0_6 pz0_7 pz0_8 pz0_9 pz0_10 pz0_11 pz0_12 pz0_13 pz0_14 pz0_18 pz0_19 pz0_22 pz0_23 pz0_29)), (z 1, aI V 3075 fz1)] H := hP
        have hD : va_D A [(z 15, aI V 900 f_25), (z 16, aI V 6 f_26), (z 0, .inr (10, mo z 0 pz0_5 pz0_6 pz0_7 pz0_8 pz0_9 pz0_10 pz0_11 pz0_12 pz0_13 pz0_14 pz0_18 pz0_19 pz0_22 pz0_23 pz0_29)), (z 1, aI V 3075 fz1)] := hD
        refine lv_sipush (v := 625) hx hb dX10_rests_75 (by decide) ?_
        refine lv_iload_n hx hb dX10_rests_78 rfl (lv_at hl 1 rfl) ?_
        refine lv_imul hx hb dX10_rests_79 ?_
        refine tpi (y := x_21) ex_21.symm ?_
        refine lv_iload hx hb dX10_rests_80 (lv_at hl 0 rfl) ?_
        refine lv_iadd hx hb dX10_rests_82 ?_
        refine tpi (y := x_22) ex_22.symm ?_
        refine lv_icmp_ne (tgt := 90) hx hb dX10_rests_83 (by decide) (fun c_28 => ?_) (fun c_28 => ?_)
        · have b_29 : iv 1 9843 r_24 := iv_n0 c_28 br_24 bx_22 (by decide)
          refine lv_iconst (v := 0) hx hb dX10_rests_90 (by decide) ?_
          refine lv_iadd hx hb dX10_rests_91 ?_
          refine lv_topi (fun x_30 ex_30 => ?_)
          refine lv_istore_n (lv' := [(2, .int x_30), (4, .int u_12), (3, .int u_4), (1, .int 1), (0, .ref (z 0))]) hx hb dX10_rests_92 rfl hl (by decide) rfl (fun ls hl => ?_)
          obtain ⟨x_31, ex_31⟩ : ∃ z9 : Int32, z9 = u_12 + 1 := ⟨_, rfl⟩
          have bx_31 : iv 1 1 x_31 := by rw [ex_31]; exact iv_add b_20 (iv_c (1 : Int32) (a := 1) (b := 1) (by decide)) (by decide)
          refine lv_iinc (v := x_31) (lv' := [(4, .int x_31), (2, .int x_30), (3, .int u_4), (1, .int 1), (0, .ref (z 0))]) hx hb dX10_rests_93 hl (k := 1) rfl (by rw [ex_31]; rfl) (by decide) rfl (fun ls hl => ?_)
          refine lv_goto (tgt := 48) hx hb dX10_rests_96 (by decide) ?_
          have hP := subP (ws' := [(z 0, .inr (10, mo z 0 pz0_5 pz0_6 pz0_7 pz0_8 pz0_9 pz0_10 pz0_11 pz0_12 pz0_13 pz0_14 pz0_18 pz0_19 pz0_22 pz0_23 pz0_29)), (z 1, aI V 3075 fz1), (z 15, aI V 900 f_25), (z 16, aI V 6 f_26)]) hP [2, 3, 0, 1] rfl
          have hD := hD.sub (ws' := [(z 0, .inr (10, mo z 0 pz0_5 pz0_6 pz0_7 pz0_8 pz0_9 pz0_10 pz0_11 pz0_12 pz0_13 pz0_14 pz0_18 pz0_19 pz0_22 pz0_23 pz0_29)), (z 1, aI V 3075 fz1), (z 15, aI V 900 f_25), (z 16, aI V 6 f_26)]) [2, 3, 0, 1] rfl rfl
          exact ihn_16 _ _ _ _ (by rw [en_16, ex_31]; exact mu_up b_20 (by decide)) ⟨x_31, x_30, f_25, f_26, (iv_w bx_31 (by decide)), tf_26, g_27, rfl, hP, hD, hS, lv_sub hl [0, 2, 1, 3, 4] rfl⟩
        · have b_32 : iv 0 0 r_24 := iv_q c_28 bx_22
          refine lv_iconst (v := 1) hx hb dX10_rests_86 (by decide) ?_
          refine lv_goto (tgt := 91) hx hb dX10_rests_87 (by decide) ?_
          refine lv_iadd hx hb dX10_rests_91 ?_
          refine lv_topi (fun x_33 ex_33 => ?_)
          refine lv_istore_n (lv' := [(2, .int x_33), (4, .int u_12), (3, .int u_4), (1, .int 1), (0, .ref (z 0))]) hx hb dX10_rests_92 rfl hl (by decide) rfl (fun ls hl => ?_)
          obtain ⟨x_34, ex_34⟩ : ∃ z9 : Int32, z9 = u_12 + 1 := ⟨_, rfl⟩
          have bx_34 : iv 1 1 x_34 := by rw [ex_34]; exact iv_add b_20 (iv_c (1 : Int32) (a := 1) (b := 1) (by decide)) (by decide)
          refine lv_iinc (v := x_34) (lv' := [(4, .int x_34), (2, .int x_33), (3, .int u_4), (1, .int 1), (0, .ref (z 0))]) hx hb dX10_rests_93 hl (k := 1) rfl (by rw [ex_34]; rfl) (by decide) rfl (fun ls hl => ?_)
          refine lv_goto (tgt := 48) hx hb dX10_rests_96 (by decide) ?_
          have hP := subP (ws' := [(z 0, .inr (10, mo z 0 pz0_5 pz0_6 pz0_7 pz0_8 pz0_9 pz0_10 pz0_11 pz0_12 pz0_13 pz0_14 pz0_18 pz0_19 pz0_22 pz0_23 pz0_29)), (z 1, aI V 3075 fz1), (z 15, aI V 900 f_25), (z 16, aI V 6 f_26)]) hP [2, 3, 0, 1] rfl
          have hD := hD.sub (ws' := [(z 0, .inr (10, mo z 0 pz0_5 pz0_6 pz0_7 pz0_8 pz0_9 pz0_10 pz0_11 pz0_12 pz0_13 pz0_14 pz0_18 pz0_19 pz0_22 pz0_23 pz0_29)), (z 1, aI V 3075 fz1), (z 15, aI V 900 f_25), (z 16, aI V 6 f_26)]) [2, 3, 0, 1] rfl rfl
          exact ihn_16 _ _ _ _ (by rw [en_16, ex_34]; exact mu_up b_20 (by decide)) ⟨x_34, x_33, f_25, f_26, (iv_w bx_34 (by decide)), tf_26, g_27, rfl, hP, hD, hS, lv_sub hl [0, 2, 1, 3, 4] rfl⟩
  · have b_35 : iv 1 4 x_1 := iv_l2 (Int32.not_le.mp c_2) (iv_c (0 : Int32) (a := 0) (b := 0) (by decide)) bx_1 (by decide)
    refine lv_iload_n hx hb dX10_rests_19 rfl (lv_at hl 1 rfl) ?_
    refine lv_iconst (v := 5) hx hb dX10_rests_20 (by decide) ?_
    refine lv_imul hx hb dX10_rests_21 ?_
    refine tpi (y := 5) (by decide +kernel) ?_
    refine lv_istore_n (lv' := [(1, .int 5), (2, .int 0), (0, .ref (z 0))]) hx hb dX10_rests_22 rfl hl (by decide) rfl (fun ls hl => ?_)
    refine lv_iinc (v := 1) (lv' := [(2, .int 1), (1, .int 5), (0, .ref (z 0))]) hx hb dX10_rests_23 hl (k := 1) rfl (by decide +kernel) (by decide) rfl (fun ls hl => ?_)
    refine lv_goto (tgt := 9) hx hb dX10_rests_26 (by decide) ?_
    refine lv_iload_n hx hb dX10_rests_9 rfl (lv_at hl 0 rfl) ?_
    refine lv_aload_n hx hb dX10_rests_10 rfl (lv_at hl 2 rfl) ?_
    refine va_get (ci := 10) (v := .ref (z 1)) (C := RX10) (T := TX10) (N := 40) hx hb hg inX10 hown hK hP 0 rfl rfl 1 (by decide) (hg _ q_5_225) (fun _ h9 => h9) rfl dX10_rests_11 ?_
    refine lv_iconst (v := 1) hx hb dX10_rests_14 (by decide) ?_
    refine va_iald hx hb hK hP 1 0 rfl rfl (vin (by decide +kernel)) dX10_rests_15 ?_
    refine tpi (y := x_1) ex_1.symm ?_
    refine lv_icmp_ge (tgt := 29) hx hb dX10_rests_16 (by decide) (fun c_36 => ?_) (fun c_36 => ?_)
    · have b_37 : iv 1 1 x_1 := iv_e1 c_36 b_35 (iv_c (1 : Int32) (a := 1) (b := 1) (by decide)) (by decide)
      refine lv_iconst (v := 0) hx hb dX10_rests_29 (by decide) ?_
      refine lv_istore_n (lv' := [(2, .int 0), (1, .int 5), (0, .ref (z 0))]) hx hb dX10_rests_30 rfl hl (by decide) rfl (fun ls hl => ?_)
      refine lv_iconst (v := 0) hx hb dX10_rests_31 (by decide) ?_
      refine lv_istore_n (lv' := [(3, .int 0), (2, .int 0), (1, .int 5), (0, .ref (z 0))]) hx hb dX10_rests_32 rfl hl (by decide) rfl (fun ls hl => ?_)
      refine loopF (X := fun (n_42 : Nat) (H : Heap) (locs : List Loc) (ls : Array Slot) => ∃ (u_38 : Int32) (u_39 : Int32) (f_40 : Nat → Int32) (f_41 : Nat → Int32), (iv 0 2147483647 u_38) ∧ (ivT tW f_41) ∧ (RW fz1) ∧ n_42 = (2147483647 - (u_38 : Int32).toInt).toNat ∧ va_P V.1 vwCl [(z 0, .inr (10, mo z 0 pz0_5 pz0_6 pz0_7 pz0_8 pz0_9 pz0_10 pz0_11 pz0_12 pz0_13 pz0_14 pz0_18 pz0_19 pz0_22 pz0_23 pz0_29)), (z 1, aI V 3075 fz1), (z 15, aI V 900 f_40), (z 16, aI V 6 f_41)] H ∧ va_D A [(z 0, .inr (10, mo z 0 pz0_5 pz0_6 pz0_7 pz0_8 pz0_9 pz0_10 pz0_11 pz0_12 pz0_13 pz0_14 pz0_18 pz0_19 pz0_22 pz0_23 pz0_29)), (z 1, aI V 3075 fz1), (z 15, aI V 900 f_40), (z 16, aI V 6 f_41)] ∧ va_S A s.heap H locs ∧ lv_has ls 5 [(3, .int u_38), (2, .int u_39), (1, .int 5), (0, .ref (z 0))]) (g := fun ls => F0 m 33 ls []) (fun n_42 H locs ls hX ihn_42 => ?_) _ ⟨0, 0, fz15, fz16, (iv_c (0 : Int32) (by decide)), tfz16, hf0, rfl, hP, hD, hS, lv_sub hl [0, 1, 2, 3] rfl⟩
      obtain ⟨u_38, u_39, f_40, f_41, bu_38, tf_41, inn_42_0, en_42, hP, hD, hS, hl⟩ := hX
      refine lv_iload_n hx hb dX10_rests_33 rfl (lv_at hl 0 rfl) ?_
      refine lv_iconst (v := 1) hx hb dX10_rests_34 (by decide) ?_
      refine lv_aload_n hx hb dX10_rests_35 rfl (lv_at hl 3 rfl) ?_
      refine va_get (ci := 10) (v := .ref (z 1)) (C := RX10) (T := TX10) (N := 40) hx hb hg inX10 hown hK hP 0 rfl rfl 1 (by decide) (hg _ q_5_225) (fun _ h9 => h9) rfl dX10_rests_36 ?_
      refine lv_iconst (v := 1) hx hb dX10_rests_39 (by decide) ?_
      refine va_iald hx hb hK hP 1 0 rfl rfl (vin (by decide +kernel)) dX10_rests_40 ?_
      refine tpi (y := x_1) ex_1.symm ?_
      refine tpi (y := 1) (iv_eqp b_37 (iv_c (1 : Int32) (by decide))) ?_
      refine lv_ishl hx hb dX10_rests_41 ?_
      refine tpi (y := 2) (by decide +kernel) ?_
      refine lv_icmp_ge (tgt := 105) hx hb dX10_rests_42 (by decide) (fun c_43 => ?_) (fun c_43 => ?_)
      · have b_44 : iv 2 2147483647 u_38 := iv_e2 c_43 (iv_c (2 : Int32) (a := 2) (b := 2) (by decide)) bu_38 (by decide)
        refine lv_iload_n hx hb dX10_rests_105 rfl (lv_at hl 1 rfl) ?_
        exact fiI hx hb hr hlk hK hP hD hS dX10_rests_106 (Nat.le_of_ble_eq_true rfl) (Nat.le_of_ble_eq_true rfl) (⟨0, f_40, f_41, tf_41, inn_42_0, rfl⟩)
      · have b_45 : iv 0 1 u_38 := iv_l1 (Int32.not_le.mp c_43) bu_38 (iv_c (2 : Int32) (a := 2) (b := 2) (by decide)) (by decide)
        refine lv_iconst (v := 0) hx hb dX10_rests_45 (by decide) ?_
        refine lv_istore (lv' := [(4, .int 0), (3, .int u_38), (2, .int u_39), (1, .int 5), (0, .ref (z 0))]) hx hb dX10_rests_46 hl (by decide) rfl (fun ls hl => ?_)
        refine loopF (X := fun (n_50 : Nat) (H : Heap) (locs : List Loc) (ls : Array Slot) => ∃ (u_46 : Int32) (u_47 : Int32) (f_48 : Nat → Int32) (f_49 : Nat → Int32), (iv 0 2147483647 u_46) ∧ (ivT tW f_49) ∧ (RW fz1) ∧ n_50 = (2147483647 - (u_46 : Int32).toInt).toNat ∧ va_P V.1 vwCl [(z 0, .inr (10, mo z 0 pz0_5 pz0_6 pz0_7 pz0_8 pz0_9 pz0_10 pz0_11 pz0_12 pz0_13 pz0_14 pz0_18 pz0_19 pz0_22 pz0_23 pz0_29)), (z 1, aI V 3075 fz1), (z 15, aI V 900 f_48), (z 16, aI V 6 f_49)] H ∧ va_D A [(z 0, .inr (10, mo z 0 pz0_5 pz0_6 pz0_7 pz0_8 pz0_9 pz0_10 pz0_11 pz0_12 pz0_13 pz0_14 pz0_18 pz0_19 pz0_22 pz0_23 pz0_29)), (z 1, aI V 3075 fz1), (z 15, aI V 900 f_48), (z 16, aI V 6 f_49)] ∧ va_S A s.heap H locs ∧ lv_has ls 5 [(4, .int u_46), (3, .int u_38), (2, .int u_47), (1, .int 5), (0, .ref (z 0))]) (g := fun ls => F0 m 48 ls []) (fun n_50 H locs ls hX ihn_50 => ?_) _ ⟨0, u_39, f_40, f_41, (iv_c (0 : Int32) (by decide)), tf_41, inn_42_0, rfl, hP, hD, hS, lv_sub hl [0, 1, 2, 3, 4] rfl⟩
        obtain ⟨u_46, u_47, f_48, f_49, bu_46, tf_49, inn_50_0, en_50, hP, hD, hS, hl⟩ := hX
        refine lv_iload hx hb dX10_rests_48 (lv_at hl 0 rfl) ?_
        refine lv_iload_n hx hb dX10_rests_50 rfl (lv_at hl 3 rfl) ?_
        refine lv_icmp_ge (tgt := 99) hx hb dX10_rests_51 (by decide) (fun c_51 => ?_) (fun c_51 => ?_)
        · have b_52 : iv 5 2147483647 u_46 := iv_e2 c_51 (iv_c (5 : Int32) (a := 5) (b := 5) (by decide)) bu_46 (by decide)
          obtain ⟨x_53, ex_53⟩ : ∃ z9 : Int32, z9 = u_38 + 1 := ⟨_, rfl⟩
          have bx_53 : iv 1 2 x_53 := by rw [ex_53]; exact iv_add b_45 (iv_c (1 : Int32) (a := 1) (b := 1) (by decide)) (by decide)
          refine lv_iinc (v := x_53) (lv' := [(3, .int x_53), (4, .int u_46), (2, .int u_47), (1, .int 5), (0, .ref (z 0))]) hx hb dX10_rests_99 hl (k := 1) rfl (by rw [ex_53]; rfl) (by decide) rfl (fun ls hl => ?_)
          refine lv_goto (tgt := 33) hx hb dX10_rests_102 (by decide) ?_
          exact ihn_42 _ _ _ _ (by rw [en_42, ex_53]; exact mu_up b_45 (by decide)) ⟨x_53, u_47, f_48, f_49, (iv_w bx_53 (by decide)), tf_49, inn_50_0, rfl, hP, hD, hS, lv_sub hl [0, 2, 3, 4] rfl⟩
        · have b_54 : iv 0 4 u_46 := iv_l1 (Int32.not_le.mp c_51) bu_46 (iv_c (5 : Int32) (a := 5) (b := 5) (by decide)) (by decide)
          refine lv_iload_n hx hb dX10_rests_54 rfl (lv_at hl 2 rfl) ?_
          refine lv_aload_n hx hb dX10_rests_55 rfl (lv_at hl 4 rfl) ?_
          refine lv_sipush (v := 625) hx hb dX10_rests_56 (by decide) ?_
          refine lv_iload_n hx hb dX10_rests_59 rfl (lv_at hl 1 rfl) ?_
          refine lv_imul hx hb dX10_rests_60 ?_
          refine lv_topi (fun x_55 ex_55 => ?_)
          have bx_55 : iv 0 625 x_55 := by rw [ex_55]; exact iv_cmul (iv_c (625 : Int32) (a := 625) (b := 625) (by decide)) b_45 (by decide)
          refine lv_iload hx hb dX10_rests_61 (lv_at hl 0 rfl) ?_
          refine lv_iadd hx hb dX10_rests_63 ?_
          refine lv_topi (fun x_56 ex_56 => ?_)
          have bx_56 : iv 0 629 x_56 := by rw [ex_56]; exact iv_add bx_55 b_54 (by decide)
          refine lv_iconst (v := 0) hx hb dX10_rests_64 (by decide) ?_
          refine lv_aload_n hx hb dX10_rests_65 rfl (lv_at hl 4 rfl) ?_
          refine va_get (ci := 10) (v := .ref (z 1)) (C := RX10) (T := TX10) (N := 40) hx hb hg inX10 hown hK hP 0 rfl rfl 1 (by decide) (hg _ q_5_225) (fun _ h9 => h9) rfl dX10_rests_66 ?_
          refine lv_bipush (v := 51) hx hb dX10_rests_69 (by decide) ?_
          refine va_iald hx hb hK hP 1 0 rfl rfl (vin (by decide +kernel)) dX10_rests_71 ?_
          refine lv_topi (fun x_57 ex_57 => ?_)
          have bx_57 : iv 0 9 x_57 := by rw [ex_57]; exact rdT (a := 51) (n := 1) tfz1 (iv_c (51 : Int32) (a := 51) (b := 51) (by decide)) (by decide) (by decide +kernel)
          refine jnI (wr := []) (rnV (rest := [.int u_47]) ⟨hx, hb, hml, hown, hg⟩ (k_X10_nightTo_0 l V z x_56 0 x_57 f_48 f_49 0 pz0_5 pz0_6 pz0_7 pz0_8 pz0_9 pz0_10 pz0_11 pz0_12 pz0_13 pz0_14 pz0_18 pz0_19 pz0_22 pz0_23 pz0_29 fz1 (iv_w bx_56 (by decide)) tf_49 bpz0_5 bpz0_6 bpz0_7 bpz0_8 bpz0_10 bpz0_11 bpz0_12 bpz0_13 bpz0_14 bpz0_18 bpz0_22 bpz0_29 tfz1 inn_50_0) mt_X10_nightTo q_7_18 ⟨Nat.le_of_ble_eq_true rfl, Nat.le_of_ble_eq_true rfl⟩ hK hP hD hS hA hE [2, 3, 0, 1] rfl rfl 0 rfl rfl rfl rfl hl.1 rfl (Nat.le_of_ble_eq_true rfl) dX10_rests_72 ⟨Nat.le_of_ble_eq_true rfl, Nat.le_of_ble_eq_true rfl⟩) hP hD hS hA [2, 3, 0, 1] [] rfl rfl rfl (by decide) (fun r_58 w H locs hw hP hD hS => ?_)
          obtain ⟨f_59, f_60, tf_60, br_58, g_61, rfl⟩ := hw
          have hP : va_P V.1 vwCl [(z 15, aI V 900 f_59), (z 16, aI V 6 f_60), (z 0, .inr (10, mo z 0 pz0_5 pz0_6 pz0_7 pz0_8 pz0_9 pz0_10 pz0_11 pz0_12 pz0_13 pz0_14 pz0_18 pz0_19 pz0_22 pz0_23 pz0_29)), (z 1, aI V 3075 fz1)] H := hP
          have hD : va_D A [(z 15, aI V 900 f_59), (z 16, aI V 6 f_60), (z 0, .inr (10, mo z 0 pz0_5 pz0_6 pz0_7 pz0_8 pz0_9 pz0_10 pz0_11 pz0_12 pz0_13 pz0_14 pz0_18 pz0_19 pz0_22 pz0_23 pz0_29)), (z 1, aI V 3075 fz1)] := hD
          refine lv_sipush (v := 625) hx hb dX10_rests_75 (by decide) ?_
          refine lv_iload_n hx hb dX10_rests_78 rfl (lv_at hl 1 rfl) ?_
          refine lv_imul hx hb dX10_rests_79 ?_
          refine tpi (y := x_55) ex_55.symm ?_
          refine lv_iload hx hb dX10_rests_80 (lv_at hl 0 rfl) ?_
          refine lv_iadd hx hb dX10_rests_82 ?_
          refine tpi (y := x_56) ex_56.symm ?_
          refine lv_icmp_ne (tgt := 90) hx hb dX10_rests_83 (by decide) (fun c_62 => ?_) (fun c_62 => ?_)
          · refine lv_iconst (v := 0) hx hb dX10_rests_90 (by decide) ?_
            refine lv_iadd hx hb dX10_rests_91 ?_
            refine lv_topi (fun x_63 ex_63 => ?_)
            refine lv_istore_n (lv' := [(2, .int x_63), (4, .int u_46), (3, .int u_38), (1, .int 5), (0, .ref (z 0))]) hx hb dX10_rests_92 rfl hl (by decide) rfl (fun ls hl => ?_)
            obtain ⟨x_64, ex_64⟩ : ∃ z9 : Int32, z9 = u_46 + 1 := ⟨_, rfl⟩
            have bx_64 : iv 1 5 x_64 := by rw [ex_64]; exact iv_add b_54 (iv_c (1 : Int32) (a := 1) (b := 1) (by decide)) (by decide)
            refine lv_iinc (v := x_64) (lv' := [(4, .int x_64), (2, .int x_63), (3, .int u_38), (1, .int 5), (0, .ref (z 0))]) hx hb dX10_rests_93 hl (k := 1) rfl (by rw [ex_64]; rfl) (by decide) rfl (fun ls hl => ?_)
            refine lv_goto (tgt := 48) hx hb dX10_rests_96 (by decide) ?_
            have hP := subP (ws' := [(z 0, .inr (10, mo z 0 pz0_5 pz0_6 pz0_7 pz0_8 pz0_9 pz0_10 pz0_11 pz0_12 pz0_13 pz0_14 pz0_18 pz0_19 pz0_22 pz0_23 pz0_29)), (z 1, aI V 3075 fz1), (z 15, aI V 900 f_59), (z 16, aI V 6 f_60)]) hP [2, 3, 0, 1] rfl
            have hD := hD.sub (ws' := [(z 0, .inr (10, mo z 0 pz0_5 pz0_6 pz0_7 pz0_8 pz0_9 pz0_10 pz0_11 pz0_12 pz0_13 pz0_14 pz0_18 pz0_19 pz0_22 pz0_23 pz0_29)), (z 1, aI V 3075 fz1), (z 15, aI V 900 f_59), (z 16, aI V 6 f_60)]) [2, 3, 0, 1] rfl rfl
            exact ihn_50 _ _ _ _ (by rw [en_50, ex_64]; exact mu_up b_54 (by decide)) ⟨x_64, x_63, f_59, f_60, (iv_w bx_64 (by decide)), tf_60, g_61, rfl, hP, hD, hS, lv_sub hl [0, 2, 1, 3, 4] rfl⟩
          · have b_65 : iv 0 629 r_58 := iv_q c_62 bx_56
            refine lv_iconst (v := 1) hx hb dX10_rests_86 (by decide) ?_
            refine lv_goto (tgt := 91) hx hb dX10_rests_87 (by decide) ?_
            refine lv_iadd hx hb dX10_rests_91 ?_
            refine lv_topi (fun x_66 ex_66 => ?_)
            refine lv_istore_n (lv' := [(2, .int x_66), (4, .int u_46), (3, .int u_38), (1, .int 5), (0, .ref (z 0))]) hx hb dX10_rests_92 rfl hl (by decide) rfl (fun ls hl => ?_)
            obtain ⟨x_67, ex_67⟩ : ∃ z9 : Int32, z9 = u_46 + 1 := ⟨_, rfl⟩
            have bx_67 : iv 1 5 x_67 := by rw [ex_67]; exact iv_add b_54 (iv_c (1 : Int32) (a := 1) (b := 1) (by decide)) (by decide)
            refine lv_iinc (v := x_67) (lv' := [(4, .int x_67), (2, .int x_66), (3, .int u_38), (1, .int 5), (0, .ref (z 0))]) hx hb dX10_rests_93 hl (k := 1) rfl (by rw [ex_67]; rfl) (by decide) rfl (fun ls hl => ?_)
            refine lv_goto (tgt := 48) hx hb dX10_rests_96 (by decide) ?_
            have hP := subP (ws' := [(z 0, .inr (10, mo z 0 pz0_5 pz0_6 pz0_7 pz0_8 pz0_9 pz0_10 pz0_11 pz0_12 pz0_13 pz0_14 pz0_18 pz0_19 pz0_22 pz0_23 pz0_29)), (z 1, aI V 3075 fz1), (z 15, aI V 900 f_59), (z 16, aI V 6 f_60)]) hP [2, 3, 0, 1] rfl
            have hD := hD.sub (ws' := [(z 0, .inr (10, mo z 0 pz0_5 pz0_6 pz0_7 pz0_8 pz0_9 pz0_10 pz0_11 pz0_12 pz0_13 pz0_14 pz0_18 pz0_19 pz0_22 pz0_23 pz0_29)), (z 1, aI V 3075 fz1), (z 15, aI V 900 f_59), (z 16, aI V 6 f_60)]) [2, 3, 0, 1] rfl rfl
            exact ihn_50 _ _ _ _ (by rw [en_50, ex_67]; exact mu_up b_54 (by decide)) ⟨x_67, x_66, f_59, f_60, (iv_w bx_67 (by decide)), tf_60, g_61, rfl, hP, hD, hS, lv_sub hl [0, 2, 1, 3, 4] rfl⟩
    · have b_68 : iv 2 4 x_1 := iv_l2 (Int32.not_le.mp c_36) (iv_c (1 : Int32) (a := 1) (b := 1) (by decide)) b_35 (by decide)
      refine lv_iload_n hx hb dX10_rests_19 rfl (lv_at hl 1 rfl) ?_
      refine lv_iconst (v := 5) hx hb dX10_rests_20 (by decide) ?_
      refine lv_imul hx hb dX10_rests_21 ?_
      refine tpi (y := 25) (by decide +kernel) ?_
      refine lv_istore_n (lv' := [(1, .int 25), (2, .int 1), (0, .ref (z 0))]) hx hb dX10_rests_22 rfl hl (by decide) rfl (fun ls hl => ?_)
      refine lv_iinc (v := 2) (lv' := [(2, .int 2), (1, .int 25), (0, .ref (z 0))]) hx hb dX10_rests_23 hl (k := 1) rfl (by decide +kernel) (by decide) rfl (fun ls hl => ?_)
      refine lv_goto (tgt := 9) hx hb dX10_rests_26 (by decide) ?_
      refine lv_iload_n hx hb dX10_rests_9 rfl (lv_at hl 0 rfl) ?_
      refine lv_aload_n hx hb dX10_rests_10 rfl (lv_at hl 2 rfl) ?_
      refine va_get (ci := 10) (v := .ref (z 1)) (C := RX10) (T := TX10) (N := 40) hx hb hg inX10 hown hK hP 0 rfl rfl 1 (by decide) (hg _ q_5_225) (fun _ h9 => h9) rfl dX10_rests_11 ?_
      refine lv_iconst (v := 1) hx hb dX10_rests_14 (by decide) ?_
      refine va_iald hx hb hK hP 1 0 rfl rfl (vin (by decide +kernel)) dX10_rests_15 ?_
      refine tpi (y := x_1) ex_1.symm ?_
      refine lv_icmp_ge (tgt := 29) hx hb dX10_rests_16 (by decide) (fun c_69 => ?_) (fun c_69 => ?_)
      · have b_70 : iv 2 2 x_1 := iv_e1 c_69 b_68 (iv_c (2 : Int32) (a := 2) (b := 2) (by decide)) (by decide)
        refine lv_iconst (v := 0) hx hb dX10_rests_29 (by decide) ?_
        refine lv_istore_n (lv' := [(2, .int 0), (1, .int 25), (0, .ref (z 0))]) hx hb dX10_rests_30 rfl hl (by decide) rfl (fun ls hl => ?_)
        refine lv_iconst (v := 0) hx hb dX10_rests_31 (by decide) ?_
        refine lv_istore_n (lv' := [(3, .int 0), (2, .int 0), (1, .int 25), (0, .ref (z 0))]) hx hb dX10_rests_32 rfl hl (by decide) rfl (fun ls hl => ?_)
        refine loopF (X := fun (n_75 : Nat) (H : Heap) (locs : List Loc) (ls : Array Slot) => ∃ (u_71 : Int32) (u_72 : Int32) (f_73 : Nat → Int32) (f_74 : Nat → Int32), (iv 0 2147483647 u_71) ∧ (ivT tW f_74) ∧ (RW fz1) ∧ n_75 = (2147483647 - (u_71 : Int32).toInt).toNat ∧ va_P V.1 vwCl [(z 0, .inr (10, mo z 0 pz0_5 pz0_6 pz0_7 pz0_8 pz0_9 pz0_10 pz0_11 pz0_12 pz0_13 pz0_14 pz0_18 pz0_19 pz0_22 pz0_23 pz0_29)), (z 1, aI V 3075 fz1), (z 15, aI V 900 f_73), (z 16, aI V 6 f_74)] H ∧ va_D A [(z 0, .inr (10, mo z 0 pz0_5 pz0_6 pz0_7 pz0_8 pz0_9 pz0_10 pz0_11 pz0_12 pz0_13 pz0_14 pz0_18 pz0_19 pz0_22 pz0_23 pz0_29)), (z 1, aI V 3075 fz1), (z 15, aI V 900 f_73), (z 16, aI V 6 f_74)] ∧ va_S A s.heap H locs ∧ lv_has ls 5 [(3, .int u_71), (2, .int u_72), (1, .int 25), (0, .ref (z 0))]) (g := fun ls => F0 m 33 ls []) (fun n_75 H locs ls hX ihn_75 => ?_) _ ⟨0, 0, fz15, fz16, (iv_c (0 : Int32) (by decide)), tfz16, hf0, rfl, hP, hD, hS, lv_sub hl [0, 1, 2, 3] rfl⟩
        obtain ⟨u_71, u_72, f_73, f_74, bu_71, tf_74, inn_75_0, en_75, hP, hD, hS, hl⟩ := hX
        refine lv_iload_n hx hb dX10_rests_33 rfl (lv_at hl 0 rfl) ?_
        refine lv_iconst (v := 1) hx hb dX10_rests_34 (by decide) ?_
        refine lv_aload_n hx hb dX10_rests_35 rfl (lv_at hl 3 rfl) ?_
        refine va_get (ci := 10) (v := .ref (z 1)) (C := RX10) (T := TX10) (N := 40) hx hb hg inX10 hown hK hP 0 rfl rfl 1 (by decide) (hg _ q_5_225) (fun _ h9 => h9) rfl dX10_rests_36 ?_
        refine lv_iconst (v := 1) hx hb dX10_rests_39 (by decide) ?_
        refine va_iald hx hb hK hP 1 0 rfl rfl (vin (by decide +kernel)) dX10_rests_40 ?_
        refine tpi (y := x_1) ex_1.symm ?_
        refine tpi (y := 2) (iv_eqp b_70 (iv_c (2 : Int32) (by decide))) ?_
        refine lv_ishl hx hb dX10_rests_41 ?_
        refine tpi (y := 4) (by decide +kernel) ?_
        refine lv_icmp_ge (tgt := 105) hx hb dX10_rests_42 (by decide) (fun c_76 => ?_) (fun c_76 => ?_)
        · have b_77 : iv 4 2147483647 u_71 := iv_e2 c_76 (iv_c (4 : Int32) (a := 4) (b := 4) (by decide)) bu_71 (by decide)
          refine lv_iload_n hx hb dX10_rests_105 rfl (lv_at hl 1 rfl) ?_
          exact fiI hx hb hr hlk hK hP hD hS dX10_rests_106 (Nat.le_of_ble_eq_true rfl) (Nat.le_of_ble_eq_true rfl) (⟨0, f_73, f_74, tf_74, inn_75_0, rfl⟩)
        · have b_78 : iv 0 3 u_71 := iv_l1 (Int32.not_le.mp c_76) bu_71 (iv_c (4 : Int32) (a := 4) (b := 4) (by decide)) (by decide)
          refine lv_iconst (v := 0) hx hb dX10_rests_45 (by decide) ?_
          refine lv_istore (lv' := [(4, .int 0), (3, .int u_71), (2, .int u_72), (1, .int 25), (0, .ref (z 0))]) hx hb dX10_rests_46 hl (by decide) rfl (fun ls hl => ?_)
          refine loopF (X := fun (n_83 : Nat) (H : Heap) (locs : List Loc) (ls : Array Slot) => ∃ (u_79 : Int32) (u_80 : Int32) (f_81 : Nat → Int32) (f_82 : Nat → Int32), (iv 0 2147483647 u_79) ∧ (ivT tW f_82) ∧ (RW fz1) ∧ n_83 = (2147483647 - (u_79 : Int32).toInt).toNat ∧ va_P V.1 vwCl [(z 0, .inr (10, mo z 0 pz0_5 pz0_6 pz0_7 pz0_8 pz0_9 pz0_10 pz0_11 pz0_12 pz0_13 pz0_14 pz0_18 pz0_19 pz0_22 pz0_23 pz0_29)), (z 1, aI V 3075 fz1), (z 15, aI V 900 f_81), (z 16, aI V 6 f_82)] H ∧ va_D A [(z 0, .inr (10, mo z 0 pz0_5 pz0_6 pz0_7 pz0_8 pz0_9 pz0_10 pz0_11 pz0_12 pz0_13 pz0_14 pz0_18 pz0_19 pz0_22 pz0_23 pz0_29)), (z 1, aI V 3075 fz1), (z 15, aI V 900 f_81), (z 16, aI V 6 f_82)] ∧ va_S A s.heap H locs ∧ lv_has ls 5 [(4, .int u_79), (3, .int u_71), (2, .int u_80), (1, .int 25), (0, .ref (z 0))]) (g := fun ls => F0 m 48 ls []) (fun n_83 H locs ls hX ihn_83 => ?_) _ ⟨0, u_72, f_73, f_74, (iv_c (0 : Int32) (by decide)), tf_74, inn_75_0, rfl, hP, hD, hS, lv_sub hl [0, 1, 2, 3, 4] rfl⟩
          obtain ⟨u_79, u_80, f_81, f_82, bu_79, tf_82, inn_83_0, en_83, hP, hD, hS, hl⟩ := hX
          refine lv_iload hx hb dX10_rests_48 (lv_at hl 0 rfl) ?_
          refine lv_iload_n hx hb dX10_rests_50 rfl (lv_at hl 3 rfl) ?_
          refine lv_icmp_ge (tgt := 99) hx hb dX10_rests_51 (by decide) (fun c_84 => ?_) (fun c_84 => ?_)
          · have b_85 : iv 25 2147483647 u_79 := iv_e2 c_84 (iv_c (25 : Int32) (a := 25) (b := 25) (by decide)) bu_79 (by decide)
            obtain ⟨x_86, ex_86⟩ : ∃ z9 : Int32, z9 = u_71 + 1 := ⟨_, rfl⟩
            have bx_86 : iv 1 4 x_86 := by rw [ex_86]; exact iv_add b_78 (iv_c (1 : Int32) (a := 1) (b := 1) (by decide)) (by decide)
            refine lv_iinc (v := x_86) (lv' := [(3, .int x_86), (4, .int u_79), (2, .int u_80), (1, .int 25), (0, .ref (z 0))]) hx hb dX10_rests_99 hl (k := 1) rfl (by rw [ex_86]; rfl) (by decide) rfl (fun ls hl => ?_)
            refine lv_goto (tgt := 33) hx hb dX10_rests_102 (by decide) ?_
            exact ihn_75 _ _ _ _ (by rw [en_75, ex_86]; exact mu_up b_78 (by decide)) ⟨x_86, u_80, f_81, f_82, (iv_w bx_86 (by decide)), tf_82, inn_83_0, rfl, hP, hD, hS, lv_sub hl [0, 2, 3, 4] rfl⟩
          · have b_87 : iv 0 24 u_79 := iv_l1 (Int32.not_le.mp c_84) bu_79 (iv_c (25 : Int32) (a := 25) (b := 25) (by decide)) (by decide)
            refine lv_iload_n hx hb dX10_rests_54 rfl (lv_at hl 2 rfl) ?_
            refine lv_aload_n hx hb dX10_rests_55 rfl (lv_at hl 4 rfl) ?_
            refine lv_sipush (v := 625) hx hb dX10_rests_56 (by decide) ?_
            refine lv_iload_n hx hb dX10_rests_59 rfl (lv_at hl 1 rfl) ?_
            refine lv_imul hx hb dX10_rests_60 ?_
            refine lv_topi (fun x_88 ex_88 => ?_)
            have bx_88 : iv 0 1875 x_88 := by rw [ex_88]; exact iv_cmul (iv_c (625 : Int32) (a := 625) (b := 625) (by decide)) b_78 (by decide)
            refine lv_iload hx hb dX10_rests_61 (lv_at hl 0 rfl) ?_
            refine lv_iadd hx hb dX10_rests_63 ?_
            refine lv_topi (fun x_89 ex_89 => ?_)
            have bx_89 : iv 0 1899 x_89 := by rw [ex_89]; exact iv_add bx_88 b_87 (by decide)
            refine lv_iconst (v := 0) hx hb dX10_rests_64 (by decide) ?_
            refine lv_aload_n hx hb dX10_rests_65 rfl (lv_at hl 4 rfl) ?_
            refine va_get (ci := 10) (v := .ref (z 1)) (C := RX10) (T := TX10) (N := 40) hx hb hg inX10 hown hK hP 0 rfl rfl 1 (by decide) (hg _ q_5_225) (fun _ h9 => h9) rfl dX10_rests_66 ?_
            refine lv_bipush (v := 51) hx hb dX10_rests_69 (by decide) ?_
            refine va_iald hx hb hK hP 1 0 rfl rfl (vin (by decide +kernel)) dX10_rests_71 ?_
            refine lv_topi (fun x_90 ex_90 => ?_)
            have bx_90 : iv 0 9 x_90 := by rw [ex_90]; exact rdT (a := 51) (n := 1) tfz1 (iv_c (51 : Int32) (a := 51) (b := 51) (by decide)) (by decide) (by decide +kernel)
            refine jnI (wr := []) (rnV (rest := [.int u_80]) ⟨hx, hb, hml, hown, hg⟩ (k_X10_nightTo_0 l V z x_89 0 x_90 f_81 f_82 0 pz0_5 pz0_6 pz0_7 pz0_8 pz0_9 pz0_10 pz0_11 pz0_12 pz0_13 pz0_14 pz0_18 pz0_19 pz0_22 pz0_23 pz0_29 fz1 (iv_w bx_89 (by decide)) tf_82 bpz0_5 bpz0_6 bpz0_7 bpz0_8 bpz0_10 bpz0_11 bpz0_12 bpz0_13 bpz0_14 bpz0_18 bpz0_22 bpz0_29 tfz1 inn_83_0) mt_X10_nightTo q_7_18 ⟨Nat.le_of_ble_eq_true rfl, Nat.le_of_ble_eq_true rfl⟩ hK hP hD hS hA hE [2, 3, 0, 1] rfl rfl 0 rfl rfl rfl rfl hl.1 rfl (Nat.le_of_ble_eq_true rfl) dX10_rests_72 ⟨Nat.le_of_ble_eq_true rfl, Nat.le_of_ble_eq_true rfl⟩) hP hD hS hA [2, 3, 0, 1] [] rfl rfl rfl (by decide) (fun r_91 w H locs hw hP hD hS => ?_)
            obtain ⟨f_92, f_93, tf_93, br_91, g_94, rfl⟩ := hw
            have hP : va_P V.1 vwCl [(z 15, aI V 900 f_92), (z 16, aI V 6 f_93), (z 0, .inr (10, mo z 0 pz0_5 pz0_6 pz0_7 pz0_8 pz0_9 pz0_10 pz0_11 pz0_12 pz0_13 pz0_14 pz0_18 pz0_19 pz0_22 pz0_23 pz0_29)), (z 1, aI V 3075 fz1)] H := hP
            have hD : va_D A [(z 15, aI V 900 f_92), (z 16, aI V 6 f_93), (z 0, .inr (10, mo z 0 pz0_5 pz0_6 pz0_7 pz0_8 pz0_9 pz0_10 pz0_11 pz0_12 pz0_13 pz0_14 pz0_18 pz0_19 pz0_22 pz0_23 pz0_29)), (z 1, aI V 3075 fz1)] := hD
            refine lv_sipush (v := 625) hx hb dX10_rests_75 (by decide) ?_
            refine lv_iload_n hx hb dX10_rests_78 rfl (lv_at hl 1 rfl) ?_
            refine lv_imul hx hb dX10_rests_79 ?_
            refine tpi (y := x_88) ex_88.symm ?_
            refine lv_iload hx hb dX10_rests_80 (lv_at hl 0 rfl) ?_
            refine lv_iadd hx hb dX10_rests_82 ?_
            refine tpi (y := x_89) ex_89.symm ?_
            refine lv_icmp_ne (tgt := 90) hx hb dX10_rests_83 (by decide) (fun c_95 => ?_) (fun c_95 => ?_)
            · refine lv_iconst (v := 0) hx hb dX10_rests_90 (by decide) ?_
              refine lv_iadd hx hb dX10_rests_91 ?_
              refine lv_topi (fun x_96 ex_96 => ?_)
              refine lv_istore_n (lv' := [(2, .int x_96), (4, .int u_79), (3, .int u_71), (1, .int 25), (0, .ref (z 0))]) hx hb dX10_rests_92 rfl hl (by decide) rfl (fun ls hl => ?_)
              obtain ⟨x_97, ex_97⟩ : ∃ z9 : Int32, z9 = u_79 + 1 := ⟨_, rfl⟩
              have bx_97 : iv 1 25 x_97 := by rw [ex_97]; exact iv_add b_87 (iv_c (1 : Int32) (a := 1) (b := 1) (by decide)) (by decide)
              refine lv_iinc (v := x_97) (lv' := [(4, .int x_97), (2, .int x_96), (3, .int u_71), (1, .int 25), (0, .ref (z 0))]) hx hb dX10_rests_93 hl (k := 1) rfl (by rw [ex_97]; rfl) (by decide) rfl (fun ls hl => ?_)
              refine lv_goto (tgt := 48) hx hb dX10_rests_96 (by decide) ?_
              have hP := subP (ws' := [(z 0, .inr (10, mo z 0 pz0_5 pz0_6 pz0_7 pz0_8 pz0_9 pz0_10 pz0_11 pz0_12 pz0_13 pz0_14 pz0_18 pz0_19 pz0_22 pz0_23 pz0_29)), (z 1, aI V 3075 fz1), (z 15, aI V 900 f_92), (z 16, aI V 6 f_93)]) hP [2, 3, 0, 1] rfl
              have hD := hD.sub (ws' := [(z 0, .inr (10, mo z 0 pz0_5 pz0_6 pz0_7 pz0_8 pz0_9 pz0_10 pz0_11 pz0_12 pz0_13 pz0_14 pz0_18 pz0_19 pz0_22 pz0_23 pz0_29)), (z 1, aI V 3075 fz1), (z 15, aI V 900 f_92), (z 16, aI V 6 f_93)]) [2, 3, 0, 1] rfl rfl
              exact ihn_83 _ _ _ _ (by rw [en_83, ex_97]; exact mu_up b_87 (by decide)) ⟨x_97, x_96, f_92, f_93, (iv_w bx_97 (by decide)), tf_93, g_94, rfl, hP, hD, hS, lv_sub hl [0, 2, 1, 3, 4] rfl⟩
            · have b_98 : iv 0 1899 r_91 := iv_q c_95 bx_89
              refine lv_iconst (v := 1) hx hb dX10_rests_86 (by decide) ?_
              refine lv_goto (tgt := 91) hx hb dX10_rests_87 (by decide) ?_
              refine lv_iadd hx hb dX10_rests_91 ?_
              refine lv_topi (fun x_99 ex_99 => ?_)
              refine lv_istore_n (lv' := [(2, .int x_99), (4, .int u_79), (3, .int u_71), (1, .int 25), (0, .ref (z 0))]) hx hb dX10_rests_92 rfl hl (by decide) rfl (fun ls hl => ?_)
              obtain ⟨x_100, ex_100⟩ : ∃ z9 : Int32, z9 = u_79 + 1 := ⟨_, rfl⟩
              have bx_100 : iv 1 25 x_100 := by rw [ex_100]; exact iv_add b_87 (iv_c (1 : Int32) (a := 1) (b := 1) (by decide)) (by decide)
              refine lv_iinc (v := x_100) (lv' := [(4, .int x_100), (2, .int x_99), (3, .int u_71), (1, .int 25), (0, .ref (z 0))]) hx hb dX10_rests_93 hl (k := 1) rfl (by rw [ex_100]; rfl) (by decide) rfl (fun ls hl => ?_)
              refine lv_goto (tgt := 48) hx hb dX10_rests_96 (by decide) ?_
              have hP := subP (ws' := [(z 0, .inr (10, mo z 0 pz0_5 pz0_6 pz0_7 pz0_8 pz0_9 pz0_10 pz0_11 pz0_12 pz0_13 pz0_14 pz0_18 pz0_19 pz0_22 pz0_23 pz0_29)), (z 1, aI V 3075 fz1), (z 15, aI V 900 f_92), (z 16, aI V 6 f_93)]) hP [2, 3, 0, 1] rfl
              have hD := hD.sub (ws' := [(z 0, .inr (10, mo z 0 pz0_5 pz0_6 pz0_7 pz0_8 pz0_9 pz0_10 pz0_11 pz0_12 pz0_13 pz0_14 pz0_18 pz0_19 pz0_22 pz0_23 pz0_29)), (z 1, aI V 3075 fz1), (z 15, aI V 900 f_92), (z 16, aI V 6 f_93)]) [2, 3, 0, 1] rfl rfl
              exact ihn_83 _ _ _ _ (by rw [en_83, ex_100]; exact mu_up b_87 (by decide)) ⟨x_100, x_99, f_92, f_93, (iv_w bx_100 (by decide)), tf_93, g_94, rfl, hP, hD, hS, lv_sub hl [0, 2, 1, 3, 4] rfl⟩
      · have b_101 : iv 3 4 x_1 := iv_l2 (Int32.not_le.mp c_69) (iv_c (2 : Int32) (a := 2) (b := 2) (by decide)) b_68 (by decide)
        refine lv_iload_n hx hb dX10_rests_19 rfl (lv_at hl 1 rfl) ?_
        refine lv_iconst (v := 5) hx hb dX10_rests_20 (by decide) ?_
        refine lv_imul hx hb dX10_rests_21 ?_
        refine tpi (y := 125) (by decide +kernel) ?_
        refine lv_istore_n (lv' := [(1, .int 125), (2, .int 2), (0, .ref (z 0))]) hx hb dX10_rests_22 rfl hl (by decide) rfl (fun ls hl => ?_)
        refine lv_iinc (v := 3) (lv' := [(2, .int 3), (1, .int 125), (0, .ref (z 0))]) hx hb dX10_rests_23 hl (k := 1) rfl (by decide +kernel) (by decide) rfl (fun ls hl => ?_)
        refine lv_goto (tgt := 9) hx hb dX10_rests_26 (by decide) ?_
        refine lv_iload_n hx hb dX10_rests_9 rfl (lv_at hl 0 rfl) ?_
        refine lv_aload_n hx hb dX10_rests_10 rfl (lv_at hl 2 rfl) ?_
        refine va_get (ci := 10) (v := .ref (z 1)) (C := RX10) (T := TX10) (N := 40) hx hb hg inX10 hown hK hP 0 rfl rfl 1 (by decide) (hg _ q_5_225) (fun _ h9 => h9) rfl dX10_rests_11 ?_
        refine lv_iconst (v := 1) hx hb dX10_rests_14 (by decide) ?_
        refine va_iald hx hb hK hP 1 0 rfl rfl (vin (by decide +kernel)) dX10_rests_15 ?_
        refine tpi (y := x_1) ex_1.symm ?_
        refine lv_icmp_ge (tgt := 29) hx hb dX10_rests_16 (by decide) (fun c_102 => ?_) (fun c_102 => ?_)
        · have b_103 : iv 3 3 x_1 := iv_e1 c_102 b_101 (iv_c (3 : Int32) (a := 3) (b := 3) (by decide)) (by decide)
          refine lv_iconst (v := 0) hx hb dX10_rests_29 (by decide) ?_
          refine lv_istore_n (lv' := [(2, .int 0), (1, .int 125), (0, .ref (z 0))]) hx hb dX10_rests_30 rfl hl (by decide) rfl (fun ls hl => ?_)
          refine lv_iconst (v := 0) hx hb dX10_rests_31 (by decide) ?_
          refine lv_istore_n (lv' := [(3, .int 0), (2, .int 0), (1, .int 125), (0, .ref (z 0))]) hx hb dX10_rests_32 rfl hl (by decide) rfl (fun ls hl => ?_)
          refine loopF (X := fun (n_108 : Nat) (H : Heap) (locs : List Loc) (ls : Array Slot) => ∃ (u_104 : Int32) (u_105 : Int32) (f_106 : Nat → Int32) (f_107 : Nat → Int32), (iv 0 2147483647 u_104) ∧ (ivT tW f_107) ∧ (RW fz1) ∧ n_108 = (2147483647 - (u_104 : Int32).toInt).toNat ∧ va_P V.1 vwCl [(z 0, .inr (10, mo z 0 pz0_5 pz0_6 pz0_7 pz0_8 pz0_9 pz0_10 pz0_11 pz0_12 pz0_13 pz0_14 pz0_18 pz0_19 pz0_22 pz0_23 pz0_29)), (z 1, aI V 3075 fz1), (z 15, aI V 900 f_106), (z 16, aI V 6 f_107)] H ∧ va_D A [(z 0, .inr (10, mo z 0 pz0_5 pz0_6 pz0_7 pz0_8 pz0_9 pz0_10 pz0_11 pz0_12 pz0_13 pz0_14 pz0_18 pz0_19 pz0_22 pz0_23 pz0_29)), (z 1, aI V 3075 fz1), (z 15, aI V 900 f_106), (z 16, aI V 6 f_107)] ∧ va_S A s.heap H locs ∧ lv_has ls 5 [(3, .int u_104), (2, .int u_105), (1, .int 125), (0, .ref (z 0))]) (g := fun ls => F0 m 33 ls []) (fun n_108 H locs ls hX ihn_108 => ?_) _ ⟨0, 0, fz15, fz16, (iv_c (0 : Int32) (by decide)), tfz16, hf0, rfl, hP, hD, hS, lv_sub hl [0, 1, 2, 3] rfl⟩
          obtain ⟨u_104, u_105, f_106, f_107, bu_104, tf_107, inn_108_0, en_108, hP, hD, hS, hl⟩ := hX
          refine lv_iload_n hx hb dX10_rests_33 rfl (lv_at hl 0 rfl) ?_
          refine lv_iconst (v := 1) hx hb dX10_rests_34 (by decide) ?_
          refine lv_aload_n hx hb dX10_rests_35 rfl (lv_at hl 3 rfl) ?_
          refine va_get (ci := 10) (v := .ref (z 1)) (C := RX10) (T := TX10) (N := 40) hx hb hg inX10 hown hK hP 0 rfl rfl 1 (by decide) (hg _ q_5_225) (fun _ h9 => h9) rfl dX10_rests_36 ?_
          refine lv_iconst (v := 1) hx hb dX10_rests_39 (by decide) ?_
          refine va_iald hx hb hK hP 1 0 rfl rfl (vin (by decide +kernel)) dX10_rests_40 ?_
          refine tpi (y := x_1) ex_1.symm ?_
          refine tpi (y := 3) (iv_eqp b_103 (iv_c (3 : Int32) (by decide))) ?_
          refine lv_ishl hx hb dX10_rests_41 ?_
          refine tpi (y := 8) (by decide +kernel) ?_
          refine lv_icmp_ge (tgt := 105) hx hb dX10_rests_42 (by decide) (fun c_109 => ?_) (fun c_109 => ?_)
          · have b_110 : iv 8 2147483647 u_104 := iv_e2 c_109 (iv_c (8 : Int32) (a := 8) (b := 8) (by decide)) bu_104 (by decide)
            refine lv_iload_n hx hb dX10_rests_105 rfl (lv_at hl 1 rfl) ?_
            exact fiI hx hb hr hlk hK hP hD hS dX10_rests_106 (Nat.le_of_ble_eq_true rfl) (Nat.le_of_ble_eq_true rfl) (⟨0, f_106, f_107, tf_107, inn_108_0, rfl⟩)
          · have b_111 : iv 0 7 u_104 := iv_l1 (Int32.not_le.mp c_109) bu_104 (iv_c (8 : Int32) (a := 8) (b := 8) (by decide)) (by decide)
            refine lv_iconst (v := 0) hx hb dX10_rests_45 (by decide) ?_
            refine lv_istore (lv' := [(4, .int 0), (3, .int u_104), (2, .int u_105), (1, .int 125), (0, .ref (z 0))]) hx hb dX10_rests_46 hl (by decide) rfl (fun ls hl => ?_)
            refine loopF (X := fun (n_116 : Nat) (H : Heap) (locs : List Loc) (ls : Array Slot) => ∃ (u_112 : Int32) (u_113 : Int32) (f_114 : Nat → Int32) (f_115 : Nat → Int32), (iv 0 2147483647 u_112) ∧ (ivT tW f_115) ∧ (RW fz1) ∧ n_116 = (2147483647 - (u_112 : Int32).toInt).toNat ∧ va_P V.1 vwCl [(z 0, .inr (10, mo z 0 pz0_5 pz0_6 pz0_7 pz0_8 pz0_9 pz0_10 pz0_11 pz0_12 pz0_13 pz0_14 pz0_18 pz0_19 pz0_22 pz0_23 pz0_29)), (z 1, aI V 3075 fz1), (z 15, aI V 900 f_114), (z 16, aI V 6 f_115)] H ∧ va_D A [(z 0, .inr (10, mo z 0 pz0_5 pz0_6 pz0_7 pz0_8 pz0_9 pz0_10 pz0_11 pz0_12 pz0_13 pz0_14 pz0_18 pz0_19 pz0_22 pz0_23 pz0_29)), (z 1, aI V 3075 fz1), (z 15, aI V 900 f_114), (z 16, aI V 6 f_115)] ∧ va_S A s.heap H locs ∧ lv_has ls 5 [(4, .int u_112), (3, .int u_104), (2, .int u_113), (1, .int 125), (0, .ref (z 0))]) (g := fun ls => F0 m 48 ls []) (fun n_116 H locs ls hX ihn_116 => ?_) _ ⟨0, u_105, f_106, f_107, (iv_c (0 : Int32) (by decide)), tf_107, inn_108_0, rfl, hP, hD, hS, lv_sub hl [0, 1, 2, 3, 4] rfl⟩
            obtain ⟨u_112, u_113, f_114, f_115, bu_112, tf_115, inn_116_0, en_116, hP, hD, hS, hl⟩ := hX
            refine lv_iload hx hb dX10_rests_48 (lv_at hl 0 rfl) ?_
            refine lv_iload_n hx hb dX10_rests_50 rfl (lv_at hl 3 rfl) ?_
            refine lv_icmp_ge (tgt := 99) hx hb dX10_rests_51 (by decide) (fun c_117 => ?_) (fun c_117 => ?_)
            · have b_118 : iv 125 2147483647 u_112 := iv_e2 c_117 (iv_c (125 : Int32) (a := 125) (b := 125) (by decide)) bu_112 (by decide)
              obtain ⟨x_119, ex_119⟩ : ∃ z9 : Int32, z9 = u_104 + 1 := ⟨_, rfl⟩
              have bx_119 : iv 1 8 x_119 := by rw [ex_119]; exact iv_add b_111 (iv_c (1 : Int32) (a := 1) (b := 1) (by decide)) (by decide)
              refine lv_iinc (v := x_119) (lv' := [(3, .int x_119), (4, .int u_112), (2, .int u_113), (1, .int 125), (0, .ref (z 0))]) hx hb dX10_rests_99 hl (k := 1) rfl (by rw [ex_119]; rfl) (by decide) rfl (fun ls hl => ?_)
              refine lv_goto (tgt := 33) hx hb dX10_rests_102 (by decide) ?_
              exact ihn_108 _ _ _ _ (by rw [en_108, ex_119]; exact mu_up b_111 (by decide)) ⟨x_119, u_113, f_114, f_115, (iv_w bx_119 (by decide)), tf_115, inn_116_0, rfl, hP, hD, hS, lv_sub hl [0, 2, 3, 4] rfl⟩
            · have b_120 : iv 0 124 u_112 := iv_l1 (Int32.not_le.mp c_117) bu_112 (iv_c (125 : Int32) (a := 125) (b := 125) (by decide)) (by decide)
              refine lv_iload_n hx hb dX10_rests_54 rfl (lv_at hl 2 rfl) ?_
              refine lv_aload_n hx hb dX10_rests_55 rfl (lv_at hl 4 rfl) ?_
              refine lv_sipush (v := 625) hx hb dX10_rests_56 (by decide) ?_
              refine lv_iload_n hx hb dX10_rests_59 rfl (lv_at hl 1 rfl) ?_
              refine lv_imul hx hb dX10_rests_60 ?_
              refine lv_topi (fun x_121 ex_121 => ?_)
              have bx_121 : iv 0 4375 x_121 := by rw [ex_121]; exact iv_cmul (iv_c (625 : Int32) (a := 625) (b := 625) (by decide)) b_111 (by decide)
              refine lv_iload hx hb dX10_rests_61 (lv_at hl 0 rfl) ?_
              refine lv_iadd hx hb dX10_rests_63 ?_
              refine lv_topi (fun x_122 ex_122 => ?_)
              have bx_122 : iv 0 4499 x_122 := by rw [ex_122]; exact iv_add bx_121 b_120 (by decide)
              refine lv_iconst (v := 0) hx hb dX10_rests_64 (by decide) ?_
              refine lv_aload_n hx hb dX10_rests_65 rfl (lv_at hl 4 rfl) ?_
              refine va_get (ci := 10) (v := .ref (z 1)) (C := RX10) (T := TX10) (N := 40) hx hb hg inX10 hown hK hP 0 rfl rfl 1 (by decide) (hg _ q_5_225) (fun _ h9 => h9) rfl dX10_rests_66 ?_
              refine lv_bipush (v := 51) hx hb dX10_rests_69 (by decide) ?_
              refine va_iald hx hb hK hP 1 0 rfl rfl (vin (by decide +kernel)) dX10_rests_71 ?_
              refine lv_topi (fun x_123 ex_123 => ?_)
              have bx_123 : iv 0 9 x_123 := by rw [ex_123]; exact rdT (a := 51) (n := 1) tfz1 (iv_c (51 : Int32) (a := 51) (b := 51) (by decide)) (by decide) (by decide +kernel)
              refine jnI (wr := []) (rnV (rest := [.int u_113]) ⟨hx, hb, hml, hown, hg⟩ (k_X10_nightTo_0 l V z x_122 0 x_123 f_114 f_115 0 pz0_5 pz0_6 pz0_7 pz0_8 pz0_9 pz0_10 pz0_11 pz0_12 pz0_13 pz0_14 pz0_18 pz0_19 pz0_22 pz0_23 pz0_29 fz1 (iv_w bx_122 (by decide)) tf_115 bpz0_5 bpz0_6 bpz0_7 bpz0_8 bpz0_10 bpz0_11 bpz0_12 bpz0_13 bpz0_14 bpz0_18 bpz0_22 bpz0_29 tfz1 inn_116_0) mt_X10_nightTo q_7_18 ⟨Nat.le_of_ble_eq_true rfl, Nat.le_of_ble_eq_true rfl⟩ hK hP hD hS hA hE [2, 3, 0, 1] rfl rfl 0 rfl rfl rfl rfl hl.1 rfl (Nat.le_of_ble_eq_true rfl) dX10_rests_72 ⟨Nat.le_of_ble_eq_true rfl, Nat.le_of_ble_eq_true rfl⟩) hP hD hS hA [2, 3, 0, 1] [] rfl rfl rfl (by decide) (fun r_124 w H locs hw hP hD hS => ?_)
              obtain ⟨f_125, f_126, tf_126, br_124, g_127, rfl⟩ := hw
              have hP : va_P V.1 vwCl [(z 15, aI V 900 f_125), (z 16, aI V 6 f_126), (z 0, .inr (10, mo z 0 pz0_5 pz0_6 pz0_7 pz0_8 pz0_9 pz0_10 pz0_11 pz0_12 pz0_13 pz0_14 pz0_18 pz0_19 pz0_22 pz0_23 pz0_29)), (z 1, aI V 3075 fz1)] H := hP
              have hD : va_D A [(z 15, aI V 900 f_125), (z 16, aI V 6 f_126), (z 0, .inr (10, mo z 0 pz0_5 pz0_6 pz0_7 pz0_8 pz0_9 pz0_10 pz0_11 pz0_12 pz0_13 pz0_14 pz0_18 pz0_19 pz0_22 pz0_23 pz0_29)), (z 1, aI V 3075 fz1)] := hD
              refine lv_sipush (v := 625) hx hb dX10_rests_75 (by decide) ?_
              refine lv_iload_n hx hb dX10_rests_78 rfl (lv_at hl 1 rfl) ?_
              refine lv_imul hx hb dX10_rests_79 ?_
              refine tpi (y := x_121) ex_121.symm ?_
              refine lv_iload hx hb dX10_rests_80 (lv_at hl 0 rfl) ?_
              refine lv_iadd hx hb dX10_rests_82 ?_
              refine tpi (y := x_122) ex_122.symm ?_
              refine lv_icmp_ne (tgt := 90) hx hb dX10_rests_83 (by decide) (fun c_128 => ?_) (fun c_128 => ?_)
              · refine lv_iconst (v := 0) hx hb dX10_rests_90 (by decide) ?_
                refine lv_iadd hx hb dX10_rests_91 ?_
                refine lv_topi (fun x_129 ex_129 => ?_)
                refine lv_istore_n (lv' := [(2, .int x_129), (4, .int u_112), (3, .int u_104), (1, .int 125), (0, .ref (z 0))]) hx hb dX10_rests_92 rfl hl (by decide) rfl (fun ls hl => ?_)
                obtain ⟨x_130, ex_130⟩ : ∃ z9 : Int32, z9 = u_112 + 1 := ⟨_, rfl⟩
                have bx_130 : iv 1 125 x_130 := by rw [ex_130]; exact iv_add b_120 (iv_c (1 : Int32) (a := 1) (b := 1) (by decide)) (by decide)
                refine lv_iinc (v := x_130) (lv' := [(4, .int x_130), (2, .int x_129), (3, .int u_104), (1, .int 125), (0, .ref (z 0))]) hx hb dX10_rests_93 hl (k := 1) rfl (by rw [ex_130]; rfl) (by decide) rfl (fun ls hl => ?_)
                refine lv_goto (tgt := 48) hx hb dX10_rests_96 (by decide) ?_
                have hP := subP (ws' := [(z 0, .inr (10, mo z 0 pz0_5 pz0_6 pz0_7 pz0_8 pz0_9 pz0_10 pz0_11 pz0_12 pz0_13 pz0_14 pz0_18 pz0_19 pz0_22 pz0_23 pz0_29)), (z 1, aI V 3075 fz1), (z 15, aI V 900 f_125), (z 16, aI V 6 f_126)]) hP [2, 3, 0, 1] rfl
                have hD := hD.sub (ws' := [(z 0, .inr (10, mo z 0 pz0_5 pz0_6 pz0_7 pz0_8 pz0_9 pz0_10 pz0_11 pz0_12 pz0_13 pz0_14 pz0_18 pz0_19 pz0_22 pz0_23 pz0_29)), (z 1, aI V 3075 fz1), (z 15, aI V 900 f_125), (z 16, aI V 6 f_126)]) [2, 3, 0, 1] rfl rfl
                exact ihn_116 _ _ _ _ (by rw [en_116, ex_130]; exact mu_up b_120 (by decide)) ⟨x_130, x_129, f_125, f_126, (iv_w bx_130 (by decide)), tf_126, g_127, rfl, hP, hD, hS, lv_sub hl [0, 2, 1, 3, 4] rfl⟩
              · have b_131 : iv 0 4499 r_124 := iv_q c_128 bx_122
                refine lv_iconst (v := 1) hx hb dX10_rests_86 (by decide) ?_
                refine lv_goto (tgt := 91) hx hb dX10_rests_87 (by decide) ?_
                refine lv_iadd hx hb dX10_rests_91 ?_
                refine lv_topi (fun x_132 ex_132 => ?_)
                refine lv_istore_n (lv' := [(2, .int x_132), (4, .int u_112), (3, .int u_104), (1, .int 125), (0, .ref (z 0))]) hx hb dX10_rests_92 rfl hl (by decide) rfl (fun ls hl => ?_)
                obtain ⟨x_133, ex_133⟩ : ∃ z9 : Int32, z9 = u_112 + 1 := ⟨_, rfl⟩
                have bx_133 : iv 1 125 x_133 := by rw [ex_133]; exact iv_add b_120 (iv_c (1 : Int32) (a := 1) (b := 1) (by decide)) (by decide)
                refine lv_iinc (v := x_133) (lv' := [(4, .int x_133), (2, .int x_132), (3, .int u_104), (1, .int 125), (0, .ref (z 0))]) hx hb dX10_rests_93 hl (k := 1) rfl (by rw [ex_133]; rfl) (by decide) rfl (fun ls hl => ?_)
                refine lv_goto (tgt := 48) hx hb dX10_rests_96 (by decide) ?_
                have hP := subP (ws' := [(z 0, .inr (10, mo z 0 pz0_5 pz0_6 pz0_7 pz0_8 pz0_9 pz0_10 pz0_11 pz0_12 pz0_13 pz0_14 pz0_18 pz0_19 pz0_22 pz0_23 pz0_29)), (z 1, aI V 3075 fz1), (z 15, aI V 900 f_125), (z 16, aI V 6 f_126)]) hP [2, 3, 0, 1] rfl
                have hD := hD.sub (ws' := [(z 0, .inr (10, mo z 0 pz0_5 pz0_6 pz0_7 pz0_8 pz0_9 pz0_10 pz0_11 pz0_12 pz0_13 pz0_14 pz0_18 pz0_19 pz0_22 pz0_23 pz0_29)), (z 1, aI V 3075 fz1), (z 15, aI V 900 f_125), (z 16, aI V 6 f_126)]) [2, 3, 0, 1] rfl rfl
                exact ihn_116 _ _ _ _ (by rw [en_116, ex_133]; exact mu_up b_120 (by decide)) ⟨x_133, x_132, f_125, f_126, (iv_w bx_133 (by decide)), tf_126, g_127, rfl, hP, hD, hS, lv_sub hl [0, 2, 1, 3, 4] rfl⟩
        · have b_134 : iv 4 4 x_1 := iv_l2 (Int32.not_le.mp c_102) (iv_c (3 : Int32) (a := 3) (b := 3) (by decide)) b_101 (by decide)
          refine lv_iload_n hx hb dX10_rests_19 rfl (lv_at hl 1 rfl) ?_
          refine lv_iconst (v := 5) hx hb dX10_rests_20 (by decide) ?_
          refine lv_imul hx hb dX10_rests_21 ?_
          refine tpi (y := 625) (by decide +kernel) ?_
          refine lv_istore_n (lv' := [(1, .int 625), (2, .int 3), (0, .ref (z 0))]) hx hb dX10_rests_22 rfl hl (by decide) rfl (fun ls hl => ?_)
          refine lv_iinc (v := 4) (lv' := [(2, .int 4), (1, .int 625), (0, .ref (z 0))]) hx hb dX10_rests_23 hl (k := 1) rfl (by decide +kernel) (by decide) rfl (fun ls hl => ?_)
          refine lv_goto (tgt := 9) hx hb dX10_rests_26 (by decide) ?_
          refine lv_iload_n hx hb dX10_rests_9 rfl (lv_at hl 0 rfl) ?_
          refine lv_aload_n hx hb dX10_rests_10 rfl (lv_at hl 2 rfl) ?_
          refine va_get (ci := 10) (v := .ref (z 1)) (C := RX10) (T := TX10) (N := 40) hx hb hg inX10 hown hK hP 0 rfl rfl 1 (by decide) (hg _ q_5_225) (fun _ h9 => h9) rfl dX10_rests_11 ?_
          refine lv_iconst (v := 1) hx hb dX10_rests_14 (by decide) ?_
          refine va_iald hx hb hK hP 1 0 rfl rfl (vin (by decide +kernel)) dX10_rests_15 ?_
          refine tpi (y := x_1) ex_1.symm ?_
          refine lv_icmp_ge (tgt := 29) hx hb dX10_rests_16 (by decide) (fun _ => ?_) (fun c_135 => absurd (iv_le b_134 (iv_c (4 : Int32) (a := 4) (b := 4) (by decide)) (by decide)) c_135)
          refine lv_iconst (v := 0) hx hb dX10_rests_29 (by decide) ?_
          refine lv_istore_n (lv' := [(2, .int 0), (1, .int 625), (0, .ref (z 0))]) hx hb dX10_rests_30 rfl hl (by decide) rfl (fun ls hl => ?_)
          refine lv_iconst (v := 0) hx hb dX10_rests_31 (by decide) ?_
          refine lv_istore_n (lv' := [(3, .int 0), (2, .int 0), (1, .int 625), (0, .ref (z 0))]) hx hb dX10_rests_32 rfl hl (by decide) rfl (fun ls hl => ?_)
          refine loopF (X := fun (n_140 : Nat) (H : Heap) (locs : List Loc) (ls : Array Slot) => ∃ (u_136 : Int32) (u_137 : Int32) (f_138 : Nat → Int32) (f_139 : Nat → Int32), (iv 0 2147483647 u_136) ∧ (ivT tW f_139) ∧ (RW fz1) ∧ n_140 = (2147483647 - (u_136 : Int32).toInt).toNat ∧ va_P V.1 vwCl [(z 0, .inr (10, mo z 0 pz0_5 pz0_6 pz0_7 pz0_8 pz0_9 pz0_10 pz0_11 pz0_12 pz0_13 pz0_14 pz0_18 pz0_19 pz0_22 pz0_23 pz0_29)), (z 1, aI V 3075 fz1), (z 15, aI V 900 f_138), (z 16, aI V 6 f_139)] H ∧ va_D A [(z 0, .inr (10, mo z 0 pz0_5 pz0_6 pz0_7 pz0_8 pz0_9 pz0_10 pz0_11 pz0_12 pz0_13 pz0_14 pz0_18 pz0_19 pz0_22 pz0_23 pz0_29)), (z 1, aI V 3075 fz1), (z 15, aI V 900 f_138), (z 16, aI V 6 f_139)] ∧ va_S A s.heap H locs ∧ lv_has ls 5 [(3, .int u_136), (2, .int u_137), (1, .int 625), (0, .ref (z 0))]) (g := fun ls => F0 m 33 ls []) (fun n_140 H locs ls hX ihn_140 => ?_) _ ⟨0, 0, fz15, fz16, (iv_c (0 : Int32) (by decide)), tfz16, hf0, rfl, hP, hD, hS, lv_sub hl [0, 1, 2, 3] rfl⟩
          obtain ⟨u_136, u_137, f_138, f_139, bu_136, tf_139, inn_140_0, en_140, hP, hD, hS, hl⟩ := hX
          refine lv_iload_n hx hb dX10_rests_33 rfl (lv_at hl 0 rfl) ?_
          refine lv_iconst (v := 1) hx hb dX10_rests_34 (by decide) ?_
          refine lv_aload_n hx hb dX10_rests_35 rfl (lv_at hl 3 rfl) ?_
          refine va_get (ci := 10) (v := .ref (z 1)) (C := RX10) (T := TX10) (N := 40) hx hb hg inX10 hown hK hP 0 rfl rfl 1 (by decide) (hg _ q_5_225) (fun _ h9 => h9) rfl dX10_rests_36 ?_
          refine lv_iconst (v := 1) hx hb dX10_rests_39 (by decide) ?_
          refine va_iald hx hb hK hP 1 0 rfl rfl (vin (by decide +kernel)) dX10_rests_40 ?_
          refine tpi (y := x_1) ex_1.symm ?_
          refine tpi (y := 4) (iv_eqp b_134 (iv_c (4 : Int32) (by decide))) ?_
          refine lv_ishl hx hb dX10_rests_41 ?_
          refine tpi (y := 16) (by decide +kernel) ?_
          refine lv_icmp_ge (tgt := 105) hx hb dX10_rests_42 (by decide) (fun c_141 => ?_) (fun c_141 => ?_)
          · have b_142 : iv 16 2147483647 u_136 := iv_e2 c_141 (iv_c (16 : Int32) (a := 16) (b := 16) (by decide)) bu_136 (by decide)
            refine lv_iload_n hx hb dX10_rests_105 rfl (lv_at hl 1 rfl) ?_
            exact fiI hx hb hr hlk hK hP hD hS dX10_rests_106 (Nat.le_of_ble_eq_true rfl) (Nat.le_of_ble_eq_true rfl) (⟨0, f_138, f_139, tf_139, inn_140_0, rfl⟩)
          · have b_143 : iv 0 15 u_136 := iv_l1 (Int32.not_le.mp c_141) bu_136 (iv_c (16 : Int32) (a := 16) (b := 16) (by decide)) (by decide)
            refine lv_iconst (v := 0) hx hb dX10_rests_45 (by decide) ?_
            refine lv_istore (lv' := [(4, .int 0), (3, .int u_136), (2, .int u_137), (1, .int 625), (0, .ref (z 0))]) hx hb dX10_rests_46 hl (by decide) rfl (fun ls hl => ?_)
            refine loopF (X := fun (n_148 : Nat) (H : Heap) (locs : List Loc) (ls : Array Slot) => ∃ (u_144 : Int32) (u_145 : Int32) (f_146 : Nat → Int32) (f_147 : Nat → Int32), (iv 0 2147483647 u_144) ∧ (ivT tW f_147) ∧ (RW fz1) ∧ n_148 = (2147483647 - (u_144 : Int32).toInt).toNat ∧ va_P V.1 vwCl [(z 0, .inr (10, mo z 0 pz0_5 pz0_6 pz0_7 pz0_8 pz0_9 pz0_10 pz0_11 pz0_12 pz0_13 pz0_14 pz0_18 pz0_19 pz0_22 pz0_23 pz0_29)), (z 1, aI V 3075 fz1), (z 15, aI V 900 f_146), (z 16, aI V 6 f_147)] H ∧ va_D A [(z 0, .inr (10, mo z 0 pz0_5 pz0_6 pz0_7 pz0_8 pz0_9 pz0_10 pz0_11 pz0_12 pz0_13 pz0_14 pz0_18 pz0_19 pz0_22 pz0_23 pz0_29)), (z 1, aI V 3075 fz1), (z 15, aI V 900 f_146), (z 16, aI V 6 f_147)] ∧ va_S A s.heap H locs ∧ lv_has ls 5 [(4, .int u_144), (3, .int u_136), (2, .int u_145), (1, .int 625), (0, .ref (z 0))]) (g := fun ls => F0 m 48 ls []) (fun n_148 H locs ls hX ihn_148 => ?_) _ ⟨0, u_137, f_138, f_139, (iv_c (0 : Int32) (by decide)), tf_139, inn_140_0, rfl, hP, hD, hS, lv_sub hl [0, 1, 2, 3, 4] rfl⟩
            obtain ⟨u_144, u_145, f_146, f_147, bu_144, tf_147, inn_148_0, en_148, hP, hD, hS, hl⟩ := hX
            refine lv_iload hx hb dX10_rests_48 (lv_at hl 0 rfl) ?_
            refine lv_iload_n hx hb dX10_rests_50 rfl (lv_at hl 3 rfl) ?_
            refine lv_icmp_ge (tgt := 99) hx hb dX10_rests_51 (by decide) (fun c_149 => ?_) (fun c_149 => ?_)
            · have b_150 : iv 625 2147483647 u_144 := iv_e2 c_149 (iv_c (625 : Int32) (a := 625) (b := 625) (by decide)) bu_144 (by decide)
              obtain ⟨x_151, ex_151⟩ : ∃ z9 : Int32, z9 = u_136 + 1 := ⟨_, rfl⟩
              have bx_151 : iv 1 16 x_151 := by rw [ex_151]; exact iv_add b_143 (iv_c (1 : Int32) (a := 1) (b := 1) (by decide)) (by decide)
              refine lv_iinc (v := x_151) (lv' := [(3, .int x_151), (4, .int u_144), (2, .int u_145), (1, .int 625), (0, .ref (z 0))]) hx hb dX10_rests_99 hl (k := 1) rfl (by rw [ex_151]; rfl) (by decide) rfl (fun ls hl => ?_)
              refine lv_goto (tgt := 33) hx hb dX10_rests_102 (by decide) ?_
              exact ihn_140 _ _ _ _ (by rw [en_140, ex_151]; exact mu_up b_143 (by decide)) ⟨x_151, u_145, f_146, f_147, (iv_w bx_151 (by decide)), tf_147, inn_148_0, rfl, hP, hD, hS, lv_sub hl [0, 2, 3, 4] rfl⟩
            · have b_152 : iv 0 624 u_144 := iv_l1 (Int32.not_le.mp c_149) bu_144 (iv_c (625 : Int32) (a := 625) (b := 625) (by decide)) (by decide)
              refine lv_iload_n hx hb dX10_rests_54 rfl (lv_at hl 2 rfl) ?_
              refine lv_aload_n hx hb dX10_rests_55 rfl (lv_at hl 4 rfl) ?_
              refine lv_sipush (v := 625) hx hb dX10_rests_56 (by decide) ?_
              refine lv_iload_n hx hb dX10_rests_59 rfl (lv_at hl 1 rfl) ?_
              refine lv_imul hx hb dX10_rests_60 ?_
              refine lv_topi (fun x_153 ex_153 => ?_)
              have bx_153 : iv 0 9375 x_153 := by rw [ex_153]; exact iv_cmul (iv_c (625 : Int32) (a := 625) (b := 625) (by decide)) b_143 (by decide)
              refine lv_iload hx hb dX10_rests_61 (lv_at hl 0 rfl) ?_
              refine lv_iadd hx hb dX10_rests_63 ?_
              refine lv_topi (fun x_154 ex_154 => ?_)
              have bx_154 : iv 0 9999 x_154 := by rw [ex_154]; exact iv_add bx_153 b_152 (by decide)
              refine lv_iconst (v := 0) hx hb dX10_rests_64 (by decide) ?_
              refine lv_aload_n hx hb dX10_rests_65 rfl (lv_at hl 4 rfl) ?_
              refine va_get (ci := 10) (v := .ref (z 1)) (C := RX10) (T := TX10) (N := 40) hx hb hg inX10 hown hK hP 0 rfl rfl 1 (by decide) (hg _ q_5_225) (fun _ h9 => h9) rfl dX10_rests_66 ?_
              refine lv_bipush (v := 51) hx hb dX10_rests_69 (by decide) ?_
              refine va_iald hx hb hK hP 1 0 rfl rfl (vin (by decide +kernel)) dX10_rests_71 ?_
              refine lv_topi (fun x_155 ex_155 => ?_)
              have bx_155 : iv 0 9 x_155 := by rw [ex_155]; exact rdT (a := 51) (n := 1) tfz1 (iv_c (51 : Int32) (a := 51) (b := 51) (by decide)) (by decide) (by decide +kernel)
              refine jnI (wr := []) (rnV (rest := [.int u_145]) ⟨hx, hb, hml, hown, hg⟩ (k_X10_nightTo_0 l V z x_154 0 x_155 f_146 f_147 0 pz0_5 pz0_6 pz0_7 pz0_8 pz0_9 pz0_10 pz0_11 pz0_12 pz0_13 pz0_14 pz0_18 pz0_19 pz0_22 pz0_23 pz0_29 fz1 bx_154 tf_147 bpz0_5 bpz0_6 bpz0_7 bpz0_8 bpz0_10 bpz0_11 bpz0_12 bpz0_13 bpz0_14 bpz0_18 bpz0_22 bpz0_29 tfz1 inn_148_0) mt_X10_nightTo q_7_18 ⟨Nat.le_of_ble_eq_true rfl, Nat.le_of_ble_eq_true rfl⟩ hK hP hD hS hA hE [2, 3, 0, 1] rfl rfl 0 rfl rfl rfl rfl hl.1 rfl (Nat.le_of_ble_eq_true rfl) dX10_rests_72 ⟨Nat.le_of_ble_eq_true rfl, Nat.le_of_ble_eq_true rfl⟩) hP hD hS hA [2, 3, 0, 1] [] rfl rfl rfl (by decide) (fun r_156 w H locs hw hP hD hS => ?_)
              obtain ⟨f_157, f_158, tf_158, br_156, g_159, rfl⟩ := hw
              have hP : va_P V.1 vwCl [(z 15, aI V 900 f_157), (z 16, aI V 6 f_158), (z 0, .inr (10, mo z 0 pz0_5 pz0_6 pz0_7 pz0_8 pz0_9 pz0_10 pz0_11 pz0_12 pz0_13 pz0_14 pz0_18 pz0_19 pz0_22 pz0_23 pz0_29)), (z 1, aI V 3075 fz1)] H := hP
              have hD : va_D A [(z 15, aI V 900 f_157), (z 16, aI V 6 f_158), (z 0, .inr (10, mo z 0 pz0_5 pz0_6 pz0_7 pz0_8 pz0_9 pz0_10 pz0_11 pz0_12 pz0_13 pz0_14 pz0_18 pz0_19 pz0_22 pz0_23 pz0_29)), (z 1, aI V 3075 fz1)] := hD
              refine lv_sipush (v := 625) hx hb dX10_rests_75 (by decide) ?_
              refine lv_iload_n hx hb dX10_rests_78 rfl (lv_at hl 1 rfl) ?_
              refine lv_imul hx hb dX10_rests_79 ?_
              refine tpi (y := x_153) ex_153.symm ?_
              refine lv_iload hx hb dX10_rests_80 (lv_at hl 0 rfl) ?_
              refine lv_iadd hx hb dX10_rests_82 ?_
              refine tpi (y := x_154) ex_154.symm ?_
              refine lv_icmp_ne (tgt := 90) hx hb dX10_rests_83 (by decide) (fun c_160 => ?_) (fun c_160 => ?_)
              · refine lv_iconst (v := 0) hx hb dX10_rests_90 (by decide) ?_
                refine lv_iadd hx hb dX10_rests_91 ?_
                refine lv_topi (fun x_161 ex_161 => ?_)
                refine lv_istore_n (lv' := [(2, .int x_161), (4, .int u_144), (3, .int u_136), (1, .int 625), (0, .ref (z 0))]) hx hb dX10_rests_92 rfl hl (by decide) rfl (fun ls hl => ?_)
                obtain ⟨x_162, ex_162⟩ : ∃ z9 : Int32, z9 = u_144 + 1 := ⟨_, rfl⟩
                have bx_162 : iv 1 625 x_162 := by rw [ex_162]; exact iv_add b_152 (iv_c (1 : Int32) (a := 1) (b := 1) (by decide)) (by decide)
                refine lv_iinc (v := x_162) (lv' := [(4, .int x_162), (2, .int x_161), (3, .int u_136), (1, .int 625), (0, .ref (z 0))]) hx hb dX10_rests_93 hl (k := 1) rfl (by rw [ex_162]; rfl) (by decide) rfl (fun ls hl => ?_)
                refine lv_goto (tgt := 48) hx hb dX10_rests_96 (by decide) ?_
                have hP := subP (ws' := [(z 0, .inr (10, mo z 0 pz0_5 pz0_6 pz0_7 pz0_8 pz0_9 pz0_10 pz0_11 pz0_12 pz0_13 pz0_14 pz0_18 pz0_19 pz0_22 pz0_23 pz0_29)), (z 1, aI V 3075 fz1), (z 15, aI V 900 f_157), (z 16, aI V 6 f_158)]) hP [2, 3, 0, 1] rfl
                have hD := hD.sub (ws' := [(z 0, .inr (10, mo z 0 pz0_5 pz0_6 pz0_7 pz0_8 pz0_9 pz0_10 pz0_11 pz0_12 pz0_13 pz0_14 pz0_18 pz0_19 pz0_22 pz0_23 pz0_29)), (z 1, aI V 3075 fz1), (z 15, aI V 900 f_157), (z 16, aI V 6 f_158)]) [2, 3, 0, 1] rfl rfl
                exact ihn_148 _ _ _ _ (by rw [en_148, ex_162]; exact mu_up b_152 (by decide)) ⟨x_162, x_161, f_157, f_158, (iv_w bx_162 (by decide)), tf_158, g_159, rfl, hP, hD, hS, lv_sub hl [0, 2, 1, 3, 4] rfl⟩
              · have b_163 : iv 0 9843 x_154 := iv_q c_160.symm br_156
                refine lv_iconst (v := 1) hx hb dX10_rests_86 (by decide) ?_
                refine lv_goto (tgt := 91) hx hb dX10_rests_87 (by decide) ?_
                refine lv_iadd hx hb dX10_rests_91 ?_
                refine lv_topi (fun x_164 ex_164 => ?_)
                refine lv_istore_n (lv' := [(2, .int x_164), (4, .int u_144), (3, .int u_136), (1, .int 625), (0, .ref (z 0))]) hx hb dX10_rests_92 rfl hl (by decide) rfl (fun ls hl => ?_)
                obtain ⟨x_165, ex_165⟩ : ∃ z9 : Int32, z9 = u_144 + 1 := ⟨_, rfl⟩
                have bx_165 : iv 1 625 x_165 := by rw [ex_165]; exact iv_add b_152 (iv_c (1 : Int32) (a := 1) (b := 1) (by decide)) (by decide)
                refine lv_iinc (v := x_165) (lv' := [(4, .int x_165), (2, .int x_164), (3, .int u_136), (1, .int 625), (0, .ref (z 0))]) hx hb dX10_rests_93 hl (k := 1) rfl (by rw [ex_165]; rfl) (by decide) rfl (fun ls hl => ?_)
                refine lv_goto (tgt := 48) hx hb dX10_rests_96 (by decide) ?_
                have hP := subP (ws' := [(z 0, .inr (10, mo z 0 pz0_5 pz0_6 pz0_7 pz0_8 pz0_9 pz0_10 pz0_11 pz0_12 pz0_13 pz0_14 pz0_18 pz0_19 pz0_22 pz0_23 pz0_29)), (z 1, aI V 3075 fz1), (z 15, aI V 900 f_157), (z 16, aI V 6 f_158)]) hP [2, 3, 0, 1] rfl
                have hD := hD.sub (ws' := [(z 0, .inr (10, mo z 0 pz0_5 pz0_6 pz0_7 pz0_8 pz0_9 pz0_10 pz0_11 pz0_12 pz0_13 pz0_14 pz0_18 pz0_19 pz0_22 pz0_23 pz0_29)), (z 1, aI V 3075 fz1), (z 15, aI V 900 f_157), (z 16, aI V 6 f_158)]) [2, 3, 0, 1] rfl rfl
                exact ihn_148 _ _ _ _ (by rw [en_148, ex_165]; exact mu_up b_152 (by decide)) ⟨x_165, x_164, f_157, f_158, (iv_w bx_165 (by decide)), tf_158, g_159, rfl, hP, hD, hS, lv_sub hl [0, 2, 1, 3, 4] rfl⟩
theorem dX10_isHigh_0 : decode cX10_isHigh 0 = .ok (.iload_n 0, 1) := by decide +kernel
theorem dX10_isHigh_1 : decode cX10_isHigh 1 = .ok (.i2l, 1) := by decide +kernel
theorem dX10_isHigh_2 : decode cX10_isHigh 2 = .ok (.lconst 0, 1) := by decide +kernel
theorem q_7_189 : Cond.constantLong "BeaconDelayModel" 368 (4 : Int64) ∈ gw := gw_7 (i := 189) (by decide +kernel) rfl
theorem dX10_isHigh_3 : decode cX10_isHigh 3 = .ok (.ldc2_w 368, 3) := by decide +kernel
theorem dX10_isHigh_6 : decode cX10_isHigh 6 = .ok (.invokestatic 159, 3) := by decide +kernel
theorem dX10_isHigh_9 : decode cX10_isHigh 9 = .ok (.ireturn, 1) := by decide +kernel
set_option maxHeartbeats 4000000 in
set_option maxRecDepth 100000 in
theorem k_X10_isHigh_0 (l : Launch) (V : GV) (a0 : Int32) : Ct l V yX10_isHigh (.code yX10_isHigh cX10_isHigh 1 (some .boolean)) 2 [.int a0] [] 0 0 (QI V (fun (r : Int32) (w : va_W) => iv 0 1 r ∧ (r = 1 → iv 0 4 a0) ∧ w = [])) := by
  refine Ct.of (by decide) (Nat.le_of_ble_eq_true rfl) (fun p e s m below meth c A ls hx hb hr hml hown hlk hnm hg hP hK hD hE hA hS hl => ?_)
  have hl : lv_has ls 1 [(0, .int a0)] := hl
  refine lv_iload_n hx hb dX10_isHigh_0 rfl (lv_at hl 0 rfl) ?_
  refine lv_i2l hx hb dX10_isHigh_1 rfl ?_
  refine lv_topl (fun j_1 ej_1 => ?_)
  refine lv_lconst (v := 0) hx hb dX10_isHigh_2 (by decide) ?_
  refine lv_ldc2 (v := 4) hx hb hown (hg _ q_7_189) dX10_isHigh_3 ?_
  refine jnI (wr := []) (rnS (rest := []) ⟨hx, hb, hml, hown, hg⟩ (k_X10_within_0 l V j_1 0 4) mt_X10_within q_6_114 ⟨Nat.le_of_ble_eq_true rfl, Nat.le_of_ble_eq_true rfl⟩ hK hP hD hS hA hE [] rfl rfl rfl hl.1 rfl (Nat.le_of_ble_eq_true rfl) dX10_isHigh_6 ⟨Nat.le_of_ble_eq_true rfl, Nat.le_of_ble_eq_true rfl⟩) hP hD hS hA [] [] rfl rfl rfl (by decide) (fun r_2 w H locs hw hP hD hS => ?_)
  obtain ⟨br_2, g_3, g_4, g_5, rfl⟩ := hw
  have hP : va_P V.1 vwCl [] H := hP
  have hD : va_D A [] := hD
  have c_6 : r_2 = 0 ∨ r_2 = 1 := by have q9 := br_2; unfold iv at q9; simp only [tI_eq, (by decide : (0 : Int32).toInt = 0), (by decide : (1 : Int32).toInt = 1)]; omega
  rcases c_6 with rfl | rfl
  · exact fiZ rfl hx hb hr hlk hK hP hD hS dX10_isHigh_9 (Nat.le_of_ble_eq_true rfl) (Nat.le_of_ble_eq_true rfl) (⟨(iv_c (0 : Int32) (by decide)), (fun q9 => absurd q9 (by decide)), rfl⟩)
  · have c_7 : (0 : Int64) ≤ j_1 := (g_4 rfl)
    have b_8 : ivL 0 9223372036854775807 j_1 := ivL_e2 c_7 (ivL_c (0 : Int64) (a := 0) (b := 0) (by decide)) (ivL_top j_1) (by decide)
    have b_9 : iv 0 2147483647 a0 := iv_cap (ivL_i ej_1 b_8) (iv_top a0) (by decide)
    have c_10 : j_1 ≤ 4 := (g_5 rfl)
    have b_11 : ivL 0 4 j_1 := ivL_e1 c_10 b_8 (ivL_c (4 : Int64) (a := 4) (b := 4) (by decide)) (by decide)
    have b_12 : iv 0 4 a0 := iv_cap (ivL_i ej_1 b_11) b_9 (by decide)
    exact fiZ rfl hx hb hr hlk hK hP hD hS dX10_isHigh_9 (Nat.le_of_ble_eq_true rfl) (Nat.le_of_ble_eq_true rfl) (⟨(iv_c (1 : Int32) (by decide)), (fun _ => b_12), rfl⟩)
theorem dX10_noHigh_0 : decode cX10_noHigh 0 = .ok (.aload_n 0, 1) := by decide +kernel
theorem dX10_noHigh_1 : decode cX10_noHigh 1 = .ok (.iload_n 1, 1) := by decide +kernel
theorem dX10_noHigh_2 : decode cX10_noHigh 2 = .ok (.i2l, 1) := by decide +kernel
theorem dX10_noHigh_3 : decode cX10_noHigh 3 = .ok (.invokevirtual 262, 3) := by decide +kernel
theorem dX10_noHigh_6 : decode cX10_noHigh 6 = .ok (.ifCond .ne 8, 3) := by decide +kernel
theorem dX10_noHigh_14 : decode cX10_noHigh 14 = .ok (.iload_n 2, 1) := by decide +kernel
theorem q_7_188 : Cond.code yX10_isHigh prog_12_method_87_code 1 (some FieldType.boolean) ∈ gw := gw_7 (i := 188) (rfl) rfl
theorem q_7_187 : Cond.static yX10_isHigh ∈ gw := gw_7 (i := 187) (by decide +kernel) rfl
theorem mt_X10_isHigh : MtS yX10_isHigh cX10_isHigh 1 (some .boolean) 1 := ⟨⟨q_7_188, q_1_9, by decide +kernel, by decide +kernel, by decide +kernel⟩, q_7_187⟩
theorem q_7_186 : Cond.methodLink "BeaconDelayModel" 370 yX10_isHigh ∈ gw := gw_7 (i := 186) (by decide +kernel) rfl
theorem dX10_noHigh_15 : decode cX10_noHigh 15 = .ok (.invokestatic 370, 3) := by decide +kernel
theorem dX10_noHigh_18 : decode cX10_noHigh 18 = .ok (.ifCond .eq 7, 3) := by decide +kernel
theorem dX10_noHigh_25 : decode cX10_noHigh 25 = .ok (.bipush (-3), 2) := by decide +kernel
theorem dX10_noHigh_27 : decode cX10_noHigh 27 = .ok (.ireturn, 1) := by decide +kernel
theorem dX10_noHigh_21 : decode cX10_noHigh 21 = .ok (.iconst 0, 1) := by decide +kernel
theorem dX10_noHigh_22 : decode cX10_noHigh 22 = .ok (.goto 5, 3) := by decide +kernel
theorem dX10_noHigh_9 : decode cX10_noHigh 9 = .ok (.bipush (-2), 2) := by decide +kernel
theorem dX10_noHigh_11 : decode cX10_noHigh 11 = .ok (.goto 16, 3) := by decide +kernel
set_option maxHeartbeats 4000000 in
set_option maxRecDepth 100000 in
theorem k_X10_noHigh_0 (l : Launch) (V : GV) (z : Nat → Nat) (a1 : Int32) (a2 : Int32) (pz0_0 : Int32) (pz0_5 : Int32) (pz0_6 : Int32) (pz0_7 : Int32) (pz0_8 : Int32) (pz0_9 : Int32) (pz0_10 : Int32) (pz0_11 : Int32) (pz0_12 : Int32) (pz0_13 : Int32) (pz0_14 : Int32) (pz0_18 : Int32) (pz0_19 : Int32) (pz0_22 : Int32) (pz0_23 : Int32) (pz0_29 : Int32) (fz1 : Nat → Int32) (bpz0_5 : iv 0 900 pz0_5) (bpz0_6 : iv 0 900 pz0_6) (bpz0_7 : iv 0 900 pz0_7) (bpz0_8 : iv 0 900 pz0_8) (bpz0_10 : iv 0 999 pz0_10) (bpz0_11 : iv 0 4 pz0_11) (bpz0_12 : iv 0 900 pz0_12) (bpz0_13 : iv 0 4 pz0_13) (bpz0_14 : iv (-1) 900 pz0_14) (bpz0_18 : iv 0 2 pz0_18) (bpz0_22 : iv 0 9999 pz0_22) (bpz0_29 : iv 0 10000 pz0_29) (tfz1 : ivT tA fz1) : Ct l V yX10_noHigh (.code yX10_noHigh cX10_noHigh 3 (some .int)) 3 [.ref (z 0), .int a1, .int a2] [(z 0, .inr (10, mo z pz0_0 pz0_5 pz0_6 pz0_7 pz0_8 pz0_9 pz0_10 pz0_11 pz0_12 pz0_13 pz0_14 pz0_18 pz0_19 pz0_22 pz0_23 pz0_29)), (z 1, aI V 3075 fz1)] 0 0 (QI V (fun (r : Int32) (w : va_W) => iv (-3) 0 r ∧ (r = 0 → iv 0 3 a1) ∧ (r = 0 → iv 0 4 a2) ∧ w = [(z 0, .inr (10, mo z pz0_0 pz0_5 pz0_6 pz0_7 pz0_8 pz0_9 pz0_10 pz0_11 pz0_12 pz0_13 pz0_14 pz0_18 pz0_19 pz0_22 pz0_23 pz0_29)), (z 1, aI V 3075 fz1)])) := by
  refine Ct.of (by decide) (Nat.le_of_ble_eq_true rfl) (fun p e s m below meth c A ls hx hb hr hml hown hlk hnm hg hP hK hD hE hA hS hl => ?_)
  have hl : lv_has ls 3 [(0, .ref (z 0)), (1, .int a1), (2, .int a2)] := hl
  refine lv_aload_n hx hb dX10_noHigh_0 rfl (lv_at hl 0 rfl) ?_
  refine lv_iload_n hx hb dX10_noHigh_1 rfl (lv_at hl 1 rfl) ?_
  refine lv_i2l hx hb dX10_noHigh_2 rfl ?_
  refine lv_topl (fun j_1 ej_1 => ?_)
  refine jnI (wr := []) (rnV (rest := []) ⟨hx, hb, hml, hown, hg⟩ (k_X10_isHill_0 l V z j_1 pz0_0 pz0_5 pz0_6 pz0_7 pz0_8 pz0_9 pz0_10 pz0_11 pz0_12 pz0_13 pz0_14 pz0_18 pz0_19 pz0_22 pz0_23 pz0_29 fz1 bpz0_5 bpz0_6 bpz0_7 bpz0_8 bpz0_10 bpz0_11 bpz0_12 bpz0_13 bpz0_14 bpz0_18 bpz0_22 bpz0_29 tfz1) mt_X10_isHill q_6_235 ⟨Nat.le_of_ble_eq_true rfl, Nat.le_of_ble_eq_true rfl⟩ hK hP hD hS hA hE [0, 1] rfl rfl 0 rfl rfl rfl rfl hl.1 rfl (Nat.le_of_ble_eq_true rfl) dX10_noHigh_3 ⟨Nat.le_of_ble_eq_true rfl, Nat.le_of_ble_eq_true rfl⟩) hP hD hS hA [0, 1] [] rfl rfl rfl (by decide) (fun r_2 w H locs hw hP hD hS => ?_)
  obtain ⟨br_2, g_3, rfl⟩ := hw
  have hP : va_P V.1 vwCl [(z 0, .inr (10, mo z pz0_0 pz0_5 pz0_6 pz0_7 pz0_8 pz0_9 pz0_10 pz0_11 pz0_12 pz0_13 pz0_14 pz0_18 pz0_19 pz0_22 pz0_23 pz0_29)), (z 1, aI V 3075 fz1)] H := hP
  have hD : va_D A [(z 0, .inr (10, mo z pz0_0 pz0_5 pz0_6 pz0_7 pz0_8 pz0_9 pz0_10 pz0_11 pz0_12 pz0_13 pz0_14 pz0_18 pz0_19 pz0_22 pz0_23 pz0_29)), (z 1, aI V 3075 fz1)] := hD
  refine lv_if_ne (tgt := 14) hx hb dX10_noHigh_6 (by decide) (fun c_4 => ?_) (fun c_4 => ?_)
  · have b_5 : iv 1 1 r_2 := iv_n0 c_4 br_2 (iv_c (0 : Int32) (a := 0) (b := 0) (by decide)) (by decide)
    have b_6 : ivL 0 3 j_1 := ivL_cap (g_3 (iv_eqp b_5 (iv_c (1 : Int32) (by decide)))) (ivL_top j_1) (by decide)
    have b_7 : iv 0 3 a1 := iv_cap (ivL_i ej_1 b_6) (iv_top a1) (by decide)
    refine lv_iload_n hx hb dX10_noHigh_14 rfl (lv_at hl 2 rfl) ?_
    refine jnI (wr := [(z 0, .inr (10, mo z pz0_0 pz0_5 pz0_6 pz0_7 pz0_8 pz0_9 pz0_10 pz0_11 pz0_12 pz0_13 pz0_14 pz0_18 pz0_19 pz0_22 pz0_23 pz0_29)), (z 1, aI V 3075 fz1)]) (rnS (rest := []) ⟨hx, hb, hml, hown, hg⟩ (k_X10_isHigh_0 l V a2) mt_X10_isHigh q_7_186 ⟨Nat.le_of_ble_eq_true rfl, Nat.le_of_ble_eq_true rfl⟩ hK hP hD hS hA hE [] rfl rfl rfl hl.1 rfl (Nat.le_of_ble_eq_true rfl) dX10_noHigh_15 ⟨Nat.le_of_ble_eq_true rfl, Nat.le_of_ble_eq_true rfl⟩) hP hD hS hA [] [0, 1] rfl rfl rfl (by decide) (fun r_8 w H locs hw hP hD hS => ?_)
    obtain ⟨br_8, g_9, rfl⟩ := hw
    have hP : va_P V.1 vwCl [(z 0, .inr (10, mo z pz0_0 pz0_5 pz0_6 pz0_7 pz0_8 pz0_9 pz0_10 pz0_11 pz0_12 pz0_13 pz0_14 pz0_18 pz0_19 pz0_22 pz0_23 pz0_29)), (z 1, aI V 3075 fz1)] H := hP
    have hD : va_D A [(z 0, .inr (10, mo z pz0_0 pz0_5 pz0_6 pz0_7 pz0_8 pz0_9 pz0_10 pz0_11 pz0_12 pz0_13 pz0_14 pz0_18 pz0_19 pz0_22 pz0_23 pz0_29)), (z 1, aI V 3075 fz1)] := hD
    refine lv_if_eq (tgt := 25) hx hb dX10_noHigh_18 (by decide) (fun c_10 => ?_) (fun c_10 => ?_)
    · have b_11 : iv 0 0 r_8 := iv_q c_10 (iv_c (0 : Int32) (a := 0) (b := 0) (by decide))
      refine lv_bipush (v := (-3)) hx hb dX10_noHigh_25 (by decide) ?_
      exact fiI hx hb hr hlk hK hP hD hS dX10_noHigh_27 (Nat.le_of_ble_eq_true rfl) (Nat.le_of_ble_eq_true rfl) (⟨(iv_c ((-3) : Int32) (by decide)), (fun q9 => absurd q9 (by decide)), (fun q9 => absurd q9 (by decide)), rfl⟩)
    · have b_12 : iv 1 1 r_8 := iv_n0 c_10 br_8 (iv_c (0 : Int32) (a := 0) (b := 0) (by decide)) (by decide)
      have b_13 : iv 0 4 a2 := iv_cap (g_9 (iv_eqp b_12 (iv_c (1 : Int32) (by decide)))) (iv_top a2) (by decide)
      refine lv_iconst (v := 0) hx hb dX10_noHigh_21 (by decide) ?_
      refine lv_goto (tgt := 27) hx hb dX10_noHigh_22 (by decide) ?_
      exact fiI hx hb hr hlk hK hP hD hS dX10_noHigh_27 (Nat.le_of_ble_eq_true rfl) (Nat.le_of_ble_eq_true rfl) (⟨(iv_c (0 : Int32) (by decide)), (fun _ => b_7), (fun _ => b_13), rfl⟩)
  · have b_14 : iv 0 0 r_2 := iv_q c_4 (iv_c (0 : Int32) (a := 0) (b := 0) (by decide))
    refine lv_bipush (v := (-2)) hx hb dX10_noHigh_9 (by decide) ?_
    refine lv_goto (tgt := 27) hx hb dX10_noHigh_11 (by decide) ?_
    exact fiI hx hb hr hlk hK hP hD hS dX10_noHigh_27 (Nat.le_of_ble_eq_true rfl) (Nat.le_of_ble_eq_true rfl) (⟨(iv_c ((-2) : Int32) (by decide)), (fun q9 => absurd q9 (by decide)), (fun q9 => absurd q9 (by decide)), rfl⟩)
