theorem dX10_leastIn_0 : decode cX10_leastIn 0 = .ok (.iconst 4, 1) := by decide +kernel
theorem dX10_leastIn_1 : decode cX10_leastIn 1 = .ok (.istore_n 2, 1) := by decide +kernel
theorem dX10_leastIn_2 : decode cX10_leastIn 2 = .ok (.iconst 0, 1) := by decide +kernel
theorem dX10_leastIn_3 : decode cX10_leastIn 3 = .ok (.istore_n 3, 1) := by decide +kernel
theorem dX10_leastIn_4 : decode cX10_leastIn 4 = .ok (.iload_n 3, 1) := by decide +kernel
theorem dX10_leastIn_5 : decode cX10_leastIn 5 = .ok (.aload_n 0, 1) := by decide +kernel
theorem dX10_leastIn_6 : decode cX10_leastIn 6 = .ok (.getfield 13, 3) := by decide +kernel
theorem dX10_leastIn_9 : decode cX10_leastIn 9 = .ok (.iconst 1, 1) := by decide +kernel
theorem dX10_leastIn_10 : decode cX10_leastIn 10 = .ok (.iaload, 1) := by decide +kernel
theorem dX10_leastIn_11 : decode cX10_leastIn 11 = .ok (.if_icmp .ge 28, 3) := by decide +kernel
theorem dX10_leastIn_39 : decode cX10_leastIn 39 = .ok (.iload_n 2, 1) := by decide +kernel
theorem dX10_leastIn_40 : decode cX10_leastIn 40 = .ok (.ireturn, 1) := by decide +kernel
theorem dX10_leastIn_14 : decode cX10_leastIn 14 = .ok (.iload_n 1, 1) := by decide +kernel
theorem dX10_leastIn_15 : decode cX10_leastIn 15 = .ok (.iload_n 3, 1) := by decide +kernel
theorem dX10_leastIn_16 : decode cX10_leastIn 16 = .ok (.invokestatic 231, 3) := by decide +kernel
theorem dX10_leastIn_19 : decode cX10_leastIn 19 = .ok (.iload_n 2, 1) := by decide +kernel
theorem dX10_leastIn_20 : decode cX10_leastIn 20 = .ok (.if_icmp .ge 11, 3) := by decide +kernel
theorem dX10_leastIn_31 : decode cX10_leastIn 31 = .ok (.iload_n 2, 1) := by decide +kernel
theorem dX10_leastIn_32 : decode cX10_leastIn 32 = .ok (.istore_n 2, 1) := by decide +kernel
theorem dX10_leastIn_33 : decode cX10_leastIn 33 = .ok (.iinc 3 1, 3) := by decide +kernel
theorem dX10_leastIn_36 : decode cX10_leastIn 36 = .ok (.goto (-32), 3) := by decide +kernel
theorem dX10_leastIn_23 : decode cX10_leastIn 23 = .ok (.iload_n 1, 1) := by decide +kernel
theorem dX10_leastIn_24 : decode cX10_leastIn 24 = .ok (.iload_n 3, 1) := by decide +kernel
theorem dX10_leastIn_25 : decode cX10_leastIn 25 = .ok (.invokestatic 231, 3) := by decide +kernel
theorem dX10_leastIn_28 : decode cX10_leastIn 28 = .ok (.goto 4, 3) := by decide +kernel
set_option maxHeartbeats 4000000 in
set_option maxRecDepth 100000 in
theorem k_X10_leastIn_0 (l : Launch) (V : GV) (z : Nat → Nat) (a1 : Int32) (pz0_0 : Int32) (pz0_5 : Int32) (pz0_6 : Int32) (pz0_7 : Int32) (pz0_8 : Int32) (pz0_9 : Int32) (pz0_10 : Int32) (pz0_11 : Int32) (pz0_12 : Int32) (pz0_13 : Int32) (pz0_14 : Int32) (pz0_18 : Int32) (pz0_19 : Int32) (pz0_22 : Int32) (pz0_23 : Int32) (pz0_29 : Int32) (fz1 : Nat → Int32) (ba1 : iv 0 9999 a1) (bpz0_5 : iv 0 900 pz0_5) (bpz0_6 : iv 0 900 pz0_6) (bpz0_7 : iv 0 900 pz0_7) (bpz0_8 : iv 0 900 pz0_8) (bpz0_10 : iv 0 999 pz0_10) (bpz0_11 : iv 0 4 pz0_11) (bpz0_12 : iv 0 900 pz0_12) (bpz0_13 : iv 0 4 pz0_13) (bpz0_14 : iv (-1) 900 pz0_14) (bpz0_18 : iv 0 2 pz0_18) (bpz0_22 : iv 0 9999 pz0_22) (bpz0_29 : iv 0 10000 pz0_29) (tfz1 : ivT tA fz1) : Ct l V yX10_leastIn (.code yX10_leastIn cX10_leastIn 4 (some .int)) 3 [.ref (z 0), .int a1] [(z 0, .inr (10, mo z pz0_0 pz0_5 pz0_6 pz0_7 pz0_8 pz0_9 pz0_10 pz0_11 pz0_12 pz0_13 pz0_14 pz0_18 pz0_19 pz0_22 pz0_23 pz0_29)), (z 1, aI V 3075 fz1)] 0 0 (QI V (fun (r : Int32) (w : va_W) => iv 0 4 r ∧ r = lsF fz1 a1 ∧ w = [(z 0, .inr (10, mo z pz0_0 pz0_5 pz0_6 pz0_7 pz0_8 pz0_9 pz0_10 pz0_11 pz0_12 pz0_13 pz0_14 pz0_18 pz0_19 pz0_22 pz0_23 pz0_29)), (z 1, aI V 3075 fz1)])) := by
  refine Ct.of (by decide) (Nat.le_of_ble_eq_true rfl) (fun p e s m below meth c A ls hx hb hr hml hown hlk hnm hg hP hK hD hE hA hS hl => ?_)
  have hl : lv_has ls 4 [(0, .ref (z 0)), (1, .int a1)] := hl
  refine lv_iconst (v := 4) hx hb dX10_leastIn_0 (by decide) ?_
  refine lv_istore_n (lv' := [(2, .int 4), (0, .ref (z 0)), (1, .int a1)]) hx hb dX10_leastIn_1 rfl hl (by decide) rfl (fun ls hl => ?_)
  refine lv_iconst (v := 0) hx hb dX10_leastIn_2 (by decide) ?_
  refine lv_istore_n (lv' := [(3, .int 0), (2, .int 4), (0, .ref (z 0)), (1, .int a1)]) hx hb dX10_leastIn_3 rfl hl (by decide) rfl (fun ls hl => ?_)
  refine lv_iload_n hx hb dX10_leastIn_4 rfl (lv_at hl 0 rfl) ?_
  refine lv_aload_n hx hb dX10_leastIn_5 rfl (lv_at hl 2 rfl) ?_
  refine va_get (ci := 10) (v := .ref (z 1)) (C := RX10) (T := TX10) (N := 40) hx hb hg inX10 hown hK hP 0 rfl rfl 1 (by decide) (hg _ q_5_225) (fun _ h9 => h9) rfl dX10_leastIn_6 ?_
  refine lv_iconst (v := 1) hx hb dX10_leastIn_9 (by decide) ?_
  refine va_iald hx hb hK hP 1 0 rfl rfl (vin (by decide +kernel)) dX10_leastIn_10 ?_
  refine lv_topi (fun x_1 ex_1 => ?_)
  have bx_1 : iv 0 4 x_1 := by rw [ex_1]; exact rdT (a := 1) (n := 1) tfz1 (iv_c (1 : Int32) (a := 1) (b := 1) (by decide)) (by decide) (by decide +kernel)
  refine lv_icmp_ge (tgt := 39) hx hb dX10_leastIn_11 (by decide) (fun c_2 => ?_) (fun c_2 => ?_)
  · have b_3 : iv 0 0 x_1 := iv_e1 c_2 bx_1 (iv_c (0 : Int32) (a := 0) (b := 0) (by decide)) (by decide)
    refine lv_iload_n hx hb dX10_leastIn_39 rfl (lv_at hl 1 rfl) ?_
    exact fiI hx hb hr hlk hK hP hD hS dX10_leastIn_40 (Nat.le_of_ble_eq_true rfl) (Nat.le_of_ble_eq_true rfl) (⟨(iv_c (4 : Int32) (by decide)), (by rw [lsF_0 (show fz1 1 = 0 from (ex_1.symm.trans (iv_eqp b_3 (iv_c (0 : Int32) (by decide)))))]), rfl⟩)
  · have b_4 : iv 1 4 x_1 := iv_l2 (Int32.not_le.mp c_2) (iv_c (0 : Int32) (a := 0) (b := 0) (by decide)) bx_1 (by decide)
    refine lv_iload_n hx hb dX10_leastIn_14 rfl (lv_at hl 3 rfl) ?_
    refine lv_iload_n hx hb dX10_leastIn_15 rfl (lv_at hl 0 rfl) ?_
    refine jnI (wr := [(z 0, .inr (10, mo z pz0_0 pz0_5 pz0_6 pz0_7 pz0_8 pz0_9 pz0_10 pz0_11 pz0_12 pz0_13 pz0_14 pz0_18 pz0_19 pz0_22 pz0_23 pz0_29)), (z 1, aI V 3075 fz1)]) (rnS (rest := []) ⟨hx, hb, hml, hown, hg⟩ (k_X10_stackIn_0 l V a1 0 ba1 (iv_c (0 : Int32) (by decide))) mt_X10_stackIn q_7_26 ⟨Nat.le_of_ble_eq_true rfl, Nat.le_of_ble_eq_true rfl⟩ hK hP hD hS hA hE [] rfl rfl rfl hl.1 rfl (Nat.le_of_ble_eq_true rfl) dX10_leastIn_16 ⟨Nat.le_of_ble_eq_true rfl, Nat.le_of_ble_eq_true rfl⟩) hP hD hS hA [] [0, 1] rfl rfl rfl (by decide) (fun r_5 w H locs hw hP hD hS => ?_)
    obtain ⟨br_5, er_5, rfl⟩ := hw
    have hP : va_P V.1 vwCl [(z 0, .inr (10, mo z pz0_0 pz0_5 pz0_6 pz0_7 pz0_8 pz0_9 pz0_10 pz0_11 pz0_12 pz0_13 pz0_14 pz0_18 pz0_19 pz0_22 pz0_23 pz0_29)), (z 1, aI V 3075 fz1)] H := hP
    have hD : va_D A [(z 0, .inr (10, mo z pz0_0 pz0_5 pz0_6 pz0_7 pz0_8 pz0_9 pz0_10 pz0_11 pz0_12 pz0_13 pz0_14 pz0_18 pz0_19 pz0_22 pz0_23 pz0_29)), (z 1, aI V 3075 fz1)] := hD
    refine lv_iload_n hx hb dX10_leastIn_19 rfl (lv_at hl 1 rfl) ?_
    refine lv_icmp_ge (tgt := 31) hx hb dX10_leastIn_20 (by decide) (fun c_6 => ?_) (fun c_6 => ?_)
    · have b_7 : iv 4 4 r_5 := iv_e2 c_6 (iv_c (4 : Int32) (a := 4) (b := 4) (by decide)) br_5 (by decide)
      refine lv_iload_n hx hb dX10_leastIn_31 rfl (lv_at hl 1 rfl) ?_
      refine lv_istore_n (lv' := [(2, .int 4), (3, .int 0), (0, .ref (z 0)), (1, .int a1)]) hx hb dX10_leastIn_32 rfl hl (by decide) rfl (fun ls hl => ?_)
      refine lv_iinc (v := 1) (lv' := [(3, .int 1), (2, .int 4), (0, .ref (z 0)), (1, .int a1)]) hx hb dX10_leastIn_33 hl (k := 1) rfl (by decide +kernel) (by decide) rfl (fun ls hl => ?_)
      refine lv_goto (tgt := 4) hx hb dX10_leastIn_36 (by decide) ?_
      refine lv_iload_n hx hb dX10_leastIn_4 rfl (lv_at hl 0 rfl) ?_
      refine lv_aload_n hx hb dX10_leastIn_5 rfl (lv_at hl 2 rfl) ?_
      refine va_get (ci := 10) (v := .ref (z 1)) (C := RX10) (T := TX10) (N := 40) hx hb hg inX10 hown hK hP 0 rfl rfl 1 (by decide) (hg _ q_5_225) (fun _ h9 => h9) rfl dX10_leastIn_6 ?_
      refine lv_iconst (v := 1) hx hb dX10_leastIn_9 (by decide) ?_
      refine va_iald hx hb hK hP 1 0 rfl rfl (vin (by decide +kernel)) dX10_leastIn_10 ?_
      refine tpi (y := x_1) ex_1.symm ?_
      refine lv_icmp_ge (tgt := 39) hx hb dX10_leastIn_11 (by decide) (fun c_8 => ?_) (fun c_8 => ?_)
      · have b_9 : iv 1 1 x_1 := iv_e1 c_8 b_4 (iv_c (1 : Int32) (a := 1) (b := 1) (by decide)) (by decide)
        refine lv_iload_n hx hb dX10_leastIn_39 rfl (lv_at hl 1 rfl) ?_
        exact fiI hx hb hr hlk hK hP hD hS dX10_leastIn_40 (Nat.le_of_ble_eq_true rfl) (Nat.le_of_ble_eq_true rfl) (⟨(iv_c (4 : Int32) (by decide)), (by rw [lsF_1 (show fz1 1 = 1 from (ex_1.symm.trans (iv_eqp b_9 (iv_c (1 : Int32) (by decide))))), ← er_5, mn_f (Int32.not_lt.mpr c_6)]), rfl⟩)
      · have b_10 : iv 2 4 x_1 := iv_l2 (Int32.not_le.mp c_8) (iv_c (1 : Int32) (a := 1) (b := 1) (by decide)) b_4 (by decide)
        refine lv_iload_n hx hb dX10_leastIn_14 rfl (lv_at hl 3 rfl) ?_
        refine lv_iload_n hx hb dX10_leastIn_15 rfl (lv_at hl 0 rfl) ?_
        refine jnI (wr := [(z 0, .inr (10, mo z pz0_0 pz0_5 pz0_6 pz0_7 pz0_8 pz0_9 pz0_10 pz0_11 pz0_12 pz0_13 pz0_14 pz0_18 pz0_19 pz0_22 pz0_23 pz0_29)), (z 1, aI V 3075 fz1)]) (rnS (rest := []) ⟨hx, hb, hml, hown, hg⟩ (k_X10_stackIn_0 l V a1 1 ba1 (iv_c (1 : Int32) (by decide))) mt_X10_stackIn q_7_26 ⟨Nat.le_of_ble_eq_true rfl, Nat.le_of_ble_eq_true rfl⟩ hK hP hD hS hA hE [] rfl rfl rfl hl.1 rfl (Nat.le_of_ble_eq_true rfl) dX10_leastIn_16 ⟨Nat.le_of_ble_eq_true rfl, Nat.le_of_ble_eq_true rfl⟩) hP hD hS hA [] [0, 1] rfl rfl rfl (by decide) (fun r_11 w H locs hw hP hD hS => ?_)
        obtain ⟨br_11, er_11, rfl⟩ := hw
        have hP : va_P V.1 vwCl [(z 0, .inr (10, mo z pz0_0 pz0_5 pz0_6 pz0_7 pz0_8 pz0_9 pz0_10 pz0_11 pz0_12 pz0_13 pz0_14 pz0_18 pz0_19 pz0_22 pz0_23 pz0_29)), (z 1, aI V 3075 fz1)] H := hP
        have hD : va_D A [(z 0, .inr (10, mo z pz0_0 pz0_5 pz0_6 pz0_7 pz0_8 pz0_9 pz0_10 pz0_11 pz0_12 pz0_13 pz0_14 pz0_18 pz0_19 pz0_22 pz0_23 pz0_29)), (z 1, aI V 3075 fz1)] := hD
        refine lv_iload_n hx hb dX10_leastIn_19 rfl (lv_at hl 1 rfl) ?_
        refine lv_icmp_ge (tgt := 31) hx hb dX10_leastIn_20 (by decide) (fun c_12 => ?_) (fun c_12 => ?_)
        · have b_13 : iv 4 4 r_11 := iv_e2 c_12 (iv_c (4 : Int32) (a := 4) (b := 4) (by decide)) br_11 (by decide)
          refine lv_iload_n hx hb dX10_leastIn_31 rfl (lv_at hl 1 rfl) ?_
          refine lv_istore_n (lv' := [(2, .int 4), (3, .int 1), (0, .ref (z 0)), (1, .int a1)]) hx hb dX10_leastIn_32 rfl hl (by decide) rfl (fun ls hl => ?_)
          refine lv_iinc (v := 2) (lv' := [(3, .int 2), (2, .int 4), (0, .ref (z 0)), (1, .int a1)]) hx hb dX10_leastIn_33 hl (k := 1) rfl (by decide +kernel) (by decide) rfl (fun ls hl => ?_)
          refine lv_goto (tgt := 4) hx hb dX10_leastIn_36 (by decide) ?_
          refine lv_iload_n hx hb dX10_leastIn_4 rfl (lv_at hl 0 rfl) ?_
          refine lv_aload_n hx hb dX10_leastIn_5 rfl (lv_at hl 2 rfl) ?_
          refine va_get (ci := 10) (v := .ref (z 1)) (C := RX10) (T := TX10) (N := 40) hx hb hg inX10 hown hK hP 0 rfl rfl 1 (by decide) (hg _ q_5_225) (fun _ h9 => h9) rfl dX10_leastIn_6 ?_
          refine lv_iconst (v := 1) hx hb dX10_leastIn_9 (by decide) ?_
          refine va_iald hx hb hK hP 1 0 rfl rfl (vin (by decide +kernel)) dX10_leastIn_10 ?_
          refine tpi (y := x_1) ex_1.symm ?_
          refine lv_icmp_ge (tgt := 39) hx hb dX10_leastIn_11 (by decide) (fun c_14 => ?_) (fun c_14 => ?_)
          · have b_15 : iv 2 2 x_1 := iv_e1 c_14 b_10 (iv_c (2 : Int32) (a := 2) (b := 2) (by decide)) (by decide)
            refine lv_iload_n hx hb dX10_leastIn_39 rfl (lv_at hl 1 rfl) ?_
            exact fiI hx hb hr hlk hK hP hD hS dX10_leastIn_40 (Nat.le_of_ble_eq_true rfl) (Nat.le_of_ble_eq_true rfl) (⟨(iv_c (4 : Int32) (by decide)), (by rw [lsF_2 (show fz1 1 = 2 from (ex_1.symm.trans (iv_eqp b_15 (iv_c (2 : Int32) (by decide))))), ← er_5, mn_f (Int32.not_lt.mpr c_6), ← er_11, mn_f (Int32.not_lt.mpr c_12)]), rfl⟩)
          · have b_16 : iv 3 4 x_1 := iv_l2 (Int32.not_le.mp c_14) (iv_c (2 : Int32) (a := 2) (b := 2) (by decide)) b_10 (by decide)
            refine lv_iload_n hx hb dX10_leastIn_14 rfl (lv_at hl 3 rfl) ?_
            refine lv_iload_n hx hb dX10_leastIn_15 rfl (lv_at hl 0 rfl) ?_
            refine jnI (wr := [(z 0, .inr (10, mo z pz0_0 pz0_5 pz0_6 pz0_7 pz0_8 pz0_9 pz0_10 pz0_11 pz0_12 pz0_13 pz0_14 pz0_18 pz0_19 pz0_22 pz0_23 pz0_29)), (z 1, aI V 3075 fz1)]) (rnS (rest := []) ⟨hx, hb, hml, hown, hg⟩ (k_X10_stackIn_0 l V a1 2 ba1 (iv_c (2 : Int32) (by decide))) mt_X10_stackIn q_7_26 ⟨Nat.le_of_ble_eq_true rfl, Nat.le_of_ble_eq_true rfl⟩ hK hP hD hS hA hE [] rfl rfl rfl hl.1 rfl (Nat.le_of_ble_eq_true rfl) dX10_leastIn_16 ⟨Nat.le_of_ble_eq_true rfl, Nat.le_of_ble_eq_true rfl⟩) hP hD hS hA [] [0, 1] rfl rfl rfl (by decide) (fun r_17 w H locs hw hP hD hS => ?_)
            obtain ⟨br_17, er_17, rfl⟩ := hw
            have hP : va_P V.1 vwCl [(z 0, .inr (10, mo z pz0_0 pz0_5 pz0_6 pz0_7 pz0_8 pz0_9 pz0_10 pz0_11 pz0_12 pz0_13 pz0_14 pz0_18 pz0_19 pz0_22 pz0_23 pz0_29)), (z 1, aI V 3075 fz1)] H := hP
            have hD : va_D A [(z 0, .inr (10, mo z pz0_0 pz0_5 pz0_6 pz0_7 pz0_8 pz0_9 pz0_10 pz0_11 pz0_12 pz0_13 pz0_14 pz0_18 pz0_19 pz0_22 pz0_23 pz0_29)), (z 1, aI V 3075 fz1)] := hD
            refine lv_iload_n hx hb dX10_leastIn_19 rfl (lv_at hl 1 rfl) ?_
            refine lv_icmp_ge (tgt := 31) hx hb dX10_leastIn_20 (by decide) (fun c_18 => ?_) (fun c_18 => ?_)
            · have b_19 : iv 4 4 r_17 := iv_e2 c_18 (iv_c (4 : Int32) (a := 4) (b := 4) (by decide)) br_17 (by decide)
              refine lv_iload_n hx hb dX10_leastIn_31 rfl (lv_at hl 1 rfl) ?_
              refine lv_istore_n (lv' := [(2, .int 4), (3, .int 2), (0, .ref (z 0)), (1, .int a1)]) hx hb dX10_leastIn_32 rfl hl (by decide) rfl (fun ls hl => ?_)
              refine lv_iinc (v := 3) (lv' := [(3, .int 3), (2, .int 4), (0, .ref (z 0)), (1, .int a1)]) hx hb dX10_leastIn_33 hl (k := 1) rfl (by decide +kernel) (by decide) rfl (fun ls hl => ?_)
              refine lv_goto (tgt := 4) hx hb dX10_leastIn_36 (by decide) ?_
              refine lv_iload_n hx hb dX10_leastIn_4 rfl (lv_at hl 0 rfl) ?_
              refine lv_aload_n hx hb dX10_leastIn_5 rfl (lv_at hl 2 rfl) ?_
              refine va_get (ci := 10) (v := .ref (z 1)) (C := RX10) (T := TX10) (N := 40) hx hb hg inX10 hown hK hP 0 rfl rfl 1 (by decide) (hg _ q_5_225) (fun _ h9 => h9) rfl dX10_leastIn_6 ?_
              refine lv_iconst (v := 1) hx hb dX10_leastIn_9 (by decide) ?_
              refine va_iald hx hb hK hP 1 0 rfl rfl (vin (by decide +kernel)) dX10_leastIn_10 ?_
              refine tpi (y := x_1) ex_1.symm ?_
              refine lv_icmp_ge (tgt := 39) hx hb dX10_leastIn_11 (by decide) (fun c_20 => ?_) (fun c_20 => ?_)
              · have b_21 : iv 3 3 x_1 := iv_e1 c_20 b_16 (iv_c (3 : Int32) (a := 3) (b := 3) (by decide)) (by decide)
                refine lv_iload_n hx hb dX10_leastIn_39 rfl (lv_at hl 1 rfl) ?_
                exact fiI hx hb hr hlk hK hP hD hS dX10_leastIn_40 (Nat.le_of_ble_eq_true rfl) (Nat.le_of_ble_eq_true rfl) (⟨(iv_c (4 : Int32) (by decide)), (by rw [lsF_3 (show fz1 1 = 3 from (ex_1.symm.trans (iv_eqp b_21 (iv_c (3 : Int32) (by decide))))), ← er_5, mn_f (Int32.not_lt.mpr c_6), ← er_11, mn_f (Int32.not_lt.mpr c_12), ← er_17, mn_f (Int32.not_lt.mpr c_18)]), rfl⟩)
              · have b_22 : iv 4 4 x_1 := iv_l2 (Int32.not_le.mp c_20) (iv_c (3 : Int32) (a := 3) (b := 3) (by decide)) b_16 (by decide)
                refine lv_iload_n hx hb dX10_leastIn_14 rfl (lv_at hl 3 rfl) ?_
                refine lv_iload_n hx hb dX10_leastIn_15 rfl (lv_at hl 0 rfl) ?_
                refine jnI (wr := [(z 0, .inr (10, mo z pz0_0 pz0_5 pz0_6 pz0_7 pz0_8 pz0_9 pz0_10 pz0_11 pz0_12 pz0_13 pz0_14 pz0_18 pz0_19 pz0_22 pz0_23 pz0_29)), (z 1, aI V 3075 fz1)]) (rnS (rest := []) ⟨hx, hb, hml, hown, hg⟩ (k_X10_stackIn_0 l V a1 3 ba1 (iv_c (3 : Int32) (by decide))) mt_X10_stackIn q_7_26 ⟨Nat.le_of_ble_eq_true rfl, Nat.le_of_ble_eq_true rfl⟩ hK hP hD hS hA hE [] rfl rfl rfl hl.1 rfl (Nat.le_of_ble_eq_true rfl) dX10_leastIn_16 ⟨Nat.le_of_ble_eq_true rfl, Nat.le_of_ble_eq_true rfl⟩) hP hD hS hA [] [0, 1] rfl rfl rfl (by decide) (fun r_23 w H locs hw hP hD hS => ?_)
                obtain ⟨br_23, er_23, rfl⟩ := hw
                have hP : va_P V.1 vwCl [(z 0, .inr (10, mo z pz0_0 pz0_5 pz0_6 pz0_7 pz0_8 pz0_9 pz0_10 pz0_11 pz0_12 pz0_13 pz0_14 pz0_18 pz0_19 pz0_22 pz0_23 pz0_29)), (z 1, aI V 3075 fz1)] H := hP
                have hD : va_D A [(z 0, .inr (10, mo z pz0_0 pz0_5 pz0_6 pz0_7 pz0_8 pz0_9 pz0_10 pz0_11 pz0_12 pz0_13 pz0_14 pz0_18 pz0_19 pz0_22 pz0_23 pz0_29)), (z 1, aI V 3075 fz1)] := hD
                refine lv_iload_n hx hb dX10_leastIn_19 rfl (lv_at hl 1 rfl) ?_
                refine lv_icmp_ge (tgt := 31) hx hb dX10_leastIn_20 (by decide) (fun c_24 => ?_) (fun c_24 => ?_)
                · have b_25 : iv 4 4 r_23 := iv_e2 c_24 (iv_c (4 : Int32) (a := 4) (b := 4) (by decide)) br_23 (by decide)
                  refine lv_iload_n hx hb dX10_leastIn_31 rfl (lv_at hl 1 rfl) ?_
                  refine lv_istore_n (lv' := [(2, .int 4), (3, .int 3), (0, .ref (z 0)), (1, .int a1)]) hx hb dX10_leastIn_32 rfl hl (by decide) rfl (fun ls hl => ?_)
                  refine lv_iinc (v := 4) (lv' := [(3, .int 4), (2, .int 4), (0, .ref (z 0)), (1, .int a1)]) hx hb dX10_leastIn_33 hl (k := 1) rfl (by decide +kernel) (by decide) rfl (fun ls hl => ?_)
                  refine lv_goto (tgt := 4) hx hb dX10_leastIn_36 (by decide) ?_
                  refine lv_iload_n hx hb dX10_leastIn_4 rfl (lv_at hl 0 rfl) ?_
                  refine lv_aload_n hx hb dX10_leastIn_5 rfl (lv_at hl 2 rfl) ?_
                  refine va_get (ci := 10) (v := .ref (z 1)) (C := RX10) (T := TX10) (N := 40) hx hb hg inX10 hown hK hP 0 rfl rfl 1 (by decide) (hg _ q_5_225) (fun _ h9 => h9) rfl dX10_leastIn_6 ?_
                  refine lv_iconst (v := 1) hx hb dX10_leastIn_9 (by decide) ?_
                  refine va_iald hx hb hK hP 1 0 rfl rfl (vin (by decide +kernel)) dX10_leastIn_10 ?_
                  refine tpi (y := x_1) ex_1.symm ?_
                  refine lv_icmp_ge (tgt := 39) hx hb dX10_leastIn_11 (by decide) (fun _ => ?_) (fun c_26 => absurd (iv_le b_22 (iv_c (4 : Int32) (a := 4) (b := 4) (by decide)) (by decide)) c_26)
                  refine lv_iload_n hx hb dX10_leastIn_39 rfl (lv_at hl 1 rfl) ?_
                  exact fiI hx hb hr hlk hK hP hD hS dX10_leastIn_40 (Nat.le_of_ble_eq_true rfl) (Nat.le_of_ble_eq_true rfl) (⟨(iv_c (4 : Int32) (by decide)), (by rw [lsF_4 (show fz1 1 = 4 from (ex_1.symm.trans (iv_eqp b_22 (iv_c (4 : Int32) (by decide))))), ← er_5, mn_f (Int32.not_lt.mpr c_6), ← er_11, mn_f (Int32.not_lt.mpr c_12), ← er_17, mn_f (Int32.not_lt.mpr c_18), ← er_23, mn_f (Int32.not_lt.mpr c_24)]), rfl⟩)
                · have b_27 : iv 0 3 r_23 := iv_l1 (Int32.not_le.mp c_24) br_23 (iv_c (4 : Int32) (a := 4) (b := 4) (by decide)) (by decide)
                  refine lv_iload_n hx hb dX10_leastIn_23 rfl (lv_at hl 3 rfl) ?_
                  refine lv_iload_n hx hb dX10_leastIn_24 rfl (lv_at hl 0 rfl) ?_
                  refine jnI (wr := [(z 0, .inr (10, mo z pz0_0 pz0_5 pz0_6 pz0_7 pz0_8 pz0_9 pz0_10 pz0_11 pz0_12 pz0_13 pz0_14 pz0_18 pz0_19 pz0_22 pz0_23 pz0_29)), (z 1, aI V 3075 fz1)]) (rnS (rest := []) ⟨hx, hb, hml, hown, hg⟩ (k_X10_stackIn_0 l V a1 3 ba1 (iv_c (3 : Int32) (by decide))) mt_X10_stackIn q_7_26 ⟨Nat.le_of_ble_eq_true rfl, Nat.le_of_ble_eq_true rfl⟩ hK hP hD hS hA hE [] rfl rfl rfl hl.1 rfl (Nat.le_of_ble_eq_true rfl) dX10_leastIn_25 ⟨Nat.le_of_ble_eq_true rfl, Nat.le_of_ble_eq_true rfl⟩) hP hD hS hA [] [0, 1] rfl rfl rfl (by decide) (fun r_28 w H locs hw hP hD hS => ?_)
                  obtain ⟨br_28, er_28, rfl⟩ := hw
                  have e9_r_28 : r_28 = r_23 := er_28.trans er_23.symm
                  rw [e9_r_28]
                  have hP : va_P V.1 vwCl [(z 0, .inr (10, mo z pz0_0 pz0_5 pz0_6 pz0_7 pz0_8 pz0_9 pz0_10 pz0_11 pz0_12 pz0_13 pz0_14 pz0_18 pz0_19 pz0_22 pz0_23 pz0_29)), (z 1, aI V 3075 fz1)] H := hP
                  have hD : va_D A [(z 0, .inr (10, mo z pz0_0 pz0_5 pz0_6 pz0_7 pz0_8 pz0_9 pz0_10 pz0_11 pz0_12 pz0_13 pz0_14 pz0_18 pz0_19 pz0_22 pz0_23 pz0_29)), (z 1, aI V 3075 fz1)] := hD
                  refine lv_goto (tgt := 32) hx hb dX10_leastIn_28 (by decide) ?_
                  refine lv_istore_n (lv' := [(2, .int r_23), (3, .int 3), (0, .ref (z 0)), (1, .int a1)]) hx hb dX10_leastIn_32 rfl hl (by decide) rfl (fun ls hl => ?_)
                  refine lv_iinc (v := 4) (lv' := [(3, .int 4), (2, .int r_23), (0, .ref (z 0)), (1, .int a1)]) hx hb dX10_leastIn_33 hl (k := 1) rfl (by decide +kernel) (by decide) rfl (fun ls hl => ?_)
                  refine lv_goto (tgt := 4) hx hb dX10_leastIn_36 (by decide) ?_
                  refine lv_iload_n hx hb dX10_leastIn_4 rfl (lv_at hl 0 rfl) ?_
                  refine lv_aload_n hx hb dX10_leastIn_5 rfl (lv_at hl 2 rfl) ?_
                  refine va_get (ci := 10) (v := .ref (z 1)) (C := RX10) (T := TX10) (N := 40) hx hb hg inX10 hown hK hP 0 rfl rfl 1 (by decide) (hg _ q_5_225) (fun _ h9 => h9) rfl dX10_leastIn_6 ?_
                  refine lv_iconst (v := 1) hx hb dX10_leastIn_9 (by decide) ?_
                  refine va_iald hx hb hK hP 1 0 rfl rfl (vin (by decide +kernel)) dX10_leastIn_10 ?_
                  refine tpi (y := x_1) ex_1.symm ?_
                  refine lv_icmp_ge (tgt := 39) hx hb dX10_leastIn_11 (by decide) (fun _ => ?_) (fun c_29 => absurd (iv_le b_22 (iv_c (4 : Int32) (a := 4) (b := 4) (by decide)) (by decide)) c_29)
                  refine lv_iload_n hx hb dX10_leastIn_39 rfl (lv_at hl 1 rfl) ?_
                  exact fiI hx hb hr hlk hK hP hD hS dX10_leastIn_40 (Nat.le_of_ble_eq_true rfl) (Nat.le_of_ble_eq_true rfl) (⟨(iv_w b_27 (by decide)), (by rw [lsF_4 (show fz1 1 = 4 from (ex_1.symm.trans (iv_eqp b_22 (iv_c (4 : Int32) (by decide))))), ← er_5, mn_f (Int32.not_lt.mpr c_6), ← er_11, mn_f (Int32.not_lt.mpr c_12), ← er_17, mn_f (Int32.not_lt.mpr c_18), ← er_23, mn_t (Int32.not_le.mp c_24)]), rfl⟩)
            · have b_30 : iv 0 3 r_17 := iv_l1 (Int32.not_le.mp c_18) br_17 (iv_c (4 : Int32) (a := 4) (b := 4) (by decide)) (by decide)
              refine lv_iload_n hx hb dX10_leastIn_23 rfl (lv_at hl 3 rfl) ?_
              refine lv_iload_n hx hb dX10_leastIn_24 rfl (lv_at hl 0 rfl) ?_
              refine jnI (wr := [(z 0, .inr (10, mo z pz0_0 pz0_5 pz0_6 pz0_7 pz0_8 pz0_9 pz0_10 pz0_11 pz0_12 pz0_13 pz0_14 pz0_18 pz0_19 pz0_22 pz0_23 pz0_29)), (z 1, aI V 3075 fz1)]) (rnS (rest := []) ⟨hx, hb, hml, hown, hg⟩ (k_X10_stackIn_0 l V a1 2 ba1 (iv_c (2 : Int32) (by decide))) mt_X10_stackIn q_7_26 ⟨Nat.le_of_ble_eq_true rfl, Nat.le_of_ble_eq_true rfl⟩ hK hP hD hS hA hE [] rfl rfl rfl hl.1 rfl (Nat.le_of_ble_eq_true rfl) dX10_leastIn_25 ⟨Nat.le_of_ble_eq_true rfl, Nat.le_of_ble_eq_true rfl⟩) hP hD hS hA [] [0, 1] rfl rfl rfl (by decide) (fun r_31 w H locs hw hP hD hS => ?_)
              obtain ⟨br_31, er_31, rfl⟩ := hw
              have e9_r_31 : r_31 = r_17 := er_31.trans er_17.symm
              rw [e9_r_31]
              have hP : va_P V.1 vwCl [(z 0, .inr (10, mo z pz0_0 pz0_5 pz0_6 pz0_7 pz0_8 pz0_9 pz0_10 pz0_11 pz0_12 pz0_13 pz0_14 pz0_18 pz0_19 pz0_22 pz0_23 pz0_29)), (z 1, aI V 3075 fz1)] H := hP
              have hD : va_D A [(z 0, .inr (10, mo z pz0_0 pz0_5 pz0_6 pz0_7 pz0_8 pz0_9 pz0_10 pz0_11 pz0_12 pz0_13 pz0_14 pz0_18 pz0_19 pz0_22 pz0_23 pz0_29)), (z 1, aI V 3075 fz1)] := hD
              refine lv_goto (tgt := 32) hx hb dX10_leastIn_28 (by decide) ?_
              refine lv_istore_n (lv' := [(2, .int r_17), (3, .int 2), (0, .ref (z 0)), (1, .int a1)]) hx hb dX10_leastIn_32 rfl hl (by decide) rfl (fun ls hl => ?_)
              refine lv_iinc (v := 3) (lv' := [(3, .int 3), (2, .int r_17), (0, .ref (z 0)), (1, .int a1)]) hx hb dX10_leastIn_33 hl (k := 1) rfl (by decide +kernel) (by decide) rfl (fun ls hl => ?_)
              refine lv_goto (tgt := 4) hx hb dX10_leastIn_36 (by decide) ?_
              refine lv_iload_n hx hb dX10_leastIn_4 rfl (lv_at hl 0 rfl) ?_
              refine lv_aload_n hx hb dX10_leastIn_5 rfl (lv_at hl 2 rfl) ?_
              refine va_get (ci := 10) (v := .ref (z 1)) (C := RX10) (T := TX10) (N := 40) hx hb hg inX10 hown hK hP 0 rfl rfl 1 (by decide) (hg _ q_5_225) (fun _ h9 => h9) rfl dX10_leastIn_6 ?_
              refine lv_iconst (v := 1) hx hb dX10_leastIn_9 (by decide) ?_
              refine va_iald hx hb hK hP 1 0 rfl rfl (vin (by decide +kernel)) dX10_leastIn_10 ?_
              refine tpi (y := x_1) ex_1.symm ?_
              refine lv_icmp_ge (tgt := 39) hx hb dX10_leastIn_11 (by decide) (fun c_32 => ?_) (fun c_32 => ?_)
              · have b_33 : iv 3 3 x_1 := iv_e1 c_32 b_16 (iv_c (3 : Int32) (a := 3) (b := 3) (by decide)) (by decide)
                refine lv_iload_n hx hb dX10_leastIn_39 rfl (lv_at hl 1 rfl) ?_
                exact fiI hx hb hr hlk hK hP hD hS dX10_leastIn_40 (Nat.le_of_ble_eq_true rfl) (Nat.le_of_ble_eq_true rfl) (⟨(iv_w b_30 (by decide)), (by rw [lsF_3 (show fz1 1 = 3 from (ex_1.symm.trans (iv_eqp b_33 (iv_c (3 : Int32) (by decide))))), ← er_5, mn_f (Int32.not_lt.mpr c_6), ← er_11, mn_f (Int32.not_lt.mpr c_12), ← er_17, mn_t (Int32.not_le.mp c_18)]), rfl⟩)
              · have b_34 : iv 4 4 x_1 := iv_l2 (Int32.not_le.mp c_32) (iv_c (3 : Int32) (a := 3) (b := 3) (by decide)) b_16 (by decide)
                refine lv_iload_n hx hb dX10_leastIn_14 rfl (lv_at hl 3 rfl) ?_
                refine lv_iload_n hx hb dX10_leastIn_15 rfl (lv_at hl 0 rfl) ?_
                refine jnI (wr := [(z 0, .inr (10, mo z pz0_0 pz0_5 pz0_6 pz0_7 pz0_8 pz0_9 pz0_10 pz0_11 pz0_12 pz0_13 pz0_14 pz0_18 pz0_19 pz0_22 pz0_23 pz0_29)), (z 1, aI V 3075 fz1)]) (rnS (rest := []) ⟨hx, hb, hml, hown, hg⟩ (k_X10_stackIn_0 l V a1 3 ba1 (iv_c (3 : Int32) (by decide))) mt_X10_stackIn q_7_26 ⟨Nat.le_of_ble_eq_true rfl, Nat.le_of_ble_eq_true rfl⟩ hK hP hD hS hA hE [] rfl rfl rfl hl.1 rfl (Nat.le_of_ble_eq_true rfl) dX10_leastIn_16 ⟨Nat.le_of_ble_eq_true rfl, Nat.le_of_ble_eq_true rfl⟩) hP hD hS hA [] [0, 1] rfl rfl rfl (by decide) (fun r_35 w H locs hw hP hD hS => ?_)
                obtain ⟨br_35, er_35, rfl⟩ := hw
                have hP : va_P V.1 vwCl [(z 0, .inr (10, mo z pz0_0 pz0_5 pz0_6 pz0_7 pz0_8 pz0_9 pz0_10 pz0_11 pz0_12 pz0_13 pz0_14 pz0_18 pz0_19 pz0_22 pz0_23 pz0_29)), (z 1, aI V 3075 fz1)] H := hP
                have hD : va_D A [(z 0, .inr (10, mo z pz0_0 pz0_5 pz0_6 pz0_7 pz0_8 pz0_9 pz0_10 pz0_11 pz0_12 pz0_13 pz0_14 pz0_18 pz0_19 pz0_22 pz0_23 pz0_29)), (z 1, aI V 3075 fz1)] := hD
                refine lv_iload_n hx hb dX10_leastIn_19 rfl (lv_at hl 1 rfl) ?_
                refine lv_icmp_ge (tgt := 31) hx hb dX10_leastIn_20 (by decide) (fun c_36 => ?_) (fun c_36 => ?_)
                · refine lv_iload_n hx hb dX10_leastIn_31 rfl (lv_at hl 1 rfl) ?_
                  refine lv_istore_n (lv' := [(2, .int r_17), (3, .int 3), (0, .ref (z 0)), (1, .int a1)]) hx hb dX10_leastIn_32 rfl hl (by decide) rfl (fun ls hl => ?_)
                  refine lv_iinc (v := 4) (lv' := [(3, .int 4), (2, .int r_17), (0, .ref (z 0)), (1, .int a1)]) hx hb dX10_leastIn_33 hl (k := 1) rfl (by decide +kernel) (by decide) rfl (fun ls hl => ?_)
                  refine lv_goto (tgt := 4) hx hb dX10_leastIn_36 (by decide) ?_
                  refine lv_iload_n hx hb dX10_leastIn_4 rfl (lv_at hl 0 rfl) ?_
                  refine lv_aload_n hx hb dX10_leastIn_5 rfl (lv_at hl 2 rfl) ?_
                  refine va_get (ci := 10) (v := .ref (z 1)) (C := RX10) (T := TX10) (N := 40) hx hb hg inX10 hown hK hP 0 rfl rfl 1 (by decide) (hg _ q_5_225) (fun _ h9 => h9) rfl dX10_leastIn_6 ?_
                  refine lv_iconst (v := 1) hx hb dX10_leastIn_9 (by decide) ?_
                  refine va_iald hx hb hK hP 1 0 rfl rfl (vin (by decide +kernel)) dX10_leastIn_10 ?_
                  refine tpi (y := x_1) ex_1.symm ?_
                  refine lv_icmp_ge (tgt := 39) hx hb dX10_leastIn_11 (by decide) (fun _ => ?_) (fun c_37 => absurd (iv_le b_34 (iv_c (4 : Int32) (a := 4) (b := 4) (by decide)) (by decide)) c_37)
                  refine lv_iload_n hx hb dX10_leastIn_39 rfl (lv_at hl 1 rfl) ?_
                  exact fiI hx hb hr hlk hK hP hD hS dX10_leastIn_40 (Nat.le_of_ble_eq_true rfl) (Nat.le_of_ble_eq_true rfl) (⟨(iv_w b_30 (by decide)), (by rw [lsF_4 (show fz1 1 = 4 from (ex_1.symm.trans (iv_eqp b_34 (iv_c (4 : Int32) (by decide))))), ← er_5, mn_f (Int32.not_lt.mpr c_6), ← er_11, mn_f (Int32.not_lt.mpr c_12), ← er_17, mn_t (Int32.not_le.mp c_18), ← er_35, mn_f (Int32.not_lt.mpr c_36)]), rfl⟩)
                · have b_38 : iv 0 2 r_35 := iv_l1 (Int32.not_le.mp c_36) br_35 b_30 (by decide)
                  have b_39 : iv 1 3 r_17 := iv_l2 (Int32.not_le.mp c_36) br_35 b_30 (by decide)
                  refine lv_iload_n hx hb dX10_leastIn_23 rfl (lv_at hl 3 rfl) ?_
                  refine lv_iload_n hx hb dX10_leastIn_24 rfl (lv_at hl 0 rfl) ?_
                  refine jnI (wr := [(z 0, .inr (10, mo z pz0_0 pz0_5 pz0_6 pz0_7 pz0_8 pz0_9 pz0_10 pz0_11 pz0_12 pz0_13 pz0_14 pz0_18 pz0_19 pz0_22 pz0_23 pz0_29)), (z 1, aI V 3075 fz1)]) (rnS (rest := []) ⟨hx, hb, hml, hown, hg⟩ (k_X10_stackIn_0 l V a1 3 ba1 (iv_c (3 : Int32) (by decide))) mt_X10_stackIn q_7_26 ⟨Nat.le_of_ble_eq_true rfl, Nat.le_of_ble_eq_true rfl⟩ hK hP hD hS hA hE [] rfl rfl rfl hl.1 rfl (Nat.le_of_ble_eq_true rfl) dX10_leastIn_25 ⟨Nat.le_of_ble_eq_true rfl, Nat.le_of_ble_eq_true rfl⟩) hP hD hS hA [] [0, 1] rfl rfl rfl (by decide) (fun r_40 w H locs hw hP hD hS => ?_)
                  obtain ⟨br_40, er_40, rfl⟩ := hw
                  have e9_r_40 : r_40 = r_35 := er_40.trans er_35.symm
                  rw [e9_r_40]
                  have hP : va_P V.1 vwCl [(z 0, .inr (10, mo z pz0_0 pz0_5 pz0_6 pz0_7 pz0_8 pz0_9 pz0_10 pz0_11 pz0_12 pz0_13 pz0_14 pz0_18 pz0_19 pz0_22 pz0_23 pz0_29)), (z 1, aI V 3075 fz1)] H := hP
                  have hD : va_D A [(z 0, .inr (10, mo z pz0_0 pz0_5 pz0_6 pz0_7 pz0_8 pz0_9 pz0_10 pz0_11 pz0_12 pz0_13 pz0_14 pz0_18 pz0_19 pz0_22 pz0_23 pz0_29)), (z 1, aI V 3075 fz1)] := hD
                  refine lv_goto (tgt := 32) hx hb dX10_leastIn_28 (by decide) ?_
                  refine lv_istore_n (lv' := [(2, .int r_35), (3, .int 3), (0, .ref (z 0)), (1, .int a1)]) hx hb dX10_leastIn_32 rfl hl (by decide) rfl (fun ls hl => ?_)
                  refine lv_iinc (v := 4) (lv' := [(3, .int 4), (2, .int r_35), (0, .ref (z 0)), (1, .int a1)]) hx hb dX10_leastIn_33 hl (k := 1) rfl (by decide +kernel) (by decide) rfl (fun ls hl => ?_)
                  refine lv_goto (tgt := 4) hx hb dX10_leastIn_36 (by decide) ?_
                  refine lv_iload_n hx hb dX10_leastIn_4 rfl (lv_at hl 0 rfl) ?_
                  refine lv_aload_n hx hb dX10_leastIn_5 rfl (lv_at hl 2 rfl) ?_
                  refine va_get (ci := 10) (v := .ref (z 1)) (C := RX10) (T := TX10) (N := 40) hx hb hg inX10 hown hK hP 0 rfl rfl 1 (by decide) (hg _ q_5_225) (fun _ h9 => h9) rfl dX10_leastIn_6 ?_
                  refine lv_iconst (v := 1) hx hb dX10_leastIn_9 (by decide) ?_
                  refine va_iald hx hb hK hP 1 0 rfl rfl (vin (by decide +kernel)) dX10_leastIn_10 ?_
                  refine tpi (y := x_1) ex_1.symm ?_
                  refine lv_icmp_ge (tgt := 39) hx hb dX10_leastIn_11 (by decide) (fun _ => ?_) (fun c_41 => absurd (iv_le b_34 (iv_c (4 : Int32) (a := 4) (b := 4) (by decide)) (by decide)) c_41)
                  refine lv_iload_n hx hb dX10_leastIn_39 rfl (lv_at hl 1 rfl) ?_
                  exact fiI hx hb hr hlk hK hP hD hS dX10_leastIn_40 (Nat.le_of_ble_eq_true rfl) (Nat.le_of_ble_eq_true rfl) (⟨(iv_w b_38 (by decide)), (by rw [lsF_4 (show fz1 1 = 4 from (ex_1.symm.trans (iv_eqp b_34 (iv_c (4 : Int32) (by decide))))), ← er_5, mn_f (Int32.not_lt.mpr c_6), ← er_11, mn_f (Int32.not_lt.mpr c_12), ← er_17, mn_t (Int32.not_le.mp c_18), ← er_35, mn_t (Int32.not_le.mp c_36)]), rfl⟩)
        · have b_42 : iv 0 3 r_11 := iv_l1 (Int32.not_le.mp c_12) br_11 (iv_c (4 : Int32) (a := 4) (b := 4) (by decide)) (by decide)
          refine lv_iload_n hx hb dX10_leastIn_23 rfl (lv_at hl 3 rfl) ?_
          refine lv_iload_n hx hb dX10_leastIn_24 rfl (lv_at hl 0 rfl) ?_
          refine jnI (wr := [(z 0, .inr (10, mo z pz0_0 pz0_5 pz0_6 pz0_7 pz0_8 pz0_9 pz0_10 pz0_11 pz0_12 pz0_13 pz0_14 pz0_18 pz0_19 pz0_22 pz0_23 pz0_29)), (z 1, aI V 3075 fz1)]) (rnS (rest := []) ⟨hx, hb, hml, hown, hg⟩ (k_X10_stackIn_0 l V a1 1 ba1 (iv_c (1 : Int32) (by decide))) mt_X10_stackIn q_7_26 ⟨Nat.le_of_ble_eq_true rfl, Nat.le_of_ble_eq_true rfl⟩ hK hP hD hS hA hE [] rfl rfl rfl hl.1 rfl (Nat.le_of_ble_eq_true rfl) dX10_leastIn_25 ⟨Nat.le_of_ble_eq_true rfl, Nat.le_of_ble_eq_true rfl⟩) hP hD hS hA [] [0, 1] rfl rfl rfl (by decide) (fun r_43 w H locs hw hP hD hS => ?_)
          obtain ⟨br_43, er_43, rfl⟩ := hw
          have e9_r_43 : r_43 = r_11 := er_43.trans er_11.symm
          rw [e9_r_43]
          have hP : va_P V.1 vwCl [(z 0, .inr (10, mo z pz0_0 pz0_5 pz0_6 pz0_7 pz0_8 pz0_9 pz0_10 pz0_11 pz0_12 pz0_13 pz0_14 pz0_18 pz0_19 pz0_22 pz0_23 pz0_29)), (z 1, aI V 3075 fz1)] H := hP
          have hD : va_D A [(z 0, .inr (10, mo z pz0_0 pz0_5 pz0_6 pz0_7 pz0_8 pz0_9 pz0_10 pz0_11 pz0_12 pz0_13 pz0_14 pz0_18 pz0_19 pz0_22 pz0_23 pz0_29)), (z 1, aI V 3075 fz1)] := hD
          refine lv_goto (tgt := 32) hx hb dX10_leastIn_28 (by decide) ?_
          refine lv_istore_n (lv' := [(2, .int r_11), (3, .int 1), (0, .ref (z 0)), (1, .int a1)]) hx hb dX10_leastIn_32 rfl hl (by decide) rfl (fun ls hl => ?_)
          refine lv_iinc (v := 2) (lv' := [(3, .int 2), (2, .int r_11), (0, .ref (z 0)), (1, .int a1)]) hx hb dX10_leastIn_33 hl (k := 1) rfl (by decide +kernel) (by decide) rfl (fun ls hl => ?_)
          refine lv_goto (tgt := 4) hx hb dX10_leastIn_36 (by decide) ?_
          refine lv_iload_n hx hb dX10_leastIn_4 rfl (lv_at hl 0 rfl) ?_
          refine lv_aload_n hx hb dX10_leastIn_5 rfl (lv_at hl 2 rfl) ?_
          refine va_get (ci := 10) (v := .ref (z 1)) (C := RX10) (T := TX10) (N := 40) hx hb hg inX10 hown hK hP 0 rfl rfl 1 (by decide) (hg _ q_5_225) (fun _ h9 => h9) rfl dX10_leastIn_6 ?_
          refine lv_iconst (v := 1) hx hb dX10_leastIn_9 (by decide) ?_
          refine va_iald hx hb hK hP 1 0 rfl rfl (vin (by decide +kernel)) dX10_leastIn_10 ?_
          refine tpi (y := x_1) ex_1.symm ?_
          refine lv_icmp_ge (tgt := 39) hx hb dX10_leastIn_11 (by decide) (fun c_44 => ?_) (fun c_44 => ?_)
          · have b_45 : iv 2 2 x_1 := iv_e1 c_44 b_10 (iv_c (2 : Int32) (a := 2) (b := 2) (by decide)) (by decide)
            refine lv_iload_n hx hb dX10_leastIn_39 rfl (lv_at hl 1 rfl) ?_
            exact fiI hx hb hr hlk hK hP hD hS dX10_leastIn_40 (Nat.le_of_ble_eq_true rfl) (Nat.le_of_ble_eq_true rfl) (⟨(iv_w b_42 (by decide)), (by rw [lsF_2 (show fz1 1 = 2 from (ex_1.symm.trans (iv_eqp b_45 (iv_c (2 : Int32) (by decide))))), ← er_5, mn_f (Int32.not_lt.mpr c_6), ← er_11, mn_t (Int32.not_le.mp c_12)]), rfl⟩)
          · have b_46 : iv 3 4 x_1 := iv_l2 (Int32.not_le.mp c_44) (iv_c (2 : Int32) (a := 2) (b := 2) (by decide)) b_10 (by decide)
            refine lv_iload_n hx hb dX10_leastIn_14 rfl (lv_at hl 3 rfl) ?_
            refine lv_iload_n hx hb dX10_leastIn_15 rfl (lv_at hl 0 rfl) ?_
            refine jnI (wr := [(z 0, .inr (10, mo z pz0_0 pz0_5 pz0_6 pz0_7 pz0_8 pz0_9 pz0_10 pz0_11 pz0_12 pz0_13 pz0_14 pz0_18 pz0_19 pz0_22 pz0_23 pz0_29)), (z 1, aI V 3075 fz1)]) (rnS (rest := []) ⟨hx, hb, hml, hown, hg⟩ (k_X10_stackIn_0 l V a1 2 ba1 (iv_c (2 : Int32) (by decide))) mt_X10_stackIn q_7_26 ⟨Nat.le_of_ble_eq_true rfl, Nat.le_of_ble_eq_true rfl⟩ hK hP hD hS hA hE [] rfl rfl rfl hl.1 rfl (Nat.le_of_ble_eq_true rfl) dX10_leastIn_16 ⟨Nat.le_of_ble_eq_true rfl, Nat.le_of_ble_eq_true rfl⟩) hP hD hS hA [] [0, 1] rfl rfl rfl (by decide) (fun r_47 w H locs hw hP hD hS => ?_)
            obtain ⟨br_47, er_47, rfl⟩ := hw
            have hP : va_P V.1 vwCl [(z 0, .inr (10, mo z pz0_0 pz0_5 pz0_6 pz0_7 pz0_8 pz0_9 pz0_10 pz0_11 pz0_12 pz0_13 pz0_14 pz0_18 pz0_19 pz0_22 pz0_23 pz0_29)), (z 1, aI V 3075 fz1)] H := hP
            have hD : va_D A [(z 0, .inr (10, mo z pz0_0 pz0_5 pz0_6 pz0_7 pz0_8 pz0_9 pz0_10 pz0_11 pz0_12 pz0_13 pz0_14 pz0_18 pz0_19 pz0_22 pz0_23 pz0_29)), (z 1, aI V 3075 fz1)] := hD
            refine lv_iload_n hx hb dX10_leastIn_19 rfl (lv_at hl 1 rfl) ?_
            refine lv_icmp_ge (tgt := 31) hx hb dX10_leastIn_20 (by decide) (fun c_48 => ?_) (fun c_48 => ?_)
            · refine lv_iload_n hx hb dX10_leastIn_31 rfl (lv_at hl 1 rfl) ?_
              refine lv_istore_n (lv' := [(2, .int r_11), (3, .int 2), (0, .ref (z 0)), (1, .int a1)]) hx hb dX10_leastIn_32 rfl hl (by decide) rfl (fun ls hl => ?_)
              refine lv_iinc (v := 3) (lv' := [(3, .int 3), (2, .int r_11), (0, .ref (z 0)), (1, .int a1)]) hx hb dX10_leastIn_33 hl (k := 1) rfl (by decide +kernel) (by decide) rfl (fun ls hl => ?_)
              refine lv_goto (tgt := 4) hx hb dX10_leastIn_36 (by decide) ?_
              refine lv_iload_n hx hb dX10_leastIn_4 rfl (lv_at hl 0 rfl) ?_
              refine lv_aload_n hx hb dX10_leastIn_5 rfl (lv_at hl 2 rfl) ?_
              refine va_get (ci := 10) (v := .ref (z 1)) (C := RX10) (T := TX10) (N := 40) hx hb hg inX10 hown hK hP 0 rfl rfl 1 (by decide) (hg _ q_5_225) (fun _ h9 => h9) rfl dX10_leastIn_6 ?_
              refine lv_iconst (v := 1) hx hb dX10_leastIn_9 (by decide) ?_
              refine va_iald hx hb hK hP 1 0 rfl rfl (vin (by decide +kernel)) dX10_leastIn_10 ?_
              refine tpi (y := x_1) ex_1.symm ?_
              refine lv_icmp_ge (tgt := 39) hx hb dX10_leastIn_11 (by decide) (fun c_49 => ?_) (fun c_49 => ?_)
              · have b_50 : iv 3 3 x_1 := iv_e1 c_49 b_46 (iv_c (3 : Int32) (a := 3) (b := 3) (by decide)) (by decide)
                refine lv_iload_n hx hb dX10_leastIn_39 rfl (lv_at hl 1 rfl) ?_
                exact fiI hx hb hr hlk hK hP hD hS dX10_leastIn_40 (Nat.le_of_ble_eq_true rfl) (Nat.le_of_ble_eq_true rfl) (⟨(iv_w b_42 (by decide)), (by rw [lsF_3 (show fz1 1 = 3 from (ex_1.symm.trans (iv_eqp b_50 (iv_c (3 : Int32) (by decide))))), ← er_5, mn_f (Int32.not_lt.mpr c_6), ← er_11, mn_t (Int32.not_le.mp c_12), ← er_47, mn_f (Int32.not_lt.mpr c_48)]), rfl⟩)
              · have b_51 : iv 4 4 x_1 := iv_l2 (Int32.not_le.mp c_49) (iv_c (3 : Int32) (a := 3) (b := 3) (by decide)) b_46 (by decide)
                refine lv_iload_n hx hb dX10_leastIn_14 rfl (lv_at hl 3 rfl) ?_
                refine lv_iload_n hx hb dX10_leastIn_15 rfl (lv_at hl 0 rfl) ?_
                refine jnI (wr := [(z 0, .inr (10, mo z pz0_0 pz0_5 pz0_6 pz0_7 pz0_8 pz0_9 pz0_10 pz0_11 pz0_12 pz0_13 pz0_14 pz0_18 pz0_19 pz0_22 pz0_23 pz0_29)), (z 1, aI V 3075 fz1)]) (rnS (rest := []) ⟨hx, hb, hml, hown, hg⟩ (k_X10_stackIn_0 l V a1 3 ba1 (iv_c (3 : Int32) (by decide))) mt_X10_stackIn q_7_26 ⟨Nat.le_of_ble_eq_true rfl, Nat.le_of_ble_eq_true rfl⟩ hK hP hD hS hA hE [] rfl rfl rfl hl.1 rfl (Nat.le_of_ble_eq_true rfl) dX10_leastIn_16 ⟨Nat.le_of_ble_eq_true rfl, Nat.le_of_ble_eq_true rfl⟩) hP hD hS hA [] [0, 1] rfl rfl rfl (by decide) (fun r_52 w H locs hw hP hD hS => ?_)
                obtain ⟨br_52, er_52, rfl⟩ := hw
                have hP : va_P V.1 vwCl [(z 0, .inr (10, mo z pz0_0 pz0_5 pz0_6 pz0_7 pz0_8 pz0_9 pz0_10 pz0_11 pz0_12 pz0_13 pz0_14 pz0_18 pz0_19 pz0_22 pz0_23 pz0_29)), (z 1, aI V 3075 fz1)] H := hP
                have hD : va_D A [(z 0, .inr (10, mo z pz0_0 pz0_5 pz0_6 pz0_7 pz0_8 pz0_9 pz0_10 pz0_11 pz0_12 pz0_13 pz0_14 pz0_18 pz0_19 pz0_22 pz0_23 pz0_29)), (z 1, aI V 3075 fz1)] := hD
                refine lv_iload_n hx hb dX10_leastIn_19 rfl (lv_at hl 1 rfl) ?_
                refine lv_icmp_ge (tgt := 31) hx hb dX10_leastIn_20 (by decide) (fun c_53 => ?_) (fun c_53 => ?_)
                · refine lv_iload_n hx hb dX10_leastIn_31 rfl (lv_at hl 1 rfl) ?_
                  refine lv_istore_n (lv' := [(2, .int r_11), (3, .int 3), (0, .ref (z 0)), (1, .int a1)]) hx hb dX10_leastIn_32 rfl hl (by decide) rfl (fun ls hl => ?_)
                  refine lv_iinc (v := 4) (lv' := [(3, .int 4), (2, .int r_11), (0, .ref (z 0)), (1, .int a1)]) hx hb dX10_leastIn_33 hl (k := 1) rfl (by decide +kernel) (by decide) rfl (fun ls hl => ?_)
                  refine lv_goto (tgt := 4) hx hb dX10_leastIn_36 (by decide) ?_
                  refine lv_iload_n hx hb dX10_leastIn_4 rfl (lv_at hl 0 rfl) ?_
                  refine lv_aload_n hx hb dX10_leastIn_5 rfl (lv_at hl 2 rfl) ?_
                  refine va_get (ci := 10) (v := .ref (z 1)) (C := RX10) (T := TX10) (N := 40) hx hb hg inX10 hown hK hP 0 rfl rfl 1 (by decide) (hg _ q_5_225) (fun _ h9 => h9) rfl dX10_leastIn_6 ?_
                  refine lv_iconst (v := 1) hx hb dX10_leastIn_9 (by decide) ?_
                  refine va_iald hx hb hK hP 1 0 rfl rfl (vin (by decide +kernel)) dX10_leastIn_10 ?_
                  refine tpi (y := x_1) ex_1.symm ?_
                  refine lv_icmp_ge (tgt := 39) hx hb dX10_leastIn_11 (by decide) (fun _ => ?_) (fun c_54 => absurd (iv_le b_51 (iv_c (4 : Int32) (a := 4) (b := 4) (by decide)) (by decide)) c_54)
                  refine lv_iload_n hx hb dX10_leastIn_39 rfl (lv_at hl 1 rfl) ?_
                  exact fiI hx hb hr hlk hK hP hD hS dX10_leastIn_40 (Nat.le_of_ble_eq_true rfl) (Nat.le_of_ble_eq_true rfl) (⟨(iv_w b_42 (by decide)), (by rw [lsF_4 (show fz1 1 = 4 from (ex_1.symm.trans (iv_eqp b_51 (iv_c (4 : Int32) (by decide))))), ← er_5, mn_f (Int32.not_lt.mpr c_6), ← er_11, mn_t (Int32.not_le.mp c_12), ← er_47, mn_f (Int32.not_lt.mpr c_48), ← er_52, mn_f (Int32.not_lt.mpr c_53)]), rfl⟩)
                · have b_55 : iv 0 2 r_52 := iv_l1 (Int32.not_le.mp c_53) br_52 b_42 (by decide)
                  have b_56 : iv 1 3 r_11 := iv_l2 (Int32.not_le.mp c_53) br_52 b_42 (by decide)
                  refine lv_iload_n hx hb dX10_leastIn_23 rfl (lv_at hl 3 rfl) ?_
                  refine lv_iload_n hx hb dX10_leastIn_24 rfl (lv_at hl 0 rfl) ?_
                  refine jnI (wr := [(z 0, .inr (10, mo z pz0_0 pz0_5 pz0_6 pz0_7 pz0_8 pz0_9 pz0_10 pz0_11 pz0_12 pz0_13 pz0_14 pz0_18 pz0_19 pz0_22 pz0_23 pz0_29)), (z 1, aI V 3075 fz1)]) (rnS (rest := []) ⟨hx, hb, hml, hown, hg⟩ (k_X10_stackIn_0 l V a1 3 ba1 (iv_c (3 : Int32) (by decide))) mt_X10_stackIn q_7_26 ⟨Nat.le_of_ble_eq_true rfl, Nat.le_of_ble_eq_true rfl⟩ hK hP hD hS hA hE [] rfl rfl rfl hl.1 rfl (Nat.le_of_ble_eq_true rfl) dX10_leastIn_25 ⟨Nat.le_of_ble_eq_true rfl, Nat.le_of_ble_eq_true rfl⟩) hP hD hS hA [] [0, 1] rfl rfl rfl (by decide) (fun r_57 w H locs hw hP hD hS => ?_)
                  obtain ⟨br_57, er_57, rfl⟩ := hw
                  have e9_r_57 : r_57 = r_52 := er_57.trans er_52.symm
                  rw [e9_r_57]
                  have hP : va_P V.1 vwCl [(z 0, .inr (10, mo z pz0_0 pz0_5 pz0_6 pz0_7 pz0_8 pz0_9 pz0_10 pz0_11 pz0_12 pz0_13 pz0_14 pz0_18 pz0_19 pz0_22 pz0_23 pz0_29)), (z 1, aI V 3075 fz1)] H := hP
                  have hD : va_D A [(z 0, .inr (10, mo z pz0_0 pz0_5 pz0_6 pz0_7 pz0_8 pz0_9 pz0_10 pz0_11 pz0_12 pz0_13 pz0_14 pz0_18 pz0_19 pz0_22 pz0_23 pz0_29)), (z 1, aI V 3075 fz1)] := hD
                  refine lv_goto (tgt := 32) hx hb dX10_leastIn_28 (by decide) ?_
                  refine lv_istore_n (lv' := [(2, .int r_52), (3, .int 3), (0, .ref (z 0)), (1, .int a1)]) hx hb dX10_leastIn_32 rfl hl (by decide) rfl (fun ls hl => ?_)
                  refine lv_iinc (v := 4) (lv' := [(3, .int 4), (2, .int r_52), (0, .ref (z 0)), (1, .int a1)]) hx hb dX10_leastIn_33 hl (k := 1) rfl (by decide +kernel) (by decide) rfl (fun ls hl => ?_)
                  refine lv_goto (tgt := 4) hx hb dX10_leastIn_36 (by decide) ?_
                  refine lv_iload_n hx hb dX10_leastIn_4 rfl (lv_at hl 0 rfl) ?_
                  refine lv_aload_n hx hb dX10_leastIn_5 rfl (lv_at hl 2 rfl) ?_
                  refine va_get (ci := 10) (v := .ref (z 1)) (C := RX10) (T := TX10) (N := 40) hx hb hg inX10 hown hK hP 0 rfl rfl 1 (by decide) (hg _ q_5_225) (fun _ h9 => h9) rfl dX10_leastIn_6 ?_
                  refine lv_iconst (v := 1) hx hb dX10_leastIn_9 (by decide) ?_
                  refine va_iald hx hb hK hP 1 0 rfl rfl (vin (by decide +kernel)) dX10_leastIn_10 ?_
                  refine tpi (y := x_1) ex_1.symm ?_
                  refine lv_icmp_ge (tgt := 39) hx hb dX10_leastIn_11 (by decide) (fun _ => ?_) (fun c_58 => absurd (iv_le b_51 (iv_c (4 : Int32) (a := 4) (b := 4) (by decide)) (by decide)) c_58)
                  refine lv_iload_n hx hb dX10_leastIn_39 rfl (lv_at hl 1 rfl) ?_
                  exact fiI hx hb hr hlk hK hP hD hS dX10_leastIn_40 (Nat.le_of_ble_eq_true rfl) (Nat.le_of_ble_eq_true rfl) (⟨(iv_w b_55 (by decide)), (by rw [lsF_4 (show fz1 1 = 4 from (ex_1.symm.trans (iv_eqp b_51 (iv_c (4 : Int32) (by decide))))), ← er_5, mn_f (Int32.not_lt.mpr c_6), ← er_11, mn_t (Int32.not_le.mp c_12), ← er_47, mn_f (Int32.not_lt.mpr c_48), ← er_52, mn_t (Int32.not_le.mp c_53)]), rfl⟩)
            · have b_59 : iv 0 2 r_47 := iv_l1 (Int32.not_le.mp c_48) br_47 b_42 (by decide)
              have b_60 : iv 1 3 r_11 := iv_l2 (Int32.not_le.mp c_48) br_47 b_42 (by decide)
              refine lv_iload_n hx hb dX10_leastIn_23 rfl (lv_at hl 3 rfl) ?_
              refine lv_iload_n hx hb dX10_leastIn_24 rfl (lv_at hl 0 rfl) ?_
              refine jnI (wr := [(z 0, .inr (10, mo z pz0_0 pz0_5 pz0_6 pz0_7 pz0_8 pz0_9 pz0_10 pz0_11 pz0_12 pz0_13 pz0_14 pz0_18 pz0_19 pz0_22 pz0_23 pz0_29)), (z 1, aI V 3075 fz1)]) (rnS (rest := []) ⟨hx, hb, hml, hown, hg⟩ (k_X10_stackIn_0 l V a1 2 ba1 (iv_c (2 : Int32) (by decide))) mt_X10_stackIn q_7_26 ⟨Nat.le_of_ble_eq_true rfl, Nat.le_of_ble_eq_true rfl⟩ hK hP hD hS hA hE [] rfl rfl rfl hl.1 rfl (Nat.le_of_ble_eq_true rfl) dX10_leastIn_25 ⟨Nat.le_of_ble_eq_true rfl, Nat.le_of_ble_eq_true rfl⟩) hP hD hS hA [] [0, 1] rfl rfl rfl (by decide) (fun r_61 w H locs hw hP hD hS => ?_)
              obtain ⟨br_61, er_61, rfl⟩ := hw
              have e9_r_61 : r_61 = r_47 := er_61.trans er_47.symm
              rw [e9_r_61]
              have hP : va_P V.1 vwCl [(z 0, .inr (10, mo z pz0_0 pz0_5 pz0_6 pz0_7 pz0_8 pz0_9 pz0_10 pz0_11 pz0_12 pz0_13 pz0_14 pz0_18 pz0_19 pz0_22 pz0_23 pz0_29)), (z 1, aI V 3075 fz1)] H := hP
              have hD : va_D A [(z 0, .inr (10, mo z pz0_0 pz0_5 pz0_6 pz0_7 pz0_8 pz0_9 pz0_10 pz0_11 pz0_12 pz0_13 pz0_14 pz0_18 pz0_19 pz0_22 pz0_23 pz0_29)), (z 1, aI V 3075 fz1)] := hD
              refine lv_goto (tgt := 32) hx hb dX10_leastIn_28 (by decide) ?_
              refine lv_istore_n (lv' := [(2, .int r_47), (3, .int 2), (0, .ref (z 0)), (1, .int a1)]) hx hb dX10_leastIn_32 rfl hl (by decide) rfl (fun ls hl => ?_)
              refine lv_iinc (v := 3) (lv' := [(3, .int 3), (2, .int r_47), (0, .ref (z 0)), (1, .int a1)]) hx hb dX10_leastIn_33 hl (k := 1) rfl (by decide +kernel) (by decide) rfl (fun ls hl => ?_)
              refine lv_goto (tgt := 4) hx hb dX10_leastIn_36 (by decide) ?_
              refine lv_iload_n hx hb dX10_leastIn_4 rfl (lv_at hl 0 rfl) ?_
              refine lv_aload_n hx hb dX10_leastIn_5 rfl (lv_at hl 2 rfl) ?_
              refine va_get (ci := 10) (v := .ref (z 1)) (C := RX10) (T := TX10) (N := 40) hx hb hg inX10 hown hK hP 0 rfl rfl 1 (by decide) (hg _ q_5_225) (fun _ h9 => h9) rfl dX10_leastIn_6 ?_
              refine lv_iconst (v := 1) hx hb dX10_leastIn_9 (by decide) ?_
              refine va_iald hx hb hK hP 1 0 rfl rfl (vin (by decide +kernel)) dX10_leastIn_10 ?_
              refine tpi (y := x_1) ex_1.symm ?_
              refine lv_icmp_ge (tgt := 39) hx hb dX10_leastIn_11 (by decide) (fun c_62 => ?_) (fun c_62 => ?_)
              · have b_63 : iv 3 3 x_1 := iv_e1 c_62 b_46 (iv_c (3 : Int32) (a := 3) (b := 3) (by decide)) (by decide)
                refine lv_iload_n hx hb dX10_leastIn_39 rfl (lv_at hl 1 rfl) ?_
                exact fiI hx hb hr hlk hK hP hD hS dX10_leastIn_40 (Nat.le_of_ble_eq_true rfl) (Nat.le_of_ble_eq_true rfl) (⟨(iv_w b_59 (by decide)), (by rw [lsF_3 (show fz1 1 = 3 from (ex_1.symm.trans (iv_eqp b_63 (iv_c (3 : Int32) (by decide))))), ← er_5, mn_f (Int32.not_lt.mpr c_6), ← er_11, mn_t (Int32.not_le.mp c_12), ← er_47, mn_t (Int32.not_le.mp c_48)]), rfl⟩)
              · have b_64 : iv 4 4 x_1 := iv_l2 (Int32.not_le.mp c_62) (iv_c (3 : Int32) (a := 3) (b := 3) (by decide)) b_46 (by decide)
                refine lv_iload_n hx hb dX10_leastIn_14 rfl (lv_at hl 3 rfl) ?_
                refine lv_iload_n hx hb dX10_leastIn_15 rfl (lv_at hl 0 rfl) ?_
                refine jnI (wr := [(z 0, .inr (10, mo z pz0_0 pz0_5 pz0_6 pz0_7 pz0_8 pz0_9 pz0_10 pz0_11 pz0_12 pz0_13 pz0_14 pz0_18 pz0_19 pz0_22 pz0_23 pz0_29)), (z 1, aI V 3075 fz1)]) (rnS (rest := []) ⟨hx, hb, hml, hown, hg⟩ (k_X10_stackIn_0 l V a1 3 ba1 (iv_c (3 : Int32) (by decide))) mt_X10_stackIn q_7_26 ⟨Nat.le_of_ble_eq_true rfl, Nat.le_of_ble_eq_true rfl⟩ hK hP hD hS hA hE [] rfl rfl rfl hl.1 rfl (Nat.le_of_ble_eq_true rfl) dX10_leastIn_16 ⟨Nat.le_of_ble_eq_true rfl, Nat.le_of_ble_eq_true rfl⟩) hP hD hS hA [] [0, 1] rfl rfl rfl (by decide) (fun r_65 w H locs hw hP hD hS => ?_)
                obtain ⟨br_65, er_65, rfl⟩ := hw
                have hP : va_P V.1 vwCl [(z 0, .inr (10, mo z pz0_0 pz0_5 pz0_6 pz0_7 pz0_8 pz0_9 pz0_10 pz0_11 pz0_12 pz0_13 pz0_14 pz0_18 pz0_19 pz0_22 pz0_23 pz0_29)), (z 1, aI V 3075 fz1)] H := hP
                have hD : va_D A [(z 0, .inr (10, mo z pz0_0 pz0_5 pz0_6 pz0_7 pz0_8 pz0_9 pz0_10 pz0_11 pz0_12 pz0_13 pz0_14 pz0_18 pz0_19 pz0_22 pz0_23 pz0_29)), (z 1, aI V 3075 fz1)] := hD
                refine lv_iload_n hx hb dX10_leastIn_19 rfl (lv_at hl 1 rfl) ?_
                refine lv_icmp_ge (tgt := 31) hx hb dX10_leastIn_20 (by decide) (fun c_66 => ?_) (fun c_66 => ?_)
                · refine lv_iload_n hx hb dX10_leastIn_31 rfl (lv_at hl 1 rfl) ?_
                  refine lv_istore_n (lv' := [(2, .int r_47), (3, .int 3), (0, .ref (z 0)), (1, .int a1)]) hx hb dX10_leastIn_32 rfl hl (by decide) rfl (fun ls hl => ?_)
                  refine lv_iinc (v := 4) (lv' := [(3, .int 4), (2, .int r_47), (0, .ref (z 0)), (1, .int a1)]) hx hb dX10_leastIn_33 hl (k := 1) rfl (by decide +kernel) (by decide) rfl (fun ls hl => ?_)
                  refine lv_goto (tgt := 4) hx hb dX10_leastIn_36 (by decide) ?_
                  refine lv_iload_n hx hb dX10_leastIn_4 rfl (lv_at hl 0 rfl) ?_
                  refine lv_aload_n hx hb dX10_leastIn_5 rfl (lv_at hl 2 rfl) ?_
                  refine va_get (ci := 10) (v := .ref (z 1)) (C := RX10) (T := TX10) (N := 40) hx hb hg inX10 hown hK hP 0 rfl rfl 1 (by decide) (hg _ q_5_225) (fun _ h9 => h9) rfl dX10_leastIn_6 ?_
                  refine lv_iconst (v := 1) hx hb dX10_leastIn_9 (by decide) ?_
                  refine va_iald hx hb hK hP 1 0 rfl rfl (vin (by decide +kernel)) dX10_leastIn_10 ?_
                  refine tpi (y := x_1) ex_1.symm ?_
                  refine lv_icmp_ge (tgt := 39) hx hb dX10_leastIn_11 (by decide) (fun _ => ?_) (fun c_67 => absurd (iv_le b_64 (iv_c (4 : Int32) (a := 4) (b := 4) (by decide)) (by decide)) c_67)
                  refine lv_iload_n hx hb dX10_leastIn_39 rfl (lv_at hl 1 rfl) ?_
                  exact fiI hx hb hr hlk hK hP hD hS dX10_leastIn_40 (Nat.le_of_ble_eq_true rfl) (Nat.le_of_ble_eq_true rfl) (⟨(iv_w b_59 (by decide)), (by rw [lsF_4 (show fz1 1 = 4 from (ex_1.symm.trans (iv_eqp b_64 (iv_c (4 : Int32) (by decide))))), ← er_5, mn_f (Int32.not_lt.mpr c_6), ← er_11, mn_t (Int32.not_le.mp c_12), ← er_47, mn_t (Int32.not_le.mp c_48), ← er_65, mn_f (Int32.not_lt.mpr c_66)]), rfl⟩)
                · have b_68 : iv 0 1 r_65 := iv_l1 (Int32.not_le.mp c_66) br_65 b_59 (by decide)
                  have b_69 : iv 1 2 r_47 := iv_l2 (Int32.not_le.mp c_66) br_65 b_59 (by decide)
                  refine lv_iload_n hx hb dX10_leastIn_23 rfl (lv_at hl 3 rfl) ?_
                  refine lv_iload_n hx hb dX10_leastIn_24 rfl (lv_at hl 0 rfl) ?_
                  refine jnI (wr := [(z 0, .inr (10, mo z pz0_0 pz0_5 pz0_6 pz0_7 pz0_8 pz0_9 pz0_10 pz0_11 pz0_12 pz0_13 pz0_14 pz0_18 pz0_19 pz0_22 pz0_23 pz0_29)), (z 1, aI V 3075 fz1)]) (rnS (rest := []) ⟨hx, hb, hml, hown, hg⟩ (k_X10_stackIn_0 l V a1 3 ba1 (iv_c (3 : Int32) (by decide))) mt_X10_stackIn q_7_26 ⟨Nat.le_of_ble_eq_true rfl, Nat.le_of_ble_eq_true rfl⟩ hK hP hD hS hA hE [] rfl rfl rfl hl.1 rfl (Nat.le_of_ble_eq_true rfl) dX10_leastIn_25 ⟨Nat.le_of_ble_eq_true rfl, Nat.le_of_ble_eq_true rfl⟩) hP hD hS hA [] [0, 1] rfl rfl rfl (by decide) (fun r_70 w H locs hw hP hD hS => ?_)
                  obtain ⟨br_70, er_70, rfl⟩ := hw
                  have e9_r_70 : r_70 = r_65 := er_70.trans er_65.symm
                  rw [e9_r_70]
                  have hP : va_P V.1 vwCl [(z 0, .inr (10, mo z pz0_0 pz0_5 pz0_6 pz0_7 pz0_8 pz0_9 pz0_10 pz0_11 pz0_12 pz0_13 pz0_14 pz0_18 pz0_19 pz0_22 pz0_23 pz0_29)), (z 1, aI V 3075 fz1)] H := hP
                  have hD : va_D A [(z 0, .inr (10, mo z pz0_0 pz0_5 pz0_6 pz0_7 pz0_8 pz0_9 pz0_10 pz0_11 pz0_12 pz0_13 pz0_14 pz0_18 pz0_19 pz0_22 pz0_23 pz0_29)), (z 1, aI V 3075 fz1)] := hD
                  refine lv_goto (tgt := 32) hx hb dX10_leastIn_28 (by decide) ?_
                  refine lv_istore_n (lv' := [(2, .int r_65), (3, .int 3), (0, .ref (z 0)), (1, .int a1)]) hx hb dX10_leastIn_32 rfl hl (by decide) rfl (fun ls hl => ?_)
                  refine lv_iinc (v := 4) (lv' := [(3, .int 4), (2, .int r_65), (0, .ref (z 0)), (1, .int a1)]) hx hb dX10_leastIn_33 hl (k := 1) rfl (by decide +kernel) (by decide) rfl (fun ls hl => ?_)
                  refine lv_goto (tgt := 4) hx hb dX10_leastIn_36 (by decide) ?_
                  refine lv_iload_n hx hb dX10_leastIn_4 rfl (lv_at hl 0 rfl) ?_
                  refine lv_aload_n hx hb dX10_leastIn_5 rfl (lv_at hl 2 rfl) ?_
                  refine va_get (ci := 10) (v := .ref (z 1)) (C := RX10) (T := TX10) (N := 40) hx hb hg inX10 hown hK hP 0 rfl rfl 1 (by decide) (hg _ q_5_225) (fun _ h9 => h9) rfl dX10_leastIn_6 ?_
                  refine lv_iconst (v := 1) hx hb dX10_leastIn_9 (by decide) ?_
                  refine va_iald hx hb hK hP 1 0 rfl rfl (vin (by decide +kernel)) dX10_leastIn_10 ?_
                  refine tpi (y := x_1) ex_1.symm ?_
                  refine lv_icmp_ge (tgt := 39) hx hb dX10_leastIn_11 (by decide) (fun _ => ?_) (fun c_71 => absurd (iv_le b_64 (iv_c (4 : Int32) (a := 4) (b := 4) (by decide)) (by decide)) c_71)
                  refine lv_iload_n hx hb dX10_leastIn_39 rfl (lv_at hl 1 rfl) ?_
                  exact fiI hx hb hr hlk hK hP hD hS dX10_leastIn_40 (Nat.le_of_ble_eq_true rfl) (Nat.le_of_ble_eq_true rfl) (⟨(iv_w b_68 (by decide)), (by rw [lsF_4 (show fz1 1 = 4 from (ex_1.symm.trans (iv_eqp b_64 (iv_c (4 : Int32) (by decide))))), ← er_5, mn_f (Int32.not_lt.mpr c_6), ← er_11, mn_t (Int32.not_le.mp c_12), ← er_47, mn_t (Int32.not_le.mp c_48), ← er_65, mn_t (Int32.not_le.mp c_66)]), rfl⟩)
    · have b_72 : iv 0 3 r_5 := iv_l1 (Int32.not_le.mp c_6) br_5 (iv_c (4 : Int32) (a := 4) (b := 4) (by decide)) (by decide)
      refine lv_iload_n hx hb dX10_leastIn_23 rfl (lv_at hl 3 rfl) ?_
      refine lv_iload_n hx hb dX10_leastIn_24 rfl (lv_at hl 0 rfl) ?_
      refine jnI (wr := [(z 0, .inr (10, mo z pz0_0 pz0_5 pz0_6 pz0_7 pz0_8 pz0_9 pz0_10 pz0_11 pz0_12 pz0_13 pz0_14 pz0_18 pz0_19 pz0_22 pz0_23 pz0_29)), (z 1, aI V 3075 fz1)]) (rnS (rest := []) ⟨hx, hb, hml, hown, hg⟩ (k_X10_stackIn_0 l V a1 0 ba1 (iv_c (0 : Int32) (by decide))) mt_X10_stackIn q_7_26 ⟨Nat.le_of_ble_eq_true rfl, Nat.le_of_ble_eq_true rfl⟩ hK hP hD hS hA hE [] rfl rfl rfl hl.1 rfl (Nat.le_of_ble_eq_true rfl) dX10_leastIn_25 ⟨Nat.le_of_ble_eq_true rfl, Nat.le_of_ble_eq_true rfl⟩) hP hD hS hA [] [0, 1] rfl rfl rfl (by decide) (fun r_73 w H locs hw hP hD hS => ?_)
      obtain ⟨br_73, er_73, rfl⟩ := hw
      have e9_r_73 : r_73 = r_5 := er_73.trans er_5.symm
      rw [e9_r_73]
      have hP : va_P V.1 vwCl [(z 0, .inr (10, mo z pz0_0 pz0_5 pz0_6 pz0_7 pz0_8 pz0_9 pz0_10 pz0_11 pz0_12 pz0_13 pz0_14 pz0_18 pz0_19 pz0_22 pz0_23 pz0_29)), (z 1, aI V 3075 fz1)] H := hP
      have hD : va_D A [(z 0, .inr (10, mo z pz0_0 pz0_5 pz0_6 pz0_7 pz0_8 pz0_9 pz0_10 pz0_11 pz0_12 pz0_13 pz0_14 pz0_18 pz0_19 pz0_22 pz0_23 pz0_29)), (z 1, aI V 3075 fz1)] := hD
      refine lv_goto (tgt := 32) hx hb dX10_leastIn_28 (by decide) ?_
      refine lv_istore_n (lv' := [(2, .int r_5), (3, .int 0), (0, .ref (z 0)), (1, .int a1)]) hx hb dX10_leastIn_32 rfl hl (by decide) rfl (fun ls hl => ?_)
      refine lv_iinc (v := 1) (lv' := [(3, .int 1), (2, .int r_5), (0, .ref (z 0)), (1, .int a1)]) hx hb dX10_leastIn_33 hl (k := 1) rfl (by decide +kernel) (by decide) rfl (fun ls hl => ?_)
      refine lv_goto (tgt := 4) hx hb dX10_leastIn_36 (by decide) ?_
      refine lv_iload_n hx hb dX10_leastIn_4 rfl (lv_at hl 0 rfl) ?_
      refine lv_aload_n hx hb dX10_leastIn_5 rfl (lv_at hl 2 rfl) ?_
      refine va_get (ci := 10) (v := .ref (z 1)) (C := RX10) (T := TX10) (N := 40) hx hb hg inX10 hown hK hP 0 rfl rfl 1 (by decide) (hg _ q_5_225) (fun _ h9 => h9) rfl dX10_leastIn_6 ?_
      refine lv_iconst (v := 1) hx hb dX10_leastIn_9 (by decide) ?_
      refine va_iald hx hb hK hP 1 0 rfl rfl (vin (by decide +kernel)) dX10_leastIn_10 ?_
      refine tpi (y := x_1) ex_1.symm ?_
      refine lv_icmp_ge (tgt := 39) hx hb dX10_leastIn_11 (by decide) (fun c_74 => ?_) (fun c_74 => ?_)
      · have b_75 : iv 1 1 x_1 := iv_e1 c_74 b_4 (iv_c (1 : Int32) (a := 1) (b := 1) (by decide)) (by decide)
        refine lv_iload_n hx hb dX10_leastIn_39 rfl (lv_at hl 1 rfl) ?_
        exact fiI hx hb hr hlk hK hP hD hS dX10_leastIn_40 (Nat.le_of_ble_eq_true rfl) (Nat.le_of_ble_eq_true rfl) (⟨(iv_w b_72 (by decide)), (by rw [lsF_1 (show fz1 1 = 1 from (ex_1.symm.trans (iv_eqp b_75 (iv_c (1 : Int32) (by decide))))), ← er_5, mn_t (Int32.not_le.mp c_6)]), rfl⟩)
      · have b_76 : iv 2 4 x_1 := iv_l2 (Int32.not_le.mp c_74) (iv_c (1 : Int32) (a := 1) (b := 1) (by decide)) b_4 (by decide)
        refine lv_iload_n hx hb dX10_leastIn_14 rfl (lv_at hl 3 rfl) ?_
        refine lv_iload_n hx hb dX10_leastIn_15 rfl (lv_at hl 0 rfl) ?_
        refine jnI (wr := [(z 0, .inr (10, mo z pz0_0 pz0_5 pz0_6 pz0_7 pz0_8 pz0_9 pz0_10 pz0_11 pz0_12 pz0_13 pz0_14 pz0_18 pz0_19 pz0_22 pz0_23 pz0_29)), (z 1, aI V 3075 fz1)]) (rnS (rest := []) ⟨hx, hb, hml, hown, hg⟩ (k_X10_stackIn_0 l V a1 1 ba1 (iv_c (1 : Int32) (by decide))) mt_X10_stackIn q_7_26 ⟨Nat.le_of_ble_eq_true rfl, Nat.le_of_ble_eq_true rfl⟩ hK hP hD hS hA hE [] rfl rfl rfl hl.1 rfl (Nat.le_of_ble_eq_true rfl) dX10_leastIn_16 ⟨Nat.le_of_ble_eq_true rfl, Nat.le_of_ble_eq_true rfl⟩) hP hD hS hA [] [0, 1] rfl rfl rfl (by decide) (fun r_77 w H locs hw hP hD hS => ?_)
        obtain ⟨br_77, er_77, rfl⟩ := hw
        have hP : va_P V.1 vwCl [(z 0, .inr (10, mo z pz0_0 pz0_5 pz0_6 pz0_7 pz0_8 pz0_9 pz0_10 pz0_11 pz0_12 pz0_13 pz0_14 pz0_18 pz0_19 pz0_22 pz0_23 pz0_29)), (z 1, aI V 3075 fz1)] H := hP
        have hD : va_D A [(z 0, .inr (10, mo z pz0_0 pz0_5 pz0_6 pz0_7 pz0_8 pz0_9 pz0_10 pz0_11 pz0_12 pz0_13 pz0_14 pz0_18 pz0_19 pz0_22 pz0_23 pz0_29)), (z 1, aI V 3075 fz1)] := hD
        refine lv_iload_n hx hb dX10_leastIn_19 rfl (lv_at hl 1 rfl) ?_
        refine lv_icmp_ge (tgt := 31) hx hb dX10_leastIn_20 (by decide) (fun c_78 => ?_) (fun c_78 => ?_)
        · refine lv_iload_n hx hb dX10_leastIn_31 rfl (lv_at hl 1 rfl) ?_
          refine lv_istore_n (lv' := [(2, .int r_5), (3, .int 1), (0, .ref (z 0)), (1, .int a1)]) hx hb dX10_leastIn_32 rfl hl (by decide) rfl (fun ls hl => ?_)
          refine lv_iinc (v := 2) (lv' := [(3, .int 2), (2, .int r_5), (0, .ref (z 0)), (1, .int a1)]) hx hb dX10_leastIn_33 hl (k := 1) rfl (by decide +kernel) (by decide) rfl (fun ls hl => ?_)
          refine lv_goto (tgt := 4) hx hb dX10_leastIn_36 (by decide) ?_
          refine lv_iload_n hx hb dX10_leastIn_4 rfl (lv_at hl 0 rfl) ?_
          refine lv_aload_n hx hb dX10_leastIn_5 rfl (lv_at hl 2 rfl) ?_
          refine va_get (ci := 10) (v := .ref (z 1)) (C := RX10) (T := TX10) (N := 40) hx hb hg inX10 hown hK hP 0 rfl rfl 1 (by decide) (hg _ q_5_225) (fun _ h9 => h9) rfl dX10_leastIn_6 ?_
          refine lv_iconst (v := 1) hx hb dX10_leastIn_9 (by decide) ?_
          refine va_iald hx hb hK hP 1 0 rfl rfl (vin (by decide +kernel)) dX10_leastIn_10 ?_
          refine tpi (y := x_1) ex_1.symm ?_
          refine lv_icmp_ge (tgt := 39) hx hb dX10_leastIn_11 (by decide) (fun c_79 => ?_) (fun c_79 => ?_)
          · have b_80 : iv 2 2 x_1 := iv_e1 c_79 b_76 (iv_c (2 : Int32) (a := 2) (b := 2) (by decide)) (by decide)
            refine lv_iload_n hx hb dX10_leastIn_39 rfl (lv_at hl 1 rfl) ?_
            exact fiI hx hb hr hlk hK hP hD hS dX10_leastIn_40 (Nat.le_of_ble_eq_true rfl) (Nat.le_of_ble_eq_true rfl) (⟨(iv_w b_72 (by decide)), (by rw [lsF_2 (show fz1 1 = 2 from (ex_1.symm.trans (iv_eqp b_80 (iv_c (2 : Int32) (by decide))))), ← er_5, mn_t (Int32.not_le.mp c_6), ← er_77, mn_f (Int32.not_lt.mpr c_78)]), rfl⟩)
          · have b_81 : iv 3 4 x_1 := iv_l2 (Int32.not_le.mp c_79) (iv_c (2 : Int32) (a := 2) (b := 2) (by decide)) b_76 (by decide)
            refine lv_iload_n hx hb dX10_leastIn_14 rfl (lv_at hl 3 rfl) ?_
            refine lv_iload_n hx hb dX10_leastIn_15 rfl (lv_at hl 0 rfl) ?_
            refine jnI (wr := [(z 0, .inr (10, mo z pz0_0 pz0_5 pz0_6 pz0_7 pz0_8 pz0_9 pz0_10 pz0_11 pz0_12 pz0_13 pz0_14 pz0_18 pz0_19 pz0_22 pz0_23 pz0_29)), (z 1, aI V 3075 fz1)]) (rnS (rest := []) ⟨hx, hb, hml, hown, hg⟩ (k_X10_stackIn_0 l V a1 2 ba1 (iv_c (2 : Int32) (by decide))) mt_X10_stackIn q_7_26 ⟨Nat.le_of_ble_eq_true rfl, Nat.le_of_ble_eq_true rfl⟩ hK hP hD hS hA hE [] rfl rfl rfl hl.1 rfl (Nat.le_of_ble_eq_true rfl) dX10_leastIn_16 ⟨Nat.le_of_ble_eq_true rfl, Nat.le_of_ble_eq_true rfl⟩) hP hD hS hA [] [0, 1] rfl rfl rfl (by decide) (fun r_82 w H locs hw hP hD hS => ?_)
            obtain ⟨br_82, er_82, rfl⟩ := hw
            have hP : va_P V.1 vwCl [(z 0, .inr (10, mo z pz0_0 pz0_5 pz0_6 pz0_7 pz0_8 pz0_9 pz0_10 pz0_11 pz0_12 pz0_13 pz0_14 pz0_18 pz0_19 pz0_22 pz0_23 pz0_29)), (z 1, aI V 3075 fz1)] H := hP
            have hD : va_D A [(z 0, .inr (10, mo z pz0_0 pz0_5 pz0_6 pz0_7 pz0_8 pz0_9 pz0_10 pz0_11 pz0_12 pz0_13 pz0_14 pz0_18 pz0_19 pz0_22 pz0_23 pz0_29)), (z 1, aI V 3075 fz1)] := hD
            refine lv_iload_n hx hb dX10_leastIn_19 rfl (lv_at hl 1 rfl) ?_
            refine lv_icmp_ge (tgt := 31) hx hb dX10_leastIn_20 (by decide) (fun c_83 => ?_) (fun c_83 => ?_)
            · refine lv_iload_n hx hb dX10_leastIn_31 rfl (lv_at hl 1 rfl) ?_
              refine lv_istore_n (lv' := [(2, .int r_5), (3, .int 2), (0, .ref (z 0)), (1, .int a1)]) hx hb dX10_leastIn_32 rfl hl (by decide) rfl (fun ls hl => ?_)
              refine lv_iinc (v := 3) (lv' := [(3, .int 3), (2, .int r_5), (0, .ref (z 0)), (1, .int a1)]) hx hb dX10_leastIn_33 hl (k := 1) rfl (by decide +kernel) (by decide) rfl (fun ls hl => ?_)
              refine lv_goto (tgt := 4) hx hb dX10_leastIn_36 (by decide) ?_
              refine lv_iload_n hx hb dX10_leastIn_4 rfl (lv_at hl 0 rfl) ?_
              refine lv_aload_n hx hb dX10_leastIn_5 rfl (lv_at hl 2 rfl) ?_
              refine va_get (ci := 10) (v := .ref (z 1)) (C := RX10) (T := TX10) (N := 40) hx hb hg inX10 hown hK hP 0 rfl rfl 1 (by decide) (hg _ q_5_225) (fun _ h9 => h9) rfl dX10_leastIn_6 ?_
              refine lv_iconst (v := 1) hx hb dX10_leastIn_9 (by decide) ?_
              refine va_iald hx hb hK hP 1 0 rfl rfl (vin (by decide +kernel)) dX10_leastIn_10 ?_
              refine tpi (y := x_1) ex_1.symm ?_
              refine lv_icmp_ge (tgt := 39) hx hb dX10_leastIn_11 (by decide) (fun c_84 => ?_) (fun c_84 => ?_)
              · have b_85 : iv 3 3 x_1 := iv_e1 c_84 b_81 (iv_c (3 : Int32) (a := 3) (b := 3) (by decide)) (by decide)
                refine lv_iload_n hx hb dX10_leastIn_39 rfl (lv_at hl 1 rfl) ?_
                exact fiI hx hb hr hlk hK hP hD hS dX10_leastIn_40 (Nat.le_of_ble_eq_true rfl) (Nat.le_of_ble_eq_true rfl) (⟨(iv_w b_72 (by decide)), (by rw [lsF_3 (show fz1 1 = 3 from (ex_1.symm.trans (iv_eqp b_85 (iv_c (3 : Int32) (by decide))))), ← er_5, mn_t (Int32.not_le.mp c_6), ← er_77, mn_f (Int32.not_lt.mpr c_78), ← er_82, mn_f (Int32.not_lt.mpr c_83)]), rfl⟩)
              · have b_86 : iv 4 4 x_1 := iv_l2 (Int32.not_le.mp c_84) (iv_c (3 : Int32) (a := 3) (b := 3) (by decide)) b_81 (by decide)
                refine lv_iload_n hx hb dX10_leastIn_14 rfl (lv_at hl 3 rfl) ?_
                refine lv_iload_n hx hb dX10_leastIn_15 rfl (lv_at hl 0 rfl) ?_
                refine jnI (wr := [(z 0, .inr (10, mo z pz0_0 pz0_5 pz0_6 pz0_7 pz0_8 pz0_9 pz0_10 pz0_11 pz0_12 pz0_13 pz0_14 pz0_18 pz0_19 pz0_22 pz0_23 pz0_29)), (z 1, aI V 3075 fz1)]) (rnS (rest := []) ⟨hx, hb, hml, hown, hg⟩ (k_X10_stackIn_0 l V a1 3 ba1 (iv_c (3 : Int32) (by decide))) mt_X10_stackIn q_7_26 ⟨Nat.le_of_ble_eq_true rfl, Nat.le_of_ble_eq_true rfl⟩ hK hP hD hS hA hE [] rfl rfl rfl hl.1 rfl (Nat.le_of_ble_eq_true rfl) dX10_leastIn_16 ⟨Nat.le_of_ble_eq_true rfl, Nat.le_of_ble_eq_true rfl⟩) hP hD hS hA [] [0, 1] rfl rfl rfl (by decide) (fun r_87 w H locs hw hP hD hS => ?_)
                obtain ⟨br_87, er_87, rfl⟩ := hw
                have hP : va_P V.1 vwCl [(z 0, .inr (10, mo z pz0_0 pz0_5 pz0_6 pz0_7 pz0_8 pz0_9 pz0_10 pz0_11 pz0_12 pz0_13 pz0_14 pz0_18 pz0_19 pz0_22 pz0_23 pz0_29)), (z 1, aI V 3075 fz1)] H := hP
                have hD : va_D A [(z 0, .inr (10, mo z pz0_0 pz0_5 pz0_6 pz0_7 pz0_8 pz0_9 pz0_10 pz0_11 pz0_12 pz0_13 pz0_14 pz0_18 pz0_19 pz0_22 pz0_23 pz0_29)), (z 1, aI V 3075 fz1)] := hD
                refine lv_iload_n hx hb dX10_leastIn_19 rfl (lv_at hl 1 rfl) ?_
                refine lv_icmp_ge (tgt := 31) hx hb dX10_leastIn_20 (by decide) (fun c_88 => ?_) (fun c_88 => ?_)
                · refine lv_iload_n hx hb dX10_leastIn_31 rfl (lv_at hl 1 rfl) ?_
                  refine lv_istore_n (lv' := [(2, .int r_5), (3, .int 3), (0, .ref (z 0)), (1, .int a1)]) hx hb dX10_leastIn_32 rfl hl (by decide) rfl (fun ls hl => ?_)
                  refine lv_iinc (v := 4) (lv' := [(3, .int 4), (2, .int r_5), (0, .ref (z 0)), (1, .int a1)]) hx hb dX10_leastIn_33 hl (k := 1) rfl (by decide +kernel) (by decide) rfl (fun ls hl => ?_)
                  refine lv_goto (tgt := 4) hx hb dX10_leastIn_36 (by decide) ?_
                  refine lv_iload_n hx hb dX10_leastIn_4 rfl (lv_at hl 0 rfl) ?_
                  refine lv_aload_n hx hb dX10_leastIn_5 rfl (lv_at hl 2 rfl) ?_
                  refine va_get (ci := 10) (v := .ref (z 1)) (C := RX10) (T := TX10) (N := 40) hx hb hg inX10 hown hK hP 0 rfl rfl 1 (by decide) (hg _ q_5_225) (fun _ h9 => h9) rfl dX10_leastIn_6 ?_
                  refine lv_iconst (v := 1) hx hb dX10_leastIn_9 (by decide) ?_
                  refine va_iald hx hb hK hP 1 0 rfl rfl (vin (by decide +kernel)) dX10_leastIn_10 ?_
                  refine tpi (y := x_1) ex_1.symm ?_
                  refine lv_icmp_ge (tgt := 39) hx hb dX10_leastIn_11 (by decide) (fun _ => ?_) (fun c_89 => absurd (iv_le b_86 (iv_c (4 : Int32) (a := 4) (b := 4) (by decide)) (by decide)) c_89)
                  refine lv_iload_n hx hb dX10_leastIn_39 rfl (lv_at hl 1 rfl) ?_
                  exact fiI hx hb hr hlk hK hP hD hS dX10_leastIn_40 (Nat.le_of_ble_eq_true rfl) (Nat.le_of_ble_eq_true rfl) (⟨(iv_w b_72 (by decide)), (by rw [lsF_4 (show fz1 1 = 4 from (ex_1.symm.trans (iv_eqp b_86 (iv_c (4 : Int32) (by decide))))), ← er_5, mn_t (Int32.not_le.mp c_6), ← er_77, mn_f (Int32.not_lt.mpr c_78), ← er_82, mn_f (Int32.not_lt.mpr c_83), ← er_87, mn_f (Int32.not_lt.mpr c_88)]), rfl⟩)
                · have b_90 : iv 0 2 r_87 := iv_l1 (Int32.not_le.mp c_88) br_87 b_72 (by decide)
                  have b_91 : iv 1 3 r_5 := iv_l2 (Int32.not_le.mp c_88) br_87 b_72 (by decide)
                  refine lv_iload_n hx hb dX10_leastIn_23 rfl (lv_at hl 3 rfl) ?_
                  refine lv_iload_n hx hb dX10_leastIn_24 rfl (lv_at hl 0 rfl) ?_
                  refine jnI (wr := [(z 0, .inr (10, mo z pz0_0 pz0_5 pz0_6 pz0_7 pz0_8 pz0_9 pz0_10 pz0_11 pz0_12 pz0_13 pz0_14 pz0_18 pz0_19 pz0_22 pz0_23 pz0_29)), (z 1, aI V 3075 fz1)]) (rnS (rest := []) ⟨hx, hb, hml, hown, hg⟩ (k_X10_stackIn_0 l V a1 3 ba1 (iv_c (3 : Int32) (by decide))) mt_X10_stackIn q_7_26 ⟨Nat.le_of_ble_eq_true rfl, Nat.le_of_ble_eq_true rfl⟩ hK hP hD hS hA hE [] rfl rfl rfl hl.1 rfl (Nat.le_of_ble_eq_true rfl) dX10_leastIn_25 ⟨Nat.le_of_ble_eq_true rfl, Nat.le_of_ble_eq_true rfl⟩) hP hD hS hA [] [0, 1] rfl rfl rfl (by decide) (fun r_92 w H locs hw hP hD hS => ?_)
                  obtain ⟨br_92, er_92, rfl⟩ := hw
                  have e9_r_92 : r_92 = r_87 := er_92.trans er_87.symm
                  rw [e9_r_92]
                  have hP : va_P V.1 vwCl [(z 0, .inr (10, mo z pz0_0 pz0_5 pz0_6 pz0_7 pz0_8 pz0_9 pz0_10 pz0_11 pz0_12 pz0_13 pz0_14 pz0_18 pz0_19 pz0_22 pz0_23 pz0_29)), (z 1, aI V 3075 fz1)] H := hP
                  have hD : va_D A [(z 0, .inr (10, mo z pz0_0 pz0_5 pz0_6 pz0_7 pz0_8 pz0_9 pz0_10 pz0_11 pz0_12 pz0_13 pz0_14 pz0_18 pz0_19 pz0_22 pz0_23 pz0_29)), (z 1, aI V 3075 fz1)] := hD
                  refine lv_goto (tgt := 32) hx hb dX10_leastIn_28 (by decide) ?_
                  refine lv_istore_n (lv' := [(2, .int r_87), (3, .int 3), (0, .ref (z 0)), (1, .int a1)]) hx hb dX10_leastIn_32 rfl hl (by decide) rfl (fun ls hl => ?_)
                  refine lv_iinc (v := 4) (lv' := [(3, .int 4), (2, .int r_87), (0, .ref (z 0)), (1, .int a1)]) hx hb dX10_leastIn_33 hl (k := 1) rfl (by decide +kernel) (by decide) rfl (fun ls hl => ?_)
                  refine lv_goto (tgt := 4) hx hb dX10_leastIn_36 (by decide) ?_
                  refine lv_iload_n hx hb dX10_leastIn_4 rfl (lv_at hl 0 rfl) ?_
                  refine lv_aload_n hx hb dX10_leastIn_5 rfl (lv_at hl 2 rfl) ?_
                  refine va_get (ci := 10) (v := .ref (z 1)) (C := RX10) (T := TX10) (N := 40) hx hb hg inX10 hown hK hP 0 rfl rfl 1 (by decide) (hg _ q_5_225) (fun _ h9 => h9) rfl dX10_leastIn_6 ?_
                  refine lv_iconst (v := 1) hx hb dX10_leastIn_9 (by decide) ?_
                  refine va_iald hx hb hK hP 1 0 rfl rfl (vin (by decide +kernel)) dX10_leastIn_10 ?_
                  refine tpi (y := x_1) ex_1.symm ?_
                  refine lv_icmp_ge (tgt := 39) hx hb dX10_leastIn_11 (by decide) (fun _ => ?_) (fun c_93 => absurd (iv_le b_86 (iv_c (4 : Int32) (a := 4) (b := 4) (by decide)) (by decide)) c_93)
                  refine lv_iload_n hx hb dX10_leastIn_39 rfl (lv_at hl 1 rfl) ?_
                  exact fiI hx hb hr hlk hK hP hD hS dX10_leastIn_40 (Nat.le_of_ble_eq_true rfl) (Nat.le_of_ble_eq_true rfl) (⟨(iv_w b_90 (by decide)), (by rw [lsF_4 (show fz1 1 = 4 from (ex_1.symm.trans (iv_eqp b_86 (iv_c (4 : Int32) (by decide))))), ← er_5, mn_t (Int32.not_le.mp c_6), ← er_77, mn_f (Int32.not_lt.mpr c_78), ← er_82, mn_f (Int32.not_lt.mpr c_83), ← er_87, mn_t (Int32.not_le.mp c_88)]), rfl⟩)
            · have b_94 : iv 0 2 r_82 := iv_l1 (Int32.not_le.mp c_83) br_82 b_72 (by decide)
              have b_95 : iv 1 3 r_5 := iv_l2 (Int32.not_le.mp c_83) br_82 b_72 (by decide)
              refine lv_iload_n hx hb dX10_leastIn_23 rfl (lv_at hl 3 rfl) ?_
              refine lv_iload_n hx hb dX10_leastIn_24 rfl (lv_at hl 0 rfl) ?_
              refine jnI (wr := [(z 0, .inr (10, mo z pz0_0 pz0_5 pz0_6 pz0_7 pz0_8 pz0_9 pz0_10 pz0_11 pz0_12 pz0_13 pz0_14 pz0_18 pz0_19 pz0_22 pz0_23 pz0_29)), (z 1, aI V 3075 fz1)]) (rnS (rest := []) ⟨hx, hb, hml, hown, hg⟩ (k_X10_stackIn_0 l V a1 2 ba1 (iv_c (2 : Int32) (by decide))) mt_X10_stackIn q_7_26 ⟨Nat.le_of_ble_eq_true rfl, Nat.le_of_ble_eq_true rfl⟩ hK hP hD hS hA hE [] rfl rfl rfl hl.1 rfl (Nat.le_of_ble_eq_true rfl) dX10_leastIn_25 ⟨Nat.le_of_ble_eq_true rfl, Nat.le_of_ble_eq_true rfl⟩) hP hD hS hA [] [0, 1] rfl rfl rfl (by decide) (fun r_96 w H locs hw hP hD hS => ?_)
              obtain ⟨br_96, er_96, rfl⟩ := hw
              have e9_r_96 : r_96 = r_82 := er_96.trans er_82.symm
              rw [e9_r_96]
              have hP : va_P V.1 vwCl [(z 0, .inr (10, mo z pz0_0 pz0_5 pz0_6 pz0_7 pz0_8 pz0_9 pz0_10 pz0_11 pz0_12 pz0_13 pz0_14 pz0_18 pz0_19 pz0_22 pz0_23 pz0_29)), (z 1, aI V 3075 fz1)] H := hP
              have hD : va_D A [(z 0, .inr (10, mo z pz0_0 pz0_5 pz0_6 pz0_7 pz0_8 pz0_9 pz0_10 pz0_11 pz0_12 pz0_13 pz0_14 pz0_18 pz0_19 pz0_22 pz0_23 pz0_29)), (z 1, aI V 3075 fz1)] := hD
              refine lv_goto (tgt := 32) hx hb dX10_leastIn_28 (by decide) ?_
              refine lv_istore_n (lv' := [(2, .int r_82), (3, .int 2), (0, .ref (z 0)), (1, .int a1)]) hx hb dX10_leastIn_32 rfl hl (by decide) rfl (fun ls hl => ?_)
              refine lv_iinc (v := 3) (lv' := [(3, .int 3), (2, .int r_82), (0, .ref (z 0)), (1, .int a1)]) hx hb dX10_leastIn_33 hl (k := 1) rfl (by decide +kernel) (by decide) rfl (fun ls hl => ?_)
              refine lv_goto (tgt := 4) hx hb dX10_leastIn_36 (by decide) ?_
              refine lv_iload_n hx hb dX10_leastIn_4 rfl (lv_at hl 0 rfl) ?_
              refine lv_aload_n hx hb dX10_leastIn_5 rfl (lv_at hl 2 rfl) ?_
              refine va_get (ci := 10) (v := .ref (z 1)) (C := RX10) (T := TX10) (N := 40) hx hb hg inX10 hown hK hP 0 rfl rfl 1 (by decide) (hg _ q_5_225) (fun _ h9 => h9) rfl dX10_leastIn_6 ?_
              refine lv_iconst (v := 1) hx hb dX10_leastIn_9 (by decide) ?_
              refine va_iald hx hb hK hP 1 0 rfl rfl (vin (by decide +kernel)) dX10_leastIn_10 ?_
              refine tpi (y := x_1) ex_1.symm ?_
              refine lv_icmp_ge (tgt := 39) hx hb dX10_leastIn_11 (by decide) (fun c_97 => ?_) (fun c_97 => ?_)
              · have b_98 : iv 3 3 x_1 := iv_e1 c_97 b_81 (iv_c (3 : Int32) (a := 3) (b := 3) (by decide)) (by decide)
                refine lv_iload_n hx hb dX10_leastIn_39 rfl (lv_at hl 1 rfl) ?_
                exact fiI hx hb hr hlk hK hP hD hS dX10_leastIn_40 (Nat.le_of_ble_eq_true rfl) (Nat.le_of_ble_eq_true rfl) (⟨(iv_w b_94 (by decide)), (by rw [lsF_3 (show fz1 1 = 3 from (ex_1.symm.trans (iv_eqp b_98 (iv_c (3 : Int32) (by decide))))), ← er_5, mn_t (Int32.not_le.mp c_6), ← er_77, mn_f (Int32.not_lt.mpr c_78), ← er_82, mn_t (Int32.not_le.mp c_83)]), rfl⟩)
              · have b_99 : iv 4 4 x_1 := iv_l2 (Int32.not_le.mp c_97) (iv_c (3 : Int32) (a := 3) (b := 3) (by decide)) b_81 (by decide)
                refine lv_iload_n hx hb dX10_leastIn_14 rfl (lv_at hl 3 rfl) ?_
                refine lv_iload_n hx hb dX10_leastIn_15 rfl (lv_at hl 0 rfl) ?_
                refine jnI (wr := [(z 0, .inr (10, mo z pz0_0 pz0_5 pz0_6 pz0_7 pz0_8 pz0_9 pz0_10 pz0_11 pz0_12 pz0_13 pz0_14 pz0_18 pz0_19 pz0_22 pz0_23 pz0_29)), (z 1, aI V 3075 fz1)]) (rnS (rest := []) ⟨hx, hb, hml, hown, hg⟩ (k_X10_stackIn_0 l V a1 3 ba1 (iv_c (3 : Int32) (by decide))) mt_X10_stackIn q_7_26 ⟨Nat.le_of_ble_eq_true rfl, Nat.le_of_ble_eq_true rfl⟩ hK hP hD hS hA hE [] rfl rfl rfl hl.1 rfl (Nat.le_of_ble_eq_true rfl) dX10_leastIn_16 ⟨Nat.le_of_ble_eq_true rfl, Nat.le_of_ble_eq_true rfl⟩) hP hD hS hA [] [0, 1] rfl rfl rfl (by decide) (fun r_100 w H locs hw hP hD hS => ?_)
                obtain ⟨br_100, er_100, rfl⟩ := hw
                have hP : va_P V.1 vwCl [(z 0, .inr (10, mo z pz0_0 pz0_5 pz0_6 pz0_7 pz0_8 pz0_9 pz0_10 pz0_11 pz0_12 pz0_13 pz0_14 pz0_18 pz0_19 pz0_22 pz0_23 pz0_29)), (z 1, aI V 3075 fz1)] H := hP
                have hD : va_D A [(z 0, .inr (10, mo z pz0_0 pz0_5 pz0_6 pz0_7 pz0_8 pz0_9 pz0_10 pz0_11 pz0_12 pz0_13 pz0_14 pz0_18 pz0_19 pz0_22 pz0_23 pz0_29)), (z 1, aI V 3075 fz1)] := hD
                refine lv_iload_n hx hb dX10_leastIn_19 rfl (lv_at hl 1 rfl) ?_
                refine lv_icmp_ge (tgt := 31) hx hb dX10_leastIn_20 (by decide) (fun c_101 => ?_) (fun c_101 => ?_)
                · refine lv_iload_n hx hb dX10_leastIn_31 rfl (lv_at hl 1 rfl) ?_
                  refine lv_istore_n (lv' := [(2, .int r_82), (3, .int 3), (0, .ref (z 0)), (1, .int a1)]) hx hb dX10_leastIn_32 rfl hl (by decide) rfl (fun ls hl => ?_)
                  refine lv_iinc (v := 4) (lv' := [(3, .int 4), (2, .int r_82), (0, .ref (z 0)), (1, .int a1)]) hx hb dX10_leastIn_33 hl (k := 1) rfl (by decide +kernel) (by decide) rfl (fun ls hl => ?_)
                  refine lv_goto (tgt := 4) hx hb dX10_leastIn_36 (by decide) ?_
                  refine lv_iload_n hx hb dX10_leastIn_4 rfl (lv_at hl 0 rfl) ?_
                  refine lv_aload_n hx hb dX10_leastIn_5 rfl (lv_at hl 2 rfl) ?_
                  refine va_get (ci := 10) (v := .ref (z 1)) (C := RX10) (T := TX10) (N := 40) hx hb hg inX10 hown hK hP 0 rfl rfl 1 (by decide) (hg _ q_5_225) (fun _ h9 => h9) rfl dX10_leastIn_6 ?_
                  refine lv_iconst (v := 1) hx hb dX10_leastIn_9 (by decide) ?_
                  refine va_iald hx hb hK hP 1 0 rfl rfl (vin (by decide +kernel)) dX10_leastIn_10 ?_
                  refine tpi (y := x_1) ex_1.symm ?_
                  refine lv_icmp_ge (tgt := 39) hx hb dX10_leastIn_11 (by decide) (fun _ => ?_) (fun c_102 => absurd (iv_le b_99 (iv_c (4 : Int32) (a := 4) (b := 4) (by decide)) (by decide)) c_102)
                  refine lv_iload_n hx hb dX10_leastIn_39 rfl (lv_at hl 1 rfl) ?_
                  exact fiI hx hb hr hlk hK hP hD hS dX10_leastIn_40 (Nat.le_of_ble_eq_true rfl) (Nat.le_of_ble_eq_true rfl) (⟨(iv_w b_94 (by decide)), (by rw [lsF_4 (show fz1 1 = 4 from (ex_1.symm.trans (iv_eqp b_99 (iv_c (4 : Int32) (by decide))))), ← er_5, mn_t (Int32.not_le.mp c_6), ← er_77, mn_f (Int32.not_lt.mpr c_78), ← er_82, mn_t (Int32.not_le.mp c_83), ← er_100, mn_f (Int32.not_lt.mpr c_101)]), rfl⟩)
                · have b_103 : iv 0 1 r_100 := iv_l1 (Int32.not_le.mp c_101) br_100 b_94 (by decide)
                  have b_104 : iv 1 2 r_82 := iv_l2 (Int32.not_le.mp c_101) br_100 b_94 (by decide)
                  refine lv_iload_n hx hb dX10_leastIn_23 rfl (lv_at hl 3 rfl) ?_
                  refine lv_iload_n hx hb dX10_leastIn_24 rfl (lv_at hl 0 rfl) ?_
                  refine jnI (wr := [(z 0, .inr (10, mo z pz0_0 pz0_5 pz0_6 pz0_7 pz0_8 pz0_9 pz0_10 pz0_11 pz0_12 pz0_13 pz0_14 pz0_18 pz0_19 pz0_22 pz0_23 pz0_29)), (z 1, aI V 3075 fz1)]) (rnS (rest := []) ⟨hx, hb, hml, hown, hg⟩ (k_X10_stackIn_0 l V a1 3 ba1 (iv_c (3 : Int32) (by decide))) mt_X10_stackIn q_7_26 ⟨Nat.le_of_ble_eq_true rfl, Nat.le_of_ble_eq_true rfl⟩ hK hP hD hS hA hE [] rfl rfl rfl hl.1 rfl (Nat.le_of_ble_eq_true rfl) dX10_leastIn_25 ⟨Nat.le_of_ble_eq_true rfl, Nat.le_of_ble_eq_true rfl⟩) hP hD hS hA [] [0, 1] rfl rfl rfl (by decide) (fun r_105 w H locs hw hP hD hS => ?_)
                  obtain ⟨br_105, er_105, rfl⟩ := hw
                  have e9_r_105 : r_105 = r_100 := er_105.trans er_100.symm
                  rw [e9_r_105]
                  have hP : va_P V.1 vwCl [(z 0, .inr (10, mo z pz0_0 pz0_5 pz0_6 pz0_7 pz0_8 pz0_9 pz0_10 pz0_11 pz0_12 pz0_13 pz0_14 pz0_18 pz0_19 pz0_22 pz0_23 pz0_29)), (z 1, aI V 3075 fz1)] H := hP
                  have hD : va_D A [(z 0, .inr (10, mo z pz0_0 pz0_5 pz0_6 pz0_7 pz0_8 pz0_9 pz0_10 pz0_11 pz0_12 pz0_13 pz0_14 pz0_18 pz0_19 pz0_22 pz0_23 pz0_29)), (z 1, aI V 3075 fz1)] := hD
                  refine lv_goto (tgt := 32) hx hb dX10_leastIn_28 (by decide) ?_
                  refine lv_istore_n (lv' := [(2, .int r_100), (3, .int 3), (0, .ref (z 0)), (1, .int a1)]) hx hb dX10_leastIn_32 rfl hl (by decide) rfl (fun ls hl => ?_)
                  refine lv_iinc (v := 4) (lv' := [(3, .int 4), (2, .int r_100), (0, .ref (z 0)), (1, .int a1)]) hx hb dX10_leastIn_33 hl (k := 1) rfl (by decide +kernel) (by decide) rfl (fun ls hl => ?_)
                  refine lv_goto (tgt := 4) hx hb dX10_leastIn_36 (by decide) ?_
                  refine lv_iload_n hx hb dX10_leastIn_4 rfl (lv_at hl 0 rfl) ?_
                  refine lv_aload_n hx hb dX10_leastIn_5 rfl (lv_at hl 2 rfl) ?_
                  refine va_get (ci := 10) (v := .ref (z 1)) (C := RX10) (T := TX10) (N := 40) hx hb hg inX10 hown hK hP 0 rfl rfl 1 (by decide) (hg _ q_5_225) (fun _ h9 => h9) rfl dX10_leastIn_6 ?_
                  refine lv_iconst (v := 1) hx hb dX10_leastIn_9 (by decide) ?_
                  refine va_iald hx hb hK hP 1 0 rfl rfl (vin (by decide +kernel)) dX10_leastIn_10 ?_
                  refine tpi (y := x_1) ex_1.symm ?_
                  refine lv_icmp_ge (tgt := 39) hx hb dX10_leastIn_11 (by decide) (fun _ => ?_) (fun c_106 => absurd (iv_le b_99 (iv_c (4 : Int32) (a := 4) (b := 4) (by decide)) (by decide)) c_106)
                  refine lv_iload_n hx hb dX10_leastIn_39 rfl (lv_at hl 1 rfl) ?_
                  exact fiI hx hb hr hlk hK hP hD hS dX10_leastIn_40 (Nat.le_of_ble_eq_true rfl) (Nat.le_of_ble_eq_true rfl) (⟨(iv_w b_103 (by decide)), (by rw [lsF_4 (show fz1 1 = 4 from (ex_1.symm.trans (iv_eqp b_99 (iv_c (4 : Int32) (by decide))))), ← er_5, mn_t (Int32.not_le.mp c_6), ← er_77, mn_f (Int32.not_lt.mpr c_78), ← er_82, mn_t (Int32.not_le.mp c_83), ← er_100, mn_t (Int32.not_le.mp c_101)]), rfl⟩)
        · have b_107 : iv 0 2 r_77 := iv_l1 (Int32.not_le.mp c_78) br_77 b_72 (by decide)
          have b_108 : iv 1 3 r_5 := iv_l2 (Int32.not_le.mp c_78) br_77 b_72 (by decide)
          refine lv_iload_n hx hb dX10_leastIn_23 rfl (lv_at hl 3 rfl) ?_
          refine lv_iload_n hx hb dX10_leastIn_24 rfl (lv_at hl 0 rfl) ?_
          refine jnI (wr := [(z 0, .inr (10, mo z pz0_0 pz0_5 pz0_6 pz0_7 pz0_8 pz0_9 pz0_10 pz0_11 pz0_12 pz0_13 pz0_14 pz0_18 pz0_19 pz0_22 pz0_23 pz0_29)), (z 1, aI V 3075 fz1)]) (rnS (rest := []) ⟨hx, hb, hml, hown, hg⟩ (k_X10_stackIn_0 l V a1 1 ba1 (iv_c (1 : Int32) (by decide))) mt_X10_stackIn q_7_26 ⟨Nat.le_of_ble_eq_true rfl, Nat.le_of_ble_eq_true rfl⟩ hK hP hD hS hA hE [] rfl rfl rfl hl.1 rfl (Nat.le_of_ble_eq_true rfl) dX10_leastIn_25 ⟨Nat.le_of_ble_eq_true rfl, Nat.le_of_ble_eq_true rfl⟩) hP hD hS hA [] [0, 1] rfl rfl rfl (by decide) (fun r_109 w H locs hw hP hD hS => ?_)
          obtain ⟨br_109, er_109, rfl⟩ := hw
          have e9_r_109 : r_109 = r_77 := er_109.trans er_77.symm
          rw [e9_r_109]
          have hP : va_P V.1 vwCl [(z 0, .inr (10, mo z pz0_0 pz0_5 pz0_6 pz0_7 pz0_8 pz0_9 pz0_10 pz0_11 pz0_12 pz0_13 pz0_14 pz0_18 pz0_19 pz0_22 pz0_23 pz0_29)), (z 1, aI V 3075 fz1)] H := hP
          have hD : va_D A [(z 0, .inr (10, mo z pz0_0 pz0_5 pz0_6 pz0_7 pz0_8 pz0_9 pz0_10 pz0_11 pz0_12 pz0_13 pz0_14 pz0_18 pz0_19 pz0_22 pz0_23 pz0_29)), (z 1, aI V 3075 fz1)] := hD
          refine lv_goto (tgt := 32) hx hb dX10_leastIn_28 (by decide) ?_
          refine lv_istore_n (lv' := [(2, .int r_77), (3, .int 1), (0, .ref (z 0)), (1, .int a1)]) hx hb dX10_leastIn_32 rfl hl (by decide) rfl (fun ls hl => ?_)
          refine lv_iinc (v := 2) (lv' := [(3, .int 2), (2, .int r_77), (0, .ref (z 0)), (1, .int a1)]) hx hb dX10_leastIn_33 hl (k := 1) rfl (by decide +kernel) (by decide) rfl (fun ls hl => ?_)
          refine lv_goto (tgt := 4) hx hb dX10_leastIn_36 (by decide) ?_
          refine lv_iload_n hx hb dX10_leastIn_4 rfl (lv_at hl 0 rfl) ?_
          refine lv_aload_n hx hb dX10_leastIn_5 rfl (lv_at hl 2 rfl) ?_
          refine va_get (ci := 10) (v := .ref (z 1)) (C := RX10) (T := TX10) (N := 40) hx hb hg inX10 hown hK hP 0 rfl rfl 1 (by decide) (hg _ q_5_225) (fun _ h9 => h9) rfl dX10_leastIn_6 ?_
          refine lv_iconst (v := 1) hx hb dX10_leastIn_9 (by decide) ?_
          refine va_iald hx hb hK hP 1 0 rfl rfl (vin (by decide +kernel)) dX10_leastIn_10 ?_
          refine tpi (y := x_1) ex_1.symm ?_
          refine lv_icmp_ge (tgt := 39) hx hb dX10_leastIn_11 (by decide) (fun c_110 => ?_) (fun c_110 => ?_)
          · have b_111 : iv 2 2 x_1 := iv_e1 c_110 b_76 (iv_c (2 : Int32) (a := 2) (b := 2) (by decide)) (by decide)
            refine lv_iload_n hx hb dX10_leastIn_39 rfl (lv_at hl 1 rfl) ?_
            exact fiI hx hb hr hlk hK hP hD hS dX10_leastIn_40 (Nat.le_of_ble_eq_true rfl) (Nat.le_of_ble_eq_true rfl) (⟨(iv_w b_107 (by decide)), (by rw [lsF_2 (show fz1 1 = 2 from (ex_1.symm.trans (iv_eqp b_111 (iv_c (2 : Int32) (by decide))))), ← er_5, mn_t (Int32.not_le.mp c_6), ← er_77, mn_t (Int32.not_le.mp c_78)]), rfl⟩)
          · have b_112 : iv 3 4 x_1 := iv_l2 (Int32.not_le.mp c_110) (iv_c (2 : Int32) (a := 2) (b := 2) (by decide)) b_76 (by decide)
            refine lv_iload_n hx hb dX10_leastIn_14 rfl (lv_at hl 3 rfl) ?_
            refine lv_iload_n hx hb dX10_leastIn_15 rfl (lv_at hl 0 rfl) ?_
            refine jnI (wr := [(z 0, .inr (10, mo z pz0_0 pz0_5 pz0_6 pz0_7 pz0_8 pz0_9 pz0_10 pz0_11 pz0_12 pz0_13 pz0_14 pz0_18 pz0_19 pz0_22 pz0_23 pz0_29)), (z 1, aI V 3075 fz1)]) (rnS (rest := []) ⟨hx, hb, hml, hown, hg⟩ (k_X10_stackIn_0 l V a1 2 ba1 (iv_c (2 : Int32) (by decide))) mt_X10_stackIn q_7_26 ⟨Nat.le_of_ble_eq_true rfl, Nat.le_of_ble_eq_true rfl⟩ hK hP hD hS hA hE [] rfl rfl rfl hl.1 rfl (Nat.le_of_ble_eq_true rfl) dX10_leastIn_16 ⟨Nat.le_of_ble_eq_true rfl, Nat.le_of_ble_eq_true rfl⟩) hP hD hS hA [] [0, 1] rfl rfl rfl (by decide) (fun r_113 w H locs hw hP hD hS => ?_)
            obtain ⟨br_113, er_113, rfl⟩ := hw
            have hP : va_P V.1 vwCl [(z 0, .inr (10, mo z pz0_0 pz0_5 pz0_6 pz0_7 pz0_8 pz0_9 pz0_10 pz0_11 pz0_12 pz0_13 pz0_14 pz0_18 pz0_19 pz0_22 pz0_23 pz0_29)), (z 1, aI V 3075 fz1)] H := hP
            have hD : va_D A [(z 0, .inr (10, mo z pz0_0 pz0_5 pz0_6 pz0_7 pz0_8 pz0_9 pz0_10 pz0_11 pz0_12 pz0_13 pz0_14 pz0_18 pz0_19 pz0_22 pz0_23 pz0_29)), (z 1, aI V 3075 fz1)] := hD
            refine lv_iload_n hx hb dX10_leastIn_19 rfl (lv_at hl 1 rfl) ?_
            refine lv_icmp_ge (tgt := 31) hx hb dX10_leastIn_20 (by decide) (fun c_114 => ?_) (fun c_114 => ?_)
            · refine lv_iload_n hx hb dX10_leastIn_31 rfl (lv_at hl 1 rfl) ?_
              refine lv_istore_n (lv' := [(2, .int r_77), (3, .int 2), (0, .ref (z 0)), (1, .int a1)]) hx hb dX10_leastIn_32 rfl hl (by decide) rfl (fun ls hl => ?_)
              refine lv_iinc (v := 3) (lv' := [(3, .int 3), (2, .int r_77), (0, .ref (z 0)), (1, .int a1)]) hx hb dX10_leastIn_33 hl (k := 1) rfl (by decide +kernel) (by decide) rfl (fun ls hl => ?_)
              refine lv_goto (tgt := 4) hx hb dX10_leastIn_36 (by decide) ?_
              refine lv_iload_n hx hb dX10_leastIn_4 rfl (lv_at hl 0 rfl) ?_
              refine lv_aload_n hx hb dX10_leastIn_5 rfl (lv_at hl 2 rfl) ?_
              refine va_get (ci := 10) (v := .ref (z 1)) (C := RX10) (T := TX10) (N := 40) hx hb hg inX10 hown hK hP 0 rfl rfl 1 (by decide) (hg _ q_5_225) (fun _ h9 => h9) rfl dX10_leastIn_6 ?_
              refine lv_iconst (v := 1) hx hb dX10_leastIn_9 (by decide) ?_
              refine va_iald hx hb hK hP 1 0 rfl rfl (vin (by decide +kernel)) dX10_leastIn_10 ?_
              refine tpi (y := x_1) ex_1.symm ?_
              refine lv_icmp_ge (tgt := 39) hx hb dX10_leastIn_11 (by decide) (fun c_115 => ?_) (fun c_115 => ?_)
              · have b_116 : iv 3 3 x_1 := iv_e1 c_115 b_112 (iv_c (3 : Int32) (a := 3) (b := 3) (by decide)) (by decide)
                refine lv_iload_n hx hb dX10_leastIn_39 rfl (lv_at hl 1 rfl) ?_
                exact fiI hx hb hr hlk hK hP hD hS dX10_leastIn_40 (Nat.le_of_ble_eq_true rfl) (Nat.le_of_ble_eq_true rfl) (⟨(iv_w b_107 (by decide)), (by rw [lsF_3 (show fz1 1 = 3 from (ex_1.symm.trans (iv_eqp b_116 (iv_c (3 : Int32) (by decide))))), ← er_5, mn_t (Int32.not_le.mp c_6), ← er_77, mn_t (Int32.not_le.mp c_78), ← er_113, mn_f (Int32.not_lt.mpr c_114)]), rfl⟩)
              · have b_117 : iv 4 4 x_1 := iv_l2 (Int32.not_le.mp c_115) (iv_c (3 : Int32) (a := 3) (b := 3) (by decide)) b_112 (by decide)
                refine lv_iload_n hx hb dX10_leastIn_14 rfl (lv_at hl 3 rfl) ?_
                refine lv_iload_n hx hb dX10_leastIn_15 rfl (lv_at hl 0 rfl) ?_
                refine jnI (wr := [(z 0, .inr (10, mo z pz0_0 pz0_5 pz0_6 pz0_7 pz0_8 pz0_9 pz0_10 pz0_11 pz0_12 pz0_13 pz0_14 pz0_18 pz0_19 pz0_22 pz0_23 pz0_29)), (z 1, aI V 3075 fz1)]) (rnS (rest := []) ⟨hx, hb, hml, hown, hg⟩ (k_X10_stackIn_0 l V a1 3 ba1 (iv_c (3 : Int32) (by decide))) mt_X10_stackIn q_7_26 ⟨Nat.le_of_ble_eq_true rfl, Nat.le_of_ble_eq_true rfl⟩ hK hP hD hS hA hE [] rfl rfl rfl hl.1 rfl (Nat.le_of_ble_eq_true rfl) dX10_leastIn_16 ⟨Nat.le_of_ble_eq_true rfl, Nat.le_of_ble_eq_true rfl⟩) hP hD hS hA [] [0, 1] rfl rfl rfl (by decide) (fun r_118 w H locs hw hP hD hS => ?_)
                obtain ⟨br_118, er_118, rfl⟩ := hw
                have hP : va_P V.1 vwCl [(z 0, .inr (10, mo z pz0_0 pz0_5 pz0_6 pz0_7 pz0_8 pz0_9 pz0_10 pz0_11 pz0_12 pz0_13 pz0_14 pz0_18 pz0_19 pz0_22 pz0_23 pz0_29)), (z 1, aI V 3075 fz1)] H := hP
                have hD : va_D A [(z 0, .inr (10, mo z pz0_0 pz0_5 pz0_6 pz0_7 pz0_8 pz0_9 pz0_10 pz0_11 pz0_12 pz0_13 pz0_14 pz0_18 pz0_19 pz0_22 pz0_23 pz0_29)), (z 1, aI V 3075 fz1)] := hD
                refine lv_iload_n hx hb dX10_leastIn_19 rfl (lv_at hl 1 rfl) ?_
                refine lv_icmp_ge (tgt := 31) hx hb dX10_leastIn_20 (by decide) (fun c_119 => ?_) (fun c_119 => ?_)
                · refine lv_iload_n hx hb dX10_leastIn_31 rfl (lv_at hl 1 rfl) ?_
                  refine lv_istore_n (lv' := [(2, .int r_77), (3, .int 3), (0, .ref (z 0)), (1, .int a1)]) hx hb dX10_leastIn_32 rfl hl (by decide) rfl (fun ls hl => ?_)
                  refine lv_iinc (v := 4) (lv' := [(3, .int 4), (2, .int r_77), (0, .ref (z 0)), (1, .int a1)]) hx hb dX10_leastIn_33 hl (k := 1) rfl (by decide +kernel) (by decide) rfl (fun ls hl => ?_)
                  refine lv_goto (tgt := 4) hx hb dX10_leastIn_36 (by decide) ?_
                  refine lv_iload_n hx hb dX10_leastIn_4 rfl (lv_at hl 0 rfl) ?_
                  refine lv_aload_n hx hb dX10_leastIn_5 rfl (lv_at hl 2 rfl) ?_
                  refine va_get (ci := 10) (v := .ref (z 1)) (C := RX10) (T := TX10) (N := 40) hx hb hg inX10 hown hK hP 0 rfl rfl 1 (by decide) (hg _ q_5_225) (fun _ h9 => h9) rfl dX10_leastIn_6 ?_
                  refine lv_iconst (v := 1) hx hb dX10_leastIn_9 (by decide) ?_
                  refine va_iald hx hb hK hP 1 0 rfl rfl (vin (by decide +kernel)) dX10_leastIn_10 ?_
                  refine tpi (y := x_1) ex_1.symm ?_
                  refine lv_icmp_ge (tgt := 39) hx hb dX10_leastIn_11 (by decide) (fun _ => ?_) (fun c_120 => absurd (iv_le b_117 (iv_c (4 : Int32) (a := 4) (b := 4) (by decide)) (by decide)) c_120)
                  refine lv_iload_n hx hb dX10_leastIn_39 rfl (lv_at hl 1 rfl) ?_
                  exact fiI hx hb hr hlk hK hP hD hS dX10_leastIn_40 (Nat.le_of_ble_eq_true rfl) (Nat.le_of_ble_eq_true rfl) (⟨(iv_w b_107 (by decide)), (by rw [lsF_4 (show fz1 1 = 4 from (ex_1.symm.trans (iv_eqp b_117 (iv_c (4 : Int32) (by decide))))), ← er_5, mn_t (Int32.not_le.mp c_6), ← er_77, mn_t (Int32.not_le.mp c_78), ← er_113, mn_f (Int32.not_lt.mpr c_114), ← er_118, mn_f (Int32.not_lt.mpr c_119)]), rfl⟩)
                · have b_121 : iv 0 1 r_118 := iv_l1 (Int32.not_le.mp c_119) br_118 b_107 (by decide)
                  have b_122 : iv 1 2 r_77 := iv_l2 (Int32.not_le.mp c_119) br_118 b_107 (by decide)
                  refine lv_iload_n hx hb dX10_leastIn_23 rfl (lv_at hl 3 rfl) ?_
                  refine lv_iload_n hx hb dX10_leastIn_24 rfl (lv_at hl 0 rfl) ?_
                  refine jnI (wr := [(z 0, .inr (10, mo z pz0_0 pz0_5 pz0_6 pz0_7 pz0_8 pz0_9 pz0_10 pz0_11 pz0_12 pz0_13 pz0_14 pz0_18 pz0_19 pz0_22 pz0_23 pz0_29)), (z 1, aI V 3075 fz1)]) (rnS (rest := []) ⟨hx, hb, hml, hown, hg⟩ (k_X10_stackIn_0 l V a1 3 ba1 (iv_c (3 : Int32) (by decide))) mt_X10_stackIn q_7_26 ⟨Nat.le_of_ble_eq_true rfl, Nat.le_of_ble_eq_true rfl⟩ hK hP hD hS hA hE [] rfl rfl rfl hl.1 rfl (Nat.le_of_ble_eq_true rfl) dX10_leastIn_25 ⟨Nat.le_of_ble_eq_true rfl, Nat.le_of_ble_eq_true rfl⟩) hP hD hS hA [] [0, 1] rfl rfl rfl (by decide) (fun r_123 w H locs hw hP hD hS => ?_)
                  obtain ⟨br_123, er_123, rfl⟩ := hw
                  have e9_r_123 : r_123 = r_118 := er_123.trans er_118.symm
                  rw [e9_r_123]
                  have hP : va_P V.1 vwCl [(z 0, .inr (10, mo z pz0_0 pz0_5 pz0_6 pz0_7 pz0_8 pz0_9 pz0_10 pz0_11 pz0_12 pz0_13 pz0_14 pz0_18 pz0_19 pz0_22 pz0_23 pz0_29)), (z 1, aI V 3075 fz1)] H := hP
                  have hD : va_D A [(z 0, .inr (10, mo z pz0_0 pz0_5 pz0_6 pz0_7 pz0_8 pz0_9 pz0_10 pz0_11 pz0_12 pz0_13 pz0_14 pz0_18 pz0_19 pz0_22 pz0_23 pz0_29)), (z 1, aI V 3075 fz1)] := hD
                  refine lv_goto (tgt := 32) hx hb dX10_leastIn_28 (by decide) ?_
                  refine lv_istore_n (lv' := [(2, .int r_118), (3, .int 3), (0, .ref (z 0)), (1, .int a1)]) hx hb dX10_leastIn_32 rfl hl (by decide) rfl (fun ls hl => ?_)
                  refine lv_iinc (v := 4) (lv' := [(3, .int 4), (2, .int r_118), (0, .ref (z 0)), (1, .int a1)]) hx hb dX10_leastIn_33 hl (k := 1) rfl (by decide +kernel) (by decide) rfl (fun ls hl => ?_)
                  refine lv_goto (tgt := 4) hx hb dX10_leastIn_36 (by decide) ?_
                  refine lv_iload_n hx hb dX10_leastIn_4 rfl (lv_at hl 0 rfl) ?_
                  refine lv_aload_n hx hb dX10_leastIn_5 rfl (lv_at hl 2 rfl) ?_
                  refine va_get (ci := 10) (v := .ref (z 1)) (C := RX10) (T := TX10) (N := 40) hx hb hg inX10 hown hK hP 0 rfl rfl 1 (by decide) (hg _ q_5_225) (fun _ h9 => h9) rfl dX10_leastIn_6 ?_
                  refine lv_iconst (v := 1) hx hb dX10_leastIn_9 (by decide) ?_
                  refine va_iald hx hb hK hP 1 0 rfl rfl (vin (by decide +kernel)) dX10_leastIn_10 ?_
                  refine tpi (y := x_1) ex_1.symm ?_
                  refine lv_icmp_ge (tgt := 39) hx hb dX10_leastIn_11 (by decide) (fun _ => ?_) (fun c_124 => absurd (iv_le b_117 (iv_c (4 : Int32) (a := 4) (b := 4) (by decide)) (by decide)) c_124)
                  refine lv_iload_n hx hb dX10_leastIn_39 rfl (lv_at hl 1 rfl) ?_
                  exact fiI hx hb hr hlk hK hP hD hS dX10_leastIn_40 (Nat.le_of_ble_eq_true rfl) (Nat.le_of_ble_eq_true rfl) (⟨(iv_w b_121 (by decide)), (by rw [lsF_4 (show fz1 1 = 4 from (ex_1.symm.trans (iv_eqp b_117 (iv_c (4 : Int32) (by decide))))), ← er_5, mn_t (Int32.not_le.mp c_6), ← er_77, mn_t (Int32.not_le.mp c_78), ← er_113, mn_f (Int32.not_lt.mpr c_114), ← er_118, mn_t (Int32.not_le.mp c_119)]), rfl⟩)
            · have b_125 : iv 0 1 r_113 := iv_l1 (Int32.not_le.mp c_114) br_113 b_107 (by decide)
              have b_126 : iv 1 2 r_77 := iv_l2 (Int32.not_le.mp c_114) br_113 b_107 (by decide)
              refine lv_iload_n hx hb dX10_leastIn_23 rfl (lv_at hl 3 rfl) ?_
              refine lv_iload_n hx hb dX10_leastIn_24 rfl (lv_at hl 0 rfl) ?_
              refine jnI (wr := [(z 0, .inr (10, mo z pz0_0 pz0_5 pz0_6 pz0_7 pz0_8 pz0_9 pz0_10 pz0_11 pz0_12 pz0_13 pz0_14 pz0_18 pz0_19 pz0_22 pz0_23 pz0_29)), (z 1, aI V 3075 fz1)]) (rnS (rest := []) ⟨hx, hb, hml, hown, hg⟩ (k_X10_stackIn_0 l V a1 2 ba1 (iv_c (2 : Int32) (by decide))) mt_X10_stackIn q_7_26 ⟨Nat.le_of_ble_eq_true rfl, Nat.le_of_ble_eq_true rfl⟩ hK hP hD hS hA hE [] rfl rfl rfl hl.1 rfl (Nat.le_of_ble_eq_true rfl) dX10_leastIn_25 ⟨Nat.le_of_ble_eq_true rfl, Nat.le_of_ble_eq_true rfl⟩) hP hD hS hA [] [0, 1] rfl rfl rfl (by decide) (fun r_127 w H locs hw hP hD hS => ?_)
              obtain ⟨br_127, er_127, rfl⟩ := hw
              have e9_r_127 : r_127 = r_113 := er_127.trans er_113.symm
              rw [e9_r_127]
              have hP : va_P V.1 vwCl [(z 0, .inr (10, mo z pz0_0 pz0_5 pz0_6 pz0_7 pz0_8 pz0_9 pz0_10 pz0_11 pz0_12 pz0_13 pz0_14 pz0_18 pz0_19 pz0_22 pz0_23 pz0_29)), (z 1, aI V 3075 fz1)] H := hP
              have hD : va_D A [(z 0, .inr (10, mo z pz0_0 pz0_5 pz0_6 pz0_7 pz0_8 pz0_9 pz0_10 pz0_11 pz0_12 pz0_13 pz0_14 pz0_18 pz0_19 pz0_22 pz0_23 pz0_29)), (z 1, aI V 3075 fz1)] := hD
              refine lv_goto (tgt := 32) hx hb dX10_leastIn_28 (by decide) ?_
              refine lv_istore_n (lv' := [(2, .int r_113), (3, .int 2), (0, .ref (z 0)), (1, .int a1)]) hx hb dX10_leastIn_32 rfl hl (by decide) rfl (fun ls hl => ?_)
              refine lv_iinc (v := 3) (lv' := [(3, .int 3), (2, .int r_113), (0, .ref (z 0)), (1, .int a1)]) hx hb dX10_leastIn_33 hl (k := 1) rfl (by decide +kernel) (by decide) rfl (fun ls hl => ?_)
              refine lv_goto (tgt := 4) hx hb dX10_leastIn_36 (by decide) ?_
              refine lv_iload_n hx hb dX10_leastIn_4 rfl (lv_at hl 0 rfl) ?_
              refine lv_aload_n hx hb dX10_leastIn_5 rfl (lv_at hl 2 rfl) ?_
              refine va_get (ci := 10) (v := .ref (z 1)) (C := RX10) (T := TX10) (N := 40) hx hb hg inX10 hown hK hP 0 rfl rfl 1 (by decide) (hg _ q_5_225) (fun _ h9 => h9) rfl dX10_leastIn_6 ?_
              refine lv_iconst (v := 1) hx hb dX10_leastIn_9 (by decide) ?_
              refine va_iald hx hb hK hP 1 0 rfl rfl (vin (by decide +kernel)) dX10_leastIn_10 ?_
              refine tpi (y := x_1) ex_1.symm ?_
              refine lv_icmp_ge (tgt := 39) hx hb dX10_leastIn_11 (by decide) (fun c_128 => ?_) (fun c_128 => ?_)
              · have b_129 : iv 3 3 x_1 := iv_e1 c_128 b_112 (iv_c (3 : Int32) (a := 3) (b := 3) (by decide)) (by decide)
                refine lv_iload_n hx hb dX10_leastIn_39 rfl (lv_at hl 1 rfl) ?_
                exact fiI hx hb hr hlk hK hP hD hS dX10_leastIn_40 (Nat.le_of_ble_eq_true rfl) (Nat.le_of_ble_eq_true rfl) (⟨(iv_w b_125 (by decide)), (by rw [lsF_3 (show fz1 1 = 3 from (ex_1.symm.trans (iv_eqp b_129 (iv_c (3 : Int32) (by decide))))), ← er_5, mn_t (Int32.not_le.mp c_6), ← er_77, mn_t (Int32.not_le.mp c_78), ← er_113, mn_t (Int32.not_le.mp c_114)]), rfl⟩)
              · have b_130 : iv 4 4 x_1 := iv_l2 (Int32.not_le.mp c_128) (iv_c (3 : Int32) (a := 3) (b := 3) (by decide)) b_112 (by decide)
                refine lv_iload_n hx hb dX10_leastIn_14 rfl (lv_at hl 3 rfl) ?_
                refine lv_iload_n hx hb dX10_leastIn_15 rfl (lv_at hl 0 rfl) ?_
                refine jnI (wr := [(z 0, .inr (10, mo z pz0_0 pz0_5 pz0_6 pz0_7 pz0_8 pz0_9 pz0_10 pz0_11 pz0_12 pz0_13 pz0_14 pz0_18 pz0_19 pz0_22 pz0_23 pz0_29)), (z 1, aI V 3075 fz1)]) (rnS (rest := []) ⟨hx, hb, hml, hown, hg⟩ (k_X10_stackIn_0 l V a1 3 ba1 (iv_c (3 : Int32) (by decide))) mt_X10_stackIn q_7_26 ⟨Nat.le_of_ble_eq_true rfl, Nat.le_of_ble_eq_true rfl⟩ hK hP hD hS hA hE [] rfl rfl rfl hl.1 rfl (Nat.le_of_ble_eq_true rfl) dX10_leastIn_16 ⟨Nat.le_of_ble_eq_true rfl, Nat.le_of_ble_eq_true rfl⟩) hP hD hS hA [] [0, 1] rfl rfl rfl (by decide) (fun r_131 w H locs hw hP hD hS => ?_)
                obtain ⟨br_131, er_131, rfl⟩ := hw
                have hP : va_P V.1 vwCl [(z 0, .inr (10, mo z pz0_0 pz0_5 pz0_6 pz0_7 pz0_8 pz0_9 pz0_10 pz0_11 pz0_12 pz0_13 pz0_14 pz0_18 pz0_19 pz0_22 pz0_23 pz0_29)), (z 1, aI V 3075 fz1)] H := hP
                have hD : va_D A [(z 0, .inr (10, mo z pz0_0 pz0_5 pz0_6 pz0_7 pz0_8 pz0_9 pz0_10 pz0_11 pz0_12 pz0_13 pz0_14 pz0_18 pz0_19 pz0_22 pz0_23 pz0_29)), (z 1, aI V 3075 fz1)] := hD
                refine lv_iload_n hx hb dX10_leastIn_19 rfl (lv_at hl 1 rfl) ?_
                refine lv_icmp_ge (tgt := 31) hx hb dX10_leastIn_20 (by decide) (fun c_132 => ?_) (fun c_132 => ?_)
                · refine lv_iload_n hx hb dX10_leastIn_31 rfl (lv_at hl 1 rfl) ?_
                  refine lv_istore_n (lv' := [(2, .int r_113), (3, .int 3), (0, .ref (z 0)), (1, .int a1)]) hx hb dX10_leastIn_32 rfl hl (by decide) rfl (fun ls hl => ?_)
                  refine lv_iinc (v := 4) (lv' := [(3, .int 4), (2, .int r_113), (0, .ref (z 0)), (1, .int a1)]) hx hb dX10_leastIn_33 hl (k := 1) rfl (by decide +kernel) (by decide) rfl (fun ls hl => ?_)
                  refine lv_goto (tgt := 4) hx hb dX10_leastIn_36 (by decide) ?_
                  refine lv_iload_n hx hb dX10_leastIn_4 rfl (lv_at hl 0 rfl) ?_
                  refine lv_aload_n hx hb dX10_leastIn_5 rfl (lv_at hl 2 rfl) ?_
                  refine va_get (ci := 10) (v := .ref (z 1)) (C := RX10) (T := TX10) (N := 40) hx hb hg inX10 hown hK hP 0 rfl rfl 1 (by decide) (hg _ q_5_225) (fun _ h9 => h9) rfl dX10_leastIn_6 ?_
                  refine lv_iconst (v := 1) hx hb dX10_leastIn_9 (by decide) ?_
                  refine va_iald hx hb hK hP 1 0 rfl rfl (vin (by decide +kernel)) dX10_leastIn_10 ?_
                  refine tpi (y := x_1) ex_1.symm ?_
                  refine lv_icmp_ge (tgt := 39) hx hb dX10_leastIn_11 (by decide) (fun _ => ?_) (fun c_133 => absurd (iv_le b_130 (iv_c (4 : Int32) (a := 4) (b := 4) (by decide)) (by decide)) c_133)
                  refine lv_iload_n hx hb dX10_leastIn_39 rfl (lv_at hl 1 rfl) ?_
                  exact fiI hx hb hr hlk hK hP hD hS dX10_leastIn_40 (Nat.le_of_ble_eq_true rfl) (Nat.le_of_ble_eq_true rfl) (⟨(iv_w b_125 (by decide)), (by rw [lsF_4 (show fz1 1 = 4 from (ex_1.symm.trans (iv_eqp b_130 (iv_c (4 : Int32) (by decide))))), ← er_5, mn_t (Int32.not_le.mp c_6), ← er_77, mn_t (Int32.not_le.mp c_78), ← er_113, mn_t (Int32.not_le.mp c_114), ← er_131, mn_f (Int32.not_lt.mpr c_132)]), rfl⟩)
                · have b_134 : iv 0 0 r_131 := iv_l1 (Int32.not_le.mp c_132) br_131 b_125 (by decide)
                  have b_135 : iv 1 1 r_113 := iv_l2 (Int32.not_le.mp c_132) br_131 b_125 (by decide)
                  refine lv_iload_n hx hb dX10_leastIn_23 rfl (lv_at hl 3 rfl) ?_
                  refine lv_iload_n hx hb dX10_leastIn_24 rfl (lv_at hl 0 rfl) ?_
                  refine jnI (wr := [(z 0, .inr (10, mo z pz0_0 pz0_5 pz0_6 pz0_7 pz0_8 pz0_9 pz0_10 pz0_11 pz0_12 pz0_13 pz0_14 pz0_18 pz0_19 pz0_22 pz0_23 pz0_29)), (z 1, aI V 3075 fz1)]) (rnS (rest := []) ⟨hx, hb, hml, hown, hg⟩ (k_X10_stackIn_0 l V a1 3 ba1 (iv_c (3 : Int32) (by decide))) mt_X10_stackIn q_7_26 ⟨Nat.le_of_ble_eq_true rfl, Nat.le_of_ble_eq_true rfl⟩ hK hP hD hS hA hE [] rfl rfl rfl hl.1 rfl (Nat.le_of_ble_eq_true rfl) dX10_leastIn_25 ⟨Nat.le_of_ble_eq_true rfl, Nat.le_of_ble_eq_true rfl⟩) hP hD hS hA [] [0, 1] rfl rfl rfl (by decide) (fun r_136 w H locs hw hP hD hS => ?_)
                  obtain ⟨br_136, er_136, rfl⟩ := hw
                  have e9_r_136 : r_136 = r_131 := er_136.trans er_131.symm
                  rw [e9_r_136]
                  have hP : va_P V.1 vwCl [(z 0, .inr (10, mo z pz0_0 pz0_5 pz0_6 pz0_7 pz0_8 pz0_9 pz0_10 pz0_11 pz0_12 pz0_13 pz0_14 pz0_18 pz0_19 pz0_22 pz0_23 pz0_29)), (z 1, aI V 3075 fz1)] H := hP
                  have hD : va_D A [(z 0, .inr (10, mo z pz0_0 pz0_5 pz0_6 pz0_7 pz0_8 pz0_9 pz0_10 pz0_11 pz0_12 pz0_13 pz0_14 pz0_18 pz0_19 pz0_22 pz0_23 pz0_29)), (z 1, aI V 3075 fz1)] := hD
                  refine lv_goto (tgt := 32) hx hb dX10_leastIn_28 (by decide) ?_
                  refine lv_istore_n (lv' := [(2, .int r_131), (3, .int 3), (0, .ref (z 0)), (1, .int a1)]) hx hb dX10_leastIn_32 rfl hl (by decide) rfl (fun ls hl => ?_)
                  refine lv_iinc (v := 4) (lv' := [(3, .int 4), (2, .int r_131), (0, .ref (z 0)), (1, .int a1)]) hx hb dX10_leastIn_33 hl (k := 1) rfl (by decide +kernel) (by decide) rfl (fun ls hl => ?_)
                  refine lv_goto (tgt := 4) hx hb dX10_leastIn_36 (by decide) ?_
                  refine lv_iload_n hx hb dX10_leastIn_4 rfl (lv_at hl 0 rfl) ?_
                  refine lv_aload_n hx hb dX10_leastIn_5 rfl (lv_at hl 2 rfl) ?_
                  refine va_get (ci := 10) (v := .ref (z 1)) (C := RX10) (T := TX10) (N := 40) hx hb hg inX10 hown hK hP 0 rfl rfl 1 (by decide) (hg _ q_5_225) (fun _ h9 => h9) rfl dX10_leastIn_6 ?_
                  refine lv_iconst (v := 1) hx hb dX10_leastIn_9 (by decide) ?_
                  refine va_iald hx hb hK hP 1 0 rfl rfl (vin (by decide +kernel)) dX10_leastIn_10 ?_
                  refine tpi (y := x_1) ex_1.symm ?_
                  refine lv_icmp_ge (tgt := 39) hx hb dX10_leastIn_11 (by decide) (fun _ => ?_) (fun c_137 => absurd (iv_le b_130 (iv_c (4 : Int32) (a := 4) (b := 4) (by decide)) (by decide)) c_137)
                  refine lv_iload_n hx hb dX10_leastIn_39 rfl (lv_at hl 1 rfl) ?_
                  exact fiI hx hb hr hlk hK hP hD hS dX10_leastIn_40 (Nat.le_of_ble_eq_true rfl) (Nat.le_of_ble_eq_true rfl) (⟨(iv_w b_134 (by decide)), (by rw [lsF_4 (show fz1 1 = 4 from (ex_1.symm.trans (iv_eqp b_130 (iv_c (4 : Int32) (by decide))))), ← er_5, mn_t (Int32.not_le.mp c_6), ← er_77, mn_t (Int32.not_le.mp c_78), ← er_113, mn_t (Int32.not_le.mp c_114), ← er_131, mn_t (Int32.not_le.mp c_132)]), rfl⟩)
theorem dX10_keptBy_0 : decode cX10_keptBy 0 = .ok (.aload_n 0, 1) := by decide +kernel
theorem dX10_keptBy_1 : decode cX10_keptBy 1 = .ok (.getfield 49, 3) := by decide +kernel
theorem dX10_keptBy_4 : decode cX10_keptBy 4 = .ok (.iconst 4, 1) := by decide +kernel
theorem dX10_keptBy_5 : decode cX10_keptBy 5 = .ok (.iload_n 1, 1) := by decide +kernel
theorem dX10_keptBy_6 : decode cX10_keptBy 6 = .ok (.imul, 1) := by decide +kernel
theorem dX10_keptBy_7 : decode cX10_keptBy 7 = .ok (.iload_n 2, 1) := by decide +kernel
theorem dX10_keptBy_8 : decode cX10_keptBy 8 = .ok (.iadd, 1) := by decide +kernel
theorem dX10_keptBy_9 : decode cX10_keptBy 9 = .ok (.iaload, 1) := by decide +kernel
theorem dX10_keptBy_10 : decode cX10_keptBy 10 = .ok (.istore 4, 2) := by decide +kernel
theorem dX10_keptBy_12 : decode cX10_keptBy 12 = .ok (.iload 4, 2) := by decide +kernel
theorem dX10_keptBy_14 : decode cX10_keptBy 14 = .ok (.iconst (-1), 1) := by decide +kernel
theorem dX10_keptBy_15 : decode cX10_keptBy 15 = .ok (.if_icmp .eq 13, 3) := by decide +kernel
theorem dX10_keptBy_28 : decode cX10_keptBy 28 = .ok (.iconst (-1), 1) := by decide +kernel
theorem dX10_keptBy_29 : decode cX10_keptBy 29 = .ok (.goto 31, 3) := by decide +kernel
theorem dX10_keptBy_60 : decode cX10_keptBy 60 = .ok (.ireturn, 1) := by decide +kernel
theorem dX10_keptBy_18 : decode cX10_keptBy 18 = .ok (.aload_n 0, 1) := by decide +kernel
theorem dX10_keptBy_19 : decode cX10_keptBy 19 = .ok (.iload 4, 2) := by decide +kernel
theorem q_8_3 : Cond.code yX10_leastIn prog_12_method_42_code 4 (some FieldType.int) ∈ gw := gw_8 (i := 3) (rfl) rfl
theorem q_8_2 : Cond.instanceMethod yX10_leastIn ∈ gw := gw_8 (i := 2) (by decide +kernel) rfl
theorem q_s_112 : Cond.selects "BeaconDelayModel" yX10_leastIn yX10_leastIn ∈ gw := gw_s (i := 112) (by decide +kernel) rfl
theorem mt_X10_leastIn : MtV yX10_leastIn cX10_leastIn 4 (some .int) 1 := ⟨⟨q_8_3, q_1_9, by decide +kernel, by decide +kernel, by decide +kernel⟩, q_8_2, q_s_112⟩
theorem q_8_0 : Cond.methodLink "BeaconDelayModel" 396 yX10_leastIn ∈ gw := gw_8 (i := 0) (by decide +kernel) rfl
theorem dX10_keptBy_21 : decode cX10_keptBy 21 = .ok (.invokevirtual 396, 3) := by decide +kernel
theorem dX10_keptBy_24 : decode cX10_keptBy 24 = .ok (.iload_n 3, 1) := by decide +kernel
theorem dX10_keptBy_25 : decode cX10_keptBy 25 = .ok (.if_icmp .ge 7, 3) := by decide +kernel
theorem dX10_keptBy_32 : decode cX10_keptBy 32 = .ok (.aload_n 0, 1) := by decide +kernel
theorem dX10_keptBy_33 : decode cX10_keptBy 33 = .ok (.getfield 52, 3) := by decide +kernel
theorem dX10_keptBy_36 : decode cX10_keptBy 36 = .ok (.iload 4, 2) := by decide +kernel
theorem dX10_keptBy_38 : decode cX10_keptBy 38 = .ok (.iaload, 1) := by decide +kernel
theorem dX10_keptBy_39 : decode cX10_keptBy 39 = .ok (.ldc_w 361, 3) := by decide +kernel
theorem dX10_keptBy_42 : decode cX10_keptBy 42 = .ok (.if_icmp .ne 9, 3) := by decide +kernel
theorem dX10_keptBy_51 : decode cX10_keptBy 51 = .ok (.aload_n 0, 1) := by decide +kernel
theorem dX10_keptBy_52 : decode cX10_keptBy 52 = .ok (.getfield 52, 3) := by decide +kernel
theorem dX10_keptBy_55 : decode cX10_keptBy 55 = .ok (.iload 4, 2) := by decide +kernel
theorem dX10_keptBy_57 : decode cX10_keptBy 57 = .ok (.iaload, 1) := by decide +kernel
theorem dX10_keptBy_58 : decode cX10_keptBy 58 = .ok (.iconst 1, 1) := by decide +kernel
theorem dX10_keptBy_59 : decode cX10_keptBy 59 = .ok (.iadd, 1) := by decide +kernel
theorem dX10_keptBy_45 : decode cX10_keptBy 45 = .ok (.ldc_w 361, 3) := by decide +kernel
theorem dX10_keptBy_48 : decode cX10_keptBy 48 = .ok (.goto 12, 3) := by decide +kernel
set_option maxHeartbeats 4000000 in
set_option maxRecDepth 100000 in
theorem k_X10_keptBy_0 (l : Launch) (V : GV) (z : Nat → Nat) (a1 : Int32) (a2 : Int32) (a3 : Int32) (fz26 : Nat → Int32) (fz25 : Nat → Int32) (pz0_0 : Int32) (pz0_5 : Int32) (pz0_6 : Int32) (pz0_7 : Int32) (pz0_8 : Int32) (pz0_9 : Int32) (pz0_10 : Int32) (pz0_11 : Int32) (pz0_12 : Int32) (pz0_13 : Int32) (pz0_14 : Int32) (pz0_18 : Int32) (pz0_19 : Int32) (pz0_22 : Int32) (pz0_23 : Int32) (pz0_29 : Int32) (fz1 : Nat → Int32) (ba1 : iv 0 9999 a1) (ba2 : iv 0 3 a2) (tfz26 : ∀ j, iv 0 268435456 (fz26 j)) (tfz25 : ∀ j, iv (-1) 9999 (fz25 j)) (bpz0_5 : iv 0 900 pz0_5) (bpz0_6 : iv 0 900 pz0_6) (bpz0_7 : iv 0 900 pz0_7) (bpz0_8 : iv 0 900 pz0_8) (bpz0_10 : iv 0 999 pz0_10) (bpz0_11 : iv 0 4 pz0_11) (bpz0_12 : iv 0 900 pz0_12) (bpz0_13 : iv 0 4 pz0_13) (bpz0_14 : iv (-1) 900 pz0_14) (bpz0_18 : iv 0 2 pz0_18) (bpz0_22 : iv 0 9999 pz0_22) (bpz0_29 : iv 0 10000 pz0_29) (tfz1 : ivT tA fz1) : Ct l V yX10_keptBy (.code yX10_keptBy cX10_keptBy 5 (some .int)) 4 [.ref (z 0), .int a1, .int a2, .int a3] [(z 26, aI V 10000 fz26), (z 25, aI V 40000 fz25), (z 0, .inr (10, mo z pz0_0 pz0_5 pz0_6 pz0_7 pz0_8 pz0_9 pz0_10 pz0_11 pz0_12 pz0_13 pz0_14 pz0_18 pz0_19 pz0_22 pz0_23 pz0_29)), (z 1, aI V 3075 fz1)] 0 0 (QI V (fun (r : Int32) (w : va_W) => iv (-1) 268435456 r ∧ r = kN fz25 fz26 fz1 a1 a2 a3 ∧ w = [(z 26, aI V 10000 fz26), (z 25, aI V 40000 fz25), (z 0, .inr (10, mo z pz0_0 pz0_5 pz0_6 pz0_7 pz0_8 pz0_9 pz0_10 pz0_11 pz0_12 pz0_13 pz0_14 pz0_18 pz0_19 pz0_22 pz0_23 pz0_29)), (z 1, aI V 3075 fz1)])) := by
  refine Ct.of (by decide) (Nat.le_of_ble_eq_true rfl) (fun p e s m below meth c A ls hx hb hr hml hown hlk hnm hg hP hK hD hE hA hS hl => ?_)
  have hl : lv_has ls 5 [(0, .ref (z 0)), (1, .int a1), (2, .int a2), (3, .int a3)] := hl
  refine lv_aload_n hx hb dX10_keptBy_0 rfl (lv_at hl 0 rfl) ?_
  refine va_get (ci := 10) (v := .ref (z 25)) (C := RX10) (T := TX10) (N := 40) hx hb hg inX10 hown hK hP 2 rfl rfl 25 (by decide) (hg _ q_6_9) (fun _ h9 => h9) rfl dX10_keptBy_1 ?_
  refine lv_iconst (v := 4) hx hb dX10_keptBy_4 (by decide) ?_
  refine lv_iload_n hx hb dX10_keptBy_5 rfl (lv_at hl 1 rfl) ?_
  refine lv_imul hx hb dX10_keptBy_6 ?_
  refine lv_topi (fun x_1 ex_1 => ?_)
  have bx_1 : iv 0 39996 x_1 := by rw [ex_1]; exact iv_cmul (iv_c (4 : Int32) (a := 4) (b := 4) (by decide)) ba1 (by decide)
  refine lv_iload_n hx hb dX10_keptBy_7 rfl (lv_at hl 2 rfl) ?_
  refine lv_iadd hx hb dX10_keptBy_8 ?_
  refine lv_topi (fun x_2 ex_2 => ?_)
  have bx_2 : iv 0 39999 x_2 := by rw [ex_2]; exact iv_add bx_1 ba2 (by decide)
  refine va_iald hx hb hK hP 1 0 rfl rfl (iv_in bx_2 (by decide)) dX10_keptBy_9 ?_
  refine lv_topi (fun x_3 ex_3 => ?_)
  have bx_3 : iv (-1) 9999 x_3 := by rw [ex_3]; exact tfz25 _
  refine lv_istore (lv' := [(4, .int x_3), (0, .ref (z 0)), (1, .int a1), (2, .int a2), (3, .int a3)]) hx hb dX10_keptBy_10 hl (by decide) rfl (fun ls hl => ?_)
  refine lv_iload hx hb dX10_keptBy_12 (lv_at hl 0 rfl) ?_
  refine lv_iconst (v := (-1)) hx hb dX10_keptBy_14 (by decide) ?_
  refine lv_icmp_eq (tgt := 28) hx hb dX10_keptBy_15 (by decide) (fun c_4 => ?_) (fun c_4 => ?_)
  · have b_5 : iv (-1) (-1) x_3 := iv_q c_4 (iv_c ((-1) : Int32) (a := (-1)) (b := (-1)) (by decide))
    refine lv_iconst (v := (-1)) hx hb dX10_keptBy_28 (by decide) ?_
    refine lv_goto (tgt := 60) hx hb dX10_keptBy_29 (by decide) ?_
    exact fiI hx hb hr hlk hK hP hD hS dX10_keptBy_60 (Nat.le_of_ble_eq_true rfl) (Nat.le_of_ble_eq_true rfl) (⟨(iv_c ((-1) : Int32) (by decide)), (kN_a ex_1 ex_2 ex_3 c_4), rfl⟩)
  · have b_6 : iv 0 9999 x_3 := iv_n0 c_4 bx_3 (iv_c ((-1) : Int32) (a := (-1)) (b := (-1)) (by decide)) (by decide)
    refine lv_aload_n hx hb dX10_keptBy_18 rfl (lv_at hl 1 rfl) ?_
    refine lv_iload hx hb dX10_keptBy_19 (lv_at hl 0 rfl) ?_
    refine jnI (wr := [(z 26, aI V 10000 fz26), (z 25, aI V 40000 fz25)]) (rnV (rest := []) ⟨hx, hb, hml, hown, hg⟩ (k_X10_leastIn_0 l V z x_3 pz0_0 pz0_5 pz0_6 pz0_7 pz0_8 pz0_9 pz0_10 pz0_11 pz0_12 pz0_13 pz0_14 pz0_18 pz0_19 pz0_22 pz0_23 pz0_29 fz1 b_6 bpz0_5 bpz0_6 bpz0_7 bpz0_8 bpz0_10 bpz0_11 bpz0_12 bpz0_13 bpz0_14 bpz0_18 bpz0_22 bpz0_29 tfz1) mt_X10_leastIn q_8_0 ⟨Nat.le_of_ble_eq_true rfl, Nat.le_of_ble_eq_true rfl⟩ hK hP hD hS hA hE [2, 3] rfl rfl 2 rfl rfl rfl rfl hl.1 rfl (Nat.le_of_ble_eq_true rfl) dX10_keptBy_21 ⟨Nat.le_of_ble_eq_true rfl, Nat.le_of_ble_eq_true rfl⟩) hP hD hS hA [2, 3] [0, 1] rfl rfl rfl (by decide) (fun r_7 w H locs hw hP hD hS => ?_)
    obtain ⟨br_7, er_7, rfl⟩ := hw
    have hP : va_P V.1 vwCl [(z 26, aI V 10000 fz26), (z 25, aI V 40000 fz25), (z 0, .inr (10, mo z pz0_0 pz0_5 pz0_6 pz0_7 pz0_8 pz0_9 pz0_10 pz0_11 pz0_12 pz0_13 pz0_14 pz0_18 pz0_19 pz0_22 pz0_23 pz0_29)), (z 1, aI V 3075 fz1)] H := hP
    have hD : va_D A [(z 26, aI V 10000 fz26), (z 25, aI V 40000 fz25), (z 0, .inr (10, mo z pz0_0 pz0_5 pz0_6 pz0_7 pz0_8 pz0_9 pz0_10 pz0_11 pz0_12 pz0_13 pz0_14 pz0_18 pz0_19 pz0_22 pz0_23 pz0_29)), (z 1, aI V 3075 fz1)] := hD
    refine lv_iload_n hx hb dX10_keptBy_24 rfl (lv_at hl 4 rfl) ?_
    refine lv_icmp_ge (tgt := 32) hx hb dX10_keptBy_25 (by decide) (fun c_8 => ?_) (fun c_8 => ?_)
    · have b_9 : iv (-2147483648) 4 a3 := iv_e1 c_8 (iv_top a3) br_7 (by decide)
      refine lv_aload_n hx hb dX10_keptBy_32 rfl (lv_at hl 1 rfl) ?_
      refine va_get (ci := 10) (v := .ref (z 26)) (C := RX10) (T := TX10) (N := 40) hx hb hg inX10 hown hK hP 2 rfl rfl 26 (by decide) (hg _ q_6_10) (fun _ h9 => h9) rfl dX10_keptBy_33 ?_
      refine lv_iload hx hb dX10_keptBy_36 (lv_at hl 0 rfl) ?_
      refine va_iald hx hb hK hP 0 0 rfl rfl (iv_in b_6 (by decide)) dX10_keptBy_38 ?_
      refine lv_topi (fun x_10 ex_10 => ?_)
      have bx_10 : iv 0 268435456 x_10 := by rw [ex_10]; exact tfz26 _
      refine lv_ldcw (v := 268435456) hx hb hown (hg _ q_7_202) dX10_keptBy_39 ?_
      refine lv_icmp_ne (tgt := 51) hx hb dX10_keptBy_42 (by decide) (fun c_11 => ?_) (fun c_11 => ?_)
      · have b_12 : iv 0 268435455 x_10 := iv_n1 c_11 bx_10 (iv_c (268435456 : Int32) (a := 268435456) (b := 268435456) (by decide)) (by decide)
        refine lv_aload_n hx hb dX10_keptBy_51 rfl (lv_at hl 1 rfl) ?_
        refine va_get (ci := 10) (v := .ref (z 26)) (C := RX10) (T := TX10) (N := 40) hx hb hg inX10 hown hK hP 2 rfl rfl 26 (by decide) (hg _ q_6_10) (fun _ h9 => h9) rfl dX10_keptBy_52 ?_
        refine lv_iload hx hb dX10_keptBy_55 (lv_at hl 0 rfl) ?_
        refine va_iald hx hb hK hP 0 0 rfl rfl (iv_in b_6 (by decide)) dX10_keptBy_57 ?_
        refine tpi (y := x_10) ex_10.symm ?_
        refine lv_iconst (v := 1) hx hb dX10_keptBy_58 (by decide) ?_
        refine lv_iadd hx hb dX10_keptBy_59 ?_
        refine lv_topi (fun x_13 ex_13 => ?_)
        have bx_13 : iv 1 268435456 x_13 := by rw [ex_13]; exact iv_add b_12 (iv_c (1 : Int32) (a := 1) (b := 1) (by decide)) (by decide)
        exact fiI hx hb hr hlk hK hP hD hS dX10_keptBy_60 (Nat.le_of_ble_eq_true rfl) (Nat.le_of_ble_eq_true rfl) (⟨(iv_w bx_13 (by decide)), (kN_d ex_1 ex_2 ex_3 c_4 er_7 (Int32.not_lt.mpr c_8) ex_10 c_11 ex_13), rfl⟩)
      · have b_14 : iv 268435456 268435456 x_10 := iv_q c_11 (iv_c (268435456 : Int32) (a := 268435456) (b := 268435456) (by decide))
        refine lv_ldcw (v := 268435456) hx hb hown (hg _ q_7_202) dX10_keptBy_45 ?_
        refine lv_goto (tgt := 60) hx hb dX10_keptBy_48 (by decide) ?_
        exact fiI hx hb hr hlk hK hP hD hS dX10_keptBy_60 (Nat.le_of_ble_eq_true rfl) (Nat.le_of_ble_eq_true rfl) (⟨(iv_c (268435456 : Int32) (by decide)), (kN_c ex_1 ex_2 ex_3 c_4 er_7 (Int32.not_lt.mpr c_8) ex_10 c_11), rfl⟩)
    · have b_15 : iv 1 2147483647 a3 := iv_l2 (Int32.not_le.mp c_8) br_7 (iv_top a3) (by decide)
      refine lv_iconst (v := (-1)) hx hb dX10_keptBy_28 (by decide) ?_
      refine lv_goto (tgt := 60) hx hb dX10_keptBy_29 (by decide) ?_
      exact fiI hx hb hr hlk hK hP hD hS dX10_keptBy_60 (Nat.le_of_ble_eq_true rfl) (Nat.le_of_ble_eq_true rfl) (⟨(iv_c ((-1) : Int32) (by decide)), (kN_b ex_1 ex_2 ex_3 er_7 (Int32.not_le.mp c_8)), rfl⟩)
theorem dX10_keeps_0 : decode cX10_keeps 0 = .ok (.aload_n 0, 1) := by decide +kernel
theorem dX10_keeps_1 : decode cX10_keeps 1 = .ok (.iconst 0, 1) := by decide +kernel
theorem dX10_keeps_2 : decode cX10_keeps 2 = .ok (.putfield 1, 3) := by decide +kernel
theorem dX10_keeps_5 : decode cX10_keeps 5 = .ok (.iload_n 1, 1) := by decide +kernel
theorem dX10_keeps_6 : decode cX10_keeps 6 = .ok (.invokestatic 370, 3) := by decide +kernel
theorem dX10_keeps_9 : decode cX10_keeps 9 = .ok (.ifCond .ne 6, 3) := by decide +kernel
theorem dX10_keeps_15 : decode cX10_keeps 15 = .ok (.aload_n 0, 1) := by decide +kernel
theorem dX10_keeps_16 : decode cX10_keeps 16 = .ok (.invokevirtual 362, 3) := by decide +kernel
theorem dX10_keeps_19 : decode cX10_keeps 19 = .ok (.iconst 0, 1) := by decide +kernel
theorem dX10_keeps_20 : decode cX10_keeps 20 = .ok (.istore_n 2, 1) := by decide +kernel
theorem dX10_keeps_21 : decode cX10_keeps 21 = .ok (.iload_n 2, 1) := by decide +kernel
theorem dX10_keeps_22 : decode cX10_keeps 22 = .ok (.aload_n 0, 1) := by decide +kernel
theorem dX10_keeps_23 : decode cX10_keeps 23 = .ok (.getfield 355, 3) := by decide +kernel
theorem dX10_keeps_26 : decode cX10_keeps 26 = .ok (.if_icmp .ge 23, 3) := by decide +kernel
theorem dX10_keeps_49 : decode cX10_keeps 49 = .ok (.iconst 1, 1) := by decide +kernel
theorem dX10_keeps_50 : decode cX10_keeps 50 = .ok (.istore_n 2, 1) := by decide +kernel
theorem dX10_keeps_51 : decode cX10_keeps 51 = .ok (.iload_n 2, 1) := by decide +kernel
theorem dX10_keeps_52 : decode cX10_keeps 52 = .ok (.ifCond .eq 128, 3) := by decide +kernel
theorem dX10_keeps_180 : decode cX10_keeps 180 = .ok (.aload_n 0, 1) := by decide +kernel
theorem dX10_keeps_181 : decode cX10_keeps 181 = .ok (.getfield 52, 3) := by decide +kernel
theorem dX10_keeps_184 : decode cX10_keeps 184 = .ok (.aload_n 0, 1) := by decide +kernel
theorem dX10_keeps_185 : decode cX10_keeps 185 = .ok (.invokevirtual 269, 3) := by decide +kernel
theorem dX10_keeps_188 : decode cX10_keeps 188 = .ok (.iaload, 1) := by decide +kernel
theorem dX10_keeps_189 : decode cX10_keeps 189 = .ok (.invokestatic 379, 3) := by decide +kernel
theorem dX10_keeps_192 : decode cX10_keeps 192 = .ok (.ireturn, 1) := by decide +kernel
theorem dX10_keeps_55 : decode cX10_keeps 55 = .ok (.iconst 0, 1) := by decide +kernel
theorem dX10_keeps_56 : decode cX10_keeps 56 = .ok (.istore_n 2, 1) := by decide +kernel
theorem dX10_keeps_57 : decode cX10_keeps 57 = .ok (.iconst 0, 1) := by decide +kernel
theorem dX10_keeps_58 : decode cX10_keeps 58 = .ok (.istore_n 3, 1) := by decide +kernel
theorem dX10_keeps_59 : decode cX10_keeps 59 = .ok (.iload_n 3, 1) := by decide +kernel
theorem dX10_keeps_60 : decode cX10_keeps 60 = .ok (.aload_n 0, 1) := by decide +kernel
theorem dX10_keeps_61 : decode cX10_keeps 61 = .ok (.getfield 355, 3) := by decide +kernel
theorem dX10_keeps_64 : decode cX10_keeps 64 = .ok (.if_icmp .ge 113, 3) := by decide +kernel
theorem dX10_keeps_177 : decode cX10_keeps 177 = .ok (.goto (-126), 3) := by decide +kernel
theorem dX10_keeps_67 : decode cX10_keeps 67 = .ok (.aload_n 0, 1) := by decide +kernel
theorem dX10_keeps_68 : decode cX10_keeps 68 = .ok (.getfield 45, 3) := by decide +kernel
theorem dX10_keeps_71 : decode cX10_keeps 71 = .ok (.iload_n 3, 1) := by decide +kernel
theorem dX10_keeps_72 : decode cX10_keeps 72 = .ok (.iaload, 1) := by decide +kernel
theorem dX10_keeps_73 : decode cX10_keeps 73 = .ok (.istore 4, 2) := by decide +kernel
theorem dX10_keeps_75 : decode cX10_keeps 75 = .ok (.iconst 0, 1) := by decide +kernel
theorem dX10_keeps_76 : decode cX10_keeps 76 = .ok (.istore 5, 2) := by decide +kernel
theorem dX10_keeps_78 : decode cX10_keeps 78 = .ok (.iconst 0, 1) := by decide +kernel
theorem dX10_keeps_79 : decode cX10_keeps 79 = .ok (.istore 6, 2) := by decide +kernel
theorem dX10_keeps_81 : decode cX10_keeps 81 = .ok (.iload 6, 2) := by decide +kernel
theorem dX10_keeps_83 : decode cX10_keeps 83 = .ok (.iconst 4, 1) := by decide +kernel
theorem dX10_keeps_84 : decode cX10_keeps 84 = .ok (.if_icmp .ge 52, 3) := by decide +kernel
theorem dX10_keeps_136 : decode cX10_keeps 136 = .ok (.aload_n 0, 1) := by decide +kernel
theorem dX10_keeps_137 : decode cX10_keeps 137 = .ok (.getfield 52, 3) := by decide +kernel
theorem dX10_keeps_140 : decode cX10_keeps 140 = .ok (.iload 4, 2) := by decide +kernel
theorem dX10_keeps_142 : decode cX10_keeps 142 = .ok (.iaload, 1) := by decide +kernel
theorem dX10_keeps_143 : decode cX10_keeps 143 = .ok (.ldc_w 361, 3) := by decide +kernel
theorem dX10_keeps_146 : decode cX10_keeps 146 = .ok (.if_icmp .lt 25, 3) := by decide +kernel
theorem dX10_keeps_171 : decode cX10_keeps 171 = .ok (.iinc 3 1, 3) := by decide +kernel
theorem dX10_keeps_174 : decode cX10_keeps 174 = .ok (.goto (-115), 3) := by decide +kernel
theorem dX10_keeps_149 : decode cX10_keeps 149 = .ok (.iload 5, 2) := by decide +kernel
theorem dX10_keeps_151 : decode cX10_keeps 151 = .ok (.ldc_w 361, 3) := by decide +kernel
theorem dX10_keeps_154 : decode cX10_keeps 154 = .ok (.if_icmp .ne 6, 3) := by decide +kernel
theorem dX10_keeps_160 : decode cX10_keeps 160 = .ok (.aload_n 0, 1) := by decide +kernel
theorem dX10_keeps_161 : decode cX10_keeps 161 = .ok (.getfield 52, 3) := by decide +kernel
theorem dX10_keeps_164 : decode cX10_keeps 164 = .ok (.iload 4, 2) := by decide +kernel
theorem dX10_keeps_166 : decode cX10_keeps 166 = .ok (.iload 5, 2) := by decide +kernel
theorem dX10_keeps_168 : decode cX10_keeps 168 = .ok (.iastore, 1) := by decide +kernel
theorem dX10_keeps_169 : decode cX10_keeps 169 = .ok (.iconst 1, 1) := by decide +kernel
theorem dX10_keeps_170 : decode cX10_keeps 170 = .ok (.istore_n 2, 1) := by decide +kernel
theorem dX10_keeps_157 : decode cX10_keeps 157 = .ok (.goto 14, 3) := by decide +kernel
theorem dX10_keeps_87 : decode cX10_keeps 87 = .ok (.aload_n 0, 1) := by decide +kernel
theorem dX10_keeps_88 : decode cX10_keeps 88 = .ok (.getfield 52, 3) := by decide +kernel
theorem dX10_keeps_91 : decode cX10_keeps 91 = .ok (.iload 4, 2) := by decide +kernel
theorem dX10_keeps_93 : decode cX10_keeps 93 = .ok (.iaload, 1) := by decide +kernel
theorem dX10_keeps_94 : decode cX10_keeps 94 = .ok (.ldc_w 361, 3) := by decide +kernel
theorem dX10_keeps_97 : decode cX10_keeps 97 = .ok (.if_icmp .ne 39, 3) := by decide +kernel
theorem dX10_keeps_100 : decode cX10_keeps 100 = .ok (.aload_n 0, 1) := by decide +kernel
theorem dX10_keeps_101 : decode cX10_keeps 101 = .ok (.iload 4, 2) := by decide +kernel
theorem dX10_keeps_103 : decode cX10_keeps 103 = .ok (.iload 6, 2) := by decide +kernel
theorem dX10_keeps_105 : decode cX10_keeps 105 = .ok (.iload_n 1, 1) := by decide +kernel
theorem q_7_239 : Cond.code yX10_keptBy prog_12_method_95_code 5 (some FieldType.int) ∈ gw := gw_7 (i := 239) (rfl) rfl
theorem q_7_238 : Cond.instanceMethod yX10_keptBy ∈ gw := gw_7 (i := 238) (by decide +kernel) rfl
theorem q_s_111 : Cond.selects "BeaconDelayModel" yX10_keptBy yX10_keptBy ∈ gw := gw_s (i := 111) (by decide +kernel) rfl
theorem mt_X10_keptBy : MtV yX10_keptBy cX10_keptBy 5 (some .int) 3 := ⟨⟨q_7_239, q_1_9, by decide +kernel, by decide +kernel, by decide +kernel⟩, q_7_238, q_s_111⟩
theorem q_7_236 : Cond.methodLink "BeaconDelayModel" 399 yX10_keptBy ∈ gw := gw_7 (i := 236) (by decide +kernel) rfl
theorem dX10_keeps_106 : decode cX10_keeps 106 = .ok (.invokevirtual 399, 3) := by decide +kernel
theorem dX10_keeps_109 : decode cX10_keeps 109 = .ok (.iload 5, 2) := by decide +kernel
theorem dX10_keeps_111 : decode cX10_keeps 111 = .ok (.if_icmp .le 15, 3) := by decide +kernel
theorem dX10_keeps_126 : decode cX10_keeps 126 = .ok (.iload 5, 2) := by decide +kernel
theorem dX10_keeps_128 : decode cX10_keeps 128 = .ok (.istore 5, 2) := by decide +kernel
theorem dX10_keeps_130 : decode cX10_keeps 130 = .ok (.iinc 6 1, 3) := by decide +kernel
theorem dX10_keeps_133 : decode cX10_keeps 133 = .ok (.goto (-52), 3) := by decide +kernel
theorem dX10_keeps_114 : decode cX10_keeps 114 = .ok (.aload_n 0, 1) := by decide +kernel
theorem dX10_keeps_115 : decode cX10_keeps 115 = .ok (.iload 4, 2) := by decide +kernel
theorem dX10_keeps_117 : decode cX10_keeps 117 = .ok (.iload 6, 2) := by decide +kernel
theorem dX10_keeps_119 : decode cX10_keeps 119 = .ok (.iload_n 1, 1) := by decide +kernel
theorem dX10_keeps_120 : decode cX10_keeps 120 = .ok (.invokevirtual 399, 3) := by decide +kernel
theorem dX10_keeps_123 : decode cX10_keeps 123 = .ok (.goto 5, 3) := by decide +kernel
theorem dX10_keeps_29 : decode cX10_keeps 29 = .ok (.aload_n 0, 1) := by decide +kernel
theorem dX10_keeps_30 : decode cX10_keeps 30 = .ok (.getfield 52, 3) := by decide +kernel
theorem dX10_keeps_33 : decode cX10_keeps 33 = .ok (.aload_n 0, 1) := by decide +kernel
theorem dX10_keeps_34 : decode cX10_keeps 34 = .ok (.getfield 45, 3) := by decide +kernel
theorem dX10_keeps_37 : decode cX10_keeps 37 = .ok (.iload_n 2, 1) := by decide +kernel
theorem dX10_keeps_38 : decode cX10_keeps 38 = .ok (.iaload, 1) := by decide +kernel
theorem dX10_keeps_39 : decode cX10_keeps 39 = .ok (.ldc_w 361, 3) := by decide +kernel
theorem dX10_keeps_42 : decode cX10_keeps 42 = .ok (.iastore, 1) := by decide +kernel
theorem dX10_keeps_43 : decode cX10_keeps 43 = .ok (.iinc 2 1, 3) := by decide +kernel
theorem dX10_keeps_46 : decode cX10_keeps 46 = .ok (.goto (-25), 3) := by decide +kernel
theorem dX10_keeps_12 : decode cX10_keeps 12 = .ok (.bipush (-3), 2) := by decide +kernel
theorem dX10_keeps_14 : decode cX10_keeps 14 = .ok (.ireturn, 1) := by decide +kernel
set_option maxHeartbeats 4000000 in
set_option maxRecDepth 100000 in
theorem k_X10_keeps_0 (l : Launch) (V : GV) (z : Nat → Nat) (a1 : Int32) (pz0_0 : Int32) (pz0_5 : Int32) (pz0_6 : Int32) (pz0_7 : Int32) (pz0_8 : Int32) (pz0_9 : Int32) (pz0_10 : Int32) (pz0_11 : Int32) (pz0_12 : Int32) (pz0_13 : Int32) (pz0_14 : Int32) (pz0_18 : Int32) (pz0_19 : Int32) (pz0_22 : Int32) (pz0_23 : Int32) (pz0_29 : Int32) (fz1 : Nat → Int32) (fz15 : Nat → Int32) (fz16 : Nat → Int32) (fz24 : Nat → Int32) (fz25 : Nat → Int32) (fz26 : Nat → Int32) (fz28 : Nat → Int32) (bpz0_5 : iv 0 900 pz0_5) (bpz0_6 : iv 0 900 pz0_6) (bpz0_7 : iv 0 900 pz0_7) (bpz0_8 : iv 0 900 pz0_8) (bpz0_10 : iv 0 999 pz0_10) (bpz0_11 : iv 0 4 pz0_11) (bpz0_12 : iv 0 900 pz0_12) (bpz0_13 : iv 0 4 pz0_13) (bpz0_14 : iv (-1) 900 pz0_14) (bpz0_18 : iv 0 2 pz0_18) (bpz0_22 : iv 0 9999 pz0_22) (bpz0_29 : iv 0 10000 pz0_29) (tfz1 : ivT tA fz1) (tfz16 : ivT tW fz16) (tfz24 : ∀ j, iv 0 9999 (fz24 j)) (tfz25 : ∀ j, iv (-1) 9999 (fz25 j)) (tfz26 : ∀ j, iv 0 268435456 (fz26 j)) (hf0 : RW fz1) : Ct l V yX10_keeps (.code yX10_keeps cX10_keeps 7 (some .int)) 6 [.ref (z 0), .int a1] [(z 0, .inr (10, mo z pz0_0 pz0_5 pz0_6 pz0_7 pz0_8 pz0_9 pz0_10 pz0_11 pz0_12 pz0_13 pz0_14 pz0_18 pz0_19 pz0_22 pz0_23 pz0_29)), (z 1, aI V 3075 fz1), (z 15, aI V 900 fz15), (z 16, aI V 6 fz16), (z 24, aI V 10000 fz24), (z 25, aI V 40000 fz25), (z 26, aI V 10000 fz26), (z 28, aZ V 10000 fz28)] 0 0 (QI V (fun (r : Int32) (w : va_W) => ∃ (v0 : Int32) (v1 : Int32) (g2 : Nat → Int32) (g3 : Nat → Int32) (g4 : Nat → Int32) (g5 : Nat → Int32) (g6 : Nat → Int32) (g7 : Nat → Int32), iv 0 10000 v1 ∧ (ivT tW g3) ∧ (∀ j, iv 0 9999 (g4 j)) ∧ (∀ j, iv (-1) 9999 (g5 j)) ∧ (∀ j, iv 0 268435456 (g6 j)) ∧ (RW fz1) ∧ w = [(z 0, .inr (10, mo z v0 pz0_5 pz0_6 pz0_7 pz0_8 pz0_9 pz0_10 pz0_11 pz0_12 pz0_13 pz0_14 pz0_18 pz0_19 pz0_22 pz0_23 v1)), (z 1, aI V 3075 fz1), (z 15, aI V 900 g2), (z 16, aI V 6 g3), (z 24, aI V 10000 g4), (z 25, aI V 40000 g5), (z 26, aI V 10000 g6), (z 28, aZ V 10000 g7)])) := by
  refine Ct.of (by decide) (Nat.le_of_ble_eq_true rfl) (fun p e s m below meth c A ls hx hb hr hml hown hlk hnm hg hP hK hD hE hA hS hl => ?_)
  have hl : lv_has ls 7 [(0, .ref (z 0)), (1, .int a1)] := hl
  refine lv_aload_n hx hb dX10_keeps_0 rfl (lv_at hl 0 rfl) ?_
  refine lv_iconst (v := 0) hx hb dX10_keeps_1 (by decide) ?_
  refine va_put (ci := 10) (v := .int 0) (ty := .int) (C := RX10) (T := TX10) (N := 40) hx hb hg inX10 tyX10 tyX10_ok nmX10 hown hK hP hD hS 0 rfl rfl 0 (by decide) (hg _ q_5_224) (fun _ h9 => h9) rfl (by decide +kernel) rfl rfl (Nat.le_of_ble_eq_true rfl) dX10_keeps_2 (fun H locs hP hD hS => ?_)
  have hP : va_P V.1 vwCl [(z 0, .inr (10, mo z 0 pz0_5 pz0_6 pz0_7 pz0_8 pz0_9 pz0_10 pz0_11 pz0_12 pz0_13 pz0_14 pz0_18 pz0_19 pz0_22 pz0_23 pz0_29)), (z 1, aI V 3075 fz1), (z 15, aI V 900 fz15), (z 16, aI V 6 fz16), (z 24, aI V 10000 fz24), (z 25, aI V 40000 fz25), (z 26, aI V 10000 fz26), (z 28, aZ V 10000 fz28)] H := hP
  have hD : va_D A [(z 0, .inr (10, mo z 0 pz0_5 pz0_6 pz0_7 pz0_8 pz0_9 pz0_10 pz0_11 pz0_12 pz0_13 pz0_14 pz0_18 pz0_19 pz0_22 pz0_23 pz0_29)), (z 1, aI V 3075 fz1), (z 15, aI V 900 fz15), (z 16, aI V 6 fz16), (z 24, aI V 10000 fz24), (z 25, aI V 40000 fz25), (z 26, aI V 10000 fz26), (z 28, aZ V 10000 fz28)] := hD
  refine lv_iload_n hx hb dX10_keeps_5 rfl (lv_at hl 1 rfl) ?_
  refine jnI (wr := [(z 0, .inr (10, mo z 0 pz0_5 pz0_6 pz0_7 pz0_8 pz0_9 pz0_10 pz0_11 pz0_12 pz0_13 pz0_14 pz0_18 pz0_19 pz0_22 pz0_23 pz0_29)), (z 1, aI V 3075 fz1), (z 15, aI V 900 fz15), (z 16, aI V 6 fz16), (z 24, aI V 10000 fz24), (z 25, aI V 40000 fz25), (z 26, aI V 10000 fz26), (z 28, aZ V 10000 fz28)]) (rnS (rest := []) ⟨hx, hb, hml, hown, hg⟩ (k_X10_isHigh_0 l V a1) mt_X10_isHigh q_7_186 ⟨Nat.le_of_ble_eq_true rfl, Nat.le_of_ble_eq_true rfl⟩ hK hP hD hS hA hE [] rfl rfl rfl hl.1 rfl (Nat.le_of_ble_eq_true rfl) dX10_keeps_6 ⟨Nat.le_of_ble_eq_true rfl, Nat.le_of_ble_eq_true rfl⟩) hP hD hS hA [] [0, 1, 2, 3, 4, 5, 6, 7] rfl rfl rfl (by decide) (fun r_1 w H locs hw hP hD hS => ?_)
  obtain ⟨br_1, g_2, rfl⟩ := hw
  have hP : va_P V.1 vwCl [(z 0, .inr (10, mo z 0 pz0_5 pz0_6 pz0_7 pz0_8 pz0_9 pz0_10 pz0_11 pz0_12 pz0_13 pz0_14 pz0_18 pz0_19 pz0_22 pz0_23 pz0_29)), (z 1, aI V 3075 fz1), (z 15, aI V 900 fz15), (z 16, aI V 6 fz16), (z 24, aI V 10000 fz24), (z 25, aI V 40000 fz25), (z 26, aI V 10000 fz26), (z 28, aZ V 10000 fz28)] H := hP
  have hD : va_D A [(z 0, .inr (10, mo z 0 pz0_5 pz0_6 pz0_7 pz0_8 pz0_9 pz0_10 pz0_11 pz0_12 pz0_13 pz0_14 pz0_18 pz0_19 pz0_22 pz0_23 pz0_29)), (z 1, aI V 3075 fz1), (z 15, aI V 900 fz15), (z 16, aI V 6 fz16), (z 24, aI V 10000 fz24), (z 25, aI V 40000 fz25), (z 26, aI V 10000 fz26), (z 28, aZ V 10000 fz28)] := hD
  refine lv_if_ne (tgt := 15) hx hb dX10_keeps_9 (by decide) (fun c_3 => ?_) (fun c_3 => ?_)
  · have b_4 : iv 1 1 r_1 := iv_n0 c_3 br_1 (iv_c (0 : Int32) (a := 0) (b := 0) (by decide)) (by decide)
    have b_5 : iv 0 4 a1 := iv_cap (g_2 (iv_eqp b_4 (iv_c (1 : Int32) (by decide)))) (iv_top a1) (by decide)
    refine lv_aload_n hx hb dX10_keeps_15 rfl (lv_at hl 0 rfl) ?_
    refine jnV (wr := [(z 26, aI V 10000 fz26)]) (rnV (rest := []) ⟨hx, hb, hml, hown, hg⟩ (k_X10_laysStands_0 l V z fz15 fz16 fz24 fz25 fz28 0 pz0_5 pz0_6 pz0_7 pz0_8 pz0_9 pz0_10 pz0_11 pz0_12 pz0_13 pz0_14 pz0_18 pz0_19 pz0_22 pz0_23 pz0_29 fz1 tfz16 tfz24 tfz25 bpz0_5 bpz0_6 bpz0_7 bpz0_8 bpz0_10 bpz0_11 bpz0_12 bpz0_13 bpz0_14 bpz0_18 bpz0_22 bpz0_29 tfz1 hf0) mt_X10_laysStands q_7_194 ⟨Nat.le_of_ble_eq_true rfl, Nat.le_of_ble_eq_true rfl⟩ hK hP hD hS hA hE [2, 3, 4, 5, 7, 0, 1] rfl rfl 0 rfl rfl rfl rfl hl.1 rfl (Nat.le_of_ble_eq_true rfl) dX10_keeps_16 ⟨Nat.le_of_ble_eq_true rfl, Nat.le_of_ble_eq_true rfl⟩) hP hD hS hA [2, 3, 4, 5, 7, 0, 1] [6] rfl rfl rfl (by decide) (fun  w H locs hw hP hD hS => ?_)
    obtain ⟨f_6, f_7, f_8, f_9, f_10, v_11, tf_7, tf_8, tf_9, bv_11, g_12, g_13, g_14, rfl⟩ := hw
    have hP : va_P V.1 vwCl [(z 26, aI V 10000 fz26), (z 15, aI V 900 f_6), (z 16, aI V 6 f_7), (z 24, aI V 10000 f_8), (z 25, aI V 40000 f_9), (z 28, aZ V 10000 f_10), (z 0, .inr (10, mo z 0 pz0_5 pz0_6 pz0_7 pz0_8 pz0_9 pz0_10 pz0_11 pz0_12 pz0_13 pz0_14 pz0_18 pz0_19 pz0_22 pz0_23 v_11)), (z 1, aI V 3075 fz1)] H := hP
    have hD : va_D A [(z 26, aI V 10000 fz26), (z 15, aI V 900 f_6), (z 16, aI V 6 f_7), (z 24, aI V 10000 f_8), (z 25, aI V 40000 f_9), (z 28, aZ V 10000 f_10), (z 0, .inr (10, mo z 0 pz0_5 pz0_6 pz0_7 pz0_8 pz0_9 pz0_10 pz0_11 pz0_12 pz0_13 pz0_14 pz0_18 pz0_19 pz0_22 pz0_23 v_11)), (z 1, aI V 3075 fz1)] := hD
    refine lv_iconst (v := 0) hx hb dX10_keeps_19 (by decide) ?_
    refine lv_istore_n (lv' := [(2, .int 0), (0, .ref (z 0)), (1, .int a1)]) hx hb dX10_keeps_20 rfl hl (by decide) rfl (fun ls hl => ?_)
    refine loopF (X := fun (n_17 : Nat) (H : Heap) (locs : List Loc) (ls : Array Slot) => ∃ (u_15 : Int32) (f_16 : Nat → Int32), (iv 0 2147483647 u_15) ∧ (∀ j, iv 0 268435456 (f_16 j)) ∧ (RW fz1) ∧ n_17 = (2147483647 - (u_15 : Int32).toInt).toNat ∧ va_P V.1 vwCl [(z 26, aI V 10000 f_16), (z 15, aI V 900 f_6), (z 16, aI V 6 f_7), (z 24, aI V 10000 f_8), (z 25, aI V 40000 f_9), (z 28, aZ V 10000 f_10), (z 0, .inr (10, mo z 0 pz0_5 pz0_6 pz0_7 pz0_8 pz0_9 pz0_10 pz0_11 pz0_12 pz0_13 pz0_14 pz0_18 pz0_19 pz0_22 pz0_23 v_11)), (z 1, aI V 3075 fz1)] H ∧ va_D A [(z 26, aI V 10000 f_16), (z 15, aI V 900 f_6), (z 16, aI V 6 f_7), (z 24, aI V 10000 f_8), (z 25, aI V 40000 f_9), (z 28, aZ V 10000 f_10), (z 0, .inr (10, mo z 0 pz0_5 pz0_6 pz0_7 pz0_8 pz0_9 pz0_10 pz0_11 pz0_12 pz0_13 pz0_14 pz0_18 pz0_19 pz0_22 pz0_23 v_11)), (z 1, aI V 3075 fz1)] ∧ va_S A s.heap H locs ∧ lv_has ls 7 [(2, .int u_15), (0, .ref (z 0)), (1, .int a1)]) (g := fun ls => F0 m 21 ls []) (fun n_17 H locs ls hX ihn_17 => ?_) _ ⟨0, fz26, (iv_c (0 : Int32) (by decide)), tfz26, g_12, rfl, hP, hD, hS, lv_sub hl [0, 1, 2] rfl⟩
    obtain ⟨u_15, f_16, bu_15, tf_16, inn_17_0, en_17, hP, hD, hS, hl⟩ := hX
    refine lv_iload_n hx hb dX10_keeps_21 rfl (lv_at hl 0 rfl) ?_
    refine lv_aload_n hx hb dX10_keeps_22 rfl (lv_at hl 1 rfl) ?_
    refine va_get (ci := 10) (v := .int v_11) (C := RX10) (T := TX10) (N := 40) hx hb hg inX10 hown hK hP 6 rfl rfl 29 (by decide) (hg _ q_6_13) (fun _ h9 => h9) rfl dX10_keeps_23 ?_
    refine lv_icmp_ge (tgt := 49) hx hb dX10_keeps_26 (by decide) (fun c_18 => ?_) (fun c_18 => ?_)
    · refine lv_iconst (v := 1) hx hb dX10_keeps_49 (by decide) ?_
      refine lv_istore_n (lv' := [(2, .int 1), (0, .ref (z 0)), (1, .int a1)]) hx hb dX10_keeps_50 rfl hl (by decide) rfl (fun ls hl => ?_)
      refine loopF (X := fun (n_21 : Nat) (H : Heap) (locs : List Loc) (ls : Array Slot) => ∃ (u_19 : Int32) (f_20 : Nat → Int32), (iv 0 1 u_19) ∧ (∀ j, iv 0 268435456 (f_20 j)) ∧ (RW fz1) ∧ n_21 = 2 * sm f_20 10000 + (u_19).toNatClampNeg ∧ va_P V.1 vwCl [(z 26, aI V 10000 f_20), (z 15, aI V 900 f_6), (z 16, aI V 6 f_7), (z 24, aI V 10000 f_8), (z 25, aI V 40000 f_9), (z 28, aZ V 10000 f_10), (z 0, .inr (10, mo z 0 pz0_5 pz0_6 pz0_7 pz0_8 pz0_9 pz0_10 pz0_11 pz0_12 pz0_13 pz0_14 pz0_18 pz0_19 pz0_22 pz0_23 v_11)), (z 1, aI V 3075 fz1)] H ∧ va_D A [(z 26, aI V 10000 f_20), (z 15, aI V 900 f_6), (z 16, aI V 6 f_7), (z 24, aI V 10000 f_8), (z 25, aI V 40000 f_9), (z 28, aZ V 10000 f_10), (z 0, .inr (10, mo z 0 pz0_5 pz0_6 pz0_7 pz0_8 pz0_9 pz0_10 pz0_11 pz0_12 pz0_13 pz0_14 pz0_18 pz0_19 pz0_22 pz0_23 v_11)), (z 1, aI V 3075 fz1)] ∧ va_S A s.heap H locs ∧ lv_has ls 7 [(2, .int u_19), (0, .ref (z 0)), (1, .int a1)]) (g := fun ls => F0 m 51 ls []) (fun n_21 H locs ls hX ihn_21 => ?_) _ ⟨1, f_16, (iv_c (1 : Int32) (by decide)), tf_16, inn_17_0, rfl, hP, hD, hS, lv_sub hl [0, 1, 2] rfl⟩
      obtain ⟨u_19, f_20, bu_19, tf_20, inn_21_0, en_21, hP, hD, hS, hl⟩ := hX
      refine lv_iload_n hx hb dX10_keeps_51 rfl (lv_at hl 0 rfl) ?_
      refine lv_if_eq (tgt := 180) hx hb dX10_keeps_52 (by decide) (fun c_22 => ?_) (fun c_22 => ?_)
      · have b_23 : iv 0 0 u_19 := iv_q c_22 (iv_c (0 : Int32) (a := 0) (b := 0) (by decide))
        refine lv_aload_n hx hb dX10_keeps_180 rfl (lv_at hl 1 rfl) ?_
        refine va_get (ci := 10) (v := .ref (z 26)) (C := RX10) (T := TX10) (N := 40) hx hb hg inX10 hown hK hP 6 rfl rfl 26 (by decide) (hg _ q_6_10) (fun _ h9 => h9) rfl dX10_keeps_181 ?_
        refine lv_aload_n hx hb dX10_keeps_184 rfl (lv_at hl 1 rfl) ?_
        refine jnI (wr := [(z 26, aI V 10000 f_20), (z 15, aI V 900 f_6), (z 16, aI V 6 f_7), (z 24, aI V 10000 f_8), (z 25, aI V 40000 f_9), (z 28, aZ V 10000 f_10)]) (rnV (rest := [.ref (z 26)]) ⟨hx, hb, hml, hown, hg⟩ (k_X10_standNow_0 l V z 0 pz0_5 pz0_6 pz0_7 pz0_8 pz0_9 pz0_10 pz0_11 pz0_12 pz0_13 pz0_14 pz0_18 pz0_19 pz0_22 pz0_23 v_11 fz1 bpz0_5 bpz0_6 bpz0_7 bpz0_8 bpz0_10 bpz0_11 bpz0_12 bpz0_13 bpz0_14 bpz0_18 bpz0_22 bv_11 tfz1) mt_X10_standNow q_7_11 ⟨Nat.le_of_ble_eq_true rfl, Nat.le_of_ble_eq_true rfl⟩ hK hP hD hS hA hE [6, 7] rfl rfl 6 rfl rfl rfl rfl hl.1 rfl (Nat.le_of_ble_eq_true rfl) dX10_keeps_185 ⟨Nat.le_of_ble_eq_true rfl, Nat.le_of_ble_eq_true rfl⟩) hP hD hS hA [6, 7] [0, 1, 2, 3, 4, 5] rfl rfl rfl (by decide) (fun r_24 w H locs hw hP hD hS => ?_)
        obtain ⟨br_24, er_24, rfl⟩ := hw
        have hP : va_P V.1 vwCl [(z 26, aI V 10000 f_20), (z 15, aI V 900 f_6), (z 16, aI V 6 f_7), (z 24, aI V 10000 f_8), (z 25, aI V 40000 f_9), (z 28, aZ V 10000 f_10), (z 0, .inr (10, mo z 0 pz0_5 pz0_6 pz0_7 pz0_8 pz0_9 pz0_10 pz0_11 pz0_12 pz0_13 pz0_14 pz0_18 pz0_19 pz0_22 pz0_23 v_11)), (z 1, aI V 3075 fz1)] H := hP
        have hD : va_D A [(z 26, aI V 10000 f_20), (z 15, aI V 900 f_6), (z 16, aI V 6 f_7), (z 24, aI V 10000 f_8), (z 25, aI V 40000 f_9), (z 28, aZ V 10000 f_10), (z 0, .inr (10, mo z 0 pz0_5 pz0_6 pz0_7 pz0_8 pz0_9 pz0_10 pz0_11 pz0_12 pz0_13 pz0_14 pz0_18 pz0_19 pz0_22 pz0_23 v_11)), (z 1, aI V 3075 fz1)] := hD
        refine va_iald hx hb hK hP 0 0 rfl rfl (iv_in br_24 (by decide)) dX10_keeps_188 ?_
        refine lv_topi (fun x_25 ex_25 => ?_)
        have bx_25 : iv 0 268435456 x_25 := by rw [ex_25]; exact tf_20 _
        refine jnI (wr := [(z 26, aI V 10000 f_20), (z 15, aI V 900 f_6), (z 16, aI V 6 f_7), (z 24, aI V 10000 f_8), (z 25, aI V 40000 f_9), (z 28, aZ V 10000 f_10), (z 0, .inr (10, mo z 0 pz0_5 pz0_6 pz0_7 pz0_8 pz0_9 pz0_10 pz0_11 pz0_12 pz0_13 pz0_14 pz0_18 pz0_19 pz0_22 pz0_23 v_11)), (z 1, aI V 3075 fz1)]) (rnS (rest := []) ⟨hx, hb, hml, hown, hg⟩ (k_X10_toldFar_0 l V x_25) mt_X10_toldFar q_7_207 ⟨Nat.le_of_ble_eq_true rfl, Nat.le_of_ble_eq_true rfl⟩ hK hP hD hS hA hE [] rfl rfl rfl hl.1 rfl (Nat.le_of_ble_eq_true rfl) dX10_keeps_189 ⟨Nat.le_of_ble_eq_true rfl, Nat.le_of_ble_eq_true rfl⟩) hP hD hS hA [] [0, 1, 2, 3, 4, 5, 6, 7] rfl rfl rfl (by decide) (fun r_26 w H locs hw hP hD hS => ?_)
        subst hw
        have hP : va_P V.1 vwCl [(z 26, aI V 10000 f_20), (z 15, aI V 900 f_6), (z 16, aI V 6 f_7), (z 24, aI V 10000 f_8), (z 25, aI V 40000 f_9), (z 28, aZ V 10000 f_10), (z 0, .inr (10, mo z 0 pz0_5 pz0_6 pz0_7 pz0_8 pz0_9 pz0_10 pz0_11 pz0_12 pz0_13 pz0_14 pz0_18 pz0_19 pz0_22 pz0_23 v_11)), (z 1, aI V 3075 fz1)] H := hP
        have hD : va_D A [(z 26, aI V 10000 f_20), (z 15, aI V 900 f_6), (z 16, aI V 6 f_7), (z 24, aI V 10000 f_8), (z 25, aI V 40000 f_9), (z 28, aZ V 10000 f_10), (z 0, .inr (10, mo z 0 pz0_5 pz0_6 pz0_7 pz0_8 pz0_9 pz0_10 pz0_11 pz0_12 pz0_13 pz0_14 pz0_18 pz0_19 pz0_22 pz0_23 v_11)), (z 1, aI V 3075 fz1)] := hD
        have hP := subP (ws' := [(z 0, .inr (10, mo z 0 pz0_5 pz0_6 pz0_7 pz0_8 pz0_9 pz0_10 pz0_11 pz0_12 pz0_13 pz0_14 pz0_18 pz0_19 pz0_22 pz0_23 v_11)), (z 1, aI V 3075 fz1), (z 15, aI V 900 f_6), (z 16, aI V 6 f_7), (z 24, aI V 10000 f_8), (z 25, aI V 40000 f_9), (z 26, aI V 10000 f_20), (z 28, aZ V 10000 f_10)]) hP [6, 7, 1, 2, 3, 4, 0, 5] rfl
        have hD := hD.sub (ws' := [(z 0, .inr (10, mo z 0 pz0_5 pz0_6 pz0_7 pz0_8 pz0_9 pz0_10 pz0_11 pz0_12 pz0_13 pz0_14 pz0_18 pz0_19 pz0_22 pz0_23 v_11)), (z 1, aI V 3075 fz1), (z 15, aI V 900 f_6), (z 16, aI V 6 f_7), (z 24, aI V 10000 f_8), (z 25, aI V 40000 f_9), (z 26, aI V 10000 f_20), (z 28, aZ V 10000 f_10)]) [6, 7, 1, 2, 3, 4, 0, 5] rfl rfl
        exact fiI hx hb hr hlk hK hP hD hS dX10_keeps_192 (Nat.le_of_ble_eq_true rfl) (Nat.le_of_ble_eq_true rfl) (⟨0, v_11, f_6, f_7, f_8, f_9, f_20, f_10, bv_11, tf_7, tf_8, tf_9, tf_20, inn_21_0, rfl⟩)
      · have b_27 : iv 1 1 u_19 := iv_n0 c_22 bu_19 (iv_c (0 : Int32) (a := 0) (b := 0) (by decide)) (by decide)
        refine lv_iconst (v := 0) hx hb dX10_keeps_55 (by decide) ?_
        refine lv_istore_n (lv' := [(2, .int 0), (0, .ref (z 0)), (1, .int a1)]) hx hb dX10_keeps_56 rfl hl (by decide) rfl (fun ls hl => ?_)
        refine lv_iconst (v := 0) hx hb dX10_keeps_57 (by decide) ?_
        refine lv_istore_n (lv' := [(3, .int 0), (2, .int 0), (0, .ref (z 0)), (1, .int a1)]) hx hb dX10_keeps_58 rfl hl (by decide) rfl (fun ls hl => ?_)
        refine loopF (X := fun (n_31 : Nat) (H : Heap) (locs : List Loc) (ls : Array Slot) => ∃ (u_28 : Int32) (u_29 : Int32) (f_30 : Nat → Int32), (iv 0 2147483647 u_28) ∧ (iv 0 1 u_29) ∧ (∀ j, iv 0 268435456 (f_30 j)) ∧ (SD (sm f_30 10000) (sm f_20 10000) u_29) ∧ (RW fz1) ∧ n_31 = (2147483647 - (u_28 : Int32).toInt).toNat ∧ va_P V.1 vwCl [(z 26, aI V 10000 f_30), (z 15, aI V 900 f_6), (z 16, aI V 6 f_7), (z 24, aI V 10000 f_8), (z 25, aI V 40000 f_9), (z 28, aZ V 10000 f_10), (z 0, .inr (10, mo z 0 pz0_5 pz0_6 pz0_7 pz0_8 pz0_9 pz0_10 pz0_11 pz0_12 pz0_13 pz0_14 pz0_18 pz0_19 pz0_22 pz0_23 v_11)), (z 1, aI V 3075 fz1)] H ∧ va_D A [(z 26, aI V 10000 f_30), (z 15, aI V 900 f_6), (z 16, aI V 6 f_7), (z 24, aI V 10000 f_8), (z 25, aI V 40000 f_9), (z 28, aZ V 10000 f_10), (z 0, .inr (10, mo z 0 pz0_5 pz0_6 pz0_7 pz0_8 pz0_9 pz0_10 pz0_11 pz0_12 pz0_13 pz0_14 pz0_18 pz0_19 pz0_22 pz0_23 v_11)), (z 1, aI V 3075 fz1)] ∧ va_S A s.heap H locs ∧ lv_has ls 7 [(3, .int u_28), (2, .int u_29), (0, .ref (z 0)), (1, .int a1)]) (g := fun ls => F0 m 59 ls []) (fun n_31 H locs ls hX ihn_31 => ?_) _ ⟨0, 0, f_20, (iv_c (0 : Int32) (by decide)), (iv_c (0 : Int32) (by decide)), tf_20, (SD_0 rfl), inn_21_0, rfl, hP, hD, hS, lv_sub hl [0, 1, 2, 3] rfl⟩
        obtain ⟨u_28, u_29, f_30, bu_28, bu_29, tf_30, inn_31_0, inn_31_1, en_31, hP, hD, hS, hl⟩ := hX
        refine lv_iload_n hx hb dX10_keeps_59 rfl (lv_at hl 0 rfl) ?_
        refine lv_aload_n hx hb dX10_keeps_60 rfl (lv_at hl 2 rfl) ?_
        refine va_get (ci := 10) (v := .int v_11) (C := RX10) (T := TX10) (N := 40) hx hb hg inX10 hown hK hP 6 rfl rfl 29 (by decide) (hg _ q_6_13) (fun _ h9 => h9) rfl dX10_keeps_61 ?_
        refine lv_icmp_ge (tgt := 177) hx hb dX10_keeps_64 (by decide) (fun c_32 => ?_) (fun c_32 => ?_)
        · refine lv_goto (tgt := 51) hx hb dX10_keeps_177 (by decide) ?_
          exact ihn_21 _ _ _ _ (by rw [en_21]; exact mu_more b_27 (by decide) bu_29 (by decide) inn_31_0) ⟨u_29, f_30, bu_29, tf_30, inn_31_1, rfl, hP, hD, hS, lv_sub hl [1, 2, 3] rfl⟩
        · have b_33 : iv 0 9999 u_28 := iv_l1 (Int32.not_le.mp c_32) bu_28 bv_11 (by decide)
          have b_34 : iv 1 10000 v_11 := iv_l2 (Int32.not_le.mp c_32) bu_28 bv_11 (by decide)
          refine lv_aload_n hx hb dX10_keeps_67 rfl (lv_at hl 2 rfl) ?_
          refine va_get (ci := 10) (v := .ref (z 24)) (C := RX10) (T := TX10) (N := 40) hx hb hg inX10 hown hK hP 6 rfl rfl 24 (by decide) (hg _ q_6_8) (fun _ h9 => h9) rfl dX10_keeps_68 ?_
          refine lv_iload_n hx hb dX10_keeps_71 rfl (lv_at hl 0 rfl) ?_
          refine va_iald hx hb hK hP 3 0 rfl rfl (iv_in b_33 (by decide)) dX10_keeps_72 ?_
          refine lv_topi (fun x_35 ex_35 => ?_)
          have bx_35 : iv 0 9999 x_35 := by rw [ex_35]; exact tf_8 _
          refine lv_istore (lv' := [(4, .int x_35), (3, .int u_28), (2, .int u_29), (0, .ref (z 0)), (1, .int a1)]) hx hb dX10_keeps_73 hl (by decide) rfl (fun ls hl => ?_)
          refine lv_iconst (v := 0) hx hb dX10_keeps_75 (by decide) ?_
          refine lv_istore (lv' := [(5, .int 0), (4, .int x_35), (3, .int u_28), (2, .int u_29), (0, .ref (z 0)), (1, .int a1)]) hx hb dX10_keeps_76 hl (by decide) rfl (fun ls hl => ?_)
          refine lv_iconst (v := 0) hx hb dX10_keeps_78 (by decide) ?_
          refine lv_istore (lv' := [(6, .int 0), (5, .int 0), (4, .int x_35), (3, .int u_28), (2, .int u_29), (0, .ref (z 0)), (1, .int a1)]) hx hb dX10_keeps_79 hl (by decide) rfl (fun ls hl => ?_)
          refine loopF (X := fun (n_38 : Nat) (H : Heap) (locs : List Loc) (ls : Array Slot) => ∃ (u_36 : Int32) (u_37 : Int32), (iv 0 4 u_36) ∧ (iv 0 268435456 u_37) ∧ (RW fz1) ∧ n_38 = (2147483647 - (u_36 : Int32).toInt).toNat ∧ va_P V.1 vwCl [(z 26, aI V 10000 f_30), (z 15, aI V 900 f_6), (z 16, aI V 6 f_7), (z 24, aI V 10000 f_8), (z 25, aI V 40000 f_9), (z 28, aZ V 10000 f_10), (z 0, .inr (10, mo z 0 pz0_5 pz0_6 pz0_7 pz0_8 pz0_9 pz0_10 pz0_11 pz0_12 pz0_13 pz0_14 pz0_18 pz0_19 pz0_22 pz0_23 v_11)), (z 1, aI V 3075 fz1)] H ∧ va_D A [(z 26, aI V 10000 f_30), (z 15, aI V 900 f_6), (z 16, aI V 6 f_7), (z 24, aI V 10000 f_8), (z 25, aI V 40000 f_9), (z 28, aZ V 10000 f_10), (z 0, .inr (10, mo z 0 pz0_5 pz0_6 pz0_7 pz0_8 pz0_9 pz0_10 pz0_11 pz0_12 pz0_13 pz0_14 pz0_18 pz0_19 pz0_22 pz0_23 v_11)), (z 1, aI V 3075 fz1)] ∧ va_S A s.heap H locs ∧ lv_has ls 7 [(6, .int u_36), (5, .int u_37), (4, .int x_35), (3, .int u_28), (2, .int u_29), (0, .ref (z 0)), (1, .int a1)]) (g := fun ls => F0 m 81 ls []) (fun n_38 H locs ls hX ihn_38 => ?_) _ ⟨0, 0, (iv_c (0 : Int32) (by decide)), (iv_c (0 : Int32) (by decide)), inn_31_1, rfl, hP, hD, hS, lv_sub hl [0, 1, 2, 3, 4, 5, 6] rfl⟩
          obtain ⟨u_36, u_37, bu_36, bu_37, inn_38_0, en_38, hP, hD, hS, hl⟩ := hX
          refine lv_iload hx hb dX10_keeps_81 (lv_at hl 0 rfl) ?_
          refine lv_iconst (v := 4) hx hb dX10_keeps_83 (by decide) ?_
          refine lv_icmp_ge (tgt := 136) hx hb dX10_keeps_84 (by decide) (fun c_39 => ?_) (fun c_39 => ?_)
          · have b_40 : iv 4 4 u_36 := iv_e2 c_39 (iv_c (4 : Int32) (a := 4) (b := 4) (by decide)) bu_36 (by decide)
            refine lv_aload_n hx hb dX10_keeps_136 rfl (lv_at hl 5 rfl) ?_
            refine va_get (ci := 10) (v := .ref (z 26)) (C := RX10) (T := TX10) (N := 40) hx hb hg inX10 hown hK hP 6 rfl rfl 26 (by decide) (hg _ q_6_10) (fun _ h9 => h9) rfl dX10_keeps_137 ?_
            refine lv_iload hx hb dX10_keeps_140 (lv_at hl 2 rfl) ?_
            refine va_iald hx hb hK hP 0 0 rfl rfl (iv_in bx_35 (by decide)) dX10_keeps_142 ?_
            refine lv_topi (fun x_41 ex_41 => ?_)
            have bx_41 : iv 0 268435456 x_41 := by rw [ex_41]; exact tf_30 _
            refine lv_ldcw (v := 268435456) hx hb hown (hg _ q_7_202) dX10_keeps_143 ?_
            refine lv_icmp_lt (tgt := 171) hx hb dX10_keeps_146 (by decide) (fun c_42 => ?_) (fun c_42 => ?_)
            · have b_43 : iv 0 268435455 x_41 := iv_l1 c_42 bx_41 (iv_c (268435456 : Int32) (a := 268435456) (b := 268435456) (by decide)) (by decide)
              obtain ⟨x_44, ex_44⟩ : ∃ z9 : Int32, z9 = u_28 + 1 := ⟨_, rfl⟩
              have bx_44 : iv 1 10000 x_44 := by rw [ex_44]; exact iv_add b_33 (iv_c (1 : Int32) (a := 1) (b := 1) (by decide)) (by decide)
              refine lv_iinc (v := x_44) (lv' := [(3, .int x_44), (6, .int u_36), (5, .int u_37), (4, .int x_35), (2, .int u_29), (0, .ref (z 0)), (1, .int a1)]) hx hb dX10_keeps_171 hl (k := 3) rfl (by rw [ex_44]; rfl) (by decide) rfl (fun ls hl => ?_)
              refine lv_goto (tgt := 59) hx hb dX10_keeps_174 (by decide) ?_
              exact ihn_31 _ _ _ _ (by rw [en_31, ex_44]; exact mu_up b_33 (by decide)) ⟨x_44, u_29, f_30, (iv_w bx_44 (by decide)), bu_29, tf_30, inn_31_0, inn_38_0, rfl, hP, hD, hS, lv_sub hl [0, 4, 5, 6] rfl⟩
            · have b_45 : iv 268435456 268435456 x_41 := iv_e2 (Int32.not_lt.mp c_42) (iv_c (268435456 : Int32) (a := 268435456) (b := 268435456) (by decide)) bx_41 (by decide)
              refine lv_iload hx hb dX10_keeps_149 (lv_at hl 1 rfl) ?_
              refine lv_ldcw (v := 268435456) hx hb hown (hg _ q_7_202) dX10_keeps_151 ?_
              refine lv_icmp_ne (tgt := 160) hx hb dX10_keeps_154 (by decide) (fun c_46 => ?_) (fun c_46 => ?_)
              · have b_47 : iv 0 268435455 u_37 := iv_n1 c_46 bu_37 (iv_c (268435456 : Int32) (a := 268435456) (b := 268435456) (by decide)) (by decide)
                refine lv_aload_n hx hb dX10_keeps_160 rfl (lv_at hl 5 rfl) ?_
                refine va_get (ci := 10) (v := .ref (z 26)) (C := RX10) (T := TX10) (N := 40) hx hb hg inX10 hown hK hP 6 rfl rfl 26 (by decide) (hg _ q_6_10) (fun _ h9 => h9) rfl dX10_keeps_161 ?_
                refine lv_iload hx hb dX10_keeps_164 (lv_at hl 2 rfl) ?_
                refine lv_iload hx hb dX10_keeps_166 (lv_at hl 1 rfl) ?_
                refine va_iast hx hb hK hP hD hS 0 0 rfl rfl (iv_in bx_35 (by decide)) dX10_keeps_168 (fun H locs hP hD hS => ?_)
                obtain ⟨f_48, ef_48, tf_48, hP, hD⟩ : ∃ f_48 : Nat → Int32, f_48 = (upd f_30 (x_35 : Int32).toNatClampNeg u_37) ∧ (∀ j, iv 0 268435456 (f_48 j)) ∧ va_P V.1 vwCl [(z 26, aI V 10000 f_48), (z 15, aI V 900 f_6), (z 16, aI V 6 f_7), (z 24, aI V 10000 f_8), (z 25, aI V 40000 f_9), (z 28, aZ V 10000 f_10), (z 0, .inr (10, mo z 0 pz0_5 pz0_6 pz0_7 pz0_8 pz0_9 pz0_10 pz0_11 pz0_12 pz0_13 pz0_14 pz0_18 pz0_19 pz0_22 pz0_23 v_11)), (z 1, aI V 3075 fz1)] H ∧ va_D A [(z 26, aI V 10000 f_48), (z 15, aI V 900 f_6), (z 16, aI V 6 f_7), (z 24, aI V 10000 f_8), (z 25, aI V 40000 f_9), (z 28, aZ V 10000 f_10), (z 0, .inr (10, mo z 0 pz0_5 pz0_6 pz0_7 pz0_8 pz0_9 pz0_10 pz0_11 pz0_12 pz0_13 pz0_14 pz0_18 pz0_19 pz0_22 pz0_23 v_11)), (z 1, aI V 3075 fz1)] := ⟨_, rfl, ivU tf_30 _ (iv_w b_47 (by decide)), hP, hD⟩
                refine lv_iconst (v := 1) hx hb dX10_keeps_169 (by decide) ?_
                refine lv_istore_n (lv' := [(2, .int 1), (6, .int u_36), (5, .int u_37), (4, .int x_35), (3, .int u_28), (0, .ref (z 0)), (1, .int a1)]) hx hb dX10_keeps_170 rfl hl (by decide) rfl (fun ls hl => ?_)
                obtain ⟨x_49, ex_49⟩ : ∃ z9 : Int32, z9 = u_28 + 1 := ⟨_, rfl⟩
                have bx_49 : iv 1 10000 x_49 := by rw [ex_49]; exact iv_add b_33 (iv_c (1 : Int32) (a := 1) (b := 1) (by decide)) (by decide)
                refine lv_iinc (v := x_49) (lv' := [(3, .int x_49), (2, .int 1), (6, .int u_36), (5, .int u_37), (4, .int x_35), (0, .ref (z 0)), (1, .int a1)]) hx hb dX10_keeps_171 hl (k := 4) rfl (by rw [ex_49]; rfl) (by decide) rfl (fun ls hl => ?_)
                refine lv_goto (tgt := 59) hx hb dX10_keeps_174 (by decide) ?_
                exact ihn_31 _ _ _ _ (by rw [en_31, ex_49]; exact mu_up b_33 (by decide)) ⟨x_49, 1, f_48, (iv_w bx_49 (by decide)), (iv_c (1 : Int32) (by decide)), tf_48, (SD_1 inn_31_0 (sm_lt ef_48 bx_35 (by decide) ex_41 b_45 b_47 (by decide) (iv_lt b_47 b_45 (by decide)))), inn_38_0, rfl, hP, hD, hS, lv_sub hl [0, 1, 5, 6] rfl⟩
              · have b_50 : iv 268435456 268435456 u_37 := iv_q c_46 (iv_c (268435456 : Int32) (a := 268435456) (b := 268435456) (by decide))
                refine lv_goto (tgt := 171) hx hb dX10_keeps_157 (by decide) ?_
                obtain ⟨x_51, ex_51⟩ : ∃ z9 : Int32, z9 = u_28 + 1 := ⟨_, rfl⟩
                have bx_51 : iv 1 10000 x_51 := by rw [ex_51]; exact iv_add b_33 (iv_c (1 : Int32) (a := 1) (b := 1) (by decide)) (by decide)
                refine lv_iinc (v := x_51) (lv' := [(3, .int x_51), (6, .int u_36), (5, .int u_37), (4, .int x_35), (2, .int u_29), (0, .ref (z 0)), (1, .int a1)]) hx hb dX10_keeps_171 hl (k := 3) rfl (by rw [ex_51]; rfl) (by decide) rfl (fun ls hl => ?_)
                refine lv_goto (tgt := 59) hx hb dX10_keeps_174 (by decide) ?_
                exact ihn_31 _ _ _ _ (by rw [en_31, ex_51]; exact mu_up b_33 (by decide)) ⟨x_51, u_29, f_30, (iv_w bx_51 (by decide)), bu_29, tf_30, inn_31_0, inn_38_0, rfl, hP, hD, hS, lv_sub hl [0, 4, 5, 6] rfl⟩
          · have b_52 : iv 0 3 u_36 := iv_l1 (Int32.not_le.mp c_39) bu_36 (iv_c (4 : Int32) (a := 4) (b := 4) (by decide)) (by decide)
            refine lv_aload_n hx hb dX10_keeps_87 rfl (lv_at hl 5 rfl) ?_
            refine va_get (ci := 10) (v := .ref (z 26)) (C := RX10) (T := TX10) (N := 40) hx hb hg inX10 hown hK hP 6 rfl rfl 26 (by decide) (hg _ q_6_10) (fun _ h9 => h9) rfl dX10_keeps_88 ?_
            refine lv_iload hx hb dX10_keeps_91 (lv_at hl 2 rfl) ?_
            refine va_iald hx hb hK hP 0 0 rfl rfl (iv_in bx_35 (by decide)) dX10_keeps_93 ?_
            refine lv_topi (fun x_53 ex_53 => ?_)
            have bx_53 : iv 0 268435456 x_53 := by rw [ex_53]; exact tf_30 _
            refine lv_ldcw (v := 268435456) hx hb hown (hg _ q_7_202) dX10_keeps_94 ?_
            refine lv_icmp_ne (tgt := 136) hx hb dX10_keeps_97 (by decide) (fun c_54 => ?_) (fun c_54 => ?_)
            · have b_55 : iv 0 268435455 x_53 := iv_n1 c_54 bx_53 (iv_c (268435456 : Int32) (a := 268435456) (b := 268435456) (by decide)) (by decide)
              refine lv_aload_n hx hb dX10_keeps_136 rfl (lv_at hl 5 rfl) ?_
              refine va_get (ci := 10) (v := .ref (z 26)) (C := RX10) (T := TX10) (N := 40) hx hb hg inX10 hown hK hP 6 rfl rfl 26 (by decide) (hg _ q_6_10) (fun _ h9 => h9) rfl dX10_keeps_137 ?_
              refine lv_iload hx hb dX10_keeps_140 (lv_at hl 2 rfl) ?_
              refine va_iald hx hb hK hP 0 0 rfl rfl (iv_in bx_35 (by decide)) dX10_keeps_142 ?_
              refine tpi (y := x_53) ex_53.symm ?_
              refine lv_ldcw (v := 268435456) hx hb hown (hg _ q_7_202) dX10_keeps_143 ?_
              refine lv_icmp_lt (tgt := 171) hx hb dX10_keeps_146 (by decide) (fun _ => ?_) (fun c_56 => absurd (iv_lt b_55 (iv_c (268435456 : Int32) (a := 268435456) (b := 268435456) (by decide)) (by decide)) c_56)
              obtain ⟨x_57, ex_57⟩ : ∃ z9 : Int32, z9 = u_28 + 1 := ⟨_, rfl⟩
              have bx_57 : iv 1 10000 x_57 := by rw [ex_57]; exact iv_add b_33 (iv_c (1 : Int32) (a := 1) (b := 1) (by decide)) (by decide)
              refine lv_iinc (v := x_57) (lv' := [(3, .int x_57), (6, .int u_36), (5, .int u_37), (4, .int x_35), (2, .int u_29), (0, .ref (z 0)), (1, .int a1)]) hx hb dX10_keeps_171 hl (k := 3) rfl (by rw [ex_57]; rfl) (by decide) rfl (fun ls hl => ?_)
              refine lv_goto (tgt := 59) hx hb dX10_keeps_174 (by decide) ?_
              exact ihn_31 _ _ _ _ (by rw [en_31, ex_57]; exact mu_up b_33 (by decide)) ⟨x_57, u_29, f_30, (iv_w bx_57 (by decide)), bu_29, tf_30, inn_31_0, inn_38_0, rfl, hP, hD, hS, lv_sub hl [0, 4, 5, 6] rfl⟩
            · have b_58 : iv 268435456 268435456 x_53 := iv_q c_54 (iv_c (268435456 : Int32) (a := 268435456) (b := 268435456) (by decide))
              refine lv_aload_n hx hb dX10_keeps_100 rfl (lv_at hl 5 rfl) ?_
              refine lv_iload hx hb dX10_keeps_101 (lv_at hl 2 rfl) ?_
              refine lv_iload hx hb dX10_keeps_103 (lv_at hl 0 rfl) ?_
              refine lv_iload_n hx hb dX10_keeps_105 rfl (lv_at hl 6 rfl) ?_
              refine jnI (wr := [(z 15, aI V 900 f_6), (z 16, aI V 6 f_7), (z 24, aI V 10000 f_8), (z 28, aZ V 10000 f_10)]) (rnV (rest := []) ⟨hx, hb, hml, hown, hg⟩ (k_X10_keptBy_0 l V z x_35 u_36 a1 f_30 f_9 0 pz0_5 pz0_6 pz0_7 pz0_8 pz0_9 pz0_10 pz0_11 pz0_12 pz0_13 pz0_14 pz0_18 pz0_19 pz0_22 pz0_23 v_11 fz1 bx_35 b_52 tf_30 tf_9 bpz0_5 bpz0_6 bpz0_7 bpz0_8 bpz0_10 bpz0_11 bpz0_12 bpz0_13 bpz0_14 bpz0_18 bpz0_22 (iv_w b_34 (by decide)) tfz1) mt_X10_keptBy q_7_236 ⟨Nat.le_of_ble_eq_true rfl, Nat.le_of_ble_eq_true rfl⟩ hK hP hD hS hA hE [0, 4, 6, 7] rfl rfl 6 rfl rfl rfl rfl hl.1 rfl (Nat.le_of_ble_eq_true rfl) dX10_keeps_106 ⟨Nat.le_of_ble_eq_true rfl, Nat.le_of_ble_eq_true rfl⟩) hP hD hS hA [0, 4, 6, 7] [1, 2, 3, 5] rfl rfl rfl (by decide) (fun r_59 w H locs hw hP hD hS => ?_)
              obtain ⟨br_59, er_59, rfl⟩ := hw
              have hP : va_P V.1 vwCl [(z 15, aI V 900 f_6), (z 16, aI V 6 f_7), (z 24, aI V 10000 f_8), (z 28, aZ V 10000 f_10), (z 26, aI V 10000 f_30), (z 25, aI V 40000 f_9), (z 0, .inr (10, mo z 0 pz0_5 pz0_6 pz0_7 pz0_8 pz0_9 pz0_10 pz0_11 pz0_12 pz0_13 pz0_14 pz0_18 pz0_19 pz0_22 pz0_23 v_11)), (z 1, aI V 3075 fz1)] H := hP
              have hD : va_D A [(z 15, aI V 900 f_6), (z 16, aI V 6 f_7), (z 24, aI V 10000 f_8), (z 28, aZ V 10000 f_10), (z 26, aI V 10000 f_30), (z 25, aI V 40000 f_9), (z 0, .inr (10, mo z 0 pz0_5 pz0_6 pz0_7 pz0_8 pz0_9 pz0_10 pz0_11 pz0_12 pz0_13 pz0_14 pz0_18 pz0_19 pz0_22 pz0_23 v_11)), (z 1, aI V 3075 fz1)] := hD
              refine lv_iload hx hb dX10_keeps_109 (lv_at hl 1 rfl) ?_
              refine lv_icmp_le (tgt := 126) hx hb dX10_keeps_111 (by decide) (fun c_60 => ?_) (fun c_60 => ?_)
              · refine lv_iload hx hb dX10_keeps_126 (lv_at hl 1 rfl) ?_
                refine lv_istore (lv' := [(5, .int u_37), (6, .int u_36), (4, .int x_35), (3, .int u_28), (2, .int u_29), (0, .ref (z 0)), (1, .int a1)]) hx hb dX10_keeps_128 hl (by decide) rfl (fun ls hl => ?_)
                obtain ⟨x_61, ex_61⟩ : ∃ z9 : Int32, z9 = u_36 + 1 := ⟨_, rfl⟩
                have bx_61 : iv 1 4 x_61 := by rw [ex_61]; exact iv_add b_52 (iv_c (1 : Int32) (a := 1) (b := 1) (by decide)) (by decide)
                refine lv_iinc (v := x_61) (lv' := [(6, .int x_61), (5, .int u_37), (4, .int x_35), (3, .int u_28), (2, .int u_29), (0, .ref (z 0)), (1, .int a1)]) hx hb dX10_keeps_130 hl (k := 1) rfl (by rw [ex_61]; rfl) (by decide) rfl (fun ls hl => ?_)
                refine lv_goto (tgt := 81) hx hb dX10_keeps_133 (by decide) ?_
                have hP := subP (ws' := [(z 26, aI V 10000 f_30), (z 15, aI V 900 f_6), (z 16, aI V 6 f_7), (z 24, aI V 10000 f_8), (z 25, aI V 40000 f_9), (z 28, aZ V 10000 f_10), (z 0, .inr (10, mo z 0 pz0_5 pz0_6 pz0_7 pz0_8 pz0_9 pz0_10 pz0_11 pz0_12 pz0_13 pz0_14 pz0_18 pz0_19 pz0_22 pz0_23 v_11)), (z 1, aI V 3075 fz1)]) hP [4, 0, 1, 2, 5, 3, 6, 7] rfl
                have hD := hD.sub (ws' := [(z 26, aI V 10000 f_30), (z 15, aI V 900 f_6), (z 16, aI V 6 f_7), (z 24, aI V 10000 f_8), (z 25, aI V 40000 f_9), (z 28, aZ V 10000 f_10), (z 0, .inr (10, mo z 0 pz0_5 pz0_6 pz0_7 pz0_8 pz0_9 pz0_10 pz0_11 pz0_12 pz0_13 pz0_14 pz0_18 pz0_19 pz0_22 pz0_23 v_11)), (z 1, aI V 3075 fz1)]) [4, 0, 1, 2, 5, 3, 6, 7] rfl rfl
                exact ihn_38 _ _ _ _ (by rw [en_38, ex_61]; exact mu_up b_52 (by decide)) ⟨x_61, u_37, (iv_w bx_61 (by decide)), bu_37, inn_38_0, rfl, hP, hD, hS, lv_sub hl [0, 1, 2, 3, 4, 5, 6] rfl⟩
              · have b_62 : iv 0 268435455 u_37 := iv_l1 (Int32.not_le.mp c_60) bu_37 br_59 (by decide)
                have b_63 : iv 1 268435456 r_59 := iv_l2 (Int32.not_le.mp c_60) bu_37 br_59 (by decide)
                refine lv_aload_n hx hb dX10_keeps_114 rfl (lv_at hl 5 rfl) ?_
                refine lv_iload hx hb dX10_keeps_115 (lv_at hl 2 rfl) ?_
                refine lv_iload hx hb dX10_keeps_117 (lv_at hl 0 rfl) ?_
                refine lv_iload_n hx hb dX10_keeps_119 rfl (lv_at hl 6 rfl) ?_
                refine jnI (wr := [(z 15, aI V 900 f_6), (z 16, aI V 6 f_7), (z 24, aI V 10000 f_8), (z 28, aZ V 10000 f_10)]) (rnV (rest := []) ⟨hx, hb, hml, hown, hg⟩ (k_X10_keptBy_0 l V z x_35 u_36 a1 f_30 f_9 0 pz0_5 pz0_6 pz0_7 pz0_8 pz0_9 pz0_10 pz0_11 pz0_12 pz0_13 pz0_14 pz0_18 pz0_19 pz0_22 pz0_23 v_11 fz1 bx_35 b_52 tf_30 tf_9 bpz0_5 bpz0_6 bpz0_7 bpz0_8 bpz0_10 bpz0_11 bpz0_12 bpz0_13 bpz0_14 bpz0_18 bpz0_22 (iv_w b_34 (by decide)) tfz1) mt_X10_keptBy q_7_236 ⟨Nat.le_of_ble_eq_true rfl, Nat.le_of_ble_eq_true rfl⟩ hK hP hD hS hA hE [4, 5, 6, 7] rfl rfl 6 rfl rfl rfl rfl hl.1 rfl (Nat.le_of_ble_eq_true rfl) dX10_keeps_120 ⟨Nat.le_of_ble_eq_true rfl, Nat.le_of_ble_eq_true rfl⟩) hP hD hS hA [4, 5, 6, 7] [0, 1, 2, 3] rfl rfl rfl (by decide) (fun r_64 w H locs hw hP hD hS => ?_)
                obtain ⟨br_64, er_64, rfl⟩ := hw
                have e9_r_64 : r_64 = r_59 := er_64.trans er_59.symm
                rw [e9_r_64]
                have hP : va_P V.1 vwCl [(z 15, aI V 900 f_6), (z 16, aI V 6 f_7), (z 24, aI V 10000 f_8), (z 28, aZ V 10000 f_10), (z 26, aI V 10000 f_30), (z 25, aI V 40000 f_9), (z 0, .inr (10, mo z 0 pz0_5 pz0_6 pz0_7 pz0_8 pz0_9 pz0_10 pz0_11 pz0_12 pz0_13 pz0_14 pz0_18 pz0_19 pz0_22 pz0_23 v_11)), (z 1, aI V 3075 fz1)] H := hP
                have hD : va_D A [(z 15, aI V 900 f_6), (z 16, aI V 6 f_7), (z 24, aI V 10000 f_8), (z 28, aZ V 10000 f_10), (z 26, aI V 10000 f_30), (z 25, aI V 40000 f_9), (z 0, .inr (10, mo z 0 pz0_5 pz0_6 pz0_7 pz0_8 pz0_9 pz0_10 pz0_11 pz0_12 pz0_13 pz0_14 pz0_18 pz0_19 pz0_22 pz0_23 v_11)), (z 1, aI V 3075 fz1)] := hD
                refine lv_goto (tgt := 128) hx hb dX10_keeps_123 (by decide) ?_
                refine lv_istore (lv' := [(5, .int r_59), (6, .int u_36), (4, .int x_35), (3, .int u_28), (2, .int u_29), (0, .ref (z 0)), (1, .int a1)]) hx hb dX10_keeps_128 hl (by decide) rfl (fun ls hl => ?_)
                obtain ⟨x_65, ex_65⟩ : ∃ z9 : Int32, z9 = u_36 + 1 := ⟨_, rfl⟩
                have bx_65 : iv 1 4 x_65 := by rw [ex_65]; exact iv_add b_52 (iv_c (1 : Int32) (a := 1) (b := 1) (by decide)) (by decide)
                refine lv_iinc (v := x_65) (lv' := [(6, .int x_65), (5, .int r_59), (4, .int x_35), (3, .int u_28), (2, .int u_29), (0, .ref (z 0)), (1, .int a1)]) hx hb dX10_keeps_130 hl (k := 1) rfl (by rw [ex_65]; rfl) (by decide) rfl (fun ls hl => ?_)
                refine lv_goto (tgt := 81) hx hb dX10_keeps_133 (by decide) ?_
                have hP := subP (ws' := [(z 26, aI V 10000 f_30), (z 15, aI V 900 f_6), (z 16, aI V 6 f_7), (z 24, aI V 10000 f_8), (z 25, aI V 40000 f_9), (z 28, aZ V 10000 f_10), (z 0, .inr (10, mo z 0 pz0_5 pz0_6 pz0_7 pz0_8 pz0_9 pz0_10 pz0_11 pz0_12 pz0_13 pz0_14 pz0_18 pz0_19 pz0_22 pz0_23 v_11)), (z 1, aI V 3075 fz1)]) hP [4, 0, 1, 2, 5, 3, 6, 7] rfl
                have hD := hD.sub (ws' := [(z 26, aI V 10000 f_30), (z 15, aI V 900 f_6), (z 16, aI V 6 f_7), (z 24, aI V 10000 f_8), (z 25, aI V 40000 f_9), (z 28, aZ V 10000 f_10), (z 0, .inr (10, mo z 0 pz0_5 pz0_6 pz0_7 pz0_8 pz0_9 pz0_10 pz0_11 pz0_12 pz0_13 pz0_14 pz0_18 pz0_19 pz0_22 pz0_23 v_11)), (z 1, aI V 3075 fz1)]) [4, 0, 1, 2, 5, 3, 6, 7] rfl rfl
                exact ihn_38 _ _ _ _ (by rw [en_38, ex_65]; exact mu_up b_52 (by decide)) ⟨x_65, r_59, (iv_w bx_65 (by decide)), (iv_w b_63 (by decide)), inn_38_0, rfl, hP, hD, hS, lv_sub hl [0, 1, 2, 3, 4, 5, 6] rfl⟩
    · have b_66 : iv 0 9999 u_15 := iv_l1 (Int32.not_le.mp c_18) bu_15 bv_11 (by decide)
      have b_67 : iv 1 10000 v_11 := iv_l2 (Int32.not_le.mp c_18) bu_15 bv_11 (by decide)
      refine lv_aload_n hx hb dX10_keeps_29 rfl (lv_at hl 1 rfl) ?_
      refine va_get (ci := 10) (v := .ref (z 26)) (C := RX10) (T := TX10) (N := 40) hx hb hg inX10 hown hK hP 6 rfl rfl 26 (by decide) (hg _ q_6_10) (fun _ h9 => h9) rfl dX10_keeps_30 ?_
      refine lv_aload_n hx hb dX10_keeps_33 rfl (lv_at hl 1 rfl) ?_
      refine va_get (ci := 10) (v := .ref (z 24)) (C := RX10) (T := TX10) (N := 40) hx hb hg inX10 hown hK hP 6 rfl rfl 24 (by decide) (hg _ q_6_8) (fun _ h9 => h9) rfl dX10_keeps_34 ?_
      refine lv_iload_n hx hb dX10_keeps_37 rfl (lv_at hl 0 rfl) ?_
      refine va_iald hx hb hK hP 3 0 rfl rfl (iv_in b_66 (by decide)) dX10_keeps_38 ?_
      refine lv_topi (fun x_68 ex_68 => ?_)
      have bx_68 : iv 0 9999 x_68 := by rw [ex_68]; exact tf_8 _
      refine lv_ldcw (v := 268435456) hx hb hown (hg _ q_7_202) dX10_keeps_39 ?_
      refine va_iast hx hb hK hP hD hS 0 0 rfl rfl (iv_in bx_68 (by decide)) dX10_keeps_42 (fun H locs hP hD hS => ?_)
      obtain ⟨f_69, ef_69, tf_69, hP, hD⟩ : ∃ f_69 : Nat → Int32, f_69 = (upd f_16 (x_68 : Int32).toNatClampNeg 268435456) ∧ (∀ j, iv 0 268435456 (f_69 j)) ∧ va_P V.1 vwCl [(z 26, aI V 10000 f_69), (z 15, aI V 900 f_6), (z 16, aI V 6 f_7), (z 24, aI V 10000 f_8), (z 25, aI V 40000 f_9), (z 28, aZ V 10000 f_10), (z 0, .inr (10, mo z 0 pz0_5 pz0_6 pz0_7 pz0_8 pz0_9 pz0_10 pz0_11 pz0_12 pz0_13 pz0_14 pz0_18 pz0_19 pz0_22 pz0_23 v_11)), (z 1, aI V 3075 fz1)] H ∧ va_D A [(z 26, aI V 10000 f_69), (z 15, aI V 900 f_6), (z 16, aI V 6 f_7), (z 24, aI V 10000 f_8), (z 25, aI V 40000 f_9), (z 28, aZ V 10000 f_10), (z 0, .inr (10, mo z 0 pz0_5 pz0_6 pz0_7 pz0_8 pz0_9 pz0_10 pz0_11 pz0_12 pz0_13 pz0_14 pz0_18 pz0_19 pz0_22 pz0_23 v_11)), (z 1, aI V 3075 fz1)] := ⟨_, rfl, ivU tf_16 _ (iv_c (268435456 : Int32) (by decide)), hP, hD⟩
      obtain ⟨x_70, ex_70⟩ : ∃ z9 : Int32, z9 = u_15 + 1 := ⟨_, rfl⟩
      have bx_70 : iv 1 10000 x_70 := by rw [ex_70]; exact iv_add b_66 (iv_c (1 : Int32) (a := 1) (b := 1) (by decide)) (by decide)
      refine lv_iinc (v := x_70) (lv' := [(2, .int x_70), (0, .ref (z 0)), (1, .int a1)]) hx hb dX10_keeps_43 hl (k := 0) rfl (by rw [ex_70]; rfl) (by decide) rfl (fun ls hl => ?_)
      refine lv_goto (tgt := 21) hx hb dX10_keeps_46 (by decide) ?_
      exact ihn_17 _ _ _ _ (by rw [en_17, ex_70]; exact mu_up b_66 (by decide)) ⟨x_70, f_69, (iv_w bx_70 (by decide)), tf_69, inn_17_0, rfl, hP, hD, hS, lv_sub hl [0, 1, 2] rfl⟩
  · have b_71 : iv 0 0 r_1 := iv_q c_3 (iv_c (0 : Int32) (a := 0) (b := 0) (by decide))
    refine lv_bipush (v := (-3)) hx hb dX10_keeps_12 (by decide) ?_
    exact fiI hx hb hr hlk hK hP hD hS dX10_keeps_14 (Nat.le_of_ble_eq_true rfl) (Nat.le_of_ble_eq_true rfl) (⟨0, pz0_29, fz15, fz16, fz24, fz25, fz26, fz28, bpz0_29, tfz16, tfz24, tfz25, tfz26, hf0, rfl⟩)
theorem dX10_reaches_0 : decode cX10_reaches 0 = .ok (.aload_n 0, 1) := by decide +kernel
theorem dX10_reaches_1 : decode cX10_reaches 1 = .ok (.iconst 0, 1) := by decide +kernel
theorem dX10_reaches_2 : decode cX10_reaches 2 = .ok (.putfield 1, 3) := by decide +kernel
theorem dX10_reaches_5 : decode cX10_reaches 5 = .ok (.aload_n 0, 1) := by decide +kernel
theorem dX10_reaches_6 : decode cX10_reaches 6 = .ok (.iload_n 1, 1) := by decide +kernel
theorem dX10_reaches_7 : decode cX10_reaches 7 = .ok (.i2l, 1) := by decide +kernel
theorem dX10_reaches_8 : decode cX10_reaches 8 = .ok (.invokevirtual 262, 3) := by decide +kernel
theorem dX10_reaches_11 : decode cX10_reaches 11 = .ok (.ifCond .eq 13, 3) := by decide +kernel
theorem dX10_reaches_24 : decode cX10_reaches 24 = .ok (.bipush (-2), 2) := by decide +kernel
theorem dX10_reaches_26 : decode cX10_reaches 26 = .ok (.ireturn, 1) := by decide +kernel
theorem dX10_reaches_14 : decode cX10_reaches 14 = .ok (.iload_n 2, 1) := by decide +kernel
theorem dX10_reaches_15 : decode cX10_reaches 15 = .ok (.i2l, 1) := by decide +kernel
theorem dX10_reaches_16 : decode cX10_reaches 16 = .ok (.lconst 0, 1) := by decide +kernel
theorem dX10_reaches_17 : decode cX10_reaches 17 = .ok (.lconst 1, 1) := by decide +kernel
theorem dX10_reaches_18 : decode cX10_reaches 18 = .ok (.invokestatic 159, 3) := by decide +kernel
theorem dX10_reaches_21 : decode cX10_reaches 21 = .ok (.ifCond .ne 6, 3) := by decide +kernel
theorem dX10_reaches_27 : decode cX10_reaches 27 = .ok (.aload_n 0, 1) := by decide +kernel
theorem dX10_reaches_28 : decode cX10_reaches 28 = .ok (.invokevirtual 362, 3) := by decide +kernel
theorem dX10_reaches_31 : decode cX10_reaches 31 = .ok (.aload_n 0, 1) := by decide +kernel
theorem dX10_reaches_32 : decode cX10_reaches 32 = .ok (.getfield 13, 3) := by decide +kernel
theorem dX10_reaches_35 : decode cX10_reaches 35 = .ok (.bipush 46, 2) := by decide +kernel
theorem dX10_reaches_37 : decode cX10_reaches 37 = .ok (.iload_n 1, 1) := by decide +kernel
theorem dX10_reaches_38 : decode cX10_reaches 38 = .ok (.iadd, 1) := by decide +kernel
theorem dX10_reaches_39 : decode cX10_reaches 39 = .ok (.iaload, 1) := by decide +kernel
theorem dX10_reaches_40 : decode cX10_reaches 40 = .ok (.istore_n 3, 1) := by decide +kernel
theorem dX10_reaches_41 : decode cX10_reaches 41 = .ok (.iconst 0, 1) := by decide +kernel
theorem dX10_reaches_42 : decode cX10_reaches 42 = .ok (.istore 4, 2) := by decide +kernel
theorem dX10_reaches_44 : decode cX10_reaches 44 = .ok (.iload 4, 2) := by decide +kernel
theorem dX10_reaches_46 : decode cX10_reaches 46 = .ok (.aload_n 0, 1) := by decide +kernel
theorem dX10_reaches_47 : decode cX10_reaches 47 = .ok (.getfield 355, 3) := by decide +kernel
theorem dX10_reaches_50 : decode cX10_reaches 50 = .ok (.if_icmp .ge 48, 3) := by decide +kernel
theorem dX10_reaches_98 : decode cX10_reaches 98 = .ok (.iload_n 3, 1) := by decide +kernel
theorem dX10_reaches_99 : decode cX10_reaches 99 = .ok (.ireturn, 1) := by decide +kernel
theorem dX10_reaches_53 : decode cX10_reaches 53 = .ok (.aload_n 0, 1) := by decide +kernel
theorem dX10_reaches_54 : decode cX10_reaches 54 = .ok (.getfield 45, 3) := by decide +kernel
theorem dX10_reaches_57 : decode cX10_reaches 57 = .ok (.iload 4, 2) := by decide +kernel
theorem dX10_reaches_59 : decode cX10_reaches 59 = .ok (.iaload, 1) := by decide +kernel
theorem dX10_reaches_60 : decode cX10_reaches 60 = .ok (.iload_n 1, 1) := by decide +kernel
theorem dX10_reaches_61 : decode cX10_reaches 61 = .ok (.invokestatic 231, 3) := by decide +kernel
theorem dX10_reaches_64 : decode cX10_reaches 64 = .ok (.istore 5, 2) := by decide +kernel
theorem dX10_reaches_66 : decode cX10_reaches 66 = .ok (.iload_n 2, 1) := by decide +kernel
theorem dX10_reaches_67 : decode cX10_reaches 67 = .ok (.ifCond .ne 12, 3) := by decide +kernel
theorem dX10_reaches_79 : decode cX10_reaches 79 = .ok (.iload 5, 2) := by decide +kernel
theorem dX10_reaches_81 : decode cX10_reaches 81 = .ok (.iload_n 3, 1) := by decide +kernel
theorem dX10_reaches_82 : decode cX10_reaches 82 = .ok (.if_icmp .ge 8, 3) := by decide +kernel
theorem dX10_reaches_90 : decode cX10_reaches 90 = .ok (.iload_n 3, 1) := by decide +kernel
theorem dX10_reaches_91 : decode cX10_reaches 91 = .ok (.istore_n 3, 1) := by decide +kernel
theorem dX10_reaches_92 : decode cX10_reaches 92 = .ok (.iinc 4 1, 3) := by decide +kernel
theorem dX10_reaches_95 : decode cX10_reaches 95 = .ok (.goto (-51), 3) := by decide +kernel
theorem dX10_reaches_85 : decode cX10_reaches 85 = .ok (.iload 5, 2) := by decide +kernel
theorem dX10_reaches_87 : decode cX10_reaches 87 = .ok (.goto 4, 3) := by decide +kernel
theorem dX10_reaches_70 : decode cX10_reaches 70 = .ok (.iload 5, 2) := by decide +kernel
theorem dX10_reaches_72 : decode cX10_reaches 72 = .ok (.iload_n 3, 1) := by decide +kernel
theorem dX10_reaches_73 : decode cX10_reaches 73 = .ok (.if_icmp .le 17, 3) := by decide +kernel
theorem dX10_reaches_76 : decode cX10_reaches 76 = .ok (.goto 9, 3) := by decide +kernel
set_option maxHeartbeats 4000000 in
set_option maxRecDepth 100000 in
theorem k_X10_reaches_0 (l : Launch) (V : GV) (z : Nat → Nat) (a1 : Int32) (a2 : Int32) (pz0_0 : Int32) (pz0_5 : Int32) (pz0_6 : Int32) (pz0_7 : Int32) (pz0_8 : Int32) (pz0_9 : Int32) (pz0_10 : Int32) (pz0_11 : Int32) (pz0_12 : Int32) (pz0_13 : Int32) (pz0_14 : Int32) (pz0_18 : Int32) (pz0_19 : Int32) (pz0_22 : Int32) (pz0_23 : Int32) (pz0_29 : Int32) (fz1 : Nat → Int32) (fz15 : Nat → Int32) (fz16 : Nat → Int32) (fz24 : Nat → Int32) (fz25 : Nat → Int32) (fz28 : Nat → Int32) (bpz0_5 : iv 0 900 pz0_5) (bpz0_6 : iv 0 900 pz0_6) (bpz0_7 : iv 0 900 pz0_7) (bpz0_8 : iv 0 900 pz0_8) (bpz0_10 : iv 0 999 pz0_10) (bpz0_11 : iv 0 4 pz0_11) (bpz0_12 : iv 0 900 pz0_12) (bpz0_13 : iv 0 4 pz0_13) (bpz0_14 : iv (-1) 900 pz0_14) (bpz0_18 : iv 0 2 pz0_18) (bpz0_22 : iv 0 9999 pz0_22) (bpz0_29 : iv 0 10000 pz0_29) (tfz1 : ivT tA fz1) (tfz16 : ivT tW fz16) (tfz24 : ∀ j, iv 0 9999 (fz24 j)) (tfz25 : ∀ j, iv (-1) 9999 (fz25 j)) (hf0 : RW fz1) : Ct l V yX10_reaches (.code yX10_reaches cX10_reaches 6 (some .int)) 6 [.ref (z 0), .int a1, .int a2] [(z 0, .inr (10, mo z pz0_0 pz0_5 pz0_6 pz0_7 pz0_8 pz0_9 pz0_10 pz0_11 pz0_12 pz0_13 pz0_14 pz0_18 pz0_19 pz0_22 pz0_23 pz0_29)), (z 1, aI V 3075 fz1), (z 15, aI V 900 fz15), (z 16, aI V 6 fz16), (z 24, aI V 10000 fz24), (z 25, aI V 40000 fz25), (z 28, aZ V 10000 fz28)] 0 0 (QI V (fun (r : Int32) (w : va_W) => ∃ (v0 : Int32) (v1 : Int32) (g2 : Nat → Int32) (g3 : Nat → Int32) (g4 : Nat → Int32) (g5 : Nat → Int32) (g6 : Nat → Int32), iv 0 10000 v1 ∧ (ivT tW g3) ∧ (∀ j, iv 0 9999 (g4 j)) ∧ (∀ j, iv (-1) 9999 (g5 j)) ∧ (RW fz1) ∧ w = [(z 0, .inr (10, mo z v0 pz0_5 pz0_6 pz0_7 pz0_8 pz0_9 pz0_10 pz0_11 pz0_12 pz0_13 pz0_14 pz0_18 pz0_19 pz0_22 pz0_23 v1)), (z 1, aI V 3075 fz1), (z 15, aI V 900 g2), (z 16, aI V 6 g3), (z 24, aI V 10000 g4), (z 25, aI V 40000 g5), (z 28, aZ V 10000 g6)])) := by
  refine Ct.of (by decide) (Nat.le_of_ble_eq_true rfl) (fun p e s m below meth c A ls hx hb hr hml hown hlk hnm hg hP hK hD hE hA hS hl => ?_)
  have hl : lv_has ls 6 [(0, .ref (z 0)), (1, .int a1), (2, .int a2)] := hl
  refine lv_aload_n hx hb dX10_reaches_0 rfl (lv_at hl 0 rfl) ?_
  refine lv_iconst (v := 0) hx hb dX10_reaches_1 (by decide) ?_
  refine va_put (ci := 10) (v := .int 0) (ty := .int) (C := RX10) (T := TX10) (N := 40) hx hb hg inX10 tyX10 tyX10_ok nmX10 hown hK hP hD hS 0 rfl rfl 0 (by decide) (hg _ q_5_224) (fun _ h9 => h9) rfl (by decide +kernel) rfl rfl (Nat.le_of_ble_eq_true rfl) dX10_reaches_2 (fun H locs hP hD hS => ?_)
  have hP : va_P V.1 vwCl [(z 0, .inr (10, mo z 0 pz0_5 pz0_6 pz0_7 pz0_8 pz0_9 pz0_10 pz0_11 pz0_12 pz0_13 pz0_14 pz0_18 pz0_19 pz0_22 pz0_23 pz0_29)), (z 1, aI V 3075 fz1), (z 15, aI V 900 fz15), (z 16, aI V 6 fz16), (z 24, aI V 10000 fz24), (z 25, aI V 40000 fz25), (z 28, aZ V 10000 fz28)] H := hP
  have hD : va_D A [(z 0, .inr (10, mo z 0 pz0_5 pz0_6 pz0_7 pz0_8 pz0_9 pz0_10 pz0_11 pz0_12 pz0_13 pz0_14 pz0_18 pz0_19 pz0_22 pz0_23 pz0_29)), (z 1, aI V 3075 fz1), (z 15, aI V 900 fz15), (z 16, aI V 6 fz16), (z 24, aI V 10000 fz24), (z 25, aI V 40000 fz25), (z 28, aZ V 10000 fz28)] := hD
  refine lv_aload_n hx hb dX10_reaches_5 rfl (lv_at hl 0 rfl) ?_
  refine lv_iload_n hx hb dX10_reaches_6 rfl (lv_at hl 1 rfl) ?_
  refine lv_i2l hx hb dX10_reaches_7 rfl ?_
  refine lv_topl (fun j_1 ej_1 => ?_)
  refine jnI (wr := [(z 15, aI V 900 fz15), (z 16, aI V 6 fz16), (z 24, aI V 10000 fz24), (z 25, aI V 40000 fz25), (z 28, aZ V 10000 fz28)]) (rnV (rest := []) ⟨hx, hb, hml, hown, hg⟩ (k_X10_isHill_0 l V z j_1 0 pz0_5 pz0_6 pz0_7 pz0_8 pz0_9 pz0_10 pz0_11 pz0_12 pz0_13 pz0_14 pz0_18 pz0_19 pz0_22 pz0_23 pz0_29 fz1 bpz0_5 bpz0_6 bpz0_7 bpz0_8 bpz0_10 bpz0_11 bpz0_12 bpz0_13 bpz0_14 bpz0_18 bpz0_22 bpz0_29 tfz1) mt_X10_isHill q_6_235 ⟨Nat.le_of_ble_eq_true rfl, Nat.le_of_ble_eq_true rfl⟩ hK hP hD hS hA hE [0, 1] rfl rfl 0 rfl rfl rfl rfl hl.1 rfl (Nat.le_of_ble_eq_true rfl) dX10_reaches_8 ⟨Nat.le_of_ble_eq_true rfl, Nat.le_of_ble_eq_true rfl⟩) hP hD hS hA [0, 1] [2, 3, 4, 5, 6] rfl rfl rfl (by decide) (fun r_2 w H locs hw hP hD hS => ?_)
  obtain ⟨br_2, g_3, rfl⟩ := hw
  have hP : va_P V.1 vwCl [(z 15, aI V 900 fz15), (z 16, aI V 6 fz16), (z 24, aI V 10000 fz24), (z 25, aI V 40000 fz25), (z 28, aZ V 10000 fz28), (z 0, .inr (10, mo z 0 pz0_5 pz0_6 pz0_7 pz0_8 pz0_9 pz0_10 pz0_11 pz0_12 pz0_13 pz0_14 pz0_18 pz0_19 pz0_22 pz0_23 pz0_29)), (z 1, aI V 3075 fz1)] H := hP
  have hD : va_D A [(z 15, aI V 900 fz15), (z 16, aI V 6 fz16), (z 24, aI V 10000 fz24), (z 25, aI V 40000 fz25), (z 28, aZ V 10000 fz28), (z 0, .inr (10, mo z 0 pz0_5 pz0_6 pz0_7 pz0_8 pz0_9 pz0_10 pz0_11 pz0_12 pz0_13 pz0_14 pz0_18 pz0_19 pz0_22 pz0_23 pz0_29)), (z 1, aI V 3075 fz1)] := hD
  refine lv_if_eq (tgt := 24) hx hb dX10_reaches_11 (by decide) (fun c_4 => ?_) (fun c_4 => ?_)
  · have b_5 : iv 0 0 r_2 := iv_q c_4 (iv_c (0 : Int32) (a := 0) (b := 0) (by decide))
    refine lv_bipush (v := (-2)) hx hb dX10_reaches_24 (by decide) ?_
    have hP := subP (ws' := [(z 0, .inr (10, mo z 0 pz0_5 pz0_6 pz0_7 pz0_8 pz0_9 pz0_10 pz0_11 pz0_12 pz0_13 pz0_14 pz0_18 pz0_19 pz0_22 pz0_23 pz0_29)), (z 1, aI V 3075 fz1), (z 15, aI V 900 fz15), (z 16, aI V 6 fz16), (z 24, aI V 10000 fz24), (z 25, aI V 40000 fz25), (z 28, aZ V 10000 fz28)]) hP [5, 6, 0, 1, 2, 3, 4] rfl
    have hD := hD.sub (ws' := [(z 0, .inr (10, mo z 0 pz0_5 pz0_6 pz0_7 pz0_8 pz0_9 pz0_10 pz0_11 pz0_12 pz0_13 pz0_14 pz0_18 pz0_19 pz0_22 pz0_23 pz0_29)), (z 1, aI V 3075 fz1), (z 15, aI V 900 fz15), (z 16, aI V 6 fz16), (z 24, aI V 10000 fz24), (z 25, aI V 40000 fz25), (z 28, aZ V 10000 fz28)]) [5, 6, 0, 1, 2, 3, 4] rfl rfl
    exact fiI hx hb hr hlk hK hP hD hS dX10_reaches_26 (Nat.le_of_ble_eq_true rfl) (Nat.le_of_ble_eq_true rfl) (⟨0, pz0_29, fz15, fz16, fz24, fz25, fz28, bpz0_29, tfz16, tfz24, tfz25, hf0, rfl⟩)
  · have b_6 : iv 1 1 r_2 := iv_n0 c_4 br_2 (iv_c (0 : Int32) (a := 0) (b := 0) (by decide)) (by decide)
    have b_7 : ivL 0 3 j_1 := ivL_cap (g_3 (iv_eqp b_6 (iv_c (1 : Int32) (by decide)))) (ivL_top j_1) (by decide)
    have b_8 : iv 0 3 a1 := iv_cap (ivL_i ej_1 b_7) (iv_top a1) (by decide)
    refine lv_iload_n hx hb dX10_reaches_14 rfl (lv_at hl 2 rfl) ?_
    refine lv_i2l hx hb dX10_reaches_15 rfl ?_
    refine lv_topl (fun j_9 ej_9 => ?_)
    refine lv_lconst (v := 0) hx hb dX10_reaches_16 (by decide) ?_
    refine lv_lconst (v := 1) hx hb dX10_reaches_17 (by decide) ?_
    refine jnI (wr := [(z 15, aI V 900 fz15), (z 16, aI V 6 fz16), (z 24, aI V 10000 fz24), (z 25, aI V 40000 fz25), (z 28, aZ V 10000 fz28), (z 0, .inr (10, mo z 0 pz0_5 pz0_6 pz0_7 pz0_8 pz0_9 pz0_10 pz0_11 pz0_12 pz0_13 pz0_14 pz0_18 pz0_19 pz0_22 pz0_23 pz0_29)), (z 1, aI V 3075 fz1)]) (rnS (rest := []) ⟨hx, hb, hml, hown, hg⟩ (k_X10_within_0 l V j_9 0 1) mt_X10_within q_6_114 ⟨Nat.le_of_ble_eq_true rfl, Nat.le_of_ble_eq_true rfl⟩ hK hP hD hS hA hE [] rfl rfl rfl hl.1 rfl (Nat.le_of_ble_eq_true rfl) dX10_reaches_18 ⟨Nat.le_of_ble_eq_true rfl, Nat.le_of_ble_eq_true rfl⟩) hP hD hS hA [] [0, 1, 2, 3, 4, 5, 6] rfl rfl rfl (by decide) (fun r_10 w H locs hw hP hD hS => ?_)
    obtain ⟨br_10, g_11, g_12, g_13, rfl⟩ := hw
    have hP : va_P V.1 vwCl [(z 15, aI V 900 fz15), (z 16, aI V 6 fz16), (z 24, aI V 10000 fz24), (z 25, aI V 40000 fz25), (z 28, aZ V 10000 fz28), (z 0, .inr (10, mo z 0 pz0_5 pz0_6 pz0_7 pz0_8 pz0_9 pz0_10 pz0_11 pz0_12 pz0_13 pz0_14 pz0_18 pz0_19 pz0_22 pz0_23 pz0_29)), (z 1, aI V 3075 fz1)] H := hP
    have hD : va_D A [(z 15, aI V 900 fz15), (z 16, aI V 6 fz16), (z 24, aI V 10000 fz24), (z 25, aI V 40000 fz25), (z 28, aZ V 10000 fz28), (z 0, .inr (10, mo z 0 pz0_5 pz0_6 pz0_7 pz0_8 pz0_9 pz0_10 pz0_11 pz0_12 pz0_13 pz0_14 pz0_18 pz0_19 pz0_22 pz0_23 pz0_29)), (z 1, aI V 3075 fz1)] := hD
    refine lv_if_ne (tgt := 27) hx hb dX10_reaches_21 (by decide) (fun c_14 => ?_) (fun c_14 => ?_)
    · have b_15 : iv 1 1 r_10 := iv_n0 c_14 br_10 (iv_c (0 : Int32) (a := 0) (b := 0) (by decide)) (by decide)
      have c_16 : (0 : Int64) ≤ j_9 := (g_12 (iv_eqp b_15 (iv_c (1 : Int32) (by decide))))
      have b_17 : ivL 0 9223372036854775807 j_9 := ivL_e2 c_16 (ivL_c (0 : Int64) (a := 0) (b := 0) (by decide)) (ivL_top j_9) (by decide)
      have b_18 : iv 0 2147483647 a2 := iv_cap (ivL_i ej_9 b_17) (iv_top a2) (by decide)
      have c_19 : j_9 ≤ 1 := (g_13 (iv_eqp b_15 (iv_c (1 : Int32) (by decide))))
      have b_20 : ivL 0 1 j_9 := ivL_e1 c_19 b_17 (ivL_c (1 : Int64) (a := 1) (b := 1) (by decide)) (by decide)
      have b_21 : iv 0 1 a2 := iv_cap (ivL_i ej_9 b_20) b_18 (by decide)
      refine lv_aload_n hx hb dX10_reaches_27 rfl (lv_at hl 0 rfl) ?_
      refine jnV (wr := []) (rnV (rest := []) ⟨hx, hb, hml, hown, hg⟩ (k_X10_laysStands_0 l V z fz15 fz16 fz24 fz25 fz28 0 pz0_5 pz0_6 pz0_7 pz0_8 pz0_9 pz0_10 pz0_11 pz0_12 pz0_13 pz0_14 pz0_18 pz0_19 pz0_22 pz0_23 pz0_29 fz1 tfz16 tfz24 tfz25 bpz0_5 bpz0_6 bpz0_7 bpz0_8 bpz0_10 bpz0_11 bpz0_12 bpz0_13 bpz0_14 bpz0_18 bpz0_22 bpz0_29 tfz1 hf0) mt_X10_laysStands q_7_194 ⟨Nat.le_of_ble_eq_true rfl, Nat.le_of_ble_eq_true rfl⟩ hK hP hD hS hA hE [0, 1, 2, 3, 4, 5, 6] rfl rfl 5 rfl rfl rfl rfl hl.1 rfl (Nat.le_of_ble_eq_true rfl) dX10_reaches_28 ⟨Nat.le_of_ble_eq_true rfl, Nat.le_of_ble_eq_true rfl⟩) hP hD hS hA [0, 1, 2, 3, 4, 5, 6] [] rfl rfl rfl (by decide) (fun  w H locs hw hP hD hS => ?_)
      obtain ⟨f_22, f_23, f_24, f_25, f_26, v_27, tf_23, tf_24, tf_25, bv_27, g_28, g_29, g_30, rfl⟩ := hw
      have hP : va_P V.1 vwCl [(z 15, aI V 900 f_22), (z 16, aI V 6 f_23), (z 24, aI V 10000 f_24), (z 25, aI V 40000 f_25), (z 28, aZ V 10000 f_26), (z 0, .inr (10, mo z 0 pz0_5 pz0_6 pz0_7 pz0_8 pz0_9 pz0_10 pz0_11 pz0_12 pz0_13 pz0_14 pz0_18 pz0_19 pz0_22 pz0_23 v_27)), (z 1, aI V 3075 fz1)] H := hP
      have hD : va_D A [(z 15, aI V 900 f_22), (z 16, aI V 6 f_23), (z 24, aI V 10000 f_24), (z 25, aI V 40000 f_25), (z 28, aZ V 10000 f_26), (z 0, .inr (10, mo z 0 pz0_5 pz0_6 pz0_7 pz0_8 pz0_9 pz0_10 pz0_11 pz0_12 pz0_13 pz0_14 pz0_18 pz0_19 pz0_22 pz0_23 v_27)), (z 1, aI V 3075 fz1)] := hD
      refine lv_aload_n hx hb dX10_reaches_31 rfl (lv_at hl 0 rfl) ?_
      refine va_get (ci := 10) (v := .ref (z 1)) (C := RX10) (T := TX10) (N := 40) hx hb hg inX10 hown hK hP 5 rfl rfl 1 (by decide) (hg _ q_5_225) (fun _ h9 => h9) rfl dX10_reaches_32 ?_
      refine lv_bipush (v := 46) hx hb dX10_reaches_35 (by decide) ?_
      refine lv_iload_n hx hb dX10_reaches_37 rfl (lv_at hl 1 rfl) ?_
      refine lv_iadd hx hb dX10_reaches_38 ?_
      refine lv_topi (fun x_31 ex_31 => ?_)
      have bx_31 : iv 46 49 x_31 := by rw [ex_31]; exact iv_add (iv_c (46 : Int32) (a := 46) (b := 46) (by decide)) b_8 (by decide)
      refine va_iald hx hb hK hP 6 0 rfl rfl (iv_in bx_31 (by decide)) dX10_reaches_39 ?_
      refine lv_topi (fun x_32 ex_32 => ?_)
      have bx_32 : iv 0 4 x_32 := by rw [ex_32]; exact rdT (a := 46) (n := 4) tfz1 bx_31 (by decide) (by decide +kernel)
      refine lv_istore_n (lv' := [(3, .int x_32), (0, .ref (z 0)), (1, .int a1), (2, .int a2)]) hx hb dX10_reaches_40 rfl hl (by decide) rfl (fun ls hl => ?_)
      refine lv_iconst (v := 0) hx hb dX10_reaches_41 (by decide) ?_
      refine lv_istore (lv' := [(4, .int 0), (3, .int x_32), (0, .ref (z 0)), (1, .int a1), (2, .int a2)]) hx hb dX10_reaches_42 hl (by decide) rfl (fun ls hl => ?_)
      refine loopF (X := fun (n_35 : Nat) (H : Heap) (locs : List Loc) (ls : Array Slot) => ∃ (u_33 : Int32) (u_34 : Int32), (iv 0 2147483647 u_33) ∧ (RW fz1) ∧ n_35 = (2147483647 - (u_33 : Int32).toInt).toNat ∧ va_P V.1 vwCl [(z 15, aI V 900 f_22), (z 16, aI V 6 f_23), (z 24, aI V 10000 f_24), (z 25, aI V 40000 f_25), (z 28, aZ V 10000 f_26), (z 0, .inr (10, mo z 0 pz0_5 pz0_6 pz0_7 pz0_8 pz0_9 pz0_10 pz0_11 pz0_12 pz0_13 pz0_14 pz0_18 pz0_19 pz0_22 pz0_23 v_27)), (z 1, aI V 3075 fz1)] H ∧ va_D A [(z 15, aI V 900 f_22), (z 16, aI V 6 f_23), (z 24, aI V 10000 f_24), (z 25, aI V 40000 f_25), (z 28, aZ V 10000 f_26), (z 0, .inr (10, mo z 0 pz0_5 pz0_6 pz0_7 pz0_8 pz0_9 pz0_10 pz0_11 pz0_12 pz0_13 pz0_14 pz0_18 pz0_19 pz0_22 pz0_23 v_27)), (z 1, aI V 3075 fz1)] ∧ va_S A s.heap H locs ∧ lv_has ls 6 [(4, .int u_33), (3, .int u_34), (0, .ref (z 0)), (1, .int a1), (2, .int a2)]) (g := fun ls => F0 m 44 ls []) (fun n_35 H locs ls hX ihn_35 => ?_) _ ⟨0, x_32, (iv_c (0 : Int32) (by decide)), g_28, rfl, hP, hD, hS, lv_sub hl [0, 1, 2, 3, 4] rfl⟩
      obtain ⟨u_33, u_34, bu_33, inn_35_0, en_35, hP, hD, hS, hl⟩ := hX
      refine lv_iload hx hb dX10_reaches_44 (lv_at hl 0 rfl) ?_
      refine lv_aload_n hx hb dX10_reaches_46 rfl (lv_at hl 2 rfl) ?_
      refine va_get (ci := 10) (v := .int v_27) (C := RX10) (T := TX10) (N := 40) hx hb hg inX10 hown hK hP 5 rfl rfl 29 (by decide) (hg _ q_6_13) (fun _ h9 => h9) rfl dX10_reaches_47 ?_
      refine lv_icmp_ge (tgt := 98) hx hb dX10_reaches_50 (by decide) (fun c_36 => ?_) (fun c_36 => ?_)
      · refine lv_iload_n hx hb dX10_reaches_98 rfl (lv_at hl 1 rfl) ?_
        have hP := subP (ws' := [(z 0, .inr (10, mo z 0 pz0_5 pz0_6 pz0_7 pz0_8 pz0_9 pz0_10 pz0_11 pz0_12 pz0_13 pz0_14 pz0_18 pz0_19 pz0_22 pz0_23 v_27)), (z 1, aI V 3075 fz1), (z 15, aI V 900 f_22), (z 16, aI V 6 f_23), (z 24, aI V 10000 f_24), (z 25, aI V 40000 f_25), (z 28, aZ V 10000 f_26)]) hP [5, 6, 0, 1, 2, 3, 4] rfl
        have hD := hD.sub (ws' := [(z 0, .inr (10, mo z 0 pz0_5 pz0_6 pz0_7 pz0_8 pz0_9 pz0_10 pz0_11 pz0_12 pz0_13 pz0_14 pz0_18 pz0_19 pz0_22 pz0_23 v_27)), (z 1, aI V 3075 fz1), (z 15, aI V 900 f_22), (z 16, aI V 6 f_23), (z 24, aI V 10000 f_24), (z 25, aI V 40000 f_25), (z 28, aZ V 10000 f_26)]) [5, 6, 0, 1, 2, 3, 4] rfl rfl
        exact fiI hx hb hr hlk hK hP hD hS dX10_reaches_99 (Nat.le_of_ble_eq_true rfl) (Nat.le_of_ble_eq_true rfl) (⟨0, v_27, f_22, f_23, f_24, f_25, f_26, bv_27, tf_23, tf_24, tf_25, inn_35_0, rfl⟩)
      · have b_37 : iv 0 9999 u_33 := iv_l1 (Int32.not_le.mp c_36) bu_33 bv_27 (by decide)
        have b_38 : iv 1 10000 v_27 := iv_l2 (Int32.not_le.mp c_36) bu_33 bv_27 (by decide)
        refine lv_aload_n hx hb dX10_reaches_53 rfl (lv_at hl 2 rfl) ?_
        refine va_get (ci := 10) (v := .ref (z 24)) (C := RX10) (T := TX10) (N := 40) hx hb hg inX10 hown hK hP 5 rfl rfl 24 (by decide) (hg _ q_6_8) (fun _ h9 => h9) rfl dX10_reaches_54 ?_
        refine lv_iload hx hb dX10_reaches_57 (lv_at hl 0 rfl) ?_
        refine va_iald hx hb hK hP 2 0 rfl rfl (iv_in b_37 (by decide)) dX10_reaches_59 ?_
        refine lv_topi (fun x_39 ex_39 => ?_)
        have bx_39 : iv 0 9999 x_39 := by rw [ex_39]; exact tf_24 _
        refine lv_iload_n hx hb dX10_reaches_60 rfl (lv_at hl 3 rfl) ?_
        refine jnI (wr := [(z 15, aI V 900 f_22), (z 16, aI V 6 f_23), (z 24, aI V 10000 f_24), (z 25, aI V 40000 f_25), (z 28, aZ V 10000 f_26), (z 0, .inr (10, mo z 0 pz0_5 pz0_6 pz0_7 pz0_8 pz0_9 pz0_10 pz0_11 pz0_12 pz0_13 pz0_14 pz0_18 pz0_19 pz0_22 pz0_23 v_27)), (z 1, aI V 3075 fz1)]) (rnS (rest := []) ⟨hx, hb, hml, hown, hg⟩ (k_X10_stackIn_0 l V x_39 a1 bx_39 b_8) mt_X10_stackIn q_7_26 ⟨Nat.le_of_ble_eq_true rfl, Nat.le_of_ble_eq_true rfl⟩ hK hP hD hS hA hE [] rfl rfl rfl hl.1 rfl (Nat.le_of_ble_eq_true rfl) dX10_reaches_61 ⟨Nat.le_of_ble_eq_true rfl, Nat.le_of_ble_eq_true rfl⟩) hP hD hS hA [] [0, 1, 2, 3, 4, 5, 6] rfl rfl rfl (by decide) (fun r_40 w H locs hw hP hD hS => ?_)
        obtain ⟨br_40, er_40, rfl⟩ := hw
        have hP : va_P V.1 vwCl [(z 15, aI V 900 f_22), (z 16, aI V 6 f_23), (z 24, aI V 10000 f_24), (z 25, aI V 40000 f_25), (z 28, aZ V 10000 f_26), (z 0, .inr (10, mo z 0 pz0_5 pz0_6 pz0_7 pz0_8 pz0_9 pz0_10 pz0_11 pz0_12 pz0_13 pz0_14 pz0_18 pz0_19 pz0_22 pz0_23 v_27)), (z 1, aI V 3075 fz1)] H := hP
        have hD : va_D A [(z 15, aI V 900 f_22), (z 16, aI V 6 f_23), (z 24, aI V 10000 f_24), (z 25, aI V 40000 f_25), (z 28, aZ V 10000 f_26), (z 0, .inr (10, mo z 0 pz0_5 pz0_6 pz0_7 pz0_8 pz0_9 pz0_10 pz0_11 pz0_12 pz0_13 pz0_14 pz0_18 pz0_19 pz0_22 pz0_23 v_27)), (z 1, aI V 3075 fz1)] := hD
        refine lv_istore (lv' := [(5, .int r_40), (4, .int u_33), (3, .int u_34), (0, .ref (z 0)), (1, .int a1), (2, .int a2)]) hx hb dX10_reaches_64 hl (by decide) rfl (fun ls hl => ?_)
        refine lv_iload_n hx hb dX10_reaches_66 rfl (lv_at hl 5 rfl) ?_
        refine lv_if_ne (tgt := 79) hx hb dX10_reaches_67 (by decide) (fun c_41 => ?_) (fun c_41 => ?_)
        · have b_42 : iv 1 1 a2 := iv_n0 c_41 b_21 (iv_c (0 : Int32) (a := 0) (b := 0) (by decide)) (by decide)
          refine lv_iload hx hb dX10_reaches_79 (lv_at hl 0 rfl) ?_
          refine lv_iload_n hx hb dX10_reaches_81 rfl (lv_at hl 2 rfl) ?_
          refine lv_icmp_ge (tgt := 90) hx hb dX10_reaches_82 (by decide) (fun c_43 => ?_) (fun c_43 => ?_)
          · have b_44 : iv (-2147483648) 4 u_34 := iv_e1 c_43 (iv_top u_34) br_40 (by decide)
            refine lv_iload_n hx hb dX10_reaches_90 rfl (lv_at hl 2 rfl) ?_
            refine lv_istore_n (lv' := [(3, .int u_34), (5, .int r_40), (4, .int u_33), (0, .ref (z 0)), (1, .int a1), (2, .int a2)]) hx hb dX10_reaches_91 rfl hl (by decide) rfl (fun ls hl => ?_)
            obtain ⟨x_45, ex_45⟩ : ∃ z9 : Int32, z9 = u_33 + 1 := ⟨_, rfl⟩
            have bx_45 : iv 1 10000 x_45 := by rw [ex_45]; exact iv_add b_37 (iv_c (1 : Int32) (a := 1) (b := 1) (by decide)) (by decide)
            refine lv_iinc (v := x_45) (lv' := [(4, .int x_45), (3, .int u_34), (5, .int r_40), (0, .ref (z 0)), (1, .int a1), (2, .int a2)]) hx hb dX10_reaches_92 hl (k := 2) rfl (by rw [ex_45]; rfl) (by decide) rfl (fun ls hl => ?_)
            refine lv_goto (tgt := 44) hx hb dX10_reaches_95 (by decide) ?_
            exact ihn_35 _ _ _ _ (by rw [en_35, ex_45]; exact mu_up b_37 (by decide)) ⟨x_45, u_34, (iv_w bx_45 (by decide)), inn_35_0, rfl, hP, hD, hS, lv_sub hl [0, 1, 3, 4, 5] rfl⟩
          · have b_46 : iv 1 2147483647 u_34 := iv_l2 (Int32.not_le.mp c_43) br_40 (iv_top u_34) (by decide)
            refine lv_iload hx hb dX10_reaches_85 (lv_at hl 0 rfl) ?_
            refine lv_goto (tgt := 91) hx hb dX10_reaches_87 (by decide) ?_
            refine lv_istore_n (lv' := [(3, .int r_40), (5, .int r_40), (4, .int u_33), (0, .ref (z 0)), (1, .int a1), (2, .int a2)]) hx hb dX10_reaches_91 rfl hl (by decide) rfl (fun ls hl => ?_)
            obtain ⟨x_47, ex_47⟩ : ∃ z9 : Int32, z9 = u_33 + 1 := ⟨_, rfl⟩
            have bx_47 : iv 1 10000 x_47 := by rw [ex_47]; exact iv_add b_37 (iv_c (1 : Int32) (a := 1) (b := 1) (by decide)) (by decide)
            refine lv_iinc (v := x_47) (lv' := [(4, .int x_47), (3, .int r_40), (5, .int r_40), (0, .ref (z 0)), (1, .int a1), (2, .int a2)]) hx hb dX10_reaches_92 hl (k := 2) rfl (by rw [ex_47]; rfl) (by decide) rfl (fun ls hl => ?_)
            refine lv_goto (tgt := 44) hx hb dX10_reaches_95 (by decide) ?_
            exact ihn_35 _ _ _ _ (by rw [en_35, ex_47]; exact mu_up b_37 (by decide)) ⟨x_47, r_40, (iv_w bx_47 (by decide)), inn_35_0, rfl, hP, hD, hS, lv_sub hl [0, 1, 3, 4, 5] rfl⟩
        · have b_48 : iv 0 0 a2 := iv_q c_41 (iv_c (0 : Int32) (a := 0) (b := 0) (by decide))
          refine lv_iload hx hb dX10_reaches_70 (lv_at hl 0 rfl) ?_
          refine lv_iload_n hx hb dX10_reaches_72 rfl (lv_at hl 2 rfl) ?_
          refine lv_icmp_le (tgt := 90) hx hb dX10_reaches_73 (by decide) (fun c_49 => ?_) (fun c_49 => ?_)
          · have b_50 : iv 0 2147483647 u_34 := iv_e2 c_49 br_40 (iv_top u_34) (by decide)
            refine lv_iload_n hx hb dX10_reaches_90 rfl (lv_at hl 2 rfl) ?_
            refine lv_istore_n (lv' := [(3, .int u_34), (5, .int r_40), (4, .int u_33), (0, .ref (z 0)), (1, .int a1), (2, .int a2)]) hx hb dX10_reaches_91 rfl hl (by decide) rfl (fun ls hl => ?_)
            obtain ⟨x_51, ex_51⟩ : ∃ z9 : Int32, z9 = u_33 + 1 := ⟨_, rfl⟩
            have bx_51 : iv 1 10000 x_51 := by rw [ex_51]; exact iv_add b_37 (iv_c (1 : Int32) (a := 1) (b := 1) (by decide)) (by decide)
            refine lv_iinc (v := x_51) (lv' := [(4, .int x_51), (3, .int u_34), (5, .int r_40), (0, .ref (z 0)), (1, .int a1), (2, .int a2)]) hx hb dX10_reaches_92 hl (k := 2) rfl (by rw [ex_51]; rfl) (by decide) rfl (fun ls hl => ?_)
            refine lv_goto (tgt := 44) hx hb dX10_reaches_95 (by decide) ?_
            exact ihn_35 _ _ _ _ (by rw [en_35, ex_51]; exact mu_up b_37 (by decide)) ⟨x_51, u_34, (iv_w bx_51 (by decide)), inn_35_0, rfl, hP, hD, hS, lv_sub hl [0, 1, 3, 4, 5] rfl⟩
          · have b_52 : iv (-2147483648) 3 u_34 := iv_l1 (Int32.not_le.mp c_49) (iv_top u_34) br_40 (by decide)
            refine lv_goto (tgt := 85) hx hb dX10_reaches_76 (by decide) ?_
            refine lv_iload hx hb dX10_reaches_85 (lv_at hl 0 rfl) ?_
            refine lv_goto (tgt := 91) hx hb dX10_reaches_87 (by decide) ?_
            refine lv_istore_n (lv' := [(3, .int r_40), (5, .int r_40), (4, .int u_33), (0, .ref (z 0)), (1, .int a1), (2, .int a2)]) hx hb dX10_reaches_91 rfl hl (by decide) rfl (fun ls hl => ?_)
            obtain ⟨x_53, ex_53⟩ : ∃ z9 : Int32, z9 = u_33 + 1 := ⟨_, rfl⟩
            have bx_53 : iv 1 10000 x_53 := by rw [ex_53]; exact iv_add b_37 (iv_c (1 : Int32) (a := 1) (b := 1) (by decide)) (by decide)
            refine lv_iinc (v := x_53) (lv' := [(4, .int x_53), (3, .int r_40), (5, .int r_40), (0, .ref (z 0)), (1, .int a1), (2, .int a2)]) hx hb dX10_reaches_92 hl (k := 2) rfl (by rw [ex_53]; rfl) (by decide) rfl (fun ls hl => ?_)
            refine lv_goto (tgt := 44) hx hb dX10_reaches_95 (by decide) ?_
            exact ihn_35 _ _ _ _ (by rw [en_35, ex_53]; exact mu_up b_37 (by decide)) ⟨x_53, r_40, (iv_w bx_53 (by decide)), inn_35_0, rfl, hP, hD, hS, lv_sub hl [0, 1, 3, 4, 5] rfl⟩
    · have b_54 : iv 0 0 r_10 := iv_q c_14 (iv_c (0 : Int32) (a := 0) (b := 0) (by decide))
      refine lv_bipush (v := (-2)) hx hb dX10_reaches_24 (by decide) ?_
      have hP := subP (ws' := [(z 0, .inr (10, mo z 0 pz0_5 pz0_6 pz0_7 pz0_8 pz0_9 pz0_10 pz0_11 pz0_12 pz0_13 pz0_14 pz0_18 pz0_19 pz0_22 pz0_23 pz0_29)), (z 1, aI V 3075 fz1), (z 15, aI V 900 fz15), (z 16, aI V 6 fz16), (z 24, aI V 10000 fz24), (z 25, aI V 40000 fz25), (z 28, aZ V 10000 fz28)]) hP [5, 6, 0, 1, 2, 3, 4] rfl
      have hD := hD.sub (ws' := [(z 0, .inr (10, mo z 0 pz0_5 pz0_6 pz0_7 pz0_8 pz0_9 pz0_10 pz0_11 pz0_12 pz0_13 pz0_14 pz0_18 pz0_19 pz0_22 pz0_23 pz0_29)), (z 1, aI V 3075 fz1), (z 15, aI V 900 fz15), (z 16, aI V 6 fz16), (z 24, aI V 10000 fz24), (z 25, aI V 40000 fz25), (z 28, aZ V 10000 fz28)]) [5, 6, 0, 1, 2, 3, 4] rfl rfl
      exact fiI hx hb hr hlk hK hP hD hS dX10_reaches_26 (Nat.le_of_ble_eq_true rfl) (Nat.le_of_ble_eq_true rfl) (⟨0, pz0_29, fz15, fz16, fz24, fz25, fz28, bpz0_29, tfz16, tfz24, tfz25, hf0, rfl⟩)
theorem dX10_stands_0 : decode cX10_stands 0 = .ok (.aload_n 0, 1) := by decide +kernel
theorem dX10_stands_1 : decode cX10_stands 1 = .ok (.iconst 0, 1) := by decide +kernel
theorem dX10_stands_2 : decode cX10_stands 2 = .ok (.putfield 1, 3) := by decide +kernel
theorem dX10_stands_5 : decode cX10_stands 5 = .ok (.aload_n 0, 1) := by decide +kernel
theorem dX10_stands_6 : decode cX10_stands 6 = .ok (.invokevirtual 362, 3) := by decide +kernel
theorem dX10_stands_9 : decode cX10_stands 9 = .ok (.aload_n 0, 1) := by decide +kernel
theorem dX10_stands_10 : decode cX10_stands 10 = .ok (.getfield 355, 3) := by decide +kernel
theorem dX10_stands_13 : decode cX10_stands 13 = .ok (.ireturn, 1) := by decide +kernel
set_option maxHeartbeats 4000000 in
set_option maxRecDepth 100000 in
theorem k_X10_stands_0 (l : Launch) (V : GV) (z : Nat → Nat) (pz0_0 : Int32) (pz0_5 : Int32) (pz0_6 : Int32) (pz0_7 : Int32) (pz0_8 : Int32) (pz0_9 : Int32) (pz0_10 : Int32) (pz0_11 : Int32) (pz0_12 : Int32) (pz0_13 : Int32) (pz0_14 : Int32) (pz0_18 : Int32) (pz0_19 : Int32) (pz0_22 : Int32) (pz0_23 : Int32) (pz0_29 : Int32) (fz1 : Nat → Int32) (fz15 : Nat → Int32) (fz16 : Nat → Int32) (fz24 : Nat → Int32) (fz25 : Nat → Int32) (fz28 : Nat → Int32) (bpz0_5 : iv 0 900 pz0_5) (bpz0_6 : iv 0 900 pz0_6) (bpz0_7 : iv 0 900 pz0_7) (bpz0_8 : iv 0 900 pz0_8) (bpz0_10 : iv 0 999 pz0_10) (bpz0_11 : iv 0 4 pz0_11) (bpz0_12 : iv 0 900 pz0_12) (bpz0_13 : iv 0 4 pz0_13) (bpz0_14 : iv (-1) 900 pz0_14) (bpz0_18 : iv 0 2 pz0_18) (bpz0_22 : iv 0 9999 pz0_22) (bpz0_29 : iv 0 10000 pz0_29) (tfz1 : ivT tA fz1) (tfz16 : ivT tW fz16) (tfz24 : ∀ j, iv 0 9999 (fz24 j)) (tfz25 : ∀ j, iv (-1) 9999 (fz25 j)) (hf0 : RW fz1) : Ct l V yX10_stands (.code yX10_stands cX10_stands 1 (some .int)) 6 [.ref (z 0)] [(z 0, .inr (10, mo z pz0_0 pz0_5 pz0_6 pz0_7 pz0_8 pz0_9 pz0_10 pz0_11 pz0_12 pz0_13 pz0_14 pz0_18 pz0_19 pz0_22 pz0_23 pz0_29)), (z 1, aI V 3075 fz1), (z 15, aI V 900 fz15), (z 16, aI V 6 fz16), (z 24, aI V 10000 fz24), (z 25, aI V 40000 fz25), (z 28, aZ V 10000 fz28)] 0 0 (QI V (fun (r : Int32) (w : va_W) => ∃ (v0 : Int32) (v1 : Int32) (g2 : Nat → Int32) (g3 : Nat → Int32) (g4 : Nat → Int32) (g5 : Nat → Int32) (g6 : Nat → Int32), iv 0 10000 v1 ∧ (ivT tW g3) ∧ (∀ j, iv 0 9999 (g4 j)) ∧ (∀ j, iv (-1) 9999 (g5 j)) ∧ iv 0 10000 r ∧ (RW fz1) ∧ w = [(z 0, .inr (10, mo z v0 pz0_5 pz0_6 pz0_7 pz0_8 pz0_9 pz0_10 pz0_11 pz0_12 pz0_13 pz0_14 pz0_18 pz0_19 pz0_22 pz0_23 v1)), (z 1, aI V 3075 fz1), (z 15, aI V 900 g2), (z 16, aI V 6 g3), (z 24, aI V 10000 g4), (z 25, aI V 40000 g5), (z 28, aZ V 10000 g6)])) := by
  refine Ct.of (by decide) (Nat.le_of_ble_eq_true rfl) (fun p e s m below meth c A ls hx hb hr hml hown hlk hnm hg hP hK hD hE hA hS hl => ?_)
  have hl : lv_has ls 1 [(0, .ref (z 0))] := hl
  refine lv_aload_n hx hb dX10_stands_0 rfl (lv_at hl 0 rfl) ?_
  refine lv_iconst (v := 0) hx hb dX10_stands_1 (by decide) ?_
  refine va_put (ci := 10) (v := .int 0) (ty := .int) (C := RX10) (T := TX10) (N := 40) hx hb hg inX10 tyX10 tyX10_ok nmX10 hown hK hP hD hS 0 rfl rfl 0 (by decide) (hg _ q_5_224) (fun _ h9 => h9) rfl (by decide +kernel) rfl rfl (Nat.le_of_ble_eq_true rfl) dX10_stands_2 (fun H locs hP hD hS => ?_)
  have hP : va_P V.1 vwCl [(z 0, .inr (10, mo z 0 pz0_5 pz0_6 pz0_7 pz0_8 pz0_9 pz0_10 pz0_11 pz0_12 pz0_13 pz0_14 pz0_18 pz0_19 pz0_22 pz0_23 pz0_29)), (z 1, aI V 3075 fz1), (z 15, aI V 900 fz15), (z 16, aI V 6 fz16), (z 24, aI V 10000 fz24), (z 25, aI V 40000 fz25), (z 28, aZ V 10000 fz28)] H := hP
  have hD : va_D A [(z 0, .inr (10, mo z 0 pz0_5 pz0_6 pz0_7 pz0_8 pz0_9 pz0_10 pz0_11 pz0_12 pz0_13 pz0_14 pz0_18 pz0_19 pz0_22 pz0_23 pz0_29)), (z 1, aI V 3075 fz1), (z 15, aI V 900 fz15), (z 16, aI V 6 fz16), (z 24, aI V 10000 fz24), (z 25, aI V 40000 fz25), (z 28, aZ V 10000 fz28)] := hD
  refine lv_aload_n hx hb dX10_stands_5 rfl (lv_at hl 0 rfl) ?_
  refine jnV (wr := []) (rnV (rest := []) ⟨hx, hb, hml, hown, hg⟩ (k_X10_laysStands_0 l V z fz15 fz16 fz24 fz25 fz28 0 pz0_5 pz0_6 pz0_7 pz0_8 pz0_9 pz0_10 pz0_11 pz0_12 pz0_13 pz0_14 pz0_18 pz0_19 pz0_22 pz0_23 pz0_29 fz1 tfz16 tfz24 tfz25 bpz0_5 bpz0_6 bpz0_7 bpz0_8 bpz0_10 bpz0_11 bpz0_12 bpz0_13 bpz0_14 bpz0_18 bpz0_22 bpz0_29 tfz1 hf0) mt_X10_laysStands q_7_194 ⟨Nat.le_of_ble_eq_true rfl, Nat.le_of_ble_eq_true rfl⟩ hK hP hD hS hA hE [2, 3, 4, 5, 6, 0, 1] rfl rfl 0 rfl rfl rfl rfl hl.1 rfl (Nat.le_of_ble_eq_true rfl) dX10_stands_6 ⟨Nat.le_of_ble_eq_true rfl, Nat.le_of_ble_eq_true rfl⟩) hP hD hS hA [2, 3, 4, 5, 6, 0, 1] [] rfl rfl rfl (by decide) (fun  w H locs hw hP hD hS => ?_)
  obtain ⟨f_1, f_2, f_3, f_4, f_5, v_6, tf_2, tf_3, tf_4, bv_6, g_7, g_8, g_9, rfl⟩ := hw
  have hP : va_P V.1 vwCl [(z 15, aI V 900 f_1), (z 16, aI V 6 f_2), (z 24, aI V 10000 f_3), (z 25, aI V 40000 f_4), (z 28, aZ V 10000 f_5), (z 0, .inr (10, mo z 0 pz0_5 pz0_6 pz0_7 pz0_8 pz0_9 pz0_10 pz0_11 pz0_12 pz0_13 pz0_14 pz0_18 pz0_19 pz0_22 pz0_23 v_6)), (z 1, aI V 3075 fz1)] H := hP
  have hD : va_D A [(z 15, aI V 900 f_1), (z 16, aI V 6 f_2), (z 24, aI V 10000 f_3), (z 25, aI V 40000 f_4), (z 28, aZ V 10000 f_5), (z 0, .inr (10, mo z 0 pz0_5 pz0_6 pz0_7 pz0_8 pz0_9 pz0_10 pz0_11 pz0_12 pz0_13 pz0_14 pz0_18 pz0_19 pz0_22 pz0_23 v_6)), (z 1, aI V 3075 fz1)] := hD
  refine lv_aload_n hx hb dX10_stands_9 rfl (lv_at hl 0 rfl) ?_
  refine va_get (ci := 10) (v := .int v_6) (C := RX10) (T := TX10) (N := 40) hx hb hg inX10 hown hK hP 5 rfl rfl 29 (by decide) (hg _ q_6_13) (fun _ h9 => h9) rfl dX10_stands_10 ?_
  have hP := subP (ws' := [(z 0, .inr (10, mo z 0 pz0_5 pz0_6 pz0_7 pz0_8 pz0_9 pz0_10 pz0_11 pz0_12 pz0_13 pz0_14 pz0_18 pz0_19 pz0_22 pz0_23 v_6)), (z 1, aI V 3075 fz1), (z 15, aI V 900 f_1), (z 16, aI V 6 f_2), (z 24, aI V 10000 f_3), (z 25, aI V 40000 f_4), (z 28, aZ V 10000 f_5)]) hP [5, 6, 0, 1, 2, 3, 4] rfl
  have hD := hD.sub (ws' := [(z 0, .inr (10, mo z 0 pz0_5 pz0_6 pz0_7 pz0_8 pz0_9 pz0_10 pz0_11 pz0_12 pz0_13 pz0_14 pz0_18 pz0_19 pz0_22 pz0_23 v_6)), (z 1, aI V 3075 fz1), (z 15, aI V 900 f_1), (z 16, aI V 6 f_2), (z 24, aI V 10000 f_3), (z 25, aI V 40000 f_4), (z 28, aZ V 10000 f_5)]) [5, 6, 0, 1, 2, 3, 4] rfl rfl
  exact fiI hx hb hr hlk hK hP hD hS dX10_stands_13 (Nat.le_of_ble_eq_true rfl) (Nat.le_of_ble_eq_true rfl) (⟨0, v_6, f_1, f_2, f_3, f_4, f_5, bv_6, tf_2, tf_3, tf_4, bv_6, g_7, rfl⟩)
theorem dX10_litBy_0 : decode cX10_litBy 0 = .ok (.aload_n 0, 1) := by decide +kernel
theorem dX10_litBy_1 : decode cX10_litBy 1 = .ok (.getfield 13, 3) := by decide +kernel
theorem dX10_litBy_4 : decode cX10_litBy 4 = .ok (.bipush 46, 2) := by decide +kernel
theorem dX10_litBy_6 : decode cX10_litBy 6 = .ok (.iload_n 1, 1) := by decide +kernel
theorem dX10_litBy_7 : decode cX10_litBy 7 = .ok (.iadd, 1) := by decide +kernel
theorem dX10_litBy_8 : decode cX10_litBy 8 = .ok (.iaload, 1) := by decide +kernel
theorem dX10_litBy_9 : decode cX10_litBy 9 = .ok (.ifCond .ne 5, 3) := by decide +kernel
theorem dX10_litBy_14 : decode cX10_litBy 14 = .ok (.iconst 1, 1) := by decide +kernel
theorem dX10_litBy_15 : decode cX10_litBy 15 = .ok (.iload_n 1, 1) := by decide +kernel
theorem dX10_litBy_16 : decode cX10_litBy 16 = .ok (.ishl, 1) := by decide +kernel
theorem dX10_litBy_17 : decode cX10_litBy 17 = .ok (.istore_n 2, 1) := by decide +kernel
theorem dX10_litBy_18 : decode cX10_litBy 18 = .ok (.iconst 1, 1) := by decide +kernel
theorem dX10_litBy_19 : decode cX10_litBy 19 = .ok (.istore_n 3, 1) := by decide +kernel
theorem dX10_litBy_20 : decode cX10_litBy 20 = .ok (.iload_n 3, 1) := by decide +kernel
theorem dX10_litBy_21 : decode cX10_litBy 21 = .ok (.ifCond .eq 151, 3) := by decide +kernel
theorem dX10_litBy_172 : decode cX10_litBy 172 = .ok (.iload_n 2, 1) := by decide +kernel
theorem dX10_litBy_173 : decode cX10_litBy 173 = .ok (.ireturn, 1) := by decide +kernel
theorem dX10_litBy_24 : decode cX10_litBy 24 = .ok (.iload_n 2, 1) := by decide +kernel
theorem dX10_litBy_25 : decode cX10_litBy 25 = .ok (.istore 4, 2) := by decide +kernel
theorem dX10_litBy_27 : decode cX10_litBy 27 = .ok (.iconst 1, 1) := by decide +kernel
theorem dX10_litBy_28 : decode cX10_litBy 28 = .ok (.istore 5, 2) := by decide +kernel
theorem dX10_litBy_30 : decode cX10_litBy 30 = .ok (.iload 5, 2) := by decide +kernel
theorem dX10_litBy_32 : decode cX10_litBy 32 = .ok (.aload_n 0, 1) := by decide +kernel
theorem dX10_litBy_33 : decode cX10_litBy 33 = .ok (.getfield 13, 3) := by decide +kernel
theorem dX10_litBy_36 : decode cX10_litBy 36 = .ok (.iconst 1, 1) := by decide +kernel
theorem dX10_litBy_37 : decode cX10_litBy 37 = .ok (.iaload, 1) := by decide +kernel
theorem dX10_litBy_38 : decode cX10_litBy 38 = .ok (.if_icmp .ge 119, 3) := by decide +kernel
theorem dX10_litBy_157 : decode cX10_litBy 157 = .ok (.iload_n 2, 1) := by decide +kernel
theorem dX10_litBy_158 : decode cX10_litBy 158 = .ok (.iload 4, 2) := by decide +kernel
theorem dX10_litBy_160 : decode cX10_litBy 160 = .ok (.if_icmp .eq 7, 3) := by decide +kernel
theorem dX10_litBy_167 : decode cX10_litBy 167 = .ok (.iconst 0, 1) := by decide +kernel
theorem dX10_litBy_168 : decode cX10_litBy 168 = .ok (.istore_n 3, 1) := by decide +kernel
theorem dX10_litBy_169 : decode cX10_litBy 169 = .ok (.goto (-149), 3) := by decide +kernel
theorem dX10_litBy_163 : decode cX10_litBy 163 = .ok (.iconst 1, 1) := by decide +kernel
theorem dX10_litBy_164 : decode cX10_litBy 164 = .ok (.goto 4, 3) := by decide +kernel
theorem dX10_litBy_41 : decode cX10_litBy 41 = .ok (.aload_n 0, 1) := by decide +kernel
theorem dX10_litBy_42 : decode cX10_litBy 42 = .ok (.getfield 13, 3) := by decide +kernel
theorem dX10_litBy_45 : decode cX10_litBy 45 = .ok (.bipush 14, 2) := by decide +kernel
theorem dX10_litBy_47 : decode cX10_litBy 47 = .ok (.iload 5, 2) := by decide +kernel
theorem dX10_litBy_49 : decode cX10_litBy 49 = .ok (.iadd, 1) := by decide +kernel
theorem dX10_litBy_50 : decode cX10_litBy 50 = .ok (.iaload, 1) := by decide +kernel
theorem dX10_litBy_51 : decode cX10_litBy 51 = .ok (.istore 6, 2) := by decide +kernel
theorem dX10_litBy_53 : decode cX10_litBy 53 = .ok (.iload_n 2, 1) := by decide +kernel
theorem dX10_litBy_54 : decode cX10_litBy 54 = .ok (.i2l, 1) := by decide +kernel
theorem dX10_litBy_55 : decode cX10_litBy 55 = .ok (.iload 5, 2) := by decide +kernel
theorem dX10_litBy_57 : decode cX10_litBy 57 = .ok (.iconst 1, 1) := by decide +kernel
theorem dX10_litBy_58 : decode cX10_litBy 58 = .ok (.isub, 1) := by decide +kernel
theorem dX10_litBy_59 : decode cX10_litBy 59 = .ok (.invokestatic 244, 3) := by decide +kernel
theorem dX10_litBy_62 : decode cX10_litBy 62 = .ok (.ifCond .eq 40, 3) := by decide +kernel
theorem dX10_litBy_102 : decode cX10_litBy 102 = .ok (.iload_n 2, 1) := by decide +kernel
theorem dX10_litBy_103 : decode cX10_litBy 103 = .ok (.i2l, 1) := by decide +kernel
theorem dX10_litBy_104 : decode cX10_litBy 104 = .ok (.iload 5, 2) := by decide +kernel
theorem dX10_litBy_106 : decode cX10_litBy 106 = .ok (.invokestatic 244, 3) := by decide +kernel
theorem dX10_litBy_109 : decode cX10_litBy 109 = .ok (.ifCond .eq 42, 3) := by decide +kernel
theorem dX10_litBy_151 : decode cX10_litBy 151 = .ok (.iinc 5 1, 3) := by decide +kernel
theorem dX10_litBy_154 : decode cX10_litBy 154 = .ok (.goto (-124), 3) := by decide +kernel
theorem dX10_litBy_112 : decode cX10_litBy 112 = .ok (.iload 6, 2) := by decide +kernel
theorem dX10_litBy_114 : decode cX10_litBy 114 = .ok (.aload_n 0, 1) := by decide +kernel
theorem dX10_litBy_115 : decode cX10_litBy 115 = .ok (.getfield 13, 3) := by decide +kernel
theorem dX10_litBy_118 : decode cX10_litBy 118 = .ok (.bipush 46, 2) := by decide +kernel
theorem dX10_litBy_120 : decode cX10_litBy 120 = .ok (.iload 5, 2) := by decide +kernel
theorem dX10_litBy_122 : decode cX10_litBy 122 = .ok (.iadd, 1) := by decide +kernel
theorem dX10_litBy_123 : decode cX10_litBy 123 = .ok (.iaload, 1) := by decide +kernel
theorem dX10_litBy_124 : decode cX10_litBy 124 = .ok (.if_icmp .gt 27, 3) := by decide +kernel
theorem dX10_litBy_127 : decode cX10_litBy 127 = .ok (.aload_n 0, 1) := by decide +kernel
theorem dX10_litBy_128 : decode cX10_litBy 128 = .ok (.getfield 13, 3) := by decide +kernel
theorem dX10_litBy_131 : decode cX10_litBy 131 = .ok (.bipush 46, 2) := by decide +kernel
theorem dX10_litBy_133 : decode cX10_litBy 133 = .ok (.iload 5, 2) := by decide +kernel
theorem dX10_litBy_135 : decode cX10_litBy 135 = .ok (.iadd, 1) := by decide +kernel
theorem dX10_litBy_136 : decode cX10_litBy 136 = .ok (.iconst 1, 1) := by decide +kernel
theorem dX10_litBy_137 : decode cX10_litBy 137 = .ok (.isub, 1) := by decide +kernel
theorem dX10_litBy_138 : decode cX10_litBy 138 = .ok (.iaload, 1) := by decide +kernel
theorem dX10_litBy_139 : decode cX10_litBy 139 = .ok (.ifCond .le 12, 3) := by decide +kernel
theorem dX10_litBy_142 : decode cX10_litBy 142 = .ok (.iload_n 2, 1) := by decide +kernel
theorem dX10_litBy_143 : decode cX10_litBy 143 = .ok (.iconst 1, 1) := by decide +kernel
theorem dX10_litBy_144 : decode cX10_litBy 144 = .ok (.iload 5, 2) := by decide +kernel
theorem dX10_litBy_146 : decode cX10_litBy 146 = .ok (.iconst 1, 1) := by decide +kernel
theorem dX10_litBy_147 : decode cX10_litBy 147 = .ok (.isub, 1) := by decide +kernel
theorem dX10_litBy_148 : decode cX10_litBy 148 = .ok (.ishl, 1) := by decide +kernel
theorem dX10_litBy_149 : decode cX10_litBy 149 = .ok (.ior, 1) := by decide +kernel
theorem dX10_litBy_150 : decode cX10_litBy 150 = .ok (.istore_n 2, 1) := by decide +kernel
theorem dX10_litBy_65 : decode cX10_litBy 65 = .ok (.iload 6, 2) := by decide +kernel
theorem dX10_litBy_67 : decode cX10_litBy 67 = .ok (.aload_n 0, 1) := by decide +kernel
theorem dX10_litBy_68 : decode cX10_litBy 68 = .ok (.getfield 13, 3) := by decide +kernel
theorem dX10_litBy_71 : decode cX10_litBy 71 = .ok (.bipush 46, 2) := by decide +kernel
theorem dX10_litBy_73 : decode cX10_litBy 73 = .ok (.iload 5, 2) := by decide +kernel
theorem dX10_litBy_75 : decode cX10_litBy 75 = .ok (.iadd, 1) := by decide +kernel
theorem dX10_litBy_76 : decode cX10_litBy 76 = .ok (.iconst 1, 1) := by decide +kernel
theorem dX10_litBy_77 : decode cX10_litBy 77 = .ok (.isub, 1) := by decide +kernel
theorem dX10_litBy_78 : decode cX10_litBy 78 = .ok (.iaload, 1) := by decide +kernel
theorem dX10_litBy_79 : decode cX10_litBy 79 = .ok (.if_icmp .gt 23, 3) := by decide +kernel
theorem dX10_litBy_82 : decode cX10_litBy 82 = .ok (.aload_n 0, 1) := by decide +kernel
theorem dX10_litBy_83 : decode cX10_litBy 83 = .ok (.getfield 13, 3) := by decide +kernel
theorem dX10_litBy_86 : decode cX10_litBy 86 = .ok (.bipush 46, 2) := by decide +kernel
theorem dX10_litBy_88 : decode cX10_litBy 88 = .ok (.iload 5, 2) := by decide +kernel
theorem dX10_litBy_90 : decode cX10_litBy 90 = .ok (.iadd, 1) := by decide +kernel
theorem dX10_litBy_91 : decode cX10_litBy 91 = .ok (.iaload, 1) := by decide +kernel
theorem dX10_litBy_92 : decode cX10_litBy 92 = .ok (.ifCond .le 10, 3) := by decide +kernel
theorem dX10_litBy_95 : decode cX10_litBy 95 = .ok (.iload_n 2, 1) := by decide +kernel
theorem dX10_litBy_96 : decode cX10_litBy 96 = .ok (.iconst 1, 1) := by decide +kernel
theorem dX10_litBy_97 : decode cX10_litBy 97 = .ok (.iload 5, 2) := by decide +kernel
theorem dX10_litBy_99 : decode cX10_litBy 99 = .ok (.ishl, 1) := by decide +kernel
theorem dX10_litBy_100 : decode cX10_litBy 100 = .ok (.ior, 1) := by decide +kernel
theorem dX10_litBy_101 : decode cX10_litBy 101 = .ok (.istore_n 2, 1) := by decide +kernel
theorem dX10_litBy_12 : decode cX10_litBy 12 = .ok (.iconst 0, 1) := by decide +kernel
theorem dX10_litBy_13 : decode cX10_litBy 13 = .ok (.ireturn, 1) := by decide +kernel
set_option maxHeartbeats 4000000 in
set_option maxRecDepth 100000 in
theorem k_X10_litBy_0 (l : Launch) (V : GV) (z : Nat → Nat) (a1 : Int32) (pz0_0 : Int32) (pz0_5 : Int32) (pz0_6 : Int32) (pz0_7 : Int32) (pz0_8 : Int32) (pz0_9 : Int32) (pz0_10 : Int32) (pz0_11 : Int32) (pz0_12 : Int32) (pz0_13 : Int32) (pz0_14 : Int32) (pz0_18 : Int32) (pz0_19 : Int32) (pz0_22 : Int32) (pz0_23 : Int32) (pz0_29 : Int32) (fz1 : Nat → Int32) (ba1 : iv 0 3 a1) (bpz0_5 : iv 0 900 pz0_5) (bpz0_6 : iv 0 900 pz0_6) (bpz0_7 : iv 0 900 pz0_7) (bpz0_8 : iv 0 900 pz0_8) (bpz0_10 : iv 0 999 pz0_10) (bpz0_11 : iv 0 4 pz0_11) (bpz0_12 : iv 0 900 pz0_12) (bpz0_13 : iv 0 4 pz0_13) (bpz0_14 : iv (-1) 900 pz0_14) (bpz0_18 : iv 0 2 pz0_18) (bpz0_22 : iv 0 9999 pz0_22) (bpz0_29 : iv 0 10000 pz0_29) (tfz1 : ivT tA fz1) : Ct l V yX10_litBy (.code yX10_litBy cX10_litBy 7 (some .int)) 2 [.ref (z 0), .int a1] [(z 0, .inr (10, mo z pz0_0 pz0_5 pz0_6 pz0_7 pz0_8 pz0_9 pz0_10 pz0_11 pz0_12 pz0_13 pz0_14 pz0_18 pz0_19 pz0_22 pz0_23 pz0_29)), (z 1, aI V 3075 fz1)] 0 0 (QI V (fun (r : Int32) (w : va_W) => iv 0 15 r ∧ w = [(z 0, .inr (10, mo z pz0_0 pz0_5 pz0_6 pz0_7 pz0_8 pz0_9 pz0_10 pz0_11 pz0_12 pz0_13 pz0_14 pz0_18 pz0_19 pz0_22 pz0_23 pz0_29)), (z 1, aI V 3075 fz1)])) := by
  refine Ct.of (by decide) (Nat.le_of_ble_eq_true rfl) (fun p e s m below meth c A ls hx hb hr hml hown hlk hnm hg hP hK hD hE hA hS hl => ?_)
  have hl : lv_has ls 7 [(0, .ref (z 0)), (1, .int a1)] := hl
  refine lv_aload_n hx hb dX10_litBy_0 rfl (lv_at hl 0 rfl) ?_
  refine va_get (ci := 10) (v := .ref (z 1)) (C := RX10) (T := TX10) (N := 40) hx hb hg inX10 hown hK hP 0 rfl rfl 1 (by decide) (hg _ q_5_225) (fun _ h9 => h9) rfl dX10_litBy_1 ?_
  refine lv_bipush (v := 46) hx hb dX10_litBy_4 (by decide) ?_
  refine lv_iload_n hx hb dX10_litBy_6 rfl (lv_at hl 1 rfl) ?_
  refine lv_iadd hx hb dX10_litBy_7 ?_
  refine lv_topi (fun x_1 ex_1 => ?_)
  have bx_1 : iv 46 49 x_1 := by rw [ex_1]; exact iv_add (iv_c (46 : Int32) (a := 46) (b := 46) (by decide)) ba1 (by decide)
  refine va_iald hx hb hK hP 1 0 rfl rfl (iv_in bx_1 (by decide)) dX10_litBy_8 ?_
  refine lv_topi (fun x_2 ex_2 => ?_)
  have bx_2 : iv 0 4 x_2 := by rw [ex_2]; exact rdT (a := 46) (n := 4) tfz1 bx_1 (by decide) (by decide +kernel)
  refine lv_if_ne (tgt := 14) hx hb dX10_litBy_9 (by decide) (fun c_3 => ?_) (fun c_3 => ?_)
  · have b_4 : iv 1 4 x_2 := iv_n0 c_3 bx_2 (iv_c (0 : Int32) (a := 0) (b := 0) (by decide)) (by decide)
    refine lv_iconst (v := 1) hx hb dX10_litBy_14 (by decide) ?_
    refine lv_iload_n hx hb dX10_litBy_15 rfl (lv_at hl 1 rfl) ?_
    refine lv_ishl hx hb dX10_litBy_16 ?_
    refine lv_topi (fun x_5 ex_5 => ?_)
    have bx_5 : iv 1 8 x_5 := by rw [ex_5]; exact iv_shl1 ba1 (by decide)
    refine lv_istore_n (lv' := [(2, .int x_5), (0, .ref (z 0)), (1, .int a1)]) hx hb dX10_litBy_17 rfl hl (by decide) rfl (fun ls hl => ?_)
    refine lv_iconst (v := 1) hx hb dX10_litBy_18 (by decide) ?_
    refine lv_istore_n (lv' := [(3, .int 1), (2, .int x_5), (0, .ref (z 0)), (1, .int a1)]) hx hb dX10_litBy_19 rfl hl (by decide) rfl (fun ls hl => ?_)
    refine loopF (X := fun (n_8 : Nat) (H : Heap) (locs : List Loc) (ls : Array Slot) => ∃ (u_6 : Int32) (u_7 : Int32), (iv 0 1 u_6) ∧ (iv 0 15 u_7) ∧ n_8 = (2 * (15 - (u_7 : Int32).toInt) + (u_6 : Int32).toInt).toNat ∧ va_P V.1 vwCl [(z 0, .inr (10, mo z pz0_0 pz0_5 pz0_6 pz0_7 pz0_8 pz0_9 pz0_10 pz0_11 pz0_12 pz0_13 pz0_14 pz0_18 pz0_19 pz0_22 pz0_23 pz0_29)), (z 1, aI V 3075 fz1)] H ∧ va_D A [(z 0, .inr (10, mo z pz0_0 pz0_5 pz0_6 pz0_7 pz0_8 pz0_9 pz0_10 pz0_11 pz0_12 pz0_13 pz0_14 pz0_18 pz0_19 pz0_22 pz0_23 pz0_29)), (z 1, aI V 3075 fz1)] ∧ va_S A s.heap H locs ∧ lv_has ls 7 [(3, .int u_6), (2, .int u_7), (0, .ref (z 0)), (1, .int a1)]) (g := fun ls => F0 m 20 ls []) (fun n_8 H locs ls hX ihn_8 => ?_) _ ⟨1, x_5, (iv_c (1 : Int32) (by decide)), (iv_w bx_5 (by decide)), rfl, hP, hD, hS, lv_sub hl [0, 1, 2, 3] rfl⟩
    obtain ⟨u_6, u_7, bu_6, bu_7, en_8, hP, hD, hS, hl⟩ := hX
    refine lv_iload_n hx hb dX10_litBy_20 rfl (lv_at hl 0 rfl) ?_
    refine lv_if_eq (tgt := 172) hx hb dX10_litBy_21 (by decide) (fun c_9 => ?_) (fun c_9 => ?_)
    · have b_10 : iv 0 0 u_6 := iv_q c_9 (iv_c (0 : Int32) (a := 0) (b := 0) (by decide))
      refine lv_iload_n hx hb dX10_litBy_172 rfl (lv_at hl 1 rfl) ?_
      exact fiI hx hb hr hlk hK hP hD hS dX10_litBy_173 (Nat.le_of_ble_eq_true rfl) (Nat.le_of_ble_eq_true rfl) (⟨bu_7, rfl⟩)
    · have b_11 : iv 1 1 u_6 := iv_n0 c_9 bu_6 (iv_c (0 : Int32) (a := 0) (b := 0) (by decide)) (by decide)
      refine lv_iload_n hx hb dX10_litBy_24 rfl (lv_at hl 1 rfl) ?_
      refine lv_istore (lv' := [(4, .int u_7), (3, .int u_6), (2, .int u_7), (0, .ref (z 0)), (1, .int a1)]) hx hb dX10_litBy_25 hl (by decide) rfl (fun ls hl => ?_)
      refine lv_iconst (v := 1) hx hb dX10_litBy_27 (by decide) ?_
      refine lv_istore (lv' := [(5, .int 1), (4, .int u_7), (3, .int u_6), (2, .int u_7), (0, .ref (z 0)), (1, .int a1)]) hx hb dX10_litBy_28 hl (by decide) rfl (fun ls hl => ?_)
      refine loopF (X := fun (n_14 : Nat) (H : Heap) (locs : List Loc) (ls : Array Slot) => ∃ (u_12 : Int32) (u_13 : Int32), (iv 1 4 u_12) ∧ (iv 0 15 u_13) ∧ ((u_7 : Int32).toInt ≤ (u_13 : Int32).toInt) ∧ n_14 = (2147483647 - (u_12 : Int32).toInt).toNat ∧ va_P V.1 vwCl [(z 0, .inr (10, mo z pz0_0 pz0_5 pz0_6 pz0_7 pz0_8 pz0_9 pz0_10 pz0_11 pz0_12 pz0_13 pz0_14 pz0_18 pz0_19 pz0_22 pz0_23 pz0_29)), (z 1, aI V 3075 fz1)] H ∧ va_D A [(z 0, .inr (10, mo z pz0_0 pz0_5 pz0_6 pz0_7 pz0_8 pz0_9 pz0_10 pz0_11 pz0_12 pz0_13 pz0_14 pz0_18 pz0_19 pz0_22 pz0_23 pz0_29)), (z 1, aI V 3075 fz1)] ∧ va_S A s.heap H locs ∧ lv_has ls 7 [(5, .int u_12), (4, .int u_7), (3, .int u_6), (2, .int u_13), (0, .ref (z 0)), (1, .int a1)]) (g := fun ls => F0 m 30 ls []) (fun n_14 H locs ls hX ihn_14 => ?_) _ ⟨1, u_7, (iv_c (1 : Int32) (by decide)), bu_7, (Int.le_refl _), rfl, hP, hD, hS, lv_sub hl [0, 1, 2, 3, 4, 5] rfl⟩
      obtain ⟨u_12, u_13, bu_12, bu_13, inn_14_0, en_14, hP, hD, hS, hl⟩ := hX
      refine lv_iload hx hb dX10_litBy_30 (lv_at hl 0 rfl) ?_
      refine lv_aload_n hx hb dX10_litBy_32 rfl (lv_at hl 4 rfl) ?_
      refine va_get (ci := 10) (v := .ref (z 1)) (C := RX10) (T := TX10) (N := 40) hx hb hg inX10 hown hK hP 0 rfl rfl 1 (by decide) (hg _ q_5_225) (fun _ h9 => h9) rfl dX10_litBy_33 ?_
      refine lv_iconst (v := 1) hx hb dX10_litBy_36 (by decide) ?_
      refine va_iald hx hb hK hP 1 0 rfl rfl (vin (by decide +kernel)) dX10_litBy_37 ?_
      refine lv_topi (fun x_15 ex_15 => ?_)
      have bx_15 : iv 0 4 x_15 := by rw [ex_15]; exact rdT (a := 1) (n := 1) tfz1 (iv_c (1 : Int32) (a := 1) (b := 1) (by decide)) (by decide) (by decide +kernel)
      refine lv_icmp_ge (tgt := 157) hx hb dX10_litBy_38 (by decide) (fun c_16 => ?_) (fun c_16 => ?_)
      · refine lv_iload_n hx hb dX10_litBy_157 rfl (lv_at hl 3 rfl) ?_
        refine lv_iload hx hb dX10_litBy_158 (lv_at hl 1 rfl) ?_
        refine lv_icmp_eq (tgt := 167) hx hb dX10_litBy_160 (by decide) (fun c_17 => ?_) (fun c_17 => ?_)
        · refine lv_iconst (v := 0) hx hb dX10_litBy_167 (by decide) ?_
          refine lv_istore_n (lv' := [(3, .int 0), (5, .int u_12), (4, .int u_7), (2, .int u_13), (0, .ref (z 0)), (1, .int a1)]) hx hb dX10_litBy_168 rfl hl (by decide) rfl (fun ls hl => ?_)
          refine lv_goto (tgt := 20) hx hb dX10_litBy_169 (by decide) ?_
          exact ihn_8 _ _ _ _ (by rw [en_8]; have q9 := inn_14_0; have q_m : iv _ _ _ := b_11; have q_v : iv _ _ _ := bu_13; have q_2 : (0 : Int32).toInt = 0 := (by decide); unfold iv at q_m q_v; omega) ⟨0, u_13, (iv_c (0 : Int32) (by decide)), bu_13, rfl, hP, hD, hS, lv_sub hl [0, 3, 4, 5] rfl⟩
        · refine lv_iconst (v := 1) hx hb dX10_litBy_163 (by decide) ?_
          refine lv_goto (tgt := 168) hx hb dX10_litBy_164 (by decide) ?_
          refine lv_istore_n (lv' := [(3, .int 1), (5, .int u_12), (4, .int u_7), (2, .int u_13), (0, .ref (z 0)), (1, .int a1)]) hx hb dX10_litBy_168 rfl hl (by decide) rfl (fun ls hl => ?_)
          refine lv_goto (tgt := 20) hx hb dX10_litBy_169 (by decide) ?_
          exact ihn_8 _ _ _ _ (by rw [en_8]; have q9 := inn_14_0; have q_ne := ne_toInt c_17; have q_m : iv _ _ _ := b_11; have q_v : iv _ _ _ := bu_13; have q_2 : (1 : Int32).toInt = 1 := (by decide); unfold iv at q_m q_v; omega) ⟨1, u_13, (iv_c (1 : Int32) (by decide)), bu_13, rfl, hP, hD, hS, lv_sub hl [0, 3, 4, 5] rfl⟩
      · have b_18 : iv 1 3 u_12 := iv_l1 (Int32.not_le.mp c_16) bu_12 bx_15 (by decide)
        have b_19 : iv 2 4 x_15 := iv_l2 (Int32.not_le.mp c_16) bu_12 bx_15 (by decide)
        refine lv_aload_n hx hb dX10_litBy_41 rfl (lv_at hl 4 rfl) ?_
        refine va_get (ci := 10) (v := .ref (z 1)) (C := RX10) (T := TX10) (N := 40) hx hb hg inX10 hown hK hP 0 rfl rfl 1 (by decide) (hg _ q_5_225) (fun _ h9 => h9) rfl dX10_litBy_42 ?_
        refine lv_bipush (v := 14) hx hb dX10_litBy_45 (by decide) ?_
        refine lv_iload hx hb dX10_litBy_47 (lv_at hl 0 rfl) ?_
        refine lv_iadd hx hb dX10_litBy_49 ?_
        refine lv_topi (fun x_20 ex_20 => ?_)
        have bx_20 : iv 15 17 x_20 := by rw [ex_20]; exact iv_add (iv_c (14 : Int32) (a := 14) (b := 14) (by decide)) b_18 (by decide)
        refine va_iald hx hb hK hP 1 0 rfl rfl (iv_in bx_20 (by decide)) dX10_litBy_50 ?_
        refine lv_topi (fun x_21 ex_21 => ?_)
        have bx_21 : iv 0 9 x_21 := by rw [ex_21]; exact rdT (a := 15) (n := 3) tfz1 bx_20 (by decide) (by decide +kernel)
        refine lv_istore (lv' := [(6, .int x_21), (5, .int u_12), (4, .int u_7), (3, .int u_6), (2, .int u_13), (0, .ref (z 0)), (1, .int a1)]) hx hb dX10_litBy_51 hl (by decide) rfl (fun ls hl => ?_)
        refine lv_iload_n hx hb dX10_litBy_53 rfl (lv_at hl 4 rfl) ?_
        refine lv_i2l hx hb dX10_litBy_54 rfl ?_
        refine lv_topl (fun j_22 ej_22 => ?_)
        have bj_22 : ivL 0 15 j_22 := by rw [ej_22]; exact ivL_of bu_13
        refine lv_iload hx hb dX10_litBy_55 (lv_at hl 1 rfl) ?_
        refine lv_iconst (v := 1) hx hb dX10_litBy_57 (by decide) ?_
        refine lv_isub hx hb dX10_litBy_58 ?_
        refine lv_topi (fun x_23 ex_23 => ?_)
        have bx_23 : iv 0 2 x_23 := by rw [ex_23]; exact iv_sub b_18 (iv_c (1 : Int32) (a := 1) (b := 1) (by decide)) (by decide)
        refine jnI (wr := [(z 0, .inr (10, mo z pz0_0 pz0_5 pz0_6 pz0_7 pz0_8 pz0_9 pz0_10 pz0_11 pz0_12 pz0_13 pz0_14 pz0_18 pz0_19 pz0_22 pz0_23 pz0_29)), (z 1, aI V 3075 fz1)]) (rnS (rest := []) ⟨hx, hb, hml, hown, hg⟩ (k_X10_isIn_0 l V j_22 x_23 (iv_w bx_23 (by decide))) mt_X10_isIn q_7_32 ⟨Nat.le_of_ble_eq_true rfl, Nat.le_of_ble_eq_true rfl⟩ hK hP hD hS hA hE [] rfl rfl rfl hl.1 rfl (Nat.le_of_ble_eq_true rfl) dX10_litBy_59 ⟨Nat.le_of_ble_eq_true rfl, Nat.le_of_ble_eq_true rfl⟩) hP hD hS hA [] [0, 1] rfl rfl rfl (by decide) (fun r_24 w H locs hw hP hD hS => ?_)
        obtain ⟨br_24, rfl⟩ := hw
        have hP : va_P V.1 vwCl [(z 0, .inr (10, mo z pz0_0 pz0_5 pz0_6 pz0_7 pz0_8 pz0_9 pz0_10 pz0_11 pz0_12 pz0_13 pz0_14 pz0_18 pz0_19 pz0_22 pz0_23 pz0_29)), (z 1, aI V 3075 fz1)] H := hP
        have hD : va_D A [(z 0, .inr (10, mo z pz0_0 pz0_5 pz0_6 pz0_7 pz0_8 pz0_9 pz0_10 pz0_11 pz0_12 pz0_13 pz0_14 pz0_18 pz0_19 pz0_22 pz0_23 pz0_29)), (z 1, aI V 3075 fz1)] := hD
        refine lv_if_eq (tgt := 102) hx hb dX10_litBy_62 (by decide) (fun c_25 => ?_) (fun c_25 => ?_)
        · have b_26 : iv 0 0 r_24 := iv_q c_25 (iv_c (0 : Int32) (a := 0) (b := 0) (by decide))
          refine lv_iload_n hx hb dX10_litBy_102 rfl (lv_at hl 4 rfl) ?_
          refine lv_i2l hx hb dX10_litBy_103 rfl ?_
          refine lv_topl (fun j_27 ej_27 => ?_)
          have bj_27 : ivL 0 15 j_27 := by rw [ej_27]; exact ivL_of bu_13
          refine lv_iload hx hb dX10_litBy_104 (lv_at hl 1 rfl) ?_
          refine jnI (wr := [(z 0, .inr (10, mo z pz0_0 pz0_5 pz0_6 pz0_7 pz0_8 pz0_9 pz0_10 pz0_11 pz0_12 pz0_13 pz0_14 pz0_18 pz0_19 pz0_22 pz0_23 pz0_29)), (z 1, aI V 3075 fz1)]) (rnS (rest := []) ⟨hx, hb, hml, hown, hg⟩ (k_X10_isIn_0 l V j_27 u_12 (iv_w b_18 (by decide))) mt_X10_isIn q_7_32 ⟨Nat.le_of_ble_eq_true rfl, Nat.le_of_ble_eq_true rfl⟩ hK hP hD hS hA hE [] rfl rfl rfl hl.1 rfl (Nat.le_of_ble_eq_true rfl) dX10_litBy_106 ⟨Nat.le_of_ble_eq_true rfl, Nat.le_of_ble_eq_true rfl⟩) hP hD hS hA [] [0, 1] rfl rfl rfl (by decide) (fun r_28 w H locs hw hP hD hS => ?_)
          obtain ⟨br_28, rfl⟩ := hw
          have hP : va_P V.1 vwCl [(z 0, .inr (10, mo z pz0_0 pz0_5 pz0_6 pz0_7 pz0_8 pz0_9 pz0_10 pz0_11 pz0_12 pz0_13 pz0_14 pz0_18 pz0_19 pz0_22 pz0_23 pz0_29)), (z 1, aI V 3075 fz1)] H := hP
          have hD : va_D A [(z 0, .inr (10, mo z pz0_0 pz0_5 pz0_6 pz0_7 pz0_8 pz0_9 pz0_10 pz0_11 pz0_12 pz0_13 pz0_14 pz0_18 pz0_19 pz0_22 pz0_23 pz0_29)), (z 1, aI V 3075 fz1)] := hD
          refine lv_if_eq (tgt := 151) hx hb dX10_litBy_109 (by decide) (fun c_29 => ?_) (fun c_29 => ?_)
          · have b_30 : iv 0 0 r_28 := iv_q c_29 (iv_c (0 : Int32) (a := 0) (b := 0) (by decide))
            obtain ⟨x_31, ex_31⟩ : ∃ z9 : Int32, z9 = u_12 + 1 := ⟨_, rfl⟩
            have bx_31 : iv 2 4 x_31 := by rw [ex_31]; exact iv_add b_18 (iv_c (1 : Int32) (a := 1) (b := 1) (by decide)) (by decide)
            refine lv_iinc (v := x_31) (lv' := [(5, .int x_31), (6, .int x_21), (4, .int u_7), (3, .int u_6), (2, .int u_13), (0, .ref (z 0)), (1, .int a1)]) hx hb dX10_litBy_151 hl (k := 1) rfl (by rw [ex_31]; rfl) (by decide) rfl (fun ls hl => ?_)
            refine lv_goto (tgt := 30) hx hb dX10_litBy_154 (by decide) ?_
            exact ihn_14 _ _ _ _ (by rw [en_14, ex_31]; exact mu_up b_18 (by decide)) ⟨x_31, u_13, (iv_w bx_31 (by decide)), bu_13, inn_14_0, rfl, hP, hD, hS, lv_sub hl [0, 2, 3, 4, 5, 6] rfl⟩
          · have b_32 : iv 1 1 r_28 := iv_n0 c_29 br_28 (iv_c (0 : Int32) (a := 0) (b := 0) (by decide)) (by decide)
            refine lv_iload hx hb dX10_litBy_112 (lv_at hl 0 rfl) ?_
            refine lv_aload_n hx hb dX10_litBy_114 rfl (lv_at hl 5 rfl) ?_
            refine va_get (ci := 10) (v := .ref (z 1)) (C := RX10) (T := TX10) (N := 40) hx hb hg inX10 hown hK hP 0 rfl rfl 1 (by decide) (hg _ q_5_225) (fun _ h9 => h9) rfl dX10_litBy_115 ?_
            refine lv_bipush (v := 46) hx hb dX10_litBy_118 (by decide) ?_
            refine lv_iload hx hb dX10_litBy_120 (lv_at hl 1 rfl) ?_
            refine lv_iadd hx hb dX10_litBy_122 ?_
            refine lv_topi (fun x_33 ex_33 => ?_)
            have bx_33 : iv 47 49 x_33 := by rw [ex_33]; exact iv_add (iv_c (46 : Int32) (a := 46) (b := 46) (by decide)) b_18 (by decide)
            refine va_iald hx hb hK hP 1 0 rfl rfl (iv_in bx_33 (by decide)) dX10_litBy_123 ?_
            refine lv_topi (fun x_34 ex_34 => ?_)
            have bx_34 : iv 0 4 x_34 := by rw [ex_34]; exact rdT (a := 47) (n := 3) tfz1 bx_33 (by decide) (by decide +kernel)
            refine lv_icmp_gt (tgt := 151) hx hb dX10_litBy_124 (by decide) (fun c_35 => ?_) (fun c_35 => ?_)
            · have b_36 : iv 1 9 x_21 := iv_l2 c_35 bx_34 bx_21 (by decide)
              obtain ⟨x_37, ex_37⟩ : ∃ z9 : Int32, z9 = u_12 + 1 := ⟨_, rfl⟩
              have bx_37 : iv 2 4 x_37 := by rw [ex_37]; exact iv_add b_18 (iv_c (1 : Int32) (a := 1) (b := 1) (by decide)) (by decide)
              refine lv_iinc (v := x_37) (lv' := [(5, .int x_37), (6, .int x_21), (4, .int u_7), (3, .int u_6), (2, .int u_13), (0, .ref (z 0)), (1, .int a1)]) hx hb dX10_litBy_151 hl (k := 1) rfl (by rw [ex_37]; rfl) (by decide) rfl (fun ls hl => ?_)
              refine lv_goto (tgt := 30) hx hb dX10_litBy_154 (by decide) ?_
              exact ihn_14 _ _ _ _ (by rw [en_14, ex_37]; exact mu_up b_18 (by decide)) ⟨x_37, u_13, (iv_w bx_37 (by decide)), bu_13, inn_14_0, rfl, hP, hD, hS, lv_sub hl [0, 2, 3, 4, 5, 6] rfl⟩
            · have b_38 : iv 0 4 x_21 := iv_e1 (Int32.not_lt.mp c_35) bx_21 bx_34 (by decide)
              refine lv_aload_n hx hb dX10_litBy_127 rfl (lv_at hl 5 rfl) ?_
              refine va_get (ci := 10) (v := .ref (z 1)) (C := RX10) (T := TX10) (N := 40) hx hb hg inX10 hown hK hP 0 rfl rfl 1 (by decide) (hg _ q_5_225) (fun _ h9 => h9) rfl dX10_litBy_128 ?_
              refine lv_bipush (v := 46) hx hb dX10_litBy_131 (by decide) ?_
              refine lv_iload hx hb dX10_litBy_133 (lv_at hl 1 rfl) ?_
              refine lv_iadd hx hb dX10_litBy_135 ?_
              refine tpi (y := x_33) ex_33.symm ?_
              refine lv_iconst (v := 1) hx hb dX10_litBy_136 (by decide) ?_
              refine lv_isub hx hb dX10_litBy_137 ?_
              refine lv_topi (fun x_39 ex_39 => ?_)
              have bx_39 : iv 46 48 x_39 := by rw [ex_39]; exact iv_sub bx_33 (iv_c (1 : Int32) (a := 1) (b := 1) (by decide)) (by decide)
              refine va_iald hx hb hK hP 1 0 rfl rfl (iv_in bx_39 (by decide)) dX10_litBy_138 ?_
              refine lv_topi (fun x_40 ex_40 => ?_)
              have bx_40 : iv 0 4 x_40 := by rw [ex_40]; exact rdT (a := 46) (n := 3) tfz1 bx_39 (by decide) (by decide +kernel)
              refine lv_if_le (tgt := 151) hx hb dX10_litBy_139 (by decide) (fun c_41 => ?_) (fun c_41 => ?_)
              · have b_42 : iv 0 0 x_40 := iv_e1 c_41 bx_40 (iv_c (0 : Int32) (a := 0) (b := 0) (by decide)) (by decide)
                obtain ⟨x_43, ex_43⟩ : ∃ z9 : Int32, z9 = u_12 + 1 := ⟨_, rfl⟩
                have bx_43 : iv 2 4 x_43 := by rw [ex_43]; exact iv_add b_18 (iv_c (1 : Int32) (a := 1) (b := 1) (by decide)) (by decide)
                refine lv_iinc (v := x_43) (lv' := [(5, .int x_43), (6, .int x_21), (4, .int u_7), (3, .int u_6), (2, .int u_13), (0, .ref (z 0)), (1, .int a1)]) hx hb dX10_litBy_151 hl (k := 1) rfl (by rw [ex_43]; rfl) (by decide) rfl (fun ls hl => ?_)
                refine lv_goto (tgt := 30) hx hb dX10_litBy_154 (by decide) ?_
                exact ihn_14 _ _ _ _ (by rw [en_14, ex_43]; exact mu_up b_18 (by decide)) ⟨x_43, u_13, (iv_w bx_43 (by decide)), bu_13, inn_14_0, rfl, hP, hD, hS, lv_sub hl [0, 2, 3, 4, 5, 6] rfl⟩
              · have b_44 : iv 1 4 x_40 := iv_l2 (Int32.not_le.mp c_41) (iv_c (0 : Int32) (a := 0) (b := 0) (by decide)) bx_40 (by decide)
                refine lv_iload_n hx hb dX10_litBy_142 rfl (lv_at hl 4 rfl) ?_
                refine lv_iconst (v := 1) hx hb dX10_litBy_143 (by decide) ?_
                refine lv_iload hx hb dX10_litBy_144 (lv_at hl 1 rfl) ?_
                refine lv_iconst (v := 1) hx hb dX10_litBy_146 (by decide) ?_
                refine lv_isub hx hb dX10_litBy_147 ?_
                refine tpi (y := x_23) ex_23.symm ?_
                refine lv_ishl hx hb dX10_litBy_148 ?_
                refine lv_topi (fun x_45 ex_45 => ?_)
                have bx_45 : iv 1 8 x_45 := by rw [ex_45]; exact iv_shl1 bx_23 (by decide)
                refine lv_ior hx hb dX10_litBy_149 ?_
                refine lv_topi (fun x_46 ex_46 => ?_)
                have bx_46 : iv 0 15 x_46 := by rw [ex_46]; exact iv_or15 bu_13 bx_45 (by decide)
                refine lv_istore_n (lv' := [(2, .int x_46), (6, .int x_21), (5, .int u_12), (4, .int u_7), (3, .int u_6), (0, .ref (z 0)), (1, .int a1)]) hx hb dX10_litBy_150 rfl hl (by decide) rfl (fun ls hl => ?_)
                obtain ⟨x_47, ex_47⟩ : ∃ z9 : Int32, z9 = u_12 + 1 := ⟨_, rfl⟩
                have bx_47 : iv 2 4 x_47 := by rw [ex_47]; exact iv_add b_18 (iv_c (1 : Int32) (a := 1) (b := 1) (by decide)) (by decide)
                refine lv_iinc (v := x_47) (lv' := [(5, .int x_47), (2, .int x_46), (6, .int x_21), (4, .int u_7), (3, .int u_6), (0, .ref (z 0)), (1, .int a1)]) hx hb dX10_litBy_151 hl (k := 2) rfl (by rw [ex_47]; rfl) (by decide) rfl (fun ls hl => ?_)
                refine lv_goto (tgt := 30) hx hb dX10_litBy_154 (by decide) ?_
                exact ihn_14 _ _ _ _ (by rw [en_14, ex_47]; exact mu_up b_18 (by decide)) ⟨x_47, x_46, (iv_w bx_47 (by decide)), bx_46, (by have q9 := inn_14_0; have q_x_46 := or_le ex_46 bu_13 bx_45 (by decide); omega), rfl, hP, hD, hS, lv_sub hl [0, 3, 4, 1, 5, 6] rfl⟩
        · have b_48 : iv 1 1 r_24 := iv_n0 c_25 br_24 (iv_c (0 : Int32) (a := 0) (b := 0) (by decide)) (by decide)
          refine lv_iload hx hb dX10_litBy_65 (lv_at hl 0 rfl) ?_
          refine lv_aload_n hx hb dX10_litBy_67 rfl (lv_at hl 5 rfl) ?_
          refine va_get (ci := 10) (v := .ref (z 1)) (C := RX10) (T := TX10) (N := 40) hx hb hg inX10 hown hK hP 0 rfl rfl 1 (by decide) (hg _ q_5_225) (fun _ h9 => h9) rfl dX10_litBy_68 ?_
          refine lv_bipush (v := 46) hx hb dX10_litBy_71 (by decide) ?_
          refine lv_iload hx hb dX10_litBy_73 (lv_at hl 1 rfl) ?_
          refine lv_iadd hx hb dX10_litBy_75 ?_
          refine lv_topi (fun x_49 ex_49 => ?_)
          have bx_49 : iv 47 49 x_49 := by rw [ex_49]; exact iv_add (iv_c (46 : Int32) (a := 46) (b := 46) (by decide)) b_18 (by decide)
          refine lv_iconst (v := 1) hx hb dX10_litBy_76 (by decide) ?_
          refine lv_isub hx hb dX10_litBy_77 ?_
          refine lv_topi (fun x_50 ex_50 => ?_)
          have bx_50 : iv 46 48 x_50 := by rw [ex_50]; exact iv_sub bx_49 (iv_c (1 : Int32) (a := 1) (b := 1) (by decide)) (by decide)
          refine va_iald hx hb hK hP 1 0 rfl rfl (iv_in bx_50 (by decide)) dX10_litBy_78 ?_
          refine lv_topi (fun x_51 ex_51 => ?_)
          have bx_51 : iv 0 4 x_51 := by rw [ex_51]; exact rdT (a := 46) (n := 3) tfz1 bx_50 (by decide) (by decide +kernel)
          refine lv_icmp_gt (tgt := 102) hx hb dX10_litBy_79 (by decide) (fun c_52 => ?_) (fun c_52 => ?_)
          · have b_53 : iv 1 9 x_21 := iv_l2 c_52 bx_51 bx_21 (by decide)
            refine lv_iload_n hx hb dX10_litBy_102 rfl (lv_at hl 4 rfl) ?_
            refine lv_i2l hx hb dX10_litBy_103 rfl ?_
            refine lv_topl (fun j_54 ej_54 => ?_)
            have bj_54 : ivL 0 15 j_54 := by rw [ej_54]; exact ivL_of bu_13
            refine lv_iload hx hb dX10_litBy_104 (lv_at hl 1 rfl) ?_
            refine jnI (wr := [(z 0, .inr (10, mo z pz0_0 pz0_5 pz0_6 pz0_7 pz0_8 pz0_9 pz0_10 pz0_11 pz0_12 pz0_13 pz0_14 pz0_18 pz0_19 pz0_22 pz0_23 pz0_29)), (z 1, aI V 3075 fz1)]) (rnS (rest := []) ⟨hx, hb, hml, hown, hg⟩ (k_X10_isIn_0 l V j_54 u_12 (iv_w b_18 (by decide))) mt_X10_isIn q_7_32 ⟨Nat.le_of_ble_eq_true rfl, Nat.le_of_ble_eq_true rfl⟩ hK hP hD hS hA hE [] rfl rfl rfl hl.1 rfl (Nat.le_of_ble_eq_true rfl) dX10_litBy_106 ⟨Nat.le_of_ble_eq_true rfl, Nat.le_of_ble_eq_true rfl⟩) hP hD hS hA [] [0, 1] rfl rfl rfl (by decide) (fun r_55 w H locs hw hP hD hS => ?_)
            obtain ⟨br_55, rfl⟩ := hw
            have hP : va_P V.1 vwCl [(z 0, .inr (10, mo z pz0_0 pz0_5 pz0_6 pz0_7 pz0_8 pz0_9 pz0_10 pz0_11 pz0_12 pz0_13 pz0_14 pz0_18 pz0_19 pz0_22 pz0_23 pz0_29)), (z 1, aI V 3075 fz1)] H := hP
            have hD : va_D A [(z 0, .inr (10, mo z pz0_0 pz0_5 pz0_6 pz0_7 pz0_8 pz0_9 pz0_10 pz0_11 pz0_12 pz0_13 pz0_14 pz0_18 pz0_19 pz0_22 pz0_23 pz0_29)), (z 1, aI V 3075 fz1)] := hD
            refine lv_if_eq (tgt := 151) hx hb dX10_litBy_109 (by decide) (fun c_56 => ?_) (fun c_56 => ?_)
            · have b_57 : iv 0 0 r_55 := iv_q c_56 (iv_c (0 : Int32) (a := 0) (b := 0) (by decide))
              obtain ⟨x_58, ex_58⟩ : ∃ z9 : Int32, z9 = u_12 + 1 := ⟨_, rfl⟩
              have bx_58 : iv 2 4 x_58 := by rw [ex_58]; exact iv_add b_18 (iv_c (1 : Int32) (a := 1) (b := 1) (by decide)) (by decide)
              refine lv_iinc (v := x_58) (lv' := [(5, .int x_58), (6, .int x_21), (4, .int u_7), (3, .int u_6), (2, .int u_13), (0, .ref (z 0)), (1, .int a1)]) hx hb dX10_litBy_151 hl (k := 1) rfl (by rw [ex_58]; rfl) (by decide) rfl (fun ls hl => ?_)
              refine lv_goto (tgt := 30) hx hb dX10_litBy_154 (by decide) ?_
              exact ihn_14 _ _ _ _ (by rw [en_14, ex_58]; exact mu_up b_18 (by decide)) ⟨x_58, u_13, (iv_w bx_58 (by decide)), bu_13, inn_14_0, rfl, hP, hD, hS, lv_sub hl [0, 2, 3, 4, 5, 6] rfl⟩
            · have b_59 : iv 1 1 r_55 := iv_n0 c_56 br_55 (iv_c (0 : Int32) (a := 0) (b := 0) (by decide)) (by decide)
              refine lv_iload hx hb dX10_litBy_112 (lv_at hl 0 rfl) ?_
              refine lv_aload_n hx hb dX10_litBy_114 rfl (lv_at hl 5 rfl) ?_
              refine va_get (ci := 10) (v := .ref (z 1)) (C := RX10) (T := TX10) (N := 40) hx hb hg inX10 hown hK hP 0 rfl rfl 1 (by decide) (hg _ q_5_225) (fun _ h9 => h9) rfl dX10_litBy_115 ?_
              refine lv_bipush (v := 46) hx hb dX10_litBy_118 (by decide) ?_
              refine lv_iload hx hb dX10_litBy_120 (lv_at hl 1 rfl) ?_
              refine lv_iadd hx hb dX10_litBy_122 ?_
              refine tpi (y := x_49) ex_49.symm ?_
              refine va_iald hx hb hK hP 1 0 rfl rfl (iv_in bx_49 (by decide)) dX10_litBy_123 ?_
              refine lv_topi (fun x_60 ex_60 => ?_)
              have bx_60 : iv 0 4 x_60 := by rw [ex_60]; exact rdT (a := 47) (n := 3) tfz1 bx_49 (by decide) (by decide +kernel)
              refine lv_icmp_gt (tgt := 151) hx hb dX10_litBy_124 (by decide) (fun c_61 => ?_) (fun c_61 => ?_)
              · obtain ⟨x_62, ex_62⟩ : ∃ z9 : Int32, z9 = u_12 + 1 := ⟨_, rfl⟩
                have bx_62 : iv 2 4 x_62 := by rw [ex_62]; exact iv_add b_18 (iv_c (1 : Int32) (a := 1) (b := 1) (by decide)) (by decide)
                refine lv_iinc (v := x_62) (lv' := [(5, .int x_62), (6, .int x_21), (4, .int u_7), (3, .int u_6), (2, .int u_13), (0, .ref (z 0)), (1, .int a1)]) hx hb dX10_litBy_151 hl (k := 1) rfl (by rw [ex_62]; rfl) (by decide) rfl (fun ls hl => ?_)
                refine lv_goto (tgt := 30) hx hb dX10_litBy_154 (by decide) ?_
                exact ihn_14 _ _ _ _ (by rw [en_14, ex_62]; exact mu_up b_18 (by decide)) ⟨x_62, u_13, (iv_w bx_62 (by decide)), bu_13, inn_14_0, rfl, hP, hD, hS, lv_sub hl [0, 2, 3, 4, 5, 6] rfl⟩
              · have b_63 : iv 1 4 x_21 := iv_e1 (Int32.not_lt.mp c_61) b_53 bx_60 (by decide)
                have b_64 : iv 1 4 x_60 := iv_e2 (Int32.not_lt.mp c_61) b_53 bx_60 (by decide)
                refine lv_aload_n hx hb dX10_litBy_127 rfl (lv_at hl 5 rfl) ?_
                refine va_get (ci := 10) (v := .ref (z 1)) (C := RX10) (T := TX10) (N := 40) hx hb hg inX10 hown hK hP 0 rfl rfl 1 (by decide) (hg _ q_5_225) (fun _ h9 => h9) rfl dX10_litBy_128 ?_
                refine lv_bipush (v := 46) hx hb dX10_litBy_131 (by decide) ?_
                refine lv_iload hx hb dX10_litBy_133 (lv_at hl 1 rfl) ?_
                refine lv_iadd hx hb dX10_litBy_135 ?_
                refine tpi (y := x_49) ex_49.symm ?_
                refine lv_iconst (v := 1) hx hb dX10_litBy_136 (by decide) ?_
                refine lv_isub hx hb dX10_litBy_137 ?_
                refine tpi (y := x_50) ex_50.symm ?_
                refine va_iald hx hb hK hP 1 0 rfl rfl (iv_in bx_50 (by decide)) dX10_litBy_138 ?_
                refine tpi (y := x_51) ex_51.symm ?_
                refine lv_if_le (tgt := 151) hx hb dX10_litBy_139 (by decide) (fun c_65 => ?_) (fun c_65 => ?_)
                · have b_66 : iv 0 0 x_51 := iv_e1 c_65 bx_51 (iv_c (0 : Int32) (a := 0) (b := 0) (by decide)) (by decide)
                  obtain ⟨x_67, ex_67⟩ : ∃ z9 : Int32, z9 = u_12 + 1 := ⟨_, rfl⟩
                  have bx_67 : iv 2 4 x_67 := by rw [ex_67]; exact iv_add b_18 (iv_c (1 : Int32) (a := 1) (b := 1) (by decide)) (by decide)
                  refine lv_iinc (v := x_67) (lv' := [(5, .int x_67), (6, .int x_21), (4, .int u_7), (3, .int u_6), (2, .int u_13), (0, .ref (z 0)), (1, .int a1)]) hx hb dX10_litBy_151 hl (k := 1) rfl (by rw [ex_67]; rfl) (by decide) rfl (fun ls hl => ?_)
                  refine lv_goto (tgt := 30) hx hb dX10_litBy_154 (by decide) ?_
                  exact ihn_14 _ _ _ _ (by rw [en_14, ex_67]; exact mu_up b_18 (by decide)) ⟨x_67, u_13, (iv_w bx_67 (by decide)), bu_13, inn_14_0, rfl, hP, hD, hS, lv_sub hl [0, 2, 3, 4, 5, 6] rfl⟩
                · have b_68 : iv 1 4 x_51 := iv_l2 (Int32.not_le.mp c_65) (iv_c (0 : Int32) (a := 0) (b := 0) (by decide)) bx_51 (by decide)
                  refine lv_iload_n hx hb dX10_litBy_142 rfl (lv_at hl 4 rfl) ?_
                  refine lv_iconst (v := 1) hx hb dX10_litBy_143 (by decide) ?_
                  refine lv_iload hx hb dX10_litBy_144 (lv_at hl 1 rfl) ?_
                  refine lv_iconst (v := 1) hx hb dX10_litBy_146 (by decide) ?_
                  refine lv_isub hx hb dX10_litBy_147 ?_
                  refine tpi (y := x_23) ex_23.symm ?_
                  refine lv_ishl hx hb dX10_litBy_148 ?_
                  refine lv_topi (fun x_69 ex_69 => ?_)
                  have bx_69 : iv 1 8 x_69 := by rw [ex_69]; exact iv_shl1 bx_23 (by decide)
                  refine lv_ior hx hb dX10_litBy_149 ?_
                  refine lv_topi (fun x_70 ex_70 => ?_)
                  have bx_70 : iv 0 15 x_70 := by rw [ex_70]; exact iv_or15 bu_13 bx_69 (by decide)
                  refine lv_istore_n (lv' := [(2, .int x_70), (6, .int x_21), (5, .int u_12), (4, .int u_7), (3, .int u_6), (0, .ref (z 0)), (1, .int a1)]) hx hb dX10_litBy_150 rfl hl (by decide) rfl (fun ls hl => ?_)
                  obtain ⟨x_71, ex_71⟩ : ∃ z9 : Int32, z9 = u_12 + 1 := ⟨_, rfl⟩
                  have bx_71 : iv 2 4 x_71 := by rw [ex_71]; exact iv_add b_18 (iv_c (1 : Int32) (a := 1) (b := 1) (by decide)) (by decide)
                  refine lv_iinc (v := x_71) (lv' := [(5, .int x_71), (2, .int x_70), (6, .int x_21), (4, .int u_7), (3, .int u_6), (0, .ref (z 0)), (1, .int a1)]) hx hb dX10_litBy_151 hl (k := 2) rfl (by rw [ex_71]; rfl) (by decide) rfl (fun ls hl => ?_)
                  refine lv_goto (tgt := 30) hx hb dX10_litBy_154 (by decide) ?_
                  exact ihn_14 _ _ _ _ (by rw [en_14, ex_71]; exact mu_up b_18 (by decide)) ⟨x_71, x_70, (iv_w bx_71 (by decide)), bx_70, (by have q9 := inn_14_0; have q_x_70 := or_le ex_70 bu_13 bx_69 (by decide); omega), rfl, hP, hD, hS, lv_sub hl [0, 3, 4, 1, 5, 6] rfl⟩
          · have b_72 : iv 0 4 x_21 := iv_e1 (Int32.not_lt.mp c_52) bx_21 bx_51 (by decide)
            refine lv_aload_n hx hb dX10_litBy_82 rfl (lv_at hl 5 rfl) ?_
            refine va_get (ci := 10) (v := .ref (z 1)) (C := RX10) (T := TX10) (N := 40) hx hb hg inX10 hown hK hP 0 rfl rfl 1 (by decide) (hg _ q_5_225) (fun _ h9 => h9) rfl dX10_litBy_83 ?_
            refine lv_bipush (v := 46) hx hb dX10_litBy_86 (by decide) ?_
            refine lv_iload hx hb dX10_litBy_88 (lv_at hl 1 rfl) ?_
            refine lv_iadd hx hb dX10_litBy_90 ?_
            refine tpi (y := x_49) ex_49.symm ?_
            refine va_iald hx hb hK hP 1 0 rfl rfl (iv_in bx_49 (by decide)) dX10_litBy_91 ?_
            refine lv_topi (fun x_73 ex_73 => ?_)
            have bx_73 : iv 0 4 x_73 := by rw [ex_73]; exact rdT (a := 47) (n := 3) tfz1 bx_49 (by decide) (by decide +kernel)
            refine lv_if_le (tgt := 102) hx hb dX10_litBy_92 (by decide) (fun c_74 => ?_) (fun c_74 => ?_)
            · have b_75 : iv 0 0 x_73 := iv_e1 c_74 bx_73 (iv_c (0 : Int32) (a := 0) (b := 0) (by decide)) (by decide)
              refine lv_iload_n hx hb dX10_litBy_102 rfl (lv_at hl 4 rfl) ?_
              refine lv_i2l hx hb dX10_litBy_103 rfl ?_
              refine lv_topl (fun j_76 ej_76 => ?_)
              have bj_76 : ivL 0 15 j_76 := by rw [ej_76]; exact ivL_of bu_13
              refine lv_iload hx hb dX10_litBy_104 (lv_at hl 1 rfl) ?_
              refine jnI (wr := [(z 0, .inr (10, mo z pz0_0 pz0_5 pz0_6 pz0_7 pz0_8 pz0_9 pz0_10 pz0_11 pz0_12 pz0_13 pz0_14 pz0_18 pz0_19 pz0_22 pz0_23 pz0_29)), (z 1, aI V 3075 fz1)]) (rnS (rest := []) ⟨hx, hb, hml, hown, hg⟩ (k_X10_isIn_0 l V j_76 u_12 (iv_w b_18 (by decide))) mt_X10_isIn q_7_32 ⟨Nat.le_of_ble_eq_true rfl, Nat.le_of_ble_eq_true rfl⟩ hK hP hD hS hA hE [] rfl rfl rfl hl.1 rfl (Nat.le_of_ble_eq_true rfl) dX10_litBy_106 ⟨Nat.le_of_ble_eq_true rfl, Nat.le_of_ble_eq_true rfl⟩) hP hD hS hA [] [0, 1] rfl rfl rfl (by decide) (fun r_77 w H locs hw hP hD hS => ?_)
              obtain ⟨br_77, rfl⟩ := hw
              have hP : va_P V.1 vwCl [(z 0, .inr (10, mo z pz0_0 pz0_5 pz0_6 pz0_7 pz0_8 pz0_9 pz0_10 pz0_11 pz0_12 pz0_13 pz0_14 pz0_18 pz0_19 pz0_22 pz0_23 pz0_29)), (z 1, aI V 3075 fz1)] H := hP
              have hD : va_D A [(z 0, .inr (10, mo z pz0_0 pz0_5 pz0_6 pz0_7 pz0_8 pz0_9 pz0_10 pz0_11 pz0_12 pz0_13 pz0_14 pz0_18 pz0_19 pz0_22 pz0_23 pz0_29)), (z 1, aI V 3075 fz1)] := hD
              refine lv_if_eq (tgt := 151) hx hb dX10_litBy_109 (by decide) (fun c_78 => ?_) (fun c_78 => ?_)
              · have b_79 : iv 0 0 r_77 := iv_q c_78 (iv_c (0 : Int32) (a := 0) (b := 0) (by decide))
                obtain ⟨x_80, ex_80⟩ : ∃ z9 : Int32, z9 = u_12 + 1 := ⟨_, rfl⟩
                have bx_80 : iv 2 4 x_80 := by rw [ex_80]; exact iv_add b_18 (iv_c (1 : Int32) (a := 1) (b := 1) (by decide)) (by decide)
                refine lv_iinc (v := x_80) (lv' := [(5, .int x_80), (6, .int x_21), (4, .int u_7), (3, .int u_6), (2, .int u_13), (0, .ref (z 0)), (1, .int a1)]) hx hb dX10_litBy_151 hl (k := 1) rfl (by rw [ex_80]; rfl) (by decide) rfl (fun ls hl => ?_)
                refine lv_goto (tgt := 30) hx hb dX10_litBy_154 (by decide) ?_
                exact ihn_14 _ _ _ _ (by rw [en_14, ex_80]; exact mu_up b_18 (by decide)) ⟨x_80, u_13, (iv_w bx_80 (by decide)), bu_13, inn_14_0, rfl, hP, hD, hS, lv_sub hl [0, 2, 3, 4, 5, 6] rfl⟩
              · have b_81 : iv 1 1 r_77 := iv_n0 c_78 br_77 (iv_c (0 : Int32) (a := 0) (b := 0) (by decide)) (by decide)
                refine lv_iload hx hb dX10_litBy_112 (lv_at hl 0 rfl) ?_
                refine lv_aload_n hx hb dX10_litBy_114 rfl (lv_at hl 5 rfl) ?_
                refine va_get (ci := 10) (v := .ref (z 1)) (C := RX10) (T := TX10) (N := 40) hx hb hg inX10 hown hK hP 0 rfl rfl 1 (by decide) (hg _ q_5_225) (fun _ h9 => h9) rfl dX10_litBy_115 ?_
                refine lv_bipush (v := 46) hx hb dX10_litBy_118 (by decide) ?_
                refine lv_iload hx hb dX10_litBy_120 (lv_at hl 1 rfl) ?_
                refine lv_iadd hx hb dX10_litBy_122 ?_
                refine tpi (y := x_49) ex_49.symm ?_
                refine va_iald hx hb hK hP 1 0 rfl rfl (iv_in bx_49 (by decide)) dX10_litBy_123 ?_
                refine tpi (y := x_73) ex_73.symm ?_
                refine lv_icmp_gt (tgt := 151) hx hb dX10_litBy_124 (by decide) (fun c_82 => ?_) (fun c_82 => ?_)
                · have b_83 : iv 1 4 x_21 := iv_l2 c_82 b_75 b_72 (by decide)
                  obtain ⟨x_84, ex_84⟩ : ∃ z9 : Int32, z9 = u_12 + 1 := ⟨_, rfl⟩
                  have bx_84 : iv 2 4 x_84 := by rw [ex_84]; exact iv_add b_18 (iv_c (1 : Int32) (a := 1) (b := 1) (by decide)) (by decide)
                  refine lv_iinc (v := x_84) (lv' := [(5, .int x_84), (6, .int x_21), (4, .int u_7), (3, .int u_6), (2, .int u_13), (0, .ref (z 0)), (1, .int a1)]) hx hb dX10_litBy_151 hl (k := 1) rfl (by rw [ex_84]; rfl) (by decide) rfl (fun ls hl => ?_)
                  refine lv_goto (tgt := 30) hx hb dX10_litBy_154 (by decide) ?_
                  exact ihn_14 _ _ _ _ (by rw [en_14, ex_84]; exact mu_up b_18 (by decide)) ⟨x_84, u_13, (iv_w bx_84 (by decide)), bu_13, inn_14_0, rfl, hP, hD, hS, lv_sub hl [0, 2, 3, 4, 5, 6] rfl⟩
                · have b_85 : iv 0 0 x_21 := iv_e1 (Int32.not_lt.mp c_82) b_72 b_75 (by decide)
                  refine lv_aload_n hx hb dX10_litBy_127 rfl (lv_at hl 5 rfl) ?_
                  refine va_get (ci := 10) (v := .ref (z 1)) (C := RX10) (T := TX10) (N := 40) hx hb hg inX10 hown hK hP 0 rfl rfl 1 (by decide) (hg _ q_5_225) (fun _ h9 => h9) rfl dX10_litBy_128 ?_
                  refine lv_bipush (v := 46) hx hb dX10_litBy_131 (by decide) ?_
                  refine lv_iload hx hb dX10_litBy_133 (lv_at hl 1 rfl) ?_
                  refine lv_iadd hx hb dX10_litBy_135 ?_
                  refine tpi (y := x_49) ex_49.symm ?_
                  refine lv_iconst (v := 1) hx hb dX10_litBy_136 (by decide) ?_
                  refine lv_isub hx hb dX10_litBy_137 ?_
                  refine tpi (y := x_50) ex_50.symm ?_
                  refine va_iald hx hb hK hP 1 0 rfl rfl (iv_in bx_50 (by decide)) dX10_litBy_138 ?_
                  refine tpi (y := x_51) ex_51.symm ?_
                  refine lv_if_le (tgt := 151) hx hb dX10_litBy_139 (by decide) (fun c_86 => ?_) (fun c_86 => ?_)
                  · have b_87 : iv 0 0 x_51 := iv_e1 c_86 bx_51 (iv_c (0 : Int32) (a := 0) (b := 0) (by decide)) (by decide)
                    obtain ⟨x_88, ex_88⟩ : ∃ z9 : Int32, z9 = u_12 + 1 := ⟨_, rfl⟩
                    have bx_88 : iv 2 4 x_88 := by rw [ex_88]; exact iv_add b_18 (iv_c (1 : Int32) (a := 1) (b := 1) (by decide)) (by decide)
                    refine lv_iinc (v := x_88) (lv' := [(5, .int x_88), (6, .int x_21), (4, .int u_7), (3, .int u_6), (2, .int u_13), (0, .ref (z 0)), (1, .int a1)]) hx hb dX10_litBy_151 hl (k := 1) rfl (by rw [ex_88]; rfl) (by decide) rfl (fun ls hl => ?_)
                    refine lv_goto (tgt := 30) hx hb dX10_litBy_154 (by decide) ?_
                    exact ihn_14 _ _ _ _ (by rw [en_14, ex_88]; exact mu_up b_18 (by decide)) ⟨x_88, u_13, (iv_w bx_88 (by decide)), bu_13, inn_14_0, rfl, hP, hD, hS, lv_sub hl [0, 2, 3, 4, 5, 6] rfl⟩
                  · have b_89 : iv 1 4 x_51 := iv_l2 (Int32.not_le.mp c_86) (iv_c (0 : Int32) (a := 0) (b := 0) (by decide)) bx_51 (by decide)
                    refine lv_iload_n hx hb dX10_litBy_142 rfl (lv_at hl 4 rfl) ?_
                    refine lv_iconst (v := 1) hx hb dX10_litBy_143 (by decide) ?_
                    refine lv_iload hx hb dX10_litBy_144 (lv_at hl 1 rfl) ?_
                    refine lv_iconst (v := 1) hx hb dX10_litBy_146 (by decide) ?_
                    refine lv_isub hx hb dX10_litBy_147 ?_
                    refine tpi (y := x_23) ex_23.symm ?_
                    refine lv_ishl hx hb dX10_litBy_148 ?_
                    refine lv_topi (fun x_90 ex_90 => ?_)
                    have bx_90 : iv 1 8 x_90 := by rw [ex_90]; exact iv_shl1 bx_23 (by decide)
                    refine lv_ior hx hb dX10_litBy_149 ?_
                    refine lv_topi (fun x_91 ex_91 => ?_)
                    have bx_91 : iv 0 15 x_91 := by rw [ex_91]; exact iv_or15 bu_13 bx_90 (by decide)
                    refine lv_istore_n (lv' := [(2, .int x_91), (6, .int x_21), (5, .int u_12), (4, .int u_7), (3, .int u_6), (0, .ref (z 0)), (1, .int a1)]) hx hb dX10_litBy_150 rfl hl (by decide) rfl (fun ls hl => ?_)
                    obtain ⟨x_92, ex_92⟩ : ∃ z9 : Int32, z9 = u_12 + 1 := ⟨_, rfl⟩
                    have bx_92 : iv 2 4 x_92 := by rw [ex_92]; exact iv_add b_18 (iv_c (1 : Int32) (a := 1) (b := 1) (by decide)) (by decide)
                    refine lv_iinc (v := x_92) (lv' := [(5, .int x_92), (2, .int x_91), (6, .int x_21), (4, .int u_7), (3, .int u_6), (0, .ref (z 0)), (1, .int a1)]) hx hb dX10_litBy_151 hl (k := 2) rfl (by rw [ex_92]; rfl) (by decide) rfl (fun ls hl => ?_)
                    refine lv_goto (tgt := 30) hx hb dX10_litBy_154 (by decide) ?_
                    exact ihn_14 _ _ _ _ (by rw [en_14, ex_92]; exact mu_up b_18 (by decide)) ⟨x_92, x_91, (iv_w bx_92 (by decide)), bx_91, (by have q9 := inn_14_0; have q_x_91 := or_le ex_91 bu_13 bx_90 (by decide); omega), rfl, hP, hD, hS, lv_sub hl [0, 3, 4, 1, 5, 6] rfl⟩
            · have b_93 : iv 1 4 x_73 := iv_l2 (Int32.not_le.mp c_74) (iv_c (0 : Int32) (a := 0) (b := 0) (by decide)) bx_73 (by decide)
              refine lv_iload_n hx hb dX10_litBy_95 rfl (lv_at hl 4 rfl) ?_
              refine lv_iconst (v := 1) hx hb dX10_litBy_96 (by decide) ?_
              refine lv_iload hx hb dX10_litBy_97 (lv_at hl 1 rfl) ?_
              refine lv_ishl hx hb dX10_litBy_99 ?_
              refine lv_topi (fun x_94 ex_94 => ?_)
              have bx_94 : iv 1 8 x_94 := by rw [ex_94]; exact iv_shl1 b_18 (by decide)
              refine lv_ior hx hb dX10_litBy_100 ?_
              refine lv_topi (fun x_95 ex_95 => ?_)
              have bx_95 : iv 0 15 x_95 := by rw [ex_95]; exact iv_or15 bu_13 bx_94 (by decide)
              refine lv_istore_n (lv' := [(2, .int x_95), (6, .int x_21), (5, .int u_12), (4, .int u_7), (3, .int u_6), (0, .ref (z 0)), (1, .int a1)]) hx hb dX10_litBy_101 rfl hl (by decide) rfl (fun ls hl => ?_)
              refine lv_iload_n hx hb dX10_litBy_102 rfl (lv_at hl 0 rfl) ?_
              refine lv_i2l hx hb dX10_litBy_103 rfl ?_
              refine lv_topl (fun j_96 ej_96 => ?_)
              have bj_96 : ivL 0 15 j_96 := by rw [ej_96]; exact ivL_of bx_95
              refine lv_iload hx hb dX10_litBy_104 (lv_at hl 2 rfl) ?_
              refine jnI (wr := [(z 0, .inr (10, mo z pz0_0 pz0_5 pz0_6 pz0_7 pz0_8 pz0_9 pz0_10 pz0_11 pz0_12 pz0_13 pz0_14 pz0_18 pz0_19 pz0_22 pz0_23 pz0_29)), (z 1, aI V 3075 fz1)]) (rnS (rest := []) ⟨hx, hb, hml, hown, hg⟩ (k_X10_isIn_0 l V j_96 u_12 (iv_w b_18 (by decide))) mt_X10_isIn q_7_32 ⟨Nat.le_of_ble_eq_true rfl, Nat.le_of_ble_eq_true rfl⟩ hK hP hD hS hA hE [] rfl rfl rfl hl.1 rfl (Nat.le_of_ble_eq_true rfl) dX10_litBy_106 ⟨Nat.le_of_ble_eq_true rfl, Nat.le_of_ble_eq_true rfl⟩) hP hD hS hA [] [0, 1] rfl rfl rfl (by decide) (fun r_97 w H locs hw hP hD hS => ?_)
              obtain ⟨br_97, rfl⟩ := hw
              have hP : va_P V.1 vwCl [(z 0, .inr (10, mo z pz0_0 pz0_5 pz0_6 pz0_7 pz0_8 pz0_9 pz0_10 pz0_11 pz0_12 pz0_13 pz0_14 pz0_18 pz0_19 pz0_22 pz0_23 pz0_29)), (z 1, aI V 3075 fz1)] H := hP
              have hD : va_D A [(z 0, .inr (10, mo z pz0_0 pz0_5 pz0_6 pz0_7 pz0_8 pz0_9 pz0_10 pz0_11 pz0_12 pz0_13 pz0_14 pz0_18 pz0_19 pz0_22 pz0_23 pz0_29)), (z 1, aI V 3075 fz1)] := hD
              refine lv_if_eq (tgt := 151) hx hb dX10_litBy_109 (by decide) (fun c_98 => ?_) (fun c_98 => ?_)
              · have b_99 : iv 0 0 r_97 := iv_q c_98 (iv_c (0 : Int32) (a := 0) (b := 0) (by decide))
                obtain ⟨x_100, ex_100⟩ : ∃ z9 : Int32, z9 = u_12 + 1 := ⟨_, rfl⟩
                have bx_100 : iv 2 4 x_100 := by rw [ex_100]; exact iv_add b_18 (iv_c (1 : Int32) (a := 1) (b := 1) (by decide)) (by decide)
                refine lv_iinc (v := x_100) (lv' := [(5, .int x_100), (2, .int x_95), (6, .int x_21), (4, .int u_7), (3, .int u_6), (0, .ref (z 0)), (1, .int a1)]) hx hb dX10_litBy_151 hl (k := 2) rfl (by rw [ex_100]; rfl) (by decide) rfl (fun ls hl => ?_)
                refine lv_goto (tgt := 30) hx hb dX10_litBy_154 (by decide) ?_
                exact ihn_14 _ _ _ _ (by rw [en_14, ex_100]; exact mu_up b_18 (by decide)) ⟨x_100, x_95, (iv_w bx_100 (by decide)), bx_95, (by have q9 := inn_14_0; have q_x_95 := or_le ex_95 bu_13 bx_94 (by decide); omega), rfl, hP, hD, hS, lv_sub hl [0, 3, 4, 1, 5, 6] rfl⟩
              · have b_101 : iv 1 1 r_97 := iv_n0 c_98 br_97 (iv_c (0 : Int32) (a := 0) (b := 0) (by decide)) (by decide)
                refine lv_iload hx hb dX10_litBy_112 (lv_at hl 1 rfl) ?_
                refine lv_aload_n hx hb dX10_litBy_114 rfl (lv_at hl 5 rfl) ?_
                refine va_get (ci := 10) (v := .ref (z 1)) (C := RX10) (T := TX10) (N := 40) hx hb hg inX10 hown hK hP 0 rfl rfl 1 (by decide) (hg _ q_5_225) (fun _ h9 => h9) rfl dX10_litBy_115 ?_
                refine lv_bipush (v := 46) hx hb dX10_litBy_118 (by decide) ?_
                refine lv_iload hx hb dX10_litBy_120 (lv_at hl 2 rfl) ?_
                refine lv_iadd hx hb dX10_litBy_122 ?_
                refine tpi (y := x_49) ex_49.symm ?_
                refine va_iald hx hb hK hP 1 0 rfl rfl (iv_in bx_49 (by decide)) dX10_litBy_123 ?_
                refine tpi (y := x_73) ex_73.symm ?_
                refine lv_icmp_gt (tgt := 151) hx hb dX10_litBy_124 (by decide) (fun c_102 => ?_) (fun c_102 => ?_)
                · have b_103 : iv 1 3 x_73 := iv_l1 c_102 b_93 b_72 (by decide)
                  have b_104 : iv 2 4 x_21 := iv_l2 c_102 b_93 b_72 (by decide)
                  obtain ⟨x_105, ex_105⟩ : ∃ z9 : Int32, z9 = u_12 + 1 := ⟨_, rfl⟩
                  have bx_105 : iv 2 4 x_105 := by rw [ex_105]; exact iv_add b_18 (iv_c (1 : Int32) (a := 1) (b := 1) (by decide)) (by decide)
                  refine lv_iinc (v := x_105) (lv' := [(5, .int x_105), (2, .int x_95), (6, .int x_21), (4, .int u_7), (3, .int u_6), (0, .ref (z 0)), (1, .int a1)]) hx hb dX10_litBy_151 hl (k := 2) rfl (by rw [ex_105]; rfl) (by decide) rfl (fun ls hl => ?_)
                  refine lv_goto (tgt := 30) hx hb dX10_litBy_154 (by decide) ?_
                  exact ihn_14 _ _ _ _ (by rw [en_14, ex_105]; exact mu_up b_18 (by decide)) ⟨x_105, x_95, (iv_w bx_105 (by decide)), bx_95, (by have q9 := inn_14_0; have q_x_95 := or_le ex_95 bu_13 bx_94 (by decide); omega), rfl, hP, hD, hS, lv_sub hl [0, 3, 4, 1, 5, 6] rfl⟩
                · refine lv_aload_n hx hb dX10_litBy_127 rfl (lv_at hl 5 rfl) ?_
                  refine va_get (ci := 10) (v := .ref (z 1)) (C := RX10) (T := TX10) (N := 40) hx hb hg inX10 hown hK hP 0 rfl rfl 1 (by decide) (hg _ q_5_225) (fun _ h9 => h9) rfl dX10_litBy_128 ?_
                  refine lv_bipush (v := 46) hx hb dX10_litBy_131 (by decide) ?_
                  refine lv_iload hx hb dX10_litBy_133 (lv_at hl 2 rfl) ?_
                  refine lv_iadd hx hb dX10_litBy_135 ?_
                  refine tpi (y := x_49) ex_49.symm ?_
                  refine lv_iconst (v := 1) hx hb dX10_litBy_136 (by decide) ?_
                  refine lv_isub hx hb dX10_litBy_137 ?_
                  refine tpi (y := x_50) ex_50.symm ?_
                  refine va_iald hx hb hK hP 1 0 rfl rfl (iv_in bx_50 (by decide)) dX10_litBy_138 ?_
                  refine tpi (y := x_51) ex_51.symm ?_
                  refine lv_if_le (tgt := 151) hx hb dX10_litBy_139 (by decide) (fun c_106 => ?_) (fun c_106 => ?_)
                  · have b_107 : iv 0 0 x_51 := iv_e1 c_106 bx_51 (iv_c (0 : Int32) (a := 0) (b := 0) (by decide)) (by decide)
                    obtain ⟨x_108, ex_108⟩ : ∃ z9 : Int32, z9 = u_12 + 1 := ⟨_, rfl⟩
                    have bx_108 : iv 2 4 x_108 := by rw [ex_108]; exact iv_add b_18 (iv_c (1 : Int32) (a := 1) (b := 1) (by decide)) (by decide)
                    refine lv_iinc (v := x_108) (lv' := [(5, .int x_108), (2, .int x_95), (6, .int x_21), (4, .int u_7), (3, .int u_6), (0, .ref (z 0)), (1, .int a1)]) hx hb dX10_litBy_151 hl (k := 2) rfl (by rw [ex_108]; rfl) (by decide) rfl (fun ls hl => ?_)
                    refine lv_goto (tgt := 30) hx hb dX10_litBy_154 (by decide) ?_
                    exact ihn_14 _ _ _ _ (by rw [en_14, ex_108]; exact mu_up b_18 (by decide)) ⟨x_108, x_95, (iv_w bx_108 (by decide)), bx_95, (by have q9 := inn_14_0; have q_x_95 := or_le ex_95 bu_13 bx_94 (by decide); omega), rfl, hP, hD, hS, lv_sub hl [0, 3, 4, 1, 5, 6] rfl⟩
                  · have b_109 : iv 1 4 x_51 := iv_l2 (Int32.not_le.mp c_106) (iv_c (0 : Int32) (a := 0) (b := 0) (by decide)) bx_51 (by decide)
                    refine lv_iload_n hx hb dX10_litBy_142 rfl (lv_at hl 0 rfl) ?_
                    refine lv_iconst (v := 1) hx hb dX10_litBy_143 (by decide) ?_
                    refine lv_iload hx hb dX10_litBy_144 (lv_at hl 2 rfl) ?_
                    refine lv_iconst (v := 1) hx hb dX10_litBy_146 (by decide) ?_
                    refine lv_isub hx hb dX10_litBy_147 ?_
                    refine tpi (y := x_23) ex_23.symm ?_
                    refine lv_ishl hx hb dX10_litBy_148 ?_
                    refine lv_topi (fun x_110 ex_110 => ?_)
                    have bx_110 : iv 1 8 x_110 := by rw [ex_110]; exact iv_shl1 bx_23 (by decide)
                    refine lv_ior hx hb dX10_litBy_149 ?_
                    refine lv_topi (fun x_111 ex_111 => ?_)
                    have bx_111 : iv 0 15 x_111 := by rw [ex_111]; exact iv_or15 bx_95 bx_110 (by decide)
                    refine lv_istore_n (lv' := [(2, .int x_111), (6, .int x_21), (5, .int u_12), (4, .int u_7), (3, .int u_6), (0, .ref (z 0)), (1, .int a1)]) hx hb dX10_litBy_150 rfl hl (by decide) rfl (fun ls hl => ?_)
                    obtain ⟨x_112, ex_112⟩ : ∃ z9 : Int32, z9 = u_12 + 1 := ⟨_, rfl⟩
                    have bx_112 : iv 2 4 x_112 := by rw [ex_112]; exact iv_add b_18 (iv_c (1 : Int32) (a := 1) (b := 1) (by decide)) (by decide)
                    refine lv_iinc (v := x_112) (lv' := [(5, .int x_112), (2, .int x_111), (6, .int x_21), (4, .int u_7), (3, .int u_6), (0, .ref (z 0)), (1, .int a1)]) hx hb dX10_litBy_151 hl (k := 2) rfl (by rw [ex_112]; rfl) (by decide) rfl (fun ls hl => ?_)
                    refine lv_goto (tgt := 30) hx hb dX10_litBy_154 (by decide) ?_
                    exact ihn_14 _ _ _ _ (by rw [en_14, ex_112]; exact mu_up b_18 (by decide)) ⟨x_112, x_111, (iv_w bx_112 (by decide)), bx_111, (by have q9 := inn_14_0; have q_x_111 := or_le ex_111 bx_95 bx_110 (by decide); have q_x_95 := or_le ex_95 bu_13 bx_94 (by decide); omega), rfl, hP, hD, hS, lv_sub hl [0, 3, 4, 1, 5, 6] rfl⟩
  · have b_113 : iv 0 0 x_2 := iv_q c_3 (iv_c (0 : Int32) (a := 0) (b := 0) (by decide))
    refine lv_iconst (v := 0) hx hb dX10_litBy_12 (by decide) ?_
    exact fiI hx hb hr hlk hK hP hD hS dX10_litBy_13 (Nat.le_of_ble_eq_true rfl) (Nat.le_of_ble_eq_true rfl) (⟨(iv_c (0 : Int32) (by decide)), rfl⟩)
