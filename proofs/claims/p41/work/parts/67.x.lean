theorem dX10_cut_0 : decode cX10_cut 0 = .ok (.iload_n 2, 1) := by decide +kernel
theorem dX10_cut_1 : decode cX10_cut 1 = .ok (.ifCond .ne 10, 3) := by decide +kernel
theorem dX10_cut_11 : decode cX10_cut 11 = .ok (.iload_n 2, 1) := by decide +kernel
theorem dX10_cut_12 : decode cX10_cut 12 = .ok (.iconst 1, 1) := by decide +kernel
theorem dX10_cut_13 : decode cX10_cut 13 = .ok (.if_icmp .ne 10, 3) := by decide +kernel
theorem dX10_cut_23 : decode cX10_cut 23 = .ok (.iload_n 2, 1) := by decide +kernel
theorem dX10_cut_24 : decode cX10_cut 24 = .ok (.iconst 2, 1) := by decide +kernel
theorem dX10_cut_25 : decode cX10_cut 25 = .ok (.if_icmp .ne 9, 3) := by decide +kernel
theorem dX10_cut_34 : decode cX10_cut 34 = .ok (.lload_n 0, 1) := by decide +kernel
theorem dX10_cut_35 : decode cX10_cut 35 = .ok (.lreturn, 1) := by decide +kernel
theorem dX10_cut_28 : decode cX10_cut 28 = .ok (.lload_n 0, 1) := by decide +kernel
theorem dX10_cut_29 : decode cX10_cut 29 = .ok (.l2i, 1) := by decide +kernel
theorem dX10_cut_30 : decode cX10_cut 30 = .ok (.i2l, 1) := by decide +kernel
theorem dX10_cut_31 : decode cX10_cut 31 = .ok (.goto 4, 3) := by decide +kernel
theorem dX10_cut_16 : decode cX10_cut 16 = .ok (.lload_n 0, 1) := by decide +kernel
theorem dX10_cut_17 : decode cX10_cut 17 = .ok (.l2i, 1) := by decide +kernel
theorem dX10_cut_18 : decode cX10_cut 18 = .ok (.i2s, 1) := by decide +kernel
theorem dX10_cut_19 : decode cX10_cut 19 = .ok (.i2l, 1) := by decide +kernel
theorem dX10_cut_20 : decode cX10_cut 20 = .ok (.goto 15, 3) := by decide +kernel
theorem dX10_cut_4 : decode cX10_cut 4 = .ok (.lload_n 0, 1) := by decide +kernel
theorem dX10_cut_5 : decode cX10_cut 5 = .ok (.l2i, 1) := by decide +kernel
theorem dX10_cut_6 : decode cX10_cut 6 = .ok (.i2b, 1) := by decide +kernel
theorem dX10_cut_7 : decode cX10_cut 7 = .ok (.i2l, 1) := by decide +kernel
theorem dX10_cut_8 : decode cX10_cut 8 = .ok (.goto 27, 3) := by decide +kernel
set_option maxHeartbeats 4000000 in
set_option maxRecDepth 100000 in
theorem k_X10_cut_0 (l : Launch) (V : GV) (k0 : Int64) (a1 : Int32) : Ct l V yX10_cut (.code yX10_cut cX10_cut 3 (some .long)) 1 [.long k0, .int a1] [] 0 0 (QL V (fun (r : Int64) (w : va_W) => r = cuF a1 k0 ∧ w = [])) := by
  refine Ct.of (by decide) (Nat.le_of_ble_eq_true rfl) (fun p e s m below meth c A ls hx hb hr hml hown hlk hnm hg hP hK hD hE hA hS hl => ?_)
  have hl : lv_has ls 3 [(0, .long k0), (2, .int a1)] := hl
  refine lv_iload_n hx hb dX10_cut_0 rfl (lv_at hl 1 rfl) ?_
  refine lv_if_ne (tgt := 11) hx hb dX10_cut_1 (by decide) (fun c_1 => ?_) (fun c_1 => ?_)
  · refine lv_iload_n hx hb dX10_cut_11 rfl (lv_at hl 1 rfl) ?_
    refine lv_iconst (v := 1) hx hb dX10_cut_12 (by decide) ?_
    refine lv_icmp_ne (tgt := 23) hx hb dX10_cut_13 (by decide) (fun c_2 => ?_) (fun c_2 => ?_)
    · refine lv_iload_n hx hb dX10_cut_23 rfl (lv_at hl 1 rfl) ?_
      refine lv_iconst (v := 2) hx hb dX10_cut_24 (by decide) ?_
      refine lv_icmp_ne (tgt := 34) hx hb dX10_cut_25 (by decide) (fun c_3 => ?_) (fun c_3 => ?_)
      · refine lv_lload_n hx hb dX10_cut_34 rfl (lv_at hl 0 rfl) ?_
        exact fiL hx hb hr hlk hK hP hD hS dX10_cut_35 (Nat.le_of_ble_eq_true rfl) (Nat.le_of_ble_eq_true rfl) (⟨(cu_3 c_1 c_2 c_3), rfl⟩)
      · have b_4 : iv 2 2 a1 := iv_q c_3 (iv_c (2 : Int32) (a := 2) (b := 2) (by decide))
        refine lv_lload_n hx hb dX10_cut_28 rfl (lv_at hl 0 rfl) ?_
        refine lv_l2i hx hb dX10_cut_29 rfl ?_
        refine lv_topi (fun x_5 ex_5 => ?_)
        refine lv_i2l hx hb dX10_cut_30 rfl ?_
        refine lv_topl (fun j_6 ej_6 => ?_)
        refine lv_goto (tgt := 35) hx hb dX10_cut_31 (by decide) ?_
        exact fiL hx hb hr hlk hK hP hD hS dX10_cut_35 (Nat.le_of_ble_eq_true rfl) (Nat.le_of_ble_eq_true rfl) (⟨(cu_2 c_3 (by rw [ej_6, ex_5])), rfl⟩)
    · have b_7 : iv 1 1 a1 := iv_q c_2 (iv_c (1 : Int32) (a := 1) (b := 1) (by decide))
      refine lv_lload_n hx hb dX10_cut_16 rfl (lv_at hl 0 rfl) ?_
      refine lv_l2i hx hb dX10_cut_17 rfl ?_
      refine lv_topi (fun x_8 ex_8 => ?_)
      refine lv_i2s hx hb dX10_cut_18 rfl ?_
      refine lv_topi (fun x_9 ex_9 => ?_)
      refine lv_i2l hx hb dX10_cut_19 rfl ?_
      refine lv_topl (fun j_10 ej_10 => ?_)
      refine lv_goto (tgt := 35) hx hb dX10_cut_20 (by decide) ?_
      exact fiL hx hb hr hlk hK hP hD hS dX10_cut_35 (Nat.le_of_ble_eq_true rfl) (Nat.le_of_ble_eq_true rfl) (⟨(cu_1 c_2 (by rw [ej_10, ex_9, ex_8])), rfl⟩)
  · have b_11 : iv 0 0 a1 := iv_q c_1 (iv_c (0 : Int32) (a := 0) (b := 0) (by decide))
    refine lv_lload_n hx hb dX10_cut_4 rfl (lv_at hl 0 rfl) ?_
    refine lv_l2i hx hb dX10_cut_5 rfl ?_
    refine lv_topi (fun x_12 ex_12 => ?_)
    refine lv_i2b hx hb dX10_cut_6 rfl ?_
    refine lv_topi (fun x_13 ex_13 => ?_)
    refine lv_i2l hx hb dX10_cut_7 rfl ?_
    refine lv_topl (fun j_14 ej_14 => ?_)
    refine lv_goto (tgt := 35) hx hb dX10_cut_8 (by decide) ?_
    exact fiL hx hb hr hlk hK hP hD hS dX10_cut_35 (Nat.le_of_ble_eq_true rfl) (Nat.le_of_ble_eq_true rfl) (⟨(cu_0 c_1 (by rw [ej_14, ex_13, ex_12])), rfl⟩)
theorem dX10_write_0 : decode cX10_write 0 = .ok (.aload_n 0, 1) := by decide +kernel
theorem dX10_write_1 : decode cX10_write 1 = .ok (.iconst 0, 1) := by decide +kernel
theorem dX10_write_2 : decode cX10_write 2 = .ok (.putfield 1, 3) := by decide +kernel
theorem dX10_write_5 : decode cX10_write 5 = .ok (.aload_n 0, 1) := by decide +kernel
theorem dX10_write_6 : decode cX10_write 6 = .ok (.iload_n 1, 1) := by decide +kernel
theorem dX10_write_7 : decode cX10_write 7 = .ok (.invokevirtual 317, 3) := by decide +kernel
theorem dX10_write_10 : decode cX10_write 10 = .ok (.istore 5, 2) := by decide +kernel
theorem dX10_write_12 : decode cX10_write 12 = .ok (.iload 5, 2) := by decide +kernel
theorem dX10_write_14 : decode cX10_write 14 = .ok (.ifCond .eq 7, 3) := by decide +kernel
theorem dX10_write_21 : decode cX10_write 21 = .ok (.iload_n 2, 1) := by decide +kernel
theorem dX10_write_22 : decode cX10_write 22 = .ok (.i2l, 1) := by decide +kernel
theorem dX10_write_23 : decode cX10_write 23 = .ok (.lconst 0, 1) := by decide +kernel
theorem dX10_write_24 : decode cX10_write 24 = .ok (.aload_n 0, 1) := by decide +kernel
theorem dX10_write_25 : decode cX10_write 25 = .ok (.getfield 87, 3) := by decide +kernel
theorem dX10_write_28 : decode cX10_write 28 = .ok (.iload_n 1, 1) := by decide +kernel
theorem dX10_write_29 : decode cX10_write 29 = .ok (.iaload, 1) := by decide +kernel
theorem dX10_write_30 : decode cX10_write 30 = .ok (.iconst 1, 1) := by decide +kernel
theorem dX10_write_31 : decode cX10_write 31 = .ok (.isub, 1) := by decide +kernel
theorem dX10_write_32 : decode cX10_write 32 = .ok (.i2l, 1) := by decide +kernel
theorem dX10_write_33 : decode cX10_write 33 = .ok (.invokestatic 159, 3) := by decide +kernel
theorem dX10_write_36 : decode cX10_write 36 = .ok (.ifCond .ne 7, 3) := by decide +kernel
theorem dX10_write_43 : decode cX10_write 43 = .ok (.aload_n 0, 1) := by decide +kernel
theorem dX10_write_44 : decode cX10_write 44 = .ok (.getfield 90, 3) := by decide +kernel
theorem dX10_write_47 : decode cX10_write 47 = .ok (.bipush 40, 2) := by decide +kernel
theorem dX10_write_49 : decode cX10_write 49 = .ok (.iload_n 1, 1) := by decide +kernel
theorem dX10_write_50 : decode cX10_write 50 = .ok (.imul, 1) := by decide +kernel
theorem dX10_write_51 : decode cX10_write 51 = .ok (.iload_n 2, 1) := by decide +kernel
theorem dX10_write_52 : decode cX10_write 52 = .ok (.iadd, 1) := by decide +kernel
theorem dX10_write_53 : decode cX10_write 53 = .ok (.lload_n 3, 1) := by decide +kernel
theorem dX10_write_54 : decode cX10_write 54 = .ok (.aload_n 0, 1) := by decide +kernel
theorem dX10_write_55 : decode cX10_write 55 = .ok (.getfield 84, 3) := by decide +kernel
theorem dX10_write_58 : decode cX10_write 58 = .ok (.iload_n 1, 1) := by decide +kernel
theorem dX10_write_59 : decode cX10_write 59 = .ok (.iaload, 1) := by decide +kernel
theorem q_8_142 : Cond.code yX10_cut prog_12_method_128_code 3 (some FieldType.long) ∈ gw := gw_8 (i := 142) (rfl) rfl
theorem q_8_141 : Cond.static yX10_cut ∈ gw := gw_8 (i := 141) (by decide +kernel) rfl
theorem mt_X10_cut : MtS yX10_cut cX10_cut 3 (some .long) 2 := ⟨⟨q_8_142, q_1_9, by decide +kernel, by decide +kernel, by decide +kernel⟩, q_8_141⟩
theorem q_8_140 : Cond.methodLink "BeaconDelayModel" 466 yX10_cut ∈ gw := gw_8 (i := 140) (by decide +kernel) rfl
theorem dX10_write_60 : decode cX10_write 60 = .ok (.invokestatic 466, 3) := by decide +kernel
theorem dX10_write_63 : decode cX10_write 63 = .ok (.lastore, 1) := by decide +kernel
theorem dX10_write_64 : decode cX10_write 64 = .ok (.aload_n 0, 1) := by decide +kernel
theorem dX10_write_65 : decode cX10_write 65 = .ok (.getfield 90, 3) := by decide +kernel
theorem dX10_write_68 : decode cX10_write 68 = .ok (.bipush 40, 2) := by decide +kernel
theorem dX10_write_70 : decode cX10_write 70 = .ok (.iload_n 1, 1) := by decide +kernel
theorem dX10_write_71 : decode cX10_write 71 = .ok (.imul, 1) := by decide +kernel
theorem dX10_write_72 : decode cX10_write 72 = .ok (.iload_n 2, 1) := by decide +kernel
theorem dX10_write_73 : decode cX10_write 73 = .ok (.iadd, 1) := by decide +kernel
theorem dX10_write_74 : decode cX10_write 74 = .ok (.laload, 1) := by decide +kernel
theorem dX10_write_75 : decode cX10_write 75 = .ok (.lreturn, 1) := by decide +kernel
theorem q_8_139 : Cond.constantLong "BeaconDelayModel" 464 (-7 : Int64) ∈ gw := gw_8 (i := 139) (by decide +kernel) rfl
theorem dX10_write_39 : decode cX10_write 39 = .ok (.ldc2_w 464, 3) := by decide +kernel
theorem dX10_write_42 : decode cX10_write 42 = .ok (.lreturn, 1) := by decide +kernel
theorem dX10_write_17 : decode cX10_write 17 = .ok (.iload 5, 2) := by decide +kernel
theorem dX10_write_19 : decode cX10_write 19 = .ok (.i2l, 1) := by decide +kernel
theorem dX10_write_20 : decode cX10_write 20 = .ok (.lreturn, 1) := by decide +kernel
set_option maxHeartbeats 4000000 in
set_option maxRecDepth 100000 in
theorem k_X10_write_0 (l : Launch) (V : GV) (z : Nat → Nat) (a1 : Int32) (a2 : Int32) (k3 : Int64) (pz0_0 : Int32) (pz0_5 : Int32) (pz0_6 : Int32) (pz0_7 : Int32) (pz0_8 : Int32) (pz0_9 : Int32) (pz0_10 : Int32) (pz0_11 : Int32) (pz0_12 : Int32) (pz0_13 : Int32) (pz0_14 : Int32) (pz0_18 : Int32) (pz0_19 : Int32) (pz0_22 : Int32) (pz0_23 : Int32) (pz0_29 : Int32) (fz37 : Nat → Int32) (fz38 : Nat → Int32) (fz39 : Nat → Int64) (bpz0_5 : iv 0 900 pz0_5) (bpz0_6 : iv 0 900 pz0_6) (bpz0_7 : iv 0 900 pz0_7) (bpz0_8 : iv 0 900 pz0_8) (bpz0_10 : iv 0 999 pz0_10) (bpz0_11 : iv 0 4 pz0_11) (bpz0_12 : iv 0 900 pz0_12) (bpz0_13 : iv 0 4 pz0_13) (bpz0_14 : iv (-1) 900 pz0_14) (bpz0_18 : iv 0 2 pz0_18) (bpz0_22 : iv 0 9999 pz0_22) (bpz0_29 : iv 0 10000 pz0_29) (tfz37 : ∀ j, iv (-1) 3 (fz37 j)) (tfz38 : ∀ j, iv 0 40 (fz38 j)) : Ct l V yX10_write (.code yX10_write cX10_write 6 (some .long)) 3 [.ref (z 0), .int a1, .int a2, .long k3] [(z 0, .inr (10, mo z pz0_0 pz0_5 pz0_6 pz0_7 pz0_8 pz0_9 pz0_10 pz0_11 pz0_12 pz0_13 pz0_14 pz0_18 pz0_19 pz0_22 pz0_23 pz0_29)), (z 37, aI V 4 fz37), (z 38, aI V 4 fz38), (z 39, aJ V 160 fz39)] 0 0 (QL V (fun (r : Int64) (w : va_W) => ∃ (v0 : Int32) (g1 : Nat → Int64), r = wrZ a1 a2 k3 fz37 fz38 ∧ w = [(z 0, .inr (10, mo z v0 pz0_5 pz0_6 pz0_7 pz0_8 pz0_9 pz0_10 pz0_11 pz0_12 pz0_13 pz0_14 pz0_18 pz0_19 pz0_22 pz0_23 pz0_29)), (z 37, aI V 4 fz37), (z 38, aI V 4 fz38), (z 39, aJ V 160 g1)])) := by
  refine Ct.of (by decide) (Nat.le_of_ble_eq_true rfl) (fun p e s m below meth c A ls hx hb hr hml hown hlk hnm hg hP hK hD hE hA hS hl => ?_)
  have hl : lv_has ls 6 [(0, .ref (z 0)), (1, .int a1), (2, .int a2), (3, .long k3)] := hl
  refine lv_aload_n hx hb dX10_write_0 rfl (lv_at hl 0 rfl) ?_
  refine lv_iconst (v := 0) hx hb dX10_write_1 (by decide) ?_
  refine va_put (ci := 10) (v := .int 0) (ty := .int) (C := RX10) (T := TX10) (N := 40) hx hb hg inX10 tyX10 tyX10_ok nmX10 hown hK hP hD hS 0 rfl rfl 0 (by decide) (hg _ q_5_224) (fun _ h9 => h9) rfl (by decide +kernel) rfl rfl (Nat.le_of_ble_eq_true rfl) dX10_write_2 (fun H locs hP hD hS => ?_)
  have hP : va_P V.1 vwCl [(z 0, .inr (10, mo z 0 pz0_5 pz0_6 pz0_7 pz0_8 pz0_9 pz0_10 pz0_11 pz0_12 pz0_13 pz0_14 pz0_18 pz0_19 pz0_22 pz0_23 pz0_29)), (z 37, aI V 4 fz37), (z 38, aI V 4 fz38), (z 39, aJ V 160 fz39)] H := hP
  have hD : va_D A [(z 0, .inr (10, mo z 0 pz0_5 pz0_6 pz0_7 pz0_8 pz0_9 pz0_10 pz0_11 pz0_12 pz0_13 pz0_14 pz0_18 pz0_19 pz0_22 pz0_23 pz0_29)), (z 37, aI V 4 fz37), (z 38, aI V 4 fz38), (z 39, aJ V 160 fz39)] := hD
  refine lv_aload_n hx hb dX10_write_5 rfl (lv_at hl 0 rfl) ?_
  refine lv_iload_n hx hb dX10_write_6 rfl (lv_at hl 1 rfl) ?_
  refine jnI (wr := [(z 38, aI V 4 fz38), (z 39, aJ V 160 fz39)]) (rnV (rest := []) ⟨hx, hb, hml, hown, hg⟩ (k_X10_noTray_0 l V z a1 0 pz0_5 pz0_6 pz0_7 pz0_8 pz0_9 pz0_10 pz0_11 pz0_12 pz0_13 pz0_14 pz0_18 pz0_19 pz0_22 pz0_23 pz0_29 fz37 bpz0_5 bpz0_6 bpz0_7 bpz0_8 bpz0_10 bpz0_11 bpz0_12 bpz0_13 bpz0_14 bpz0_18 bpz0_22 bpz0_29 tfz37) mt_X10_noTray q_7_108 ⟨Nat.le_of_ble_eq_true rfl, Nat.le_of_ble_eq_true rfl⟩ hK hP hD hS hA hE [0, 1] rfl rfl 0 rfl rfl rfl rfl hl.1 rfl (Nat.le_of_ble_eq_true rfl) dX10_write_7 ⟨Nat.le_of_ble_eq_true rfl, Nat.le_of_ble_eq_true rfl⟩) hP hD hS hA [0, 1] [2, 3] rfl rfl rfl (by decide) (fun r_1 w H locs hw hP hD hS => ?_)
  obtain ⟨br_1, er_1, g_2, rfl⟩ := hw
  have hP : va_P V.1 vwCl [(z 38, aI V 4 fz38), (z 39, aJ V 160 fz39), (z 0, .inr (10, mo z 0 pz0_5 pz0_6 pz0_7 pz0_8 pz0_9 pz0_10 pz0_11 pz0_12 pz0_13 pz0_14 pz0_18 pz0_19 pz0_22 pz0_23 pz0_29)), (z 37, aI V 4 fz37)] H := hP
  have hD : va_D A [(z 38, aI V 4 fz38), (z 39, aJ V 160 fz39), (z 0, .inr (10, mo z 0 pz0_5 pz0_6 pz0_7 pz0_8 pz0_9 pz0_10 pz0_11 pz0_12 pz0_13 pz0_14 pz0_18 pz0_19 pz0_22 pz0_23 pz0_29)), (z 37, aI V 4 fz37)] := hD
  refine lv_istore (lv' := [(5, .int r_1), (0, .ref (z 0)), (1, .int a1), (2, .int a2), (3, .long k3)]) hx hb dX10_write_10 hl (by decide) rfl (fun ls hl => ?_)
  refine lv_iload hx hb dX10_write_12 (lv_at hl 0 rfl) ?_
  refine lv_if_eq (tgt := 21) hx hb dX10_write_14 (by decide) (fun c_3 => ?_) (fun c_3 => ?_)
  · have b_4 : iv 0 0 r_1 := iv_q c_3 (iv_c (0 : Int32) (a := 0) (b := 0) (by decide))
    have b_5 : iv 0 3 a1 := iv_cap (g_2 (iv_eqp b_4 (iv_c (0 : Int32) (by decide)))) (iv_top a1) (by decide)
    refine lv_iload_n hx hb dX10_write_21 rfl (lv_at hl 3 rfl) ?_
    refine lv_i2l hx hb dX10_write_22 rfl ?_
    refine lv_topl (fun j_6 ej_6 => ?_)
    refine lv_lconst (v := 0) hx hb dX10_write_23 (by decide) ?_
    refine lv_aload_n hx hb dX10_write_24 rfl (lv_at hl 1 rfl) ?_
    refine va_get (ci := 10) (v := .ref (z 38)) (C := RX10) (T := TX10) (N := 40) hx hb hg inX10 hown hK hP 2 rfl rfl 38 (by decide) (hg _ q_6_22) (fun _ h9 => h9) rfl dX10_write_25 ?_
    refine lv_iload_n hx hb dX10_write_28 rfl (lv_at hl 2 rfl) ?_
    refine va_iald hx hb hK hP 0 0 rfl rfl (iv_in b_5 (by decide)) dX10_write_29 ?_
    refine lv_topi (fun x_7 ex_7 => ?_)
    have bx_7 : iv 0 40 x_7 := by rw [ex_7]; exact tfz38 _
    refine lv_iconst (v := 1) hx hb dX10_write_30 (by decide) ?_
    refine lv_isub hx hb dX10_write_31 ?_
    refine lv_topi (fun x_8 ex_8 => ?_)
    have bx_8 : iv (-1) 39 x_8 := by rw [ex_8]; exact iv_sub bx_7 (iv_c (1 : Int32) (a := 1) (b := 1) (by decide)) (by decide)
    refine lv_i2l hx hb dX10_write_32 rfl ?_
    refine lv_topl (fun j_9 ej_9 => ?_)
    have bj_9 : ivL (-1) 39 j_9 := by rw [ej_9]; exact ivL_of bx_8
    refine jnI (wr := [(z 38, aI V 4 fz38), (z 39, aJ V 160 fz39), (z 0, .inr (10, mo z 0 pz0_5 pz0_6 pz0_7 pz0_8 pz0_9 pz0_10 pz0_11 pz0_12 pz0_13 pz0_14 pz0_18 pz0_19 pz0_22 pz0_23 pz0_29)), (z 37, aI V 4 fz37)]) (rnS (rest := []) ⟨hx, hb, hml, hown, hg⟩ (k_X10_within_0 l V j_6 0 j_9) mt_X10_within q_6_114 ⟨Nat.le_of_ble_eq_true rfl, Nat.le_of_ble_eq_true rfl⟩ hK hP hD hS hA hE [] rfl rfl rfl hl.1 rfl (Nat.le_of_ble_eq_true rfl) dX10_write_33 ⟨Nat.le_of_ble_eq_true rfl, Nat.le_of_ble_eq_true rfl⟩) hP hD hS hA [] [0, 1, 2, 3] rfl rfl rfl (by decide) (fun r_10 w H locs hw hP hD hS => ?_)
    obtain ⟨br_10, g_11, g_12, g_13, rfl⟩ := hw
    have hP : va_P V.1 vwCl [(z 38, aI V 4 fz38), (z 39, aJ V 160 fz39), (z 0, .inr (10, mo z 0 pz0_5 pz0_6 pz0_7 pz0_8 pz0_9 pz0_10 pz0_11 pz0_12 pz0_13 pz0_14 pz0_18 pz0_19 pz0_22 pz0_23 pz0_29)), (z 37, aI V 4 fz37)] H := hP
    have hD : va_D A [(z 38, aI V 4 fz38), (z 39, aJ V 160 fz39), (z 0, .inr (10, mo z 0 pz0_5 pz0_6 pz0_7 pz0_8 pz0_9 pz0_10 pz0_11 pz0_12 pz0_13 pz0_14 pz0_18 pz0_19 pz0_22 pz0_23 pz0_29)), (z 37, aI V 4 fz37)] := hD
    refine lv_if_ne (tgt := 43) hx hb dX10_write_36 (by decide) (fun c_14 => ?_) (fun c_14 => ?_)
    · have b_15 : iv 1 1 r_10 := iv_n0 c_14 br_10 (iv_c (0 : Int32) (a := 0) (b := 0) (by decide)) (by decide)
      have c_16 : (0 : Int64) ≤ j_6 := (g_12 (iv_eqp b_15 (iv_c (1 : Int32) (by decide))))
      have b_17 : ivL 0 9223372036854775807 j_6 := ivL_e2 c_16 (ivL_c (0 : Int64) (a := 0) (b := 0) (by decide)) (ivL_top j_6) (by decide)
      have b_18 : iv 0 2147483647 a2 := iv_cap (ivL_i ej_6 b_17) (iv_top a2) (by decide)
      have c_19 : j_6 ≤ j_9 := (g_13 (iv_eqp b_15 (iv_c (1 : Int32) (by decide))))
      have b_20 : ivL 0 39 j_6 := ivL_e1 c_19 b_17 bj_9 (by decide)
      have b_21 : iv 0 39 a2 := iv_cap (ivL_i ej_6 b_20) b_18 (by decide)
      have b_22 : ivL 0 39 j_9 := ivL_e2 c_19 b_17 bj_9 (by decide)
      have b_23 : iv 0 39 x_8 := iv_cap (ivL_i ej_9 b_22) bx_8 (by decide)
      refine lv_aload_n hx hb dX10_write_43 rfl (lv_at hl 1 rfl) ?_
      refine va_get (ci := 10) (v := .ref (z 39)) (C := RX10) (T := TX10) (N := 40) hx hb hg inX10 hown hK hP 2 rfl rfl 39 (by decide) (hg _ q_6_23) (fun _ h9 => h9) rfl dX10_write_44 ?_
      refine lv_bipush (v := 40) hx hb dX10_write_47 (by decide) ?_
      refine lv_iload_n hx hb dX10_write_49 rfl (lv_at hl 2 rfl) ?_
      refine lv_imul hx hb dX10_write_50 ?_
      refine lv_topi (fun x_24 ex_24 => ?_)
      have bx_24 : iv 0 120 x_24 := by rw [ex_24]; exact iv_cmul (iv_c (40 : Int32) (a := 40) (b := 40) (by decide)) b_5 (by decide)
      refine lv_iload_n hx hb dX10_write_51 rfl (lv_at hl 3 rfl) ?_
      refine lv_iadd hx hb dX10_write_52 ?_
      refine lv_topi (fun x_25 ex_25 => ?_)
      have bx_25 : iv 0 159 x_25 := by rw [ex_25]; exact iv_add bx_24 b_21 (by decide)
      refine lv_lload_n hx hb dX10_write_53 rfl (lv_at hl 4 rfl) ?_
      refine lv_aload_n hx hb dX10_write_54 rfl (lv_at hl 1 rfl) ?_
      refine va_get (ci := 10) (v := .ref (z 37)) (C := RX10) (T := TX10) (N := 40) hx hb hg inX10 hown hK hP 2 rfl rfl 37 (by decide) (hg _ q_6_21) (fun _ h9 => h9) rfl dX10_write_55 ?_
      refine lv_iload_n hx hb dX10_write_58 rfl (lv_at hl 2 rfl) ?_
      refine va_iald hx hb hK hP 3 0 rfl rfl (iv_in b_5 (by decide)) dX10_write_59 ?_
      refine lv_topi (fun x_26 ex_26 => ?_)
      have bx_26 : iv (-1) 3 x_26 := by rw [ex_26]; exact tfz37 _
      refine jnL (wr := [(z 38, aI V 4 fz38), (z 39, aJ V 160 fz39), (z 0, .inr (10, mo z 0 pz0_5 pz0_6 pz0_7 pz0_8 pz0_9 pz0_10 pz0_11 pz0_12 pz0_13 pz0_14 pz0_18 pz0_19 pz0_22 pz0_23 pz0_29)), (z 37, aI V 4 fz37)]) (rnS (rest := [.int x_25, .ref (z 39)]) ⟨hx, hb, hml, hown, hg⟩ (k_X10_cut_0 l V k3 x_26) mt_X10_cut q_8_140 ⟨Nat.le_of_ble_eq_true rfl, Nat.le_of_ble_eq_true rfl⟩ hK hP hD hS hA hE [] rfl rfl rfl hl.1 rfl (Nat.le_of_ble_eq_true rfl) dX10_write_60 ⟨Nat.le_of_ble_eq_true rfl, Nat.le_of_ble_eq_true rfl⟩) hP hD hS hA [] [0, 1, 2, 3] rfl rfl rfl (by decide) (fun r_27 w H locs hw hP hD hS => ?_)
      obtain ⟨er_27, rfl⟩ := hw
      have hP : va_P V.1 vwCl [(z 38, aI V 4 fz38), (z 39, aJ V 160 fz39), (z 0, .inr (10, mo z 0 pz0_5 pz0_6 pz0_7 pz0_8 pz0_9 pz0_10 pz0_11 pz0_12 pz0_13 pz0_14 pz0_18 pz0_19 pz0_22 pz0_23 pz0_29)), (z 37, aI V 4 fz37)] H := hP
      have hD : va_D A [(z 38, aI V 4 fz38), (z 39, aJ V 160 fz39), (z 0, .inr (10, mo z 0 pz0_5 pz0_6 pz0_7 pz0_8 pz0_9 pz0_10 pz0_11 pz0_12 pz0_13 pz0_14 pz0_18 pz0_19 pz0_22 pz0_23 pz0_29)), (z 37, aI V 4 fz37)] := hD
      refine va_last hx hb hK hP hD hS 1 2 rfl rfl (iv_in bx_25 (by decide)) dX10_write_63 (fun H locs hP hD hS => ?_)
      obtain ⟨f_28, ef_28, hP, hD⟩ : ∃ f_28 : Nat → Int64, f_28 = (vp_updL fz39 (x_25 : Int32).toNatClampNeg r_27) ∧ va_P V.1 vwCl [(z 38, aI V 4 fz38), (z 39, aJ V 160 f_28), (z 0, .inr (10, mo z 0 pz0_5 pz0_6 pz0_7 pz0_8 pz0_9 pz0_10 pz0_11 pz0_12 pz0_13 pz0_14 pz0_18 pz0_19 pz0_22 pz0_23 pz0_29)), (z 37, aI V 4 fz37)] H ∧ va_D A [(z 38, aI V 4 fz38), (z 39, aJ V 160 f_28), (z 0, .inr (10, mo z 0 pz0_5 pz0_6 pz0_7 pz0_8 pz0_9 pz0_10 pz0_11 pz0_12 pz0_13 pz0_14 pz0_18 pz0_19 pz0_22 pz0_23 pz0_29)), (z 37, aI V 4 fz37)] := ⟨_, rfl, hP, hD⟩
      refine lv_aload_n hx hb dX10_write_64 rfl (lv_at hl 1 rfl) ?_
      refine va_get (ci := 10) (v := .ref (z 39)) (C := RX10) (T := TX10) (N := 40) hx hb hg inX10 hown hK hP 2 rfl rfl 39 (by decide) (hg _ q_6_23) (fun _ h9 => h9) rfl dX10_write_65 ?_
      refine lv_bipush (v := 40) hx hb dX10_write_68 (by decide) ?_
      refine lv_iload_n hx hb dX10_write_70 rfl (lv_at hl 2 rfl) ?_
      refine lv_imul hx hb dX10_write_71 ?_
      refine tpi (y := x_24) ex_24.symm ?_
      refine lv_iload_n hx hb dX10_write_72 rfl (lv_at hl 3 rfl) ?_
      refine lv_iadd hx hb dX10_write_73 ?_
      refine tpi (y := x_25) ex_25.symm ?_
      refine va_lald hx hb hK hP 1 2 rfl rfl (iv_in bx_25 (by decide)) dX10_write_74 ?_
      refine tpl (y := r_27) (show f_28 (x_25 : Int32).toNatClampNeg = r_27 from by rw [ef_28]; exact updL_at) ?_
      have hP := subP (ws' := [(z 0, .inr (10, mo z 0 pz0_5 pz0_6 pz0_7 pz0_8 pz0_9 pz0_10 pz0_11 pz0_12 pz0_13 pz0_14 pz0_18 pz0_19 pz0_22 pz0_23 pz0_29)), (z 37, aI V 4 fz37), (z 38, aI V 4 fz38), (z 39, aJ V 160 f_28)]) hP [2, 3, 0, 1] rfl
      have hD := hD.sub (ws' := [(z 0, .inr (10, mo z 0 pz0_5 pz0_6 pz0_7 pz0_8 pz0_9 pz0_10 pz0_11 pz0_12 pz0_13 pz0_14 pz0_18 pz0_19 pz0_22 pz0_23 pz0_29)), (z 37, aI V 4 fz37), (z 38, aI V 4 fz38), (z 39, aJ V 160 f_28)]) [2, 3, 0, 1] rfl rfl
      exact fiL hx hb hr hlk hK hP hD hS dX10_write_75 (Nat.le_of_ble_eq_true rfl) (Nat.le_of_ble_eq_true rfl) (⟨0, f_28, (wz_v (nt_ok er_1 c_3) ex_7 bx_7 ex_8 ej_6 ej_9 c_16 c_19 (by decide) ex_26 er_27), rfl⟩)
    · have b_29 : iv 0 0 r_10 := iv_q c_14 (iv_c (0 : Int32) (a := 0) (b := 0) (by decide))
      refine lv_ldc2 (v := (-7)) hx hb hown (hg _ q_8_139) dX10_write_39 ?_
      have hP := subP (ws' := [(z 0, .inr (10, mo z 0 pz0_5 pz0_6 pz0_7 pz0_8 pz0_9 pz0_10 pz0_11 pz0_12 pz0_13 pz0_14 pz0_18 pz0_19 pz0_22 pz0_23 pz0_29)), (z 37, aI V 4 fz37), (z 38, aI V 4 fz38), (z 39, aJ V 160 fz39)]) hP [2, 3, 0, 1] rfl
      have hD := hD.sub (ws' := [(z 0, .inr (10, mo z 0 pz0_5 pz0_6 pz0_7 pz0_8 pz0_9 pz0_10 pz0_11 pz0_12 pz0_13 pz0_14 pz0_18 pz0_19 pz0_22 pz0_23 pz0_29)), (z 37, aI V 4 fz37), (z 38, aI V 4 fz38), (z 39, aJ V 160 fz39)]) [2, 3, 0, 1] rfl rfl
      exact fiL hx hb hr hlk hK hP hD hS dX10_write_42 (Nat.le_of_ble_eq_true rfl) (Nat.le_of_ble_eq_true rfl) (⟨0, fz39, (wz_7 (nt_ok er_1 c_3) ex_7 bx_7 ex_8 ej_6 ej_9 (g_11 (iv_eqp b_29 (iv_c (0 : Int32) (by decide)))) (by decide)), rfl⟩)
  · have b_30 : iv (-6) (-1) r_1 := iv_n1 c_3 br_1 (iv_c (0 : Int32) (a := 0) (b := 0) (by decide)) (by decide)
    refine lv_iload hx hb dX10_write_17 (lv_at hl 0 rfl) ?_
    refine lv_i2l hx hb dX10_write_19 rfl ?_
    refine lv_topl (fun j_31 ej_31 => ?_)
    have bj_31 : ivL (-6) (-1) j_31 := by rw [ej_31]; exact ivL_of b_30
    have hP := subP (ws' := [(z 0, .inr (10, mo z 0 pz0_5 pz0_6 pz0_7 pz0_8 pz0_9 pz0_10 pz0_11 pz0_12 pz0_13 pz0_14 pz0_18 pz0_19 pz0_22 pz0_23 pz0_29)), (z 37, aI V 4 fz37), (z 38, aI V 4 fz38), (z 39, aJ V 160 fz39)]) hP [2, 3, 0, 1] rfl
    have hD := hD.sub (ws' := [(z 0, .inr (10, mo z 0 pz0_5 pz0_6 pz0_7 pz0_8 pz0_9 pz0_10 pz0_11 pz0_12 pz0_13 pz0_14 pz0_18 pz0_19 pz0_22 pz0_23 pz0_29)), (z 37, aI V 4 fz37), (z 38, aI V 4 fz38), (z 39, aJ V 160 fz39)]) [2, 3, 0, 1] rfl rfl
    exact fiL hx hb hr hlk hK hP hD hS dX10_write_20 (Nat.le_of_ble_eq_true rfl) (Nat.le_of_ble_eq_true rfl) (⟨0, fz39, (wz_n er_1 c_3 ej_31), rfl⟩)
theorem dX10_lists_0 : decode cX10_lists 0 = .ok (.aload_n 0, 1) := by decide +kernel
theorem dX10_lists_1 : decode cX10_lists 1 = .ok (.iconst 0, 1) := by decide +kernel
theorem dX10_lists_2 : decode cX10_lists 2 = .ok (.putfield 1, 3) := by decide +kernel
theorem dX10_lists_5 : decode cX10_lists 5 = .ok (.iload_n 1, 1) := by decide +kernel
theorem dX10_lists_6 : decode cX10_lists 6 = .ok (.i2l, 1) := by decide +kernel
theorem dX10_lists_7 : decode cX10_lists 7 = .ok (.lconst 0, 1) := by decide +kernel
theorem dX10_lists_8 : decode cX10_lists 8 = .ok (.ldc2_w 315, 3) := by decide +kernel
theorem dX10_lists_11 : decode cX10_lists 11 = .ok (.invokestatic 159, 3) := by decide +kernel
theorem dX10_lists_14 : decode cX10_lists 14 = .ok (.ifCond .eq 12, 3) := by decide +kernel
theorem dX10_lists_26 : decode cX10_lists 26 = .ok (.bipush (-2), 2) := by decide +kernel
theorem dX10_lists_28 : decode cX10_lists 28 = .ok (.ireturn, 1) := by decide +kernel
theorem dX10_lists_17 : decode cX10_lists 17 = .ok (.aload_n 0, 1) := by decide +kernel
theorem dX10_lists_18 : decode cX10_lists 18 = .ok (.iload_n 2, 1) := by decide +kernel
theorem dX10_lists_19 : decode cX10_lists 19 = .ok (.i2l, 1) := by decide +kernel
theorem dX10_lists_20 : decode cX10_lists 20 = .ok (.invokevirtual 262, 3) := by decide +kernel
theorem dX10_lists_23 : decode cX10_lists 23 = .ok (.ifCond .ne 6, 3) := by decide +kernel
theorem dX10_lists_29 : decode cX10_lists 29 = .ok (.aload_n 0, 1) := by decide +kernel
theorem dX10_lists_30 : decode cX10_lists 30 = .ok (.iload_n 1, 1) := by decide +kernel
theorem dX10_lists_31 : decode cX10_lists 31 = .ok (.invokevirtual 317, 3) := by decide +kernel
theorem dX10_lists_34 : decode cX10_lists 34 = .ok (.istore_n 3, 1) := by decide +kernel
theorem dX10_lists_35 : decode cX10_lists 35 = .ok (.iload_n 3, 1) := by decide +kernel
theorem dX10_lists_36 : decode cX10_lists 36 = .ok (.ifCond .eq 5, 3) := by decide +kernel
theorem dX10_lists_41 : decode cX10_lists 41 = .ok (.aload_n 0, 1) := by decide +kernel
theorem dX10_lists_42 : decode cX10_lists 42 = .ok (.invokevirtual 269, 3) := by decide +kernel
theorem dX10_lists_45 : decode cX10_lists 45 = .ok (.istore 4, 2) := by decide +kernel
theorem dX10_lists_47 : decode cX10_lists 47 = .ok (.iconst 0, 1) := by decide +kernel
theorem dX10_lists_48 : decode cX10_lists 48 = .ok (.istore 5, 2) := by decide +kernel
theorem dX10_lists_50 : decode cX10_lists 50 = .ok (.iload 5, 2) := by decide +kernel
theorem dX10_lists_52 : decode cX10_lists 52 = .ok (.aload_n 0, 1) := by decide +kernel
theorem dX10_lists_53 : decode cX10_lists 53 = .ok (.getfield 87, 3) := by decide +kernel
theorem dX10_lists_56 : decode cX10_lists 56 = .ok (.iload_n 1, 1) := by decide +kernel
theorem dX10_lists_57 : decode cX10_lists 57 = .ok (.iaload, 1) := by decide +kernel
theorem dX10_lists_58 : decode cX10_lists 58 = .ok (.if_icmp .ge 44, 3) := by decide +kernel
theorem dX10_lists_102 : decode cX10_lists 102 = .ok (.aload_n 0, 1) := by decide +kernel
theorem dX10_lists_103 : decode cX10_lists 103 = .ok (.getfield 87, 3) := by decide +kernel
theorem dX10_lists_106 : decode cX10_lists 106 = .ok (.iload_n 1, 1) := by decide +kernel
theorem dX10_lists_107 : decode cX10_lists 107 = .ok (.iaload, 1) := by decide +kernel
theorem dX10_lists_108 : decode cX10_lists 108 = .ok (.ireturn, 1) := by decide +kernel
theorem dX10_lists_61 : decode cX10_lists 61 = .ok (.aload_n 0, 1) := by decide +kernel
theorem dX10_lists_62 : decode cX10_lists 62 = .ok (.iload 4, 2) := by decide +kernel
theorem dX10_lists_64 : decode cX10_lists 64 = .ok (.iconst 0, 1) := by decide +kernel
theorem dX10_lists_65 : decode cX10_lists 65 = .ok (.aload_n 0, 1) := by decide +kernel
theorem dX10_lists_66 : decode cX10_lists 66 = .ok (.getfield 13, 3) := by decide +kernel
theorem dX10_lists_69 : decode cX10_lists 69 = .ok (.bipush 51, 2) := by decide +kernel
theorem dX10_lists_71 : decode cX10_lists 71 = .ok (.iaload, 1) := by decide +kernel
theorem dX10_lists_72 : decode cX10_lists 72 = .ok (.invokevirtual 272, 3) := by decide +kernel
theorem dX10_lists_75 : decode cX10_lists 75 = .ok (.istore 4, 2) := by decide +kernel
theorem dX10_lists_77 : decode cX10_lists 77 = .ok (.aload_n 0, 1) := by decide +kernel
theorem dX10_lists_78 : decode cX10_lists 78 = .ok (.getfield 90, 3) := by decide +kernel
theorem dX10_lists_81 : decode cX10_lists 81 = .ok (.bipush 40, 2) := by decide +kernel
theorem dX10_lists_83 : decode cX10_lists 83 = .ok (.iload_n 1, 1) := by decide +kernel
theorem dX10_lists_84 : decode cX10_lists 84 = .ok (.imul, 1) := by decide +kernel
theorem dX10_lists_85 : decode cX10_lists 85 = .ok (.iload 5, 2) := by decide +kernel
theorem dX10_lists_87 : decode cX10_lists 87 = .ok (.iadd, 1) := by decide +kernel
theorem dX10_lists_88 : decode cX10_lists 88 = .ok (.iload 4, 2) := by decide +kernel
theorem dX10_lists_90 : decode cX10_lists 90 = .ok (.iload_n 2, 1) := by decide +kernel
theorem dX10_lists_91 : decode cX10_lists 91 = .ok (.invokestatic 231, 3) := by decide +kernel
theorem dX10_lists_94 : decode cX10_lists 94 = .ok (.i2l, 1) := by decide +kernel
theorem dX10_lists_95 : decode cX10_lists 95 = .ok (.lastore, 1) := by decide +kernel
theorem dX10_lists_96 : decode cX10_lists 96 = .ok (.iinc 5 1, 3) := by decide +kernel
theorem dX10_lists_99 : decode cX10_lists 99 = .ok (.goto (-49), 3) := by decide +kernel
theorem dX10_lists_39 : decode cX10_lists 39 = .ok (.iload_n 3, 1) := by decide +kernel
theorem dX10_lists_40 : decode cX10_lists 40 = .ok (.ireturn, 1) := by decide +kernel
set_option maxHeartbeats 4000000 in
set_option maxRecDepth 100000 in
theorem k_X10_lists_0 (l : Launch) (V : GV) (z : Nat → Nat) (a1 : Int32) (a2 : Int32) (pz0_0 : Int32) (pz0_5 : Int32) (pz0_6 : Int32) (pz0_7 : Int32) (pz0_8 : Int32) (pz0_9 : Int32) (pz0_10 : Int32) (pz0_11 : Int32) (pz0_12 : Int32) (pz0_13 : Int32) (pz0_14 : Int32) (pz0_18 : Int32) (pz0_19 : Int32) (pz0_22 : Int32) (pz0_23 : Int32) (pz0_29 : Int32) (fz1 : Nat → Int32) (fz15 : Nat → Int32) (fz16 : Nat → Int32) (fz37 : Nat → Int32) (fz38 : Nat → Int32) (fz39 : Nat → Int64) (bpz0_5 : iv 0 900 pz0_5) (bpz0_6 : iv 0 900 pz0_6) (bpz0_7 : iv 0 900 pz0_7) (bpz0_8 : iv 0 900 pz0_8) (bpz0_10 : iv 0 999 pz0_10) (bpz0_11 : iv 0 4 pz0_11) (bpz0_12 : iv 0 900 pz0_12) (bpz0_13 : iv 0 4 pz0_13) (bpz0_14 : iv (-1) 900 pz0_14) (bpz0_18 : iv 0 2 pz0_18) (bpz0_22 : iv 0 9999 pz0_22) (bpz0_29 : iv 0 10000 pz0_29) (tfz1 : ivT tA fz1) (tfz16 : ivT tW fz16) (tfz37 : ∀ j, iv (-1) 3 (fz37 j)) (tfz38 : ∀ j, iv 0 40 (fz38 j)) (hf0 : RW fz1) : Ct l V yX10_lists (.code yX10_lists cX10_lists 6 (some .int)) 5 [.ref (z 0), .int a1, .int a2] [(z 0, .inr (10, mo z pz0_0 pz0_5 pz0_6 pz0_7 pz0_8 pz0_9 pz0_10 pz0_11 pz0_12 pz0_13 pz0_14 pz0_18 pz0_19 pz0_22 pz0_23 pz0_29)), (z 1, aI V 3075 fz1), (z 15, aI V 900 fz15), (z 16, aI V 6 fz16), (z 37, aI V 4 fz37), (z 38, aI V 4 fz38), (z 39, aJ V 160 fz39)] 0 0 (QI V (fun (r : Int32) (w : va_W) => ∃ (v0 : Int32) (g1 : Nat → Int32) (g2 : Nat → Int32) (g3 : Nat → Int64), (ivT tW g2) ∧ iv (-6) 40 r ∧ (RW fz1) ∧ w = [(z 0, .inr (10, mo z v0 pz0_5 pz0_6 pz0_7 pz0_8 pz0_9 pz0_10 pz0_11 pz0_12 pz0_13 pz0_14 pz0_18 pz0_19 pz0_22 pz0_23 pz0_29)), (z 1, aI V 3075 fz1), (z 15, aI V 900 g1), (z 16, aI V 6 g2), (z 37, aI V 4 fz37), (z 38, aI V 4 fz38), (z 39, aJ V 160 g3)])) := by
  refine Ct.of (by decide) (Nat.le_of_ble_eq_true rfl) (fun p e s m below meth c A ls hx hb hr hml hown hlk hnm hg hP hK hD hE hA hS hl => ?_)
  have hl : lv_has ls 6 [(0, .ref (z 0)), (1, .int a1), (2, .int a2)] := hl
  refine lv_aload_n hx hb dX10_lists_0 rfl (lv_at hl 0 rfl) ?_
  refine lv_iconst (v := 0) hx hb dX10_lists_1 (by decide) ?_
  refine va_put (ci := 10) (v := .int 0) (ty := .int) (C := RX10) (T := TX10) (N := 40) hx hb hg inX10 tyX10 tyX10_ok nmX10 hown hK hP hD hS 0 rfl rfl 0 (by decide) (hg _ q_5_224) (fun _ h9 => h9) rfl (by decide +kernel) rfl rfl (Nat.le_of_ble_eq_true rfl) dX10_lists_2 (fun H locs hP hD hS => ?_)
  have hP : va_P V.1 vwCl [(z 0, .inr (10, mo z 0 pz0_5 pz0_6 pz0_7 pz0_8 pz0_9 pz0_10 pz0_11 pz0_12 pz0_13 pz0_14 pz0_18 pz0_19 pz0_22 pz0_23 pz0_29)), (z 1, aI V 3075 fz1), (z 15, aI V 900 fz15), (z 16, aI V 6 fz16), (z 37, aI V 4 fz37), (z 38, aI V 4 fz38), (z 39, aJ V 160 fz39)] H := hP
  have hD : va_D A [(z 0, .inr (10, mo z 0 pz0_5 pz0_6 pz0_7 pz0_8 pz0_9 pz0_10 pz0_11 pz0_12 pz0_13 pz0_14 pz0_18 pz0_19 pz0_22 pz0_23 pz0_29)), (z 1, aI V 3075 fz1), (z 15, aI V 900 fz15), (z 16, aI V 6 fz16), (z 37, aI V 4 fz37), (z 38, aI V 4 fz38), (z 39, aJ V 160 fz39)] := hD
  refine lv_iload_n hx hb dX10_lists_5 rfl (lv_at hl 1 rfl) ?_
  refine lv_i2l hx hb dX10_lists_6 rfl ?_
  refine lv_topl (fun j_1 ej_1 => ?_)
  refine lv_lconst (v := 0) hx hb dX10_lists_7 (by decide) ?_
  refine lv_ldc2 (v := 3) hx hb hown (hg _ q_7_107) dX10_lists_8 ?_
  refine jnI (wr := [(z 0, .inr (10, mo z 0 pz0_5 pz0_6 pz0_7 pz0_8 pz0_9 pz0_10 pz0_11 pz0_12 pz0_13 pz0_14 pz0_18 pz0_19 pz0_22 pz0_23 pz0_29)), (z 1, aI V 3075 fz1), (z 15, aI V 900 fz15), (z 16, aI V 6 fz16), (z 37, aI V 4 fz37), (z 38, aI V 4 fz38), (z 39, aJ V 160 fz39)]) (rnS (rest := []) ⟨hx, hb, hml, hown, hg⟩ (k_X10_within_0 l V j_1 0 3) mt_X10_within q_6_114 ⟨Nat.le_of_ble_eq_true rfl, Nat.le_of_ble_eq_true rfl⟩ hK hP hD hS hA hE [] rfl rfl rfl hl.1 rfl (Nat.le_of_ble_eq_true rfl) dX10_lists_11 ⟨Nat.le_of_ble_eq_true rfl, Nat.le_of_ble_eq_true rfl⟩) hP hD hS hA [] [0, 1, 2, 3, 4, 5, 6] rfl rfl rfl (by decide) (fun r_2 w H locs hw hP hD hS => ?_)
  obtain ⟨br_2, g_3, g_4, g_5, rfl⟩ := hw
  have hP : va_P V.1 vwCl [(z 0, .inr (10, mo z 0 pz0_5 pz0_6 pz0_7 pz0_8 pz0_9 pz0_10 pz0_11 pz0_12 pz0_13 pz0_14 pz0_18 pz0_19 pz0_22 pz0_23 pz0_29)), (z 1, aI V 3075 fz1), (z 15, aI V 900 fz15), (z 16, aI V 6 fz16), (z 37, aI V 4 fz37), (z 38, aI V 4 fz38), (z 39, aJ V 160 fz39)] H := hP
  have hD : va_D A [(z 0, .inr (10, mo z 0 pz0_5 pz0_6 pz0_7 pz0_8 pz0_9 pz0_10 pz0_11 pz0_12 pz0_13 pz0_14 pz0_18 pz0_19 pz0_22 pz0_23 pz0_29)), (z 1, aI V 3075 fz1), (z 15, aI V 900 fz15), (z 16, aI V 6 fz16), (z 37, aI V 4 fz37), (z 38, aI V 4 fz38), (z 39, aJ V 160 fz39)] := hD
  refine lv_if_eq (tgt := 26) hx hb dX10_lists_14 (by decide) (fun c_6 => ?_) (fun c_6 => ?_)
  · have b_7 : iv 0 0 r_2 := iv_q c_6 (iv_c (0 : Int32) (a := 0) (b := 0) (by decide))
    refine lv_bipush (v := (-2)) hx hb dX10_lists_26 (by decide) ?_
    exact fiI hx hb hr hlk hK hP hD hS dX10_lists_28 (Nat.le_of_ble_eq_true rfl) (Nat.le_of_ble_eq_true rfl) (⟨0, fz15, fz16, fz39, tfz16, (iv_c ((-2) : Int32) (by decide)), hf0, rfl⟩)
  · have b_8 : iv 1 1 r_2 := iv_n0 c_6 br_2 (iv_c (0 : Int32) (a := 0) (b := 0) (by decide)) (by decide)
    have c_9 : (0 : Int64) ≤ j_1 := (g_4 (iv_eqp b_8 (iv_c (1 : Int32) (by decide))))
    have b_10 : ivL 0 9223372036854775807 j_1 := ivL_e2 c_9 (ivL_c (0 : Int64) (a := 0) (b := 0) (by decide)) (ivL_top j_1) (by decide)
    have b_11 : iv 0 2147483647 a1 := iv_cap (ivL_i ej_1 b_10) (iv_top a1) (by decide)
    have c_12 : j_1 ≤ 3 := (g_5 (iv_eqp b_8 (iv_c (1 : Int32) (by decide))))
    have b_13 : ivL 0 3 j_1 := ivL_e1 c_12 b_10 (ivL_c (3 : Int64) (a := 3) (b := 3) (by decide)) (by decide)
    have b_14 : iv 0 3 a1 := iv_cap (ivL_i ej_1 b_13) b_11 (by decide)
    refine lv_aload_n hx hb dX10_lists_17 rfl (lv_at hl 0 rfl) ?_
    refine lv_iload_n hx hb dX10_lists_18 rfl (lv_at hl 2 rfl) ?_
    refine lv_i2l hx hb dX10_lists_19 rfl ?_
    refine lv_topl (fun j_15 ej_15 => ?_)
    refine jnI (wr := [(z 15, aI V 900 fz15), (z 16, aI V 6 fz16), (z 37, aI V 4 fz37), (z 38, aI V 4 fz38), (z 39, aJ V 160 fz39)]) (rnV (rest := []) ⟨hx, hb, hml, hown, hg⟩ (k_X10_isHill_0 l V z j_15 0 pz0_5 pz0_6 pz0_7 pz0_8 pz0_9 pz0_10 pz0_11 pz0_12 pz0_13 pz0_14 pz0_18 pz0_19 pz0_22 pz0_23 pz0_29 fz1 bpz0_5 bpz0_6 bpz0_7 bpz0_8 bpz0_10 bpz0_11 bpz0_12 bpz0_13 bpz0_14 bpz0_18 bpz0_22 bpz0_29 tfz1) mt_X10_isHill q_6_235 ⟨Nat.le_of_ble_eq_true rfl, Nat.le_of_ble_eq_true rfl⟩ hK hP hD hS hA hE [0, 1] rfl rfl 0 rfl rfl rfl rfl hl.1 rfl (Nat.le_of_ble_eq_true rfl) dX10_lists_20 ⟨Nat.le_of_ble_eq_true rfl, Nat.le_of_ble_eq_true rfl⟩) hP hD hS hA [0, 1] [2, 3, 4, 5, 6] rfl rfl rfl (by decide) (fun r_16 w H locs hw hP hD hS => ?_)
    obtain ⟨br_16, g_17, rfl⟩ := hw
    have hP : va_P V.1 vwCl [(z 15, aI V 900 fz15), (z 16, aI V 6 fz16), (z 37, aI V 4 fz37), (z 38, aI V 4 fz38), (z 39, aJ V 160 fz39), (z 0, .inr (10, mo z 0 pz0_5 pz0_6 pz0_7 pz0_8 pz0_9 pz0_10 pz0_11 pz0_12 pz0_13 pz0_14 pz0_18 pz0_19 pz0_22 pz0_23 pz0_29)), (z 1, aI V 3075 fz1)] H := hP
    have hD : va_D A [(z 15, aI V 900 fz15), (z 16, aI V 6 fz16), (z 37, aI V 4 fz37), (z 38, aI V 4 fz38), (z 39, aJ V 160 fz39), (z 0, .inr (10, mo z 0 pz0_5 pz0_6 pz0_7 pz0_8 pz0_9 pz0_10 pz0_11 pz0_12 pz0_13 pz0_14 pz0_18 pz0_19 pz0_22 pz0_23 pz0_29)), (z 1, aI V 3075 fz1)] := hD
    refine lv_if_ne (tgt := 29) hx hb dX10_lists_23 (by decide) (fun c_18 => ?_) (fun c_18 => ?_)
    · have b_19 : iv 1 1 r_16 := iv_n0 c_18 br_16 (iv_c (0 : Int32) (a := 0) (b := 0) (by decide)) (by decide)
      have b_20 : ivL 0 3 j_15 := ivL_cap (g_17 (iv_eqp b_19 (iv_c (1 : Int32) (by decide)))) (ivL_top j_15) (by decide)
      have b_21 : iv 0 3 a2 := iv_cap (ivL_i ej_15 b_20) (iv_top a2) (by decide)
      refine lv_aload_n hx hb dX10_lists_29 rfl (lv_at hl 0 rfl) ?_
      refine lv_iload_n hx hb dX10_lists_30 rfl (lv_at hl 1 rfl) ?_
      refine jnI (wr := [(z 15, aI V 900 fz15), (z 16, aI V 6 fz16), (z 38, aI V 4 fz38), (z 39, aJ V 160 fz39), (z 1, aI V 3075 fz1)]) (rnV (rest := []) ⟨hx, hb, hml, hown, hg⟩ (k_X10_noTray_0 l V z a1 0 pz0_5 pz0_6 pz0_7 pz0_8 pz0_9 pz0_10 pz0_11 pz0_12 pz0_13 pz0_14 pz0_18 pz0_19 pz0_22 pz0_23 pz0_29 fz37 bpz0_5 bpz0_6 bpz0_7 bpz0_8 bpz0_10 bpz0_11 bpz0_12 bpz0_13 bpz0_14 bpz0_18 bpz0_22 bpz0_29 tfz37) mt_X10_noTray q_7_108 ⟨Nat.le_of_ble_eq_true rfl, Nat.le_of_ble_eq_true rfl⟩ hK hP hD hS hA hE [5, 2] rfl rfl 5 rfl rfl rfl rfl hl.1 rfl (Nat.le_of_ble_eq_true rfl) dX10_lists_31 ⟨Nat.le_of_ble_eq_true rfl, Nat.le_of_ble_eq_true rfl⟩) hP hD hS hA [5, 2] [0, 1, 3, 4, 6] rfl rfl rfl (by decide) (fun r_22 w H locs hw hP hD hS => ?_)
      obtain ⟨br_22, er_22, g_23, rfl⟩ := hw
      have hP : va_P V.1 vwCl [(z 15, aI V 900 fz15), (z 16, aI V 6 fz16), (z 38, aI V 4 fz38), (z 39, aJ V 160 fz39), (z 1, aI V 3075 fz1), (z 0, .inr (10, mo z 0 pz0_5 pz0_6 pz0_7 pz0_8 pz0_9 pz0_10 pz0_11 pz0_12 pz0_13 pz0_14 pz0_18 pz0_19 pz0_22 pz0_23 pz0_29)), (z 37, aI V 4 fz37)] H := hP
      have hD : va_D A [(z 15, aI V 900 fz15), (z 16, aI V 6 fz16), (z 38, aI V 4 fz38), (z 39, aJ V 160 fz39), (z 1, aI V 3075 fz1), (z 0, .inr (10, mo z 0 pz0_5 pz0_6 pz0_7 pz0_8 pz0_9 pz0_10 pz0_11 pz0_12 pz0_13 pz0_14 pz0_18 pz0_19 pz0_22 pz0_23 pz0_29)), (z 37, aI V 4 fz37)] := hD
      refine lv_istore_n (lv' := [(3, .int r_22), (0, .ref (z 0)), (1, .int a1), (2, .int a2)]) hx hb dX10_lists_34 rfl hl (by decide) rfl (fun ls hl => ?_)
      refine lv_iload_n hx hb dX10_lists_35 rfl (lv_at hl 0 rfl) ?_
      refine lv_if_eq (tgt := 41) hx hb dX10_lists_36 (by decide) (fun c_24 => ?_) (fun c_24 => ?_)
      · have b_25 : iv 0 0 r_22 := iv_q c_24 (iv_c (0 : Int32) (a := 0) (b := 0) (by decide))
        refine lv_aload_n hx hb dX10_lists_41 rfl (lv_at hl 1 rfl) ?_
        refine jnI (wr := [(z 15, aI V 900 fz15), (z 16, aI V 6 fz16), (z 38, aI V 4 fz38), (z 39, aJ V 160 fz39), (z 37, aI V 4 fz37)]) (rnV (rest := []) ⟨hx, hb, hml, hown, hg⟩ (k_X10_standNow_0 l V z 0 pz0_5 pz0_6 pz0_7 pz0_8 pz0_9 pz0_10 pz0_11 pz0_12 pz0_13 pz0_14 pz0_18 pz0_19 pz0_22 pz0_23 pz0_29 fz1 bpz0_5 bpz0_6 bpz0_7 bpz0_8 bpz0_10 bpz0_11 bpz0_12 bpz0_13 bpz0_14 bpz0_18 bpz0_22 bpz0_29 tfz1) mt_X10_standNow q_7_11 ⟨Nat.le_of_ble_eq_true rfl, Nat.le_of_ble_eq_true rfl⟩ hK hP hD hS hA hE [5, 4] rfl rfl 5 rfl rfl rfl rfl hl.1 rfl (Nat.le_of_ble_eq_true rfl) dX10_lists_42 ⟨Nat.le_of_ble_eq_true rfl, Nat.le_of_ble_eq_true rfl⟩) hP hD hS hA [5, 4] [0, 1, 2, 3, 6] rfl rfl rfl (by decide) (fun r_26 w H locs hw hP hD hS => ?_)
        obtain ⟨br_26, er_26, rfl⟩ := hw
        have hP : va_P V.1 vwCl [(z 15, aI V 900 fz15), (z 16, aI V 6 fz16), (z 38, aI V 4 fz38), (z 39, aJ V 160 fz39), (z 37, aI V 4 fz37), (z 0, .inr (10, mo z 0 pz0_5 pz0_6 pz0_7 pz0_8 pz0_9 pz0_10 pz0_11 pz0_12 pz0_13 pz0_14 pz0_18 pz0_19 pz0_22 pz0_23 pz0_29)), (z 1, aI V 3075 fz1)] H := hP
        have hD : va_D A [(z 15, aI V 900 fz15), (z 16, aI V 6 fz16), (z 38, aI V 4 fz38), (z 39, aJ V 160 fz39), (z 37, aI V 4 fz37), (z 0, .inr (10, mo z 0 pz0_5 pz0_6 pz0_7 pz0_8 pz0_9 pz0_10 pz0_11 pz0_12 pz0_13 pz0_14 pz0_18 pz0_19 pz0_22 pz0_23 pz0_29)), (z 1, aI V 3075 fz1)] := hD
        refine lv_istore (lv' := [(4, .int r_26), (3, .int r_22), (0, .ref (z 0)), (1, .int a1), (2, .int a2)]) hx hb dX10_lists_45 hl (by decide) rfl (fun ls hl => ?_)
        refine lv_iconst (v := 0) hx hb dX10_lists_47 (by decide) ?_
        refine lv_istore (lv' := [(5, .int 0), (4, .int r_26), (3, .int r_22), (0, .ref (z 0)), (1, .int a1), (2, .int a2)]) hx hb dX10_lists_48 hl (by decide) rfl (fun ls hl => ?_)
        refine loopF (X := fun (n_32 : Nat) (H : Heap) (locs : List Loc) (ls : Array Slot) => ∃ (u_27 : Int32) (u_28 : Int32) (f_29 : Nat → Int32) (f_30 : Nat → Int32) (f_31 : Nat → Int64), (iv 0 2147483647 u_27) ∧ (iv 0 9999 u_28) ∧ (ivT tW f_30) ∧ (RW fz1) ∧ n_32 = (2147483647 - (u_27 : Int32).toInt).toNat ∧ va_P V.1 vwCl [(z 15, aI V 900 f_29), (z 16, aI V 6 f_30), (z 38, aI V 4 fz38), (z 39, aJ V 160 f_31), (z 37, aI V 4 fz37), (z 0, .inr (10, mo z 0 pz0_5 pz0_6 pz0_7 pz0_8 pz0_9 pz0_10 pz0_11 pz0_12 pz0_13 pz0_14 pz0_18 pz0_19 pz0_22 pz0_23 pz0_29)), (z 1, aI V 3075 fz1)] H ∧ va_D A [(z 15, aI V 900 f_29), (z 16, aI V 6 f_30), (z 38, aI V 4 fz38), (z 39, aJ V 160 f_31), (z 37, aI V 4 fz37), (z 0, .inr (10, mo z 0 pz0_5 pz0_6 pz0_7 pz0_8 pz0_9 pz0_10 pz0_11 pz0_12 pz0_13 pz0_14 pz0_18 pz0_19 pz0_22 pz0_23 pz0_29)), (z 1, aI V 3075 fz1)] ∧ va_S A s.heap H locs ∧ lv_has ls 6 [(5, .int u_27), (4, .int u_28), (3, .int r_22), (0, .ref (z 0)), (1, .int a1), (2, .int a2)]) (g := fun ls => F0 m 50 ls []) (fun n_32 H locs ls hX ihn_32 => ?_) _ ⟨0, r_26, fz15, fz16, fz39, (iv_c (0 : Int32) (by decide)), br_26, tfz16, hf0, rfl, hP, hD, hS, lv_sub hl [0, 1, 2, 3, 4, 5] rfl⟩
        obtain ⟨u_27, u_28, f_29, f_30, f_31, bu_27, bu_28, tf_30, inn_32_0, en_32, hP, hD, hS, hl⟩ := hX
        refine lv_iload hx hb dX10_lists_50 (lv_at hl 0 rfl) ?_
        refine lv_aload_n hx hb dX10_lists_52 rfl (lv_at hl 3 rfl) ?_
        refine va_get (ci := 10) (v := .ref (z 38)) (C := RX10) (T := TX10) (N := 40) hx hb hg inX10 hown hK hP 5 rfl rfl 38 (by decide) (hg _ q_6_22) (fun _ h9 => h9) rfl dX10_lists_53 ?_
        refine lv_iload_n hx hb dX10_lists_56 rfl (lv_at hl 4 rfl) ?_
        refine va_iald hx hb hK hP 2 0 rfl rfl (iv_in b_14 (by decide)) dX10_lists_57 ?_
        refine lv_topi (fun x_33 ex_33 => ?_)
        have bx_33 : iv 0 40 x_33 := by rw [ex_33]; exact tfz38 _
        refine lv_icmp_ge (tgt := 102) hx hb dX10_lists_58 (by decide) (fun c_34 => ?_) (fun c_34 => ?_)
        · refine lv_aload_n hx hb dX10_lists_102 rfl (lv_at hl 3 rfl) ?_
          refine va_get (ci := 10) (v := .ref (z 38)) (C := RX10) (T := TX10) (N := 40) hx hb hg inX10 hown hK hP 5 rfl rfl 38 (by decide) (hg _ q_6_22) (fun _ h9 => h9) rfl dX10_lists_103 ?_
          refine lv_iload_n hx hb dX10_lists_106 rfl (lv_at hl 4 rfl) ?_
          refine va_iald hx hb hK hP 2 0 rfl rfl (iv_in b_14 (by decide)) dX10_lists_107 ?_
          refine tpi (y := x_33) ex_33.symm ?_
          have hP := subP (ws' := [(z 0, .inr (10, mo z 0 pz0_5 pz0_6 pz0_7 pz0_8 pz0_9 pz0_10 pz0_11 pz0_12 pz0_13 pz0_14 pz0_18 pz0_19 pz0_22 pz0_23 pz0_29)), (z 1, aI V 3075 fz1), (z 15, aI V 900 f_29), (z 16, aI V 6 f_30), (z 37, aI V 4 fz37), (z 38, aI V 4 fz38), (z 39, aJ V 160 f_31)]) hP [5, 6, 0, 1, 4, 2, 3] rfl
          have hD := hD.sub (ws' := [(z 0, .inr (10, mo z 0 pz0_5 pz0_6 pz0_7 pz0_8 pz0_9 pz0_10 pz0_11 pz0_12 pz0_13 pz0_14 pz0_18 pz0_19 pz0_22 pz0_23 pz0_29)), (z 1, aI V 3075 fz1), (z 15, aI V 900 f_29), (z 16, aI V 6 f_30), (z 37, aI V 4 fz37), (z 38, aI V 4 fz38), (z 39, aJ V 160 f_31)]) [5, 6, 0, 1, 4, 2, 3] rfl rfl
          exact fiI hx hb hr hlk hK hP hD hS dX10_lists_108 (Nat.le_of_ble_eq_true rfl) (Nat.le_of_ble_eq_true rfl) (⟨0, f_29, f_30, f_31, tf_30, (iv_w bx_33 (by decide)), inn_32_0, rfl⟩)
        · have b_35 : iv 0 39 u_27 := iv_l1 (Int32.not_le.mp c_34) bu_27 bx_33 (by decide)
          have b_36 : iv 1 40 x_33 := iv_l2 (Int32.not_le.mp c_34) bu_27 bx_33 (by decide)
          refine lv_aload_n hx hb dX10_lists_61 rfl (lv_at hl 3 rfl) ?_
          refine lv_iload hx hb dX10_lists_62 (lv_at hl 1 rfl) ?_
          refine lv_iconst (v := 0) hx hb dX10_lists_64 (by decide) ?_
          refine lv_aload_n hx hb dX10_lists_65 rfl (lv_at hl 3 rfl) ?_
          refine va_get (ci := 10) (v := .ref (z 1)) (C := RX10) (T := TX10) (N := 40) hx hb hg inX10 hown hK hP 5 rfl rfl 1 (by decide) (hg _ q_5_225) (fun _ h9 => h9) rfl dX10_lists_66 ?_
          refine lv_bipush (v := 51) hx hb dX10_lists_69 (by decide) ?_
          refine va_iald hx hb hK hP 6 0 rfl rfl (vin (by decide +kernel)) dX10_lists_71 ?_
          refine lv_topi (fun x_37 ex_37 => ?_)
          have bx_37 : iv 0 9 x_37 := by rw [ex_37]; exact rdT (a := 51) (n := 1) tfz1 (iv_c (51 : Int32) (a := 51) (b := 51) (by decide)) (by decide) (by decide +kernel)
          refine jnI (wr := [(z 38, aI V 4 fz38), (z 39, aJ V 160 f_31), (z 37, aI V 4 fz37)]) (rnV (rest := []) ⟨hx, hb, hml, hown, hg⟩ (k_X10_nightTo_0 l V z u_28 0 x_37 f_29 f_30 0 pz0_5 pz0_6 pz0_7 pz0_8 pz0_9 pz0_10 pz0_11 pz0_12 pz0_13 pz0_14 pz0_18 pz0_19 pz0_22 pz0_23 pz0_29 fz1 bu_28 tf_30 bpz0_5 bpz0_6 bpz0_7 bpz0_8 bpz0_10 bpz0_11 bpz0_12 bpz0_13 bpz0_14 bpz0_18 bpz0_22 bpz0_29 tfz1 inn_32_0) mt_X10_nightTo q_7_18 ⟨Nat.le_of_ble_eq_true rfl, Nat.le_of_ble_eq_true rfl⟩ hK hP hD hS hA hE [0, 1, 5, 6] rfl rfl 5 rfl rfl rfl rfl hl.1 rfl (Nat.le_of_ble_eq_true rfl) dX10_lists_72 ⟨Nat.le_of_ble_eq_true rfl, Nat.le_of_ble_eq_true rfl⟩) hP hD hS hA [0, 1, 5, 6] [2, 3, 4] rfl rfl rfl (by decide) (fun r_38 w H locs hw hP hD hS => ?_)
          obtain ⟨f_39, f_40, tf_40, br_38, g_41, rfl⟩ := hw
          have hP : va_P V.1 vwCl [(z 38, aI V 4 fz38), (z 39, aJ V 160 f_31), (z 37, aI V 4 fz37), (z 15, aI V 900 f_39), (z 16, aI V 6 f_40), (z 0, .inr (10, mo z 0 pz0_5 pz0_6 pz0_7 pz0_8 pz0_9 pz0_10 pz0_11 pz0_12 pz0_13 pz0_14 pz0_18 pz0_19 pz0_22 pz0_23 pz0_29)), (z 1, aI V 3075 fz1)] H := hP
          have hD : va_D A [(z 38, aI V 4 fz38), (z 39, aJ V 160 f_31), (z 37, aI V 4 fz37), (z 15, aI V 900 f_39), (z 16, aI V 6 f_40), (z 0, .inr (10, mo z 0 pz0_5 pz0_6 pz0_7 pz0_8 pz0_9 pz0_10 pz0_11 pz0_12 pz0_13 pz0_14 pz0_18 pz0_19 pz0_22 pz0_23 pz0_29)), (z 1, aI V 3075 fz1)] := hD
          refine lv_istore (lv' := [(4, .int r_38), (5, .int u_27), (3, .int r_22), (0, .ref (z 0)), (1, .int a1), (2, .int a2)]) hx hb dX10_lists_75 hl (by decide) rfl (fun ls hl => ?_)
          refine lv_aload_n hx hb dX10_lists_77 rfl (lv_at hl 3 rfl) ?_
          refine va_get (ci := 10) (v := .ref (z 39)) (C := RX10) (T := TX10) (N := 40) hx hb hg inX10 hown hK hP 5 rfl rfl 39 (by decide) (hg _ q_6_23) (fun _ h9 => h9) rfl dX10_lists_78 ?_
          refine lv_bipush (v := 40) hx hb dX10_lists_81 (by decide) ?_
          refine lv_iload_n hx hb dX10_lists_83 rfl (lv_at hl 4 rfl) ?_
          refine lv_imul hx hb dX10_lists_84 ?_
          refine lv_topi (fun x_42 ex_42 => ?_)
          have bx_42 : iv 0 120 x_42 := by rw [ex_42]; exact iv_cmul (iv_c (40 : Int32) (a := 40) (b := 40) (by decide)) b_14 (by decide)
          refine lv_iload hx hb dX10_lists_85 (lv_at hl 1 rfl) ?_
          refine lv_iadd hx hb dX10_lists_87 ?_
          refine lv_topi (fun x_43 ex_43 => ?_)
          have bx_43 : iv 0 159 x_43 := by rw [ex_43]; exact iv_add bx_42 b_35 (by decide)
          refine lv_iload hx hb dX10_lists_88 (lv_at hl 0 rfl) ?_
          refine lv_iload_n hx hb dX10_lists_90 rfl (lv_at hl 5 rfl) ?_
          refine jnI (wr := [(z 38, aI V 4 fz38), (z 39, aJ V 160 f_31), (z 37, aI V 4 fz37), (z 15, aI V 900 f_39), (z 16, aI V 6 f_40), (z 0, .inr (10, mo z 0 pz0_5 pz0_6 pz0_7 pz0_8 pz0_9 pz0_10 pz0_11 pz0_12 pz0_13 pz0_14 pz0_18 pz0_19 pz0_22 pz0_23 pz0_29)), (z 1, aI V 3075 fz1)]) (rnS (rest := [.int x_43, .ref (z 39)]) ⟨hx, hb, hml, hown, hg⟩ (k_X10_stackIn_0 l V r_38 a2 (iv_w br_38 (by decide)) b_21) mt_X10_stackIn q_7_26 ⟨Nat.le_of_ble_eq_true rfl, Nat.le_of_ble_eq_true rfl⟩ hK hP hD hS hA hE [] rfl rfl rfl hl.1 rfl (Nat.le_of_ble_eq_true rfl) dX10_lists_91 ⟨Nat.le_of_ble_eq_true rfl, Nat.le_of_ble_eq_true rfl⟩) hP hD hS hA [] [0, 1, 2, 3, 4, 5, 6] rfl rfl rfl (by decide) (fun r_44 w H locs hw hP hD hS => ?_)
          obtain ⟨br_44, er_44, rfl⟩ := hw
          have hP : va_P V.1 vwCl [(z 38, aI V 4 fz38), (z 39, aJ V 160 f_31), (z 37, aI V 4 fz37), (z 15, aI V 900 f_39), (z 16, aI V 6 f_40), (z 0, .inr (10, mo z 0 pz0_5 pz0_6 pz0_7 pz0_8 pz0_9 pz0_10 pz0_11 pz0_12 pz0_13 pz0_14 pz0_18 pz0_19 pz0_22 pz0_23 pz0_29)), (z 1, aI V 3075 fz1)] H := hP
          have hD : va_D A [(z 38, aI V 4 fz38), (z 39, aJ V 160 f_31), (z 37, aI V 4 fz37), (z 15, aI V 900 f_39), (z 16, aI V 6 f_40), (z 0, .inr (10, mo z 0 pz0_5 pz0_6 pz0_7 pz0_8 pz0_9 pz0_10 pz0_11 pz0_12 pz0_13 pz0_14 pz0_18 pz0_19 pz0_22 pz0_23 pz0_29)), (z 1, aI V 3075 fz1)] := hD
          refine lv_i2l hx hb dX10_lists_94 rfl ?_
          refine lv_topl (fun j_45 ej_45 => ?_)
          have bj_45 : ivL 0 4 j_45 := by rw [ej_45]; exact ivL_of br_44
          refine va_last hx hb hK hP hD hS 1 2 rfl rfl (iv_in bx_43 (by decide)) dX10_lists_95 (fun H locs hP hD hS => ?_)
          obtain ⟨f_46, ef_46, hP, hD⟩ : ∃ f_46 : Nat → Int64, f_46 = (vp_updL f_31 (x_43 : Int32).toNatClampNeg j_45) ∧ va_P V.1 vwCl [(z 38, aI V 4 fz38), (z 39, aJ V 160 f_46), (z 37, aI V 4 fz37), (z 15, aI V 900 f_39), (z 16, aI V 6 f_40), (z 0, .inr (10, mo z 0 pz0_5 pz0_6 pz0_7 pz0_8 pz0_9 pz0_10 pz0_11 pz0_12 pz0_13 pz0_14 pz0_18 pz0_19 pz0_22 pz0_23 pz0_29)), (z 1, aI V 3075 fz1)] H ∧ va_D A [(z 38, aI V 4 fz38), (z 39, aJ V 160 f_46), (z 37, aI V 4 fz37), (z 15, aI V 900 f_39), (z 16, aI V 6 f_40), (z 0, .inr (10, mo z 0 pz0_5 pz0_6 pz0_7 pz0_8 pz0_9 pz0_10 pz0_11 pz0_12 pz0_13 pz0_14 pz0_18 pz0_19 pz0_22 pz0_23 pz0_29)), (z 1, aI V 3075 fz1)] := ⟨_, rfl, hP, hD⟩
          obtain ⟨x_47, ex_47⟩ : ∃ z9 : Int32, z9 = u_27 + 1 := ⟨_, rfl⟩
          have bx_47 : iv 1 40 x_47 := by rw [ex_47]; exact iv_add b_35 (iv_c (1 : Int32) (a := 1) (b := 1) (by decide)) (by decide)
          refine lv_iinc (v := x_47) (lv' := [(5, .int x_47), (4, .int r_38), (3, .int r_22), (0, .ref (z 0)), (1, .int a1), (2, .int a2)]) hx hb dX10_lists_96 hl (k := 1) rfl (by rw [ex_47]; rfl) (by decide) rfl (fun ls hl => ?_)
          refine lv_goto (tgt := 50) hx hb dX10_lists_99 (by decide) ?_
          have hP := subP (ws' := [(z 15, aI V 900 f_39), (z 16, aI V 6 f_40), (z 38, aI V 4 fz38), (z 39, aJ V 160 f_46), (z 37, aI V 4 fz37), (z 0, .inr (10, mo z 0 pz0_5 pz0_6 pz0_7 pz0_8 pz0_9 pz0_10 pz0_11 pz0_12 pz0_13 pz0_14 pz0_18 pz0_19 pz0_22 pz0_23 pz0_29)), (z 1, aI V 3075 fz1)]) hP [3, 4, 0, 1, 2, 5, 6] rfl
          have hD := hD.sub (ws' := [(z 15, aI V 900 f_39), (z 16, aI V 6 f_40), (z 38, aI V 4 fz38), (z 39, aJ V 160 f_46), (z 37, aI V 4 fz37), (z 0, .inr (10, mo z 0 pz0_5 pz0_6 pz0_7 pz0_8 pz0_9 pz0_10 pz0_11 pz0_12 pz0_13 pz0_14 pz0_18 pz0_19 pz0_22 pz0_23 pz0_29)), (z 1, aI V 3075 fz1)]) [3, 4, 0, 1, 2, 5, 6] rfl rfl
          exact ihn_32 _ _ _ _ (by rw [en_32, ex_47]; exact mu_up b_35 (by decide)) ⟨x_47, r_38, f_39, f_40, f_46, (iv_w bx_47 (by decide)), (iv_w br_38 (by decide)), tf_40, g_41, rfl, hP, hD, hS, lv_sub hl [0, 1, 2, 3, 4, 5] rfl⟩
      · have b_48 : iv (-6) (-1) r_22 := iv_n1 c_24 br_22 (iv_c (0 : Int32) (a := 0) (b := 0) (by decide)) (by decide)
        refine lv_iload_n hx hb dX10_lists_39 rfl (lv_at hl 0 rfl) ?_
        have hP := subP (ws' := [(z 0, .inr (10, mo z 0 pz0_5 pz0_6 pz0_7 pz0_8 pz0_9 pz0_10 pz0_11 pz0_12 pz0_13 pz0_14 pz0_18 pz0_19 pz0_22 pz0_23 pz0_29)), (z 1, aI V 3075 fz1), (z 15, aI V 900 fz15), (z 16, aI V 6 fz16), (z 37, aI V 4 fz37), (z 38, aI V 4 fz38), (z 39, aJ V 160 fz39)]) hP [5, 4, 0, 1, 6, 2, 3] rfl
        have hD := hD.sub (ws' := [(z 0, .inr (10, mo z 0 pz0_5 pz0_6 pz0_7 pz0_8 pz0_9 pz0_10 pz0_11 pz0_12 pz0_13 pz0_14 pz0_18 pz0_19 pz0_22 pz0_23 pz0_29)), (z 1, aI V 3075 fz1), (z 15, aI V 900 fz15), (z 16, aI V 6 fz16), (z 37, aI V 4 fz37), (z 38, aI V 4 fz38), (z 39, aJ V 160 fz39)]) [5, 4, 0, 1, 6, 2, 3] rfl rfl
        exact fiI hx hb hr hlk hK hP hD hS dX10_lists_40 (Nat.le_of_ble_eq_true rfl) (Nat.le_of_ble_eq_true rfl) (⟨0, fz15, fz16, fz39, tfz16, (iv_w b_48 (by decide)), hf0, rfl⟩)
    · have b_49 : iv 0 0 r_16 := iv_q c_18 (iv_c (0 : Int32) (a := 0) (b := 0) (by decide))
      refine lv_bipush (v := (-2)) hx hb dX10_lists_26 (by decide) ?_
      have hP := subP (ws' := [(z 0, .inr (10, mo z 0 pz0_5 pz0_6 pz0_7 pz0_8 pz0_9 pz0_10 pz0_11 pz0_12 pz0_13 pz0_14 pz0_18 pz0_19 pz0_22 pz0_23 pz0_29)), (z 1, aI V 3075 fz1), (z 15, aI V 900 fz15), (z 16, aI V 6 fz16), (z 37, aI V 4 fz37), (z 38, aI V 4 fz38), (z 39, aJ V 160 fz39)]) hP [5, 6, 0, 1, 2, 3, 4] rfl
      have hD := hD.sub (ws' := [(z 0, .inr (10, mo z 0 pz0_5 pz0_6 pz0_7 pz0_8 pz0_9 pz0_10 pz0_11 pz0_12 pz0_13 pz0_14 pz0_18 pz0_19 pz0_22 pz0_23 pz0_29)), (z 1, aI V 3075 fz1), (z 15, aI V 900 fz15), (z 16, aI V 6 fz16), (z 37, aI V 4 fz37), (z 38, aI V 4 fz38), (z 39, aJ V 160 fz39)]) [5, 6, 0, 1, 2, 3, 4] rfl rfl
      exact fiI hx hb hr hlk hK hP hD hS dX10_lists_28 (Nat.le_of_ble_eq_true rfl) (Nat.le_of_ble_eq_true rfl) (⟨0, fz15, fz16, fz39, tfz16, (iv_c ((-2) : Int32) (by decide)), hf0, rfl⟩)
theorem dX10_image_0 : decode cX10_image 0 = .ok (.aload_n 0, 1) := by decide +kernel
theorem dX10_image_1 : decode cX10_image 1 = .ok (.iconst 0, 1) := by decide +kernel
theorem dX10_image_2 : decode cX10_image 2 = .ok (.putfield 1, 3) := by decide +kernel
theorem dX10_image_5 : decode cX10_image 5 = .ok (.iload_n 1, 1) := by decide +kernel
theorem dX10_image_6 : decode cX10_image 6 = .ok (.i2l, 1) := by decide +kernel
theorem dX10_image_7 : decode cX10_image 7 = .ok (.lconst 0, 1) := by decide +kernel
theorem dX10_image_8 : decode cX10_image 8 = .ok (.lconst 1, 1) := by decide +kernel
theorem dX10_image_9 : decode cX10_image 9 = .ok (.invokestatic 159, 3) := by decide +kernel
theorem dX10_image_12 : decode cX10_image 12 = .ok (.ifCond .ne 6, 3) := by decide +kernel
theorem dX10_image_18 : decode cX10_image 18 = .ok (.iconst 0, 1) := by decide +kernel
theorem dX10_image_19 : decode cX10_image 19 = .ok (.istore_n 2, 1) := by decide +kernel
theorem dX10_image_20 : decode cX10_image 20 = .ok (.iload_n 2, 1) := by decide +kernel
theorem dX10_image_21 : decode cX10_image 21 = .ok (.sipush 1025, 3) := by decide +kernel
theorem dX10_image_24 : decode cX10_image 24 = .ok (.if_icmp .ge 29, 3) := by decide +kernel
theorem dX10_image_53 : decode cX10_image 53 = .ok (.aload_n 0, 1) := by decide +kernel
theorem q_5_226 : Cond.fieldLink "BeaconDelayModel" 17 "BeaconDelayModel" "hasImage" "[Z" ∈ gw := gw_5 (i := 226) (by decide +kernel) rfl
theorem dX10_image_54 : decode cX10_image 54 = .ok (.getfield 17, 3) := by decide +kernel
theorem dX10_image_57 : decode cX10_image 57 = .ok (.iload_n 1, 1) := by decide +kernel
theorem dX10_image_58 : decode cX10_image 58 = .ok (.iconst 1, 1) := by decide +kernel
theorem dX10_image_59 : decode cX10_image 59 = .ok (.bastore, 1) := by decide +kernel
theorem dX10_image_60 : decode cX10_image 60 = .ok (.iconst 0, 1) := by decide +kernel
theorem dX10_image_61 : decode cX10_image 61 = .ok (.ireturn, 1) := by decide +kernel
theorem dX10_image_27 : decode cX10_image 27 = .ok (.aload_n 0, 1) := by decide +kernel
theorem dX10_image_28 : decode cX10_image 28 = .ok (.getfield 13, 3) := by decide +kernel
theorem dX10_image_31 : decode cX10_image 31 = .ok (.sipush 1025, 3) := by decide +kernel
theorem dX10_image_34 : decode cX10_image 34 = .ok (.iload_n 1, 1) := by decide +kernel
theorem dX10_image_35 : decode cX10_image 35 = .ok (.iconst 1, 1) := by decide +kernel
theorem dX10_image_36 : decode cX10_image 36 = .ok (.iadd, 1) := by decide +kernel
theorem dX10_image_37 : decode cX10_image 37 = .ok (.imul, 1) := by decide +kernel
theorem dX10_image_38 : decode cX10_image 38 = .ok (.iload_n 2, 1) := by decide +kernel
theorem dX10_image_39 : decode cX10_image 39 = .ok (.iadd, 1) := by decide +kernel
theorem dX10_image_40 : decode cX10_image 40 = .ok (.aload_n 0, 1) := by decide +kernel
theorem dX10_image_41 : decode cX10_image 41 = .ok (.getfield 13, 3) := by decide +kernel
theorem dX10_image_44 : decode cX10_image 44 = .ok (.iload_n 2, 1) := by decide +kernel
theorem dX10_image_45 : decode cX10_image 45 = .ok (.iaload, 1) := by decide +kernel
theorem dX10_image_46 : decode cX10_image 46 = .ok (.iastore, 1) := by decide +kernel
theorem dX10_image_47 : decode cX10_image 47 = .ok (.iinc 2 1, 3) := by decide +kernel
theorem dX10_image_50 : decode cX10_image 50 = .ok (.goto (-30), 3) := by decide +kernel
theorem dX10_image_15 : decode cX10_image 15 = .ok (.bipush (-2), 2) := by decide +kernel
theorem dX10_image_17 : decode cX10_image 17 = .ok (.ireturn, 1) := by decide +kernel
set_option maxHeartbeats 4000000 in
set_option maxRecDepth 100000 in
theorem k_X10_image_0 (l : Launch) (V : GV) (z : Nat → Nat) (a1 : Int32) (pz0_0 : Int32) (pz0_5 : Int32) (pz0_6 : Int32) (pz0_7 : Int32) (pz0_8 : Int32) (pz0_9 : Int32) (pz0_10 : Int32) (pz0_11 : Int32) (pz0_12 : Int32) (pz0_13 : Int32) (pz0_14 : Int32) (pz0_18 : Int32) (pz0_19 : Int32) (pz0_22 : Int32) (pz0_23 : Int32) (pz0_29 : Int32) (fz1 : Nat → Int32) (fz2 : Nat → Int32) (bpz0_5 : iv 0 900 pz0_5) (bpz0_6 : iv 0 900 pz0_6) (bpz0_7 : iv 0 900 pz0_7) (bpz0_8 : iv 0 900 pz0_8) (bpz0_10 : iv 0 999 pz0_10) (bpz0_11 : iv 0 4 pz0_11) (bpz0_12 : iv 0 900 pz0_12) (bpz0_13 : iv 0 4 pz0_13) (bpz0_14 : iv (-1) 900 pz0_14) (bpz0_18 : iv 0 2 pz0_18) (bpz0_22 : iv 0 9999 pz0_22) (bpz0_29 : iv 0 10000 pz0_29) (tfz1 : ivT tA fz1) (hf0 : RW fz1) : Ct l V yX10_image (.code yX10_image cX10_image 3 (some .int)) 2 [.ref (z 0), .int a1] [(z 0, .inr (10, mo z pz0_0 pz0_5 pz0_6 pz0_7 pz0_8 pz0_9 pz0_10 pz0_11 pz0_12 pz0_13 pz0_14 pz0_18 pz0_19 pz0_22 pz0_23 pz0_29)), (z 1, aI V 3075 fz1), (z 2, aZ V 2 fz2)] 0 0 (QI V (fun (r : Int32) (w : va_W) => ∃ (v0 : Int32) (g1 : Nat → Int32) (g2 : Nat → Int32), (ivT tA g1) ∧ iv (-2) 0 r ∧ (RW g1) ∧ w = [(z 0, .inr (10, mo z v0 pz0_5 pz0_6 pz0_7 pz0_8 pz0_9 pz0_10 pz0_11 pz0_12 pz0_13 pz0_14 pz0_18 pz0_19 pz0_22 pz0_23 pz0_29)), (z 1, aI V 3075 g1), (z 2, aZ V 2 g2)])) := by
  refine Ct.of (by decide) (Nat.le_of_ble_eq_true rfl) (fun p e s m below meth c A ls hx hb hr hml hown hlk hnm hg hP hK hD hE hA hS hl => ?_)
  have hl : lv_has ls 3 [(0, .ref (z 0)), (1, .int a1)] := hl
  refine lv_aload_n hx hb dX10_image_0 rfl (lv_at hl 0 rfl) ?_
  refine lv_iconst (v := 0) hx hb dX10_image_1 (by decide) ?_
  refine va_put (ci := 10) (v := .int 0) (ty := .int) (C := RX10) (T := TX10) (N := 40) hx hb hg inX10 tyX10 tyX10_ok nmX10 hown hK hP hD hS 0 rfl rfl 0 (by decide) (hg _ q_5_224) (fun _ h9 => h9) rfl (by decide +kernel) rfl rfl (Nat.le_of_ble_eq_true rfl) dX10_image_2 (fun H locs hP hD hS => ?_)
  have hP : va_P V.1 vwCl [(z 0, .inr (10, mo z 0 pz0_5 pz0_6 pz0_7 pz0_8 pz0_9 pz0_10 pz0_11 pz0_12 pz0_13 pz0_14 pz0_18 pz0_19 pz0_22 pz0_23 pz0_29)), (z 1, aI V 3075 fz1), (z 2, aZ V 2 fz2)] H := hP
  have hD : va_D A [(z 0, .inr (10, mo z 0 pz0_5 pz0_6 pz0_7 pz0_8 pz0_9 pz0_10 pz0_11 pz0_12 pz0_13 pz0_14 pz0_18 pz0_19 pz0_22 pz0_23 pz0_29)), (z 1, aI V 3075 fz1), (z 2, aZ V 2 fz2)] := hD
  refine lv_iload_n hx hb dX10_image_5 rfl (lv_at hl 1 rfl) ?_
  refine lv_i2l hx hb dX10_image_6 rfl ?_
  refine lv_topl (fun j_1 ej_1 => ?_)
  refine lv_lconst (v := 0) hx hb dX10_image_7 (by decide) ?_
  refine lv_lconst (v := 1) hx hb dX10_image_8 (by decide) ?_
  refine jnI (wr := [(z 0, .inr (10, mo z 0 pz0_5 pz0_6 pz0_7 pz0_8 pz0_9 pz0_10 pz0_11 pz0_12 pz0_13 pz0_14 pz0_18 pz0_19 pz0_22 pz0_23 pz0_29)), (z 1, aI V 3075 fz1), (z 2, aZ V 2 fz2)]) (rnS (rest := []) ⟨hx, hb, hml, hown, hg⟩ (k_X10_within_0 l V j_1 0 1) mt_X10_within q_6_114 ⟨Nat.le_of_ble_eq_true rfl, Nat.le_of_ble_eq_true rfl⟩ hK hP hD hS hA hE [] rfl rfl rfl hl.1 rfl (Nat.le_of_ble_eq_true rfl) dX10_image_9 ⟨Nat.le_of_ble_eq_true rfl, Nat.le_of_ble_eq_true rfl⟩) hP hD hS hA [] [0, 1, 2] rfl rfl rfl (by decide) (fun r_2 w H locs hw hP hD hS => ?_)
  obtain ⟨br_2, g_3, g_4, g_5, rfl⟩ := hw
  have hP : va_P V.1 vwCl [(z 0, .inr (10, mo z 0 pz0_5 pz0_6 pz0_7 pz0_8 pz0_9 pz0_10 pz0_11 pz0_12 pz0_13 pz0_14 pz0_18 pz0_19 pz0_22 pz0_23 pz0_29)), (z 1, aI V 3075 fz1), (z 2, aZ V 2 fz2)] H := hP
  have hD : va_D A [(z 0, .inr (10, mo z 0 pz0_5 pz0_6 pz0_7 pz0_8 pz0_9 pz0_10 pz0_11 pz0_12 pz0_13 pz0_14 pz0_18 pz0_19 pz0_22 pz0_23 pz0_29)), (z 1, aI V 3075 fz1), (z 2, aZ V 2 fz2)] := hD
  refine lv_if_ne (tgt := 18) hx hb dX10_image_12 (by decide) (fun c_6 => ?_) (fun c_6 => ?_)
  · have b_7 : iv 1 1 r_2 := iv_n0 c_6 br_2 (iv_c (0 : Int32) (a := 0) (b := 0) (by decide)) (by decide)
    have c_8 : (0 : Int64) ≤ j_1 := (g_4 (iv_eqp b_7 (iv_c (1 : Int32) (by decide))))
    have b_9 : ivL 0 9223372036854775807 j_1 := ivL_e2 c_8 (ivL_c (0 : Int64) (a := 0) (b := 0) (by decide)) (ivL_top j_1) (by decide)
    have b_10 : iv 0 2147483647 a1 := iv_cap (ivL_i ej_1 b_9) (iv_top a1) (by decide)
    have c_11 : j_1 ≤ 1 := (g_5 (iv_eqp b_7 (iv_c (1 : Int32) (by decide))))
    have b_12 : ivL 0 1 j_1 := ivL_e1 c_11 b_9 (ivL_c (1 : Int64) (a := 1) (b := 1) (by decide)) (by decide)
    have b_13 : iv 0 1 a1 := iv_cap (ivL_i ej_1 b_12) b_10 (by decide)
    have c_14 : a1 = 0 ∨ a1 = 1 := by have q9 := b_13; unfold iv at q9; simp only [tI_eq, (by decide : (0 : Int32).toInt = 0), (by decide : (1 : Int32).toInt = 1)]; omega
    rcases c_14 with rfl | rfl
    · refine lv_iconst (v := 0) hx hb dX10_image_18 (by decide) ?_
      refine lv_istore_n (lv' := [(2, .int 0), (0, .ref (z 0)), (1, .int 0)]) hx hb dX10_image_19 rfl hl (by decide) rfl (fun ls hl => ?_)
      refine loopF (X := fun (n_17 : Nat) (H : Heap) (locs : List Loc) (ls : Array Slot) => ∃ (u_15 : Int32) (f_16 : Nat → Int32), (iv 0 2147483647 u_15) ∧ (ivT tA f_16) ∧ (IMG 1025 u_15 f_16) ∧ n_17 = (2147483647 - (u_15 : Int32).toInt).toNat ∧ va_P V.1 vwCl [(z 0, .inr (10, mo z 0 pz0_5 pz0_6 pz0_7 pz0_8 pz0_9 pz0_10 pz0_11 pz0_12 pz0_13 pz0_14 pz0_18 pz0_19 pz0_22 pz0_23 pz0_29)), (z 1, aI V 3075 f_16), (z 2, aZ V 2 fz2)] H ∧ va_D A [(z 0, .inr (10, mo z 0 pz0_5 pz0_6 pz0_7 pz0_8 pz0_9 pz0_10 pz0_11 pz0_12 pz0_13 pz0_14 pz0_18 pz0_19 pz0_22 pz0_23 pz0_29)), (z 1, aI V 3075 f_16), (z 2, aZ V 2 fz2)] ∧ va_S A s.heap H locs ∧ lv_has ls 3 [(2, .int u_15), (0, .ref (z 0)), (1, .int 0)]) (g := fun ls => F0 m 20 ls []) (fun n_17 H locs ls hX ihn_17 => ?_) _ ⟨0, fz1, (iv_c (0 : Int32) (by decide)), tfz1, (IMG_0 hf0 (by decide)), rfl, hP, hD, hS, lv_sub hl [0, 1, 2] rfl⟩
      obtain ⟨u_15, f_16, bu_15, tf_16, inn_17_0, en_17, hP, hD, hS, hl⟩ := hX
      refine lv_iload_n hx hb dX10_image_20 rfl (lv_at hl 0 rfl) ?_
      refine lv_sipush (v := 1025) hx hb dX10_image_21 (by decide) ?_
      refine lv_icmp_ge (tgt := 53) hx hb dX10_image_24 (by decide) (fun c_18 => ?_) (fun c_18 => ?_)
      · have b_19 : iv 1025 2147483647 u_15 := iv_e2 c_18 (iv_c (1025 : Int32) (a := 1025) (b := 1025) (by decide)) bu_15 (by decide)
        have hRW := IMG_e inn_17_0 (Or.inl rfl) (Int32.not_lt.mpr c_18)
        refine lv_aload_n hx hb dX10_image_53 rfl (lv_at hl 1 rfl) ?_
        refine va_get (ci := 10) (v := .ref (z 2)) (C := RX10) (T := TX10) (N := 40) hx hb hg inX10 hown hK hP 0 rfl rfl 2 (by decide) (hg _ q_5_226) (fun _ h9 => h9) rfl dX10_image_54 ?_
        refine lv_iload_n hx hb dX10_image_57 rfl (lv_at hl 2 rfl) ?_
        refine lv_iconst (v := 1) hx hb dX10_image_58 (by decide) ?_
        refine va_zast hx hb hK hP hD hS 2 3 rfl rfl (vin (by decide +kernel)) dX10_image_59 (fun H locs hP hD hS => ?_)
        obtain ⟨f_20, hP, hD⟩ : ∃ f_20 : Nat → Int32, va_P V.1 vwCl [(z 0, .inr (10, mo z 0 pz0_5 pz0_6 pz0_7 pz0_8 pz0_9 pz0_10 pz0_11 pz0_12 pz0_13 pz0_14 pz0_18 pz0_19 pz0_22 pz0_23 pz0_29)), (z 1, aI V 3075 f_16), (z 2, aZ V 2 f_20)] H ∧ va_D A [(z 0, .inr (10, mo z 0 pz0_5 pz0_6 pz0_7 pz0_8 pz0_9 pz0_10 pz0_11 pz0_12 pz0_13 pz0_14 pz0_18 pz0_19 pz0_22 pz0_23 pz0_29)), (z 1, aI V 3075 f_16), (z 2, aZ V 2 f_20)] := ⟨_, hP, hD⟩
        refine lv_iconst (v := 0) hx hb dX10_image_60 (by decide) ?_
        exact fiI hx hb hr hlk hK hP hD hS dX10_image_61 (Nat.le_of_ble_eq_true rfl) (Nat.le_of_ble_eq_true rfl) (⟨0, f_16, f_20, tf_16, (iv_c (0 : Int32) (by decide)), hRW, rfl⟩)
      · have b_21 : iv 0 1024 u_15 := iv_l1 (Int32.not_le.mp c_18) bu_15 (iv_c (1025 : Int32) (a := 1025) (b := 1025) (by decide)) (by decide)
        refine lv_aload_n hx hb dX10_image_27 rfl (lv_at hl 1 rfl) ?_
        refine va_get (ci := 10) (v := .ref (z 1)) (C := RX10) (T := TX10) (N := 40) hx hb hg inX10 hown hK hP 0 rfl rfl 1 (by decide) (hg _ q_5_225) (fun _ h9 => h9) rfl dX10_image_28 ?_
        refine lv_sipush (v := 1025) hx hb dX10_image_31 (by decide) ?_
        refine lv_iload_n hx hb dX10_image_34 rfl (lv_at hl 2 rfl) ?_
        refine lv_iconst (v := 1) hx hb dX10_image_35 (by decide) ?_
        refine lv_iadd hx hb dX10_image_36 ?_
        refine tpi (y := 1) (by decide +kernel) ?_
        refine lv_imul hx hb dX10_image_37 ?_
        refine tpi (y := 1025) (by decide +kernel) ?_
        refine lv_iload_n hx hb dX10_image_38 rfl (lv_at hl 0 rfl) ?_
        refine lv_iadd hx hb dX10_image_39 ?_
        refine lv_topi (fun x_22 ex_22 => ?_)
        have bx_22 : iv 1025 2049 x_22 := by rw [ex_22]; exact iv_add (iv_c (1025 : Int32) (a := 1025) (b := 1025) (by decide)) b_21 (by decide)
        refine lv_aload_n hx hb dX10_image_40 rfl (lv_at hl 1 rfl) ?_
        refine va_get (ci := 10) (v := .ref (z 1)) (C := RX10) (T := TX10) (N := 40) hx hb hg inX10 hown hK hP 0 rfl rfl 1 (by decide) (hg _ q_5_225) (fun _ h9 => h9) rfl dX10_image_41 ?_
        refine lv_iload_n hx hb dX10_image_44 rfl (lv_at hl 0 rfl) ?_
        refine va_iald hx hb hK hP 1 0 rfl rfl (iv_in b_21 (by decide)) dX10_image_45 ?_
        refine lv_topi (fun x_23 ex_23 => ?_)
        refine va_iast hx hb hK hP hD hS 1 0 rfl rfl (iv_in bx_22 (by decide)) dX10_image_46 (fun H locs hP hD hS => ?_)
        obtain ⟨f_24, ef_24, tf_24, hP, hD⟩ : ∃ f_24 : Nat → Int32, f_24 = (upd f_16 (x_22 : Int32).toNatClampNeg x_23) ∧ (ivT tA f_24) ∧ va_P V.1 vwCl [(z 0, .inr (10, mo z 0 pz0_5 pz0_6 pz0_7 pz0_8 pz0_9 pz0_10 pz0_11 pz0_12 pz0_13 pz0_14 pz0_18 pz0_19 pz0_22 pz0_23 pz0_29)), (z 1, aI V 3075 f_24), (z 2, aZ V 2 fz2)] H ∧ va_D A [(z 0, .inr (10, mo z 0 pz0_5 pz0_6 pz0_7 pz0_8 pz0_9 pz0_10 pz0_11 pz0_12 pz0_13 pz0_14 pz0_18 pz0_19 pz0_22 pz0_23 pz0_29)), (z 1, aI V 3075 f_24), (z 2, aZ V 2 fz2)] := ⟨_, rfl, tA_cp (c := 1025) (d := 0) tf_16 (show (x_22 : Int32).toInt = ((1025 : Nat) : Int) + (u_15 : Int32).toInt from (by have q_x_22 := toInt_add ex_22 (iv_c (1025 : Int32) (a := 1025) (b := 1025) (by decide)) b_21 (by decide); have k_x_22 : (1025 : Int32).toInt = 1025 := (by decide); omega)) (show (u_15 : Int32).toInt = ((0 : Nat) : Int) + (u_15 : Int32).toInt from (by omega)) b_21 (by decide) (by decide) ex_23, hP, hD⟩
        obtain ⟨x_25, ex_25⟩ : ∃ z9 : Int32, z9 = u_15 + 1 := ⟨_, rfl⟩
        have bx_25 : iv 1 1025 x_25 := by rw [ex_25]; exact iv_add b_21 (iv_c (1 : Int32) (a := 1) (b := 1) (by decide)) (by decide)
        refine lv_iinc (v := x_25) (lv' := [(2, .int x_25), (0, .ref (z 0)), (1, .int 0)]) hx hb dX10_image_47 hl (k := 0) rfl (by rw [ex_25]; rfl) (by decide) rfl (fun ls hl => ?_)
        refine lv_goto (tgt := 20) hx hb dX10_image_50 (by decide) ?_
        exact ihn_17 _ _ _ _ (by rw [en_17, ex_25]; exact mu_up b_21 (by decide)) ⟨x_25, f_24, (iv_w bx_25 (by decide)), tf_24, (IMG_s inn_17_0 (Or.inl rfl) b_21 (by decide) (show (x_22 : Int32).toInt = ((1025 : Nat) : Int) + (u_15 : Int32).toInt from (by have q_x_22 := toInt_add ex_22 (iv_c (1025 : Int32) (a := 1025) (b := 1025) (by decide)) b_21 (by decide); have k_x_22 : (1025 : Int32).toInt = 1025 := (by decide); omega)) ex_23 ef_24 ex_25), rfl, hP, hD, hS, lv_sub hl [0, 1, 2] rfl⟩
    · refine lv_iconst (v := 0) hx hb dX10_image_18 (by decide) ?_
      refine lv_istore_n (lv' := [(2, .int 0), (0, .ref (z 0)), (1, .int 1)]) hx hb dX10_image_19 rfl hl (by decide) rfl (fun ls hl => ?_)
      refine loopF (X := fun (n_28 : Nat) (H : Heap) (locs : List Loc) (ls : Array Slot) => ∃ (u_26 : Int32) (f_27 : Nat → Int32), (iv 0 2147483647 u_26) ∧ (ivT tA f_27) ∧ (IMG 2050 u_26 f_27) ∧ n_28 = (2147483647 - (u_26 : Int32).toInt).toNat ∧ va_P V.1 vwCl [(z 0, .inr (10, mo z 0 pz0_5 pz0_6 pz0_7 pz0_8 pz0_9 pz0_10 pz0_11 pz0_12 pz0_13 pz0_14 pz0_18 pz0_19 pz0_22 pz0_23 pz0_29)), (z 1, aI V 3075 f_27), (z 2, aZ V 2 fz2)] H ∧ va_D A [(z 0, .inr (10, mo z 0 pz0_5 pz0_6 pz0_7 pz0_8 pz0_9 pz0_10 pz0_11 pz0_12 pz0_13 pz0_14 pz0_18 pz0_19 pz0_22 pz0_23 pz0_29)), (z 1, aI V 3075 f_27), (z 2, aZ V 2 fz2)] ∧ va_S A s.heap H locs ∧ lv_has ls 3 [(2, .int u_26), (0, .ref (z 0)), (1, .int 1)]) (g := fun ls => F0 m 20 ls []) (fun n_28 H locs ls hX ihn_28 => ?_) _ ⟨0, fz1, (iv_c (0 : Int32) (by decide)), tfz1, (IMG_0 hf0 (by decide)), rfl, hP, hD, hS, lv_sub hl [0, 1, 2] rfl⟩
      obtain ⟨u_26, f_27, bu_26, tf_27, inn_28_0, en_28, hP, hD, hS, hl⟩ := hX
      refine lv_iload_n hx hb dX10_image_20 rfl (lv_at hl 0 rfl) ?_
      refine lv_sipush (v := 1025) hx hb dX10_image_21 (by decide) ?_
      refine lv_icmp_ge (tgt := 53) hx hb dX10_image_24 (by decide) (fun c_29 => ?_) (fun c_29 => ?_)
      · have b_30 : iv 1025 2147483647 u_26 := iv_e2 c_29 (iv_c (1025 : Int32) (a := 1025) (b := 1025) (by decide)) bu_26 (by decide)
        have hRW := IMG_e inn_28_0 (Or.inr rfl) (Int32.not_lt.mpr c_29)
        refine lv_aload_n hx hb dX10_image_53 rfl (lv_at hl 1 rfl) ?_
        refine va_get (ci := 10) (v := .ref (z 2)) (C := RX10) (T := TX10) (N := 40) hx hb hg inX10 hown hK hP 0 rfl rfl 2 (by decide) (hg _ q_5_226) (fun _ h9 => h9) rfl dX10_image_54 ?_
        refine lv_iload_n hx hb dX10_image_57 rfl (lv_at hl 2 rfl) ?_
        refine lv_iconst (v := 1) hx hb dX10_image_58 (by decide) ?_
        refine va_zast hx hb hK hP hD hS 2 3 rfl rfl (vin (by decide +kernel)) dX10_image_59 (fun H locs hP hD hS => ?_)
        obtain ⟨f_31, hP, hD⟩ : ∃ f_31 : Nat → Int32, va_P V.1 vwCl [(z 0, .inr (10, mo z 0 pz0_5 pz0_6 pz0_7 pz0_8 pz0_9 pz0_10 pz0_11 pz0_12 pz0_13 pz0_14 pz0_18 pz0_19 pz0_22 pz0_23 pz0_29)), (z 1, aI V 3075 f_27), (z 2, aZ V 2 f_31)] H ∧ va_D A [(z 0, .inr (10, mo z 0 pz0_5 pz0_6 pz0_7 pz0_8 pz0_9 pz0_10 pz0_11 pz0_12 pz0_13 pz0_14 pz0_18 pz0_19 pz0_22 pz0_23 pz0_29)), (z 1, aI V 3075 f_27), (z 2, aZ V 2 f_31)] := ⟨_, hP, hD⟩
        refine lv_iconst (v := 0) hx hb dX10_image_60 (by decide) ?_
        exact fiI hx hb hr hlk hK hP hD hS dX10_image_61 (Nat.le_of_ble_eq_true rfl) (Nat.le_of_ble_eq_true rfl) (⟨0, f_27, f_31, tf_27, (iv_c (0 : Int32) (by decide)), hRW, rfl⟩)
      · have b_32 : iv 0 1024 u_26 := iv_l1 (Int32.not_le.mp c_29) bu_26 (iv_c (1025 : Int32) (a := 1025) (b := 1025) (by decide)) (by decide)
        refine lv_aload_n hx hb dX10_image_27 rfl (lv_at hl 1 rfl) ?_
        refine va_get (ci := 10) (v := .ref (z 1)) (C := RX10) (T := TX10) (N := 40) hx hb hg inX10 hown hK hP 0 rfl rfl 1 (by decide) (hg _ q_5_225) (fun _ h9 => h9) rfl dX10_image_28 ?_
        refine lv_sipush (v := 1025) hx hb dX10_image_31 (by decide) ?_
        refine lv_iload_n hx hb dX10_image_34 rfl (lv_at hl 2 rfl) ?_
        refine lv_iconst (v := 1) hx hb dX10_image_35 (by decide) ?_
        refine lv_iadd hx hb dX10_image_36 ?_
        refine tpi (y := 2) (by decide +kernel) ?_
        refine lv_imul hx hb dX10_image_37 ?_
        refine tpi (y := 2050) (by decide +kernel) ?_
        refine lv_iload_n hx hb dX10_image_38 rfl (lv_at hl 0 rfl) ?_
        refine lv_iadd hx hb dX10_image_39 ?_
        refine lv_topi (fun x_33 ex_33 => ?_)
        have bx_33 : iv 2050 3074 x_33 := by rw [ex_33]; exact iv_add (iv_c (2050 : Int32) (a := 2050) (b := 2050) (by decide)) b_32 (by decide)
        refine lv_aload_n hx hb dX10_image_40 rfl (lv_at hl 1 rfl) ?_
        refine va_get (ci := 10) (v := .ref (z 1)) (C := RX10) (T := TX10) (N := 40) hx hb hg inX10 hown hK hP 0 rfl rfl 1 (by decide) (hg _ q_5_225) (fun _ h9 => h9) rfl dX10_image_41 ?_
        refine lv_iload_n hx hb dX10_image_44 rfl (lv_at hl 0 rfl) ?_
        refine va_iald hx hb hK hP 1 0 rfl rfl (iv_in b_32 (by decide)) dX10_image_45 ?_
        refine lv_topi (fun x_34 ex_34 => ?_)
        refine va_iast hx hb hK hP hD hS 1 0 rfl rfl (iv_in bx_33 (by decide)) dX10_image_46 (fun H locs hP hD hS => ?_)
        obtain ⟨f_35, ef_35, tf_35, hP, hD⟩ : ∃ f_35 : Nat → Int32, f_35 = (upd f_27 (x_33 : Int32).toNatClampNeg x_34) ∧ (ivT tA f_35) ∧ va_P V.1 vwCl [(z 0, .inr (10, mo z 0 pz0_5 pz0_6 pz0_7 pz0_8 pz0_9 pz0_10 pz0_11 pz0_12 pz0_13 pz0_14 pz0_18 pz0_19 pz0_22 pz0_23 pz0_29)), (z 1, aI V 3075 f_35), (z 2, aZ V 2 fz2)] H ∧ va_D A [(z 0, .inr (10, mo z 0 pz0_5 pz0_6 pz0_7 pz0_8 pz0_9 pz0_10 pz0_11 pz0_12 pz0_13 pz0_14 pz0_18 pz0_19 pz0_22 pz0_23 pz0_29)), (z 1, aI V 3075 f_35), (z 2, aZ V 2 fz2)] := ⟨_, rfl, tA_cp (c := 2050) (d := 0) tf_27 (show (x_33 : Int32).toInt = ((2050 : Nat) : Int) + (u_26 : Int32).toInt from (by have q_x_33 := toInt_add ex_33 (iv_c (2050 : Int32) (a := 2050) (b := 2050) (by decide)) b_32 (by decide); have k_x_33 : (2050 : Int32).toInt = 2050 := (by decide); omega)) (show (u_26 : Int32).toInt = ((0 : Nat) : Int) + (u_26 : Int32).toInt from (by omega)) b_32 (by decide) (by decide) ex_34, hP, hD⟩
        obtain ⟨x_36, ex_36⟩ : ∃ z9 : Int32, z9 = u_26 + 1 := ⟨_, rfl⟩
        have bx_36 : iv 1 1025 x_36 := by rw [ex_36]; exact iv_add b_32 (iv_c (1 : Int32) (a := 1) (b := 1) (by decide)) (by decide)
        refine lv_iinc (v := x_36) (lv' := [(2, .int x_36), (0, .ref (z 0)), (1, .int 1)]) hx hb dX10_image_47 hl (k := 0) rfl (by rw [ex_36]; rfl) (by decide) rfl (fun ls hl => ?_)
        refine lv_goto (tgt := 20) hx hb dX10_image_50 (by decide) ?_
        exact ihn_28 _ _ _ _ (by rw [en_28, ex_36]; exact mu_up b_32 (by decide)) ⟨x_36, f_35, (iv_w bx_36 (by decide)), tf_35, (IMG_s inn_28_0 (Or.inr rfl) b_32 (by decide) (show (x_33 : Int32).toInt = ((2050 : Nat) : Int) + (u_26 : Int32).toInt from (by have q_x_33 := toInt_add ex_33 (iv_c (2050 : Int32) (a := 2050) (b := 2050) (by decide)) b_32 (by decide); have k_x_33 : (2050 : Int32).toInt = 2050 := (by decide); omega)) ex_34 ef_35 ex_36), rfl, hP, hD, hS, lv_sub hl [0, 1, 2] rfl⟩
  · have b_37 : iv 0 0 r_2 := iv_q c_6 (iv_c (0 : Int32) (a := 0) (b := 0) (by decide))
    refine lv_bipush (v := (-2)) hx hb dX10_image_15 (by decide) ?_
    exact fiI hx hb hr hlk hK hP hD hS dX10_image_17 (Nat.le_of_ble_eq_true rfl) (Nat.le_of_ble_eq_true rfl) (⟨0, fz1, fz2, tfz1, (iv_c ((-2) : Int32) (by decide)), hf0, rfl⟩)
theorem dX10_restore_0 : decode cX10_restore 0 = .ok (.aload_n 0, 1) := by decide +kernel
theorem dX10_restore_1 : decode cX10_restore 1 = .ok (.iconst 0, 1) := by decide +kernel
theorem dX10_restore_2 : decode cX10_restore 2 = .ok (.putfield 1, 3) := by decide +kernel
theorem dX10_restore_5 : decode cX10_restore 5 = .ok (.iload_n 1, 1) := by decide +kernel
theorem dX10_restore_6 : decode cX10_restore 6 = .ok (.i2l, 1) := by decide +kernel
theorem dX10_restore_7 : decode cX10_restore 7 = .ok (.lconst 0, 1) := by decide +kernel
theorem dX10_restore_8 : decode cX10_restore 8 = .ok (.lconst 1, 1) := by decide +kernel
theorem dX10_restore_9 : decode cX10_restore 9 = .ok (.invokestatic 159, 3) := by decide +kernel
theorem dX10_restore_12 : decode cX10_restore 12 = .ok (.ifCond .ne 6, 3) := by decide +kernel
theorem dX10_restore_18 : decode cX10_restore 18 = .ok (.aload_n 0, 1) := by decide +kernel
theorem dX10_restore_19 : decode cX10_restore 19 = .ok (.getfield 17, 3) := by decide +kernel
theorem dX10_restore_22 : decode cX10_restore 22 = .ok (.iload_n 1, 1) := by decide +kernel
theorem dX10_restore_23 : decode cX10_restore 23 = .ok (.baload, 1) := by decide +kernel
theorem dX10_restore_24 : decode cX10_restore 24 = .ok (.ifCond .ne 6, 3) := by decide +kernel
theorem dX10_restore_30 : decode cX10_restore 30 = .ok (.iconst 0, 1) := by decide +kernel
theorem dX10_restore_31 : decode cX10_restore 31 = .ok (.istore_n 2, 1) := by decide +kernel
theorem dX10_restore_32 : decode cX10_restore 32 = .ok (.iload_n 2, 1) := by decide +kernel
theorem dX10_restore_33 : decode cX10_restore 33 = .ok (.sipush 1025, 3) := by decide +kernel
theorem dX10_restore_36 : decode cX10_restore 36 = .ok (.if_icmp .ge 29, 3) := by decide +kernel
theorem dX10_restore_65 : decode cX10_restore 65 = .ok (.aload_n 0, 1) := by decide +kernel
theorem dX10_restore_66 : decode cX10_restore 66 = .ok (.getfield 13, 3) := by decide +kernel
theorem dX10_restore_69 : decode cX10_restore 69 = .ok (.bipush 53, 2) := by decide +kernel
theorem dX10_restore_71 : decode cX10_restore 71 = .ok (.iconst 0, 1) := by decide +kernel
theorem dX10_restore_72 : decode cX10_restore 72 = .ok (.iastore, 1) := by decide +kernel
theorem dX10_restore_73 : decode cX10_restore 73 = .ok (.iconst 0, 1) := by decide +kernel
theorem dX10_restore_74 : decode cX10_restore 74 = .ok (.ireturn, 1) := by decide +kernel
theorem dX10_restore_39 : decode cX10_restore 39 = .ok (.aload_n 0, 1) := by decide +kernel
theorem dX10_restore_40 : decode cX10_restore 40 = .ok (.getfield 13, 3) := by decide +kernel
theorem dX10_restore_43 : decode cX10_restore 43 = .ok (.iload_n 2, 1) := by decide +kernel
theorem dX10_restore_44 : decode cX10_restore 44 = .ok (.aload_n 0, 1) := by decide +kernel
theorem dX10_restore_45 : decode cX10_restore 45 = .ok (.getfield 13, 3) := by decide +kernel
theorem dX10_restore_48 : decode cX10_restore 48 = .ok (.sipush 1025, 3) := by decide +kernel
theorem dX10_restore_51 : decode cX10_restore 51 = .ok (.iload_n 1, 1) := by decide +kernel
theorem dX10_restore_52 : decode cX10_restore 52 = .ok (.iconst 1, 1) := by decide +kernel
theorem dX10_restore_53 : decode cX10_restore 53 = .ok (.iadd, 1) := by decide +kernel
theorem dX10_restore_54 : decode cX10_restore 54 = .ok (.imul, 1) := by decide +kernel
theorem dX10_restore_55 : decode cX10_restore 55 = .ok (.iload_n 2, 1) := by decide +kernel
theorem dX10_restore_56 : decode cX10_restore 56 = .ok (.iadd, 1) := by decide +kernel
theorem dX10_restore_57 : decode cX10_restore 57 = .ok (.iaload, 1) := by decide +kernel
theorem dX10_restore_58 : decode cX10_restore 58 = .ok (.iastore, 1) := by decide +kernel
theorem dX10_restore_59 : decode cX10_restore 59 = .ok (.iinc 2 1, 3) := by decide +kernel
theorem dX10_restore_62 : decode cX10_restore 62 = .ok (.goto (-30), 3) := by decide +kernel
theorem dX10_restore_27 : decode cX10_restore 27 = .ok (.bipush (-5), 2) := by decide +kernel
theorem dX10_restore_29 : decode cX10_restore 29 = .ok (.ireturn, 1) := by decide +kernel
theorem dX10_restore_15 : decode cX10_restore 15 = .ok (.bipush (-2), 2) := by decide +kernel
theorem dX10_restore_17 : decode cX10_restore 17 = .ok (.ireturn, 1) := by decide +kernel
set_option maxHeartbeats 4000000 in
set_option maxRecDepth 100000 in
theorem k_X10_restore_0 (l : Launch) (V : GV) (z : Nat → Nat) (a1 : Int32) (pz0_0 : Int32) (pz0_5 : Int32) (pz0_6 : Int32) (pz0_7 : Int32) (pz0_8 : Int32) (pz0_9 : Int32) (pz0_10 : Int32) (pz0_11 : Int32) (pz0_12 : Int32) (pz0_13 : Int32) (pz0_14 : Int32) (pz0_18 : Int32) (pz0_19 : Int32) (pz0_22 : Int32) (pz0_23 : Int32) (pz0_29 : Int32) (fz1 : Nat → Int32) (fz2 : Nat → Int32) (bpz0_5 : iv 0 900 pz0_5) (bpz0_6 : iv 0 900 pz0_6) (bpz0_7 : iv 0 900 pz0_7) (bpz0_8 : iv 0 900 pz0_8) (bpz0_10 : iv 0 999 pz0_10) (bpz0_11 : iv 0 4 pz0_11) (bpz0_12 : iv 0 900 pz0_12) (bpz0_13 : iv 0 4 pz0_13) (bpz0_14 : iv (-1) 900 pz0_14) (bpz0_18 : iv 0 2 pz0_18) (bpz0_22 : iv 0 9999 pz0_22) (bpz0_29 : iv 0 10000 pz0_29) (tfz1 : ivT tA fz1) (hf0 : RW fz1) : Ct l V yX10_restore (.code yX10_restore cX10_restore 3 (some .int)) 2 [.ref (z 0), .int a1] [(z 0, .inr (10, mo z pz0_0 pz0_5 pz0_6 pz0_7 pz0_8 pz0_9 pz0_10 pz0_11 pz0_12 pz0_13 pz0_14 pz0_18 pz0_19 pz0_22 pz0_23 pz0_29)), (z 1, aI V 3075 fz1), (z 2, aZ V 2 fz2)] 0 0 (QI V (fun (r : Int32) (w : va_W) => ∃ (v0 : Int32) (g1 : Nat → Int32), (ivT tA g1) ∧ iv (-5) 0 r ∧ (RW g1) ∧ w = [(z 0, .inr (10, mo z v0 pz0_5 pz0_6 pz0_7 pz0_8 pz0_9 pz0_10 pz0_11 pz0_12 pz0_13 pz0_14 pz0_18 pz0_19 pz0_22 pz0_23 pz0_29)), (z 1, aI V 3075 g1), (z 2, aZ V 2 fz2)])) := by
  refine Ct.of (by decide) (Nat.le_of_ble_eq_true rfl) (fun p e s m below meth c A ls hx hb hr hml hown hlk hnm hg hP hK hD hE hA hS hl => ?_)
  have hl : lv_has ls 3 [(0, .ref (z 0)), (1, .int a1)] := hl
  refine lv_aload_n hx hb dX10_restore_0 rfl (lv_at hl 0 rfl) ?_
  refine lv_iconst (v := 0) hx hb dX10_restore_1 (by decide) ?_
  refine va_put (ci := 10) (v := .int 0) (ty := .int) (C := RX10) (T := TX10) (N := 40) hx hb hg inX10 tyX10 tyX10_ok nmX10 hown hK hP hD hS 0 rfl rfl 0 (by decide) (hg _ q_5_224) (fun _ h9 => h9) rfl (by decide +kernel) rfl rfl (Nat.le_of_ble_eq_true rfl) dX10_restore_2 (fun H locs hP hD hS => ?_)
  have hP : va_P V.1 vwCl [(z 0, .inr (10, mo z 0 pz0_5 pz0_6 pz0_7 pz0_8 pz0_9 pz0_10 pz0_11 pz0_12 pz0_13 pz0_14 pz0_18 pz0_19 pz0_22 pz0_23 pz0_29)), (z 1, aI V 3075 fz1), (z 2, aZ V 2 fz2)] H := hP
  have hD : va_D A [(z 0, .inr (10, mo z 0 pz0_5 pz0_6 pz0_7 pz0_8 pz0_9 pz0_10 pz0_11 pz0_12 pz0_13 pz0_14 pz0_18 pz0_19 pz0_22 pz0_23 pz0_29)), (z 1, aI V 3075 fz1), (z 2, aZ V 2 fz2)] := hD
  refine lv_iload_n hx hb dX10_restore_5 rfl (lv_at hl 1 rfl) ?_
  refine lv_i2l hx hb dX10_restore_6 rfl ?_
  refine lv_topl (fun j_1 ej_1 => ?_)
  refine lv_lconst (v := 0) hx hb dX10_restore_7 (by decide) ?_
  refine lv_lconst (v := 1) hx hb dX10_restore_8 (by decide) ?_
  refine jnI (wr := [(z 0, .inr (10, mo z 0 pz0_5 pz0_6 pz0_7 pz0_8 pz0_9 pz0_10 pz0_11 pz0_12 pz0_13 pz0_14 pz0_18 pz0_19 pz0_22 pz0_23 pz0_29)), (z 1, aI V 3075 fz1), (z 2, aZ V 2 fz2)]) (rnS (rest := []) ⟨hx, hb, hml, hown, hg⟩ (k_X10_within_0 l V j_1 0 1) mt_X10_within q_6_114 ⟨Nat.le_of_ble_eq_true rfl, Nat.le_of_ble_eq_true rfl⟩ hK hP hD hS hA hE [] rfl rfl rfl hl.1 rfl (Nat.le_of_ble_eq_true rfl) dX10_restore_9 ⟨Nat.le_of_ble_eq_true rfl, Nat.le_of_ble_eq_true rfl⟩) hP hD hS hA [] [0, 1, 2] rfl rfl rfl (by decide) (fun r_2 w H locs hw hP hD hS => ?_)
  obtain ⟨br_2, g_3, g_4, g_5, rfl⟩ := hw
  have hP : va_P V.1 vwCl [(z 0, .inr (10, mo z 0 pz0_5 pz0_6 pz0_7 pz0_8 pz0_9 pz0_10 pz0_11 pz0_12 pz0_13 pz0_14 pz0_18 pz0_19 pz0_22 pz0_23 pz0_29)), (z 1, aI V 3075 fz1), (z 2, aZ V 2 fz2)] H := hP
  have hD : va_D A [(z 0, .inr (10, mo z 0 pz0_5 pz0_6 pz0_7 pz0_8 pz0_9 pz0_10 pz0_11 pz0_12 pz0_13 pz0_14 pz0_18 pz0_19 pz0_22 pz0_23 pz0_29)), (z 1, aI V 3075 fz1), (z 2, aZ V 2 fz2)] := hD
  refine lv_if_ne (tgt := 18) hx hb dX10_restore_12 (by decide) (fun c_6 => ?_) (fun c_6 => ?_)
  · have b_7 : iv 1 1 r_2 := iv_n0 c_6 br_2 (iv_c (0 : Int32) (a := 0) (b := 0) (by decide)) (by decide)
    have c_8 : (0 : Int64) ≤ j_1 := (g_4 (iv_eqp b_7 (iv_c (1 : Int32) (by decide))))
    have b_9 : ivL 0 9223372036854775807 j_1 := ivL_e2 c_8 (ivL_c (0 : Int64) (a := 0) (b := 0) (by decide)) (ivL_top j_1) (by decide)
    have b_10 : iv 0 2147483647 a1 := iv_cap (ivL_i ej_1 b_9) (iv_top a1) (by decide)
    have c_11 : j_1 ≤ 1 := (g_5 (iv_eqp b_7 (iv_c (1 : Int32) (by decide))))
    have b_12 : ivL 0 1 j_1 := ivL_e1 c_11 b_9 (ivL_c (1 : Int64) (a := 1) (b := 1) (by decide)) (by decide)
    have b_13 : iv 0 1 a1 := iv_cap (ivL_i ej_1 b_12) b_10 (by decide)
    have c_14 : a1 = 0 ∨ a1 = 1 := by have q9 := b_13; unfold iv at q9; simp only [tI_eq, (by decide : (0 : Int32).toInt = 0), (by decide : (1 : Int32).toInt = 1)]; omega
    rcases c_14 with rfl | rfl
    · refine lv_aload_n hx hb dX10_restore_18 rfl (lv_at hl 0 rfl) ?_
      refine va_get (ci := 10) (v := .ref (z 2)) (C := RX10) (T := TX10) (N := 40) hx hb hg inX10 hown hK hP 0 rfl rfl 2 (by decide) (hg _ q_5_226) (fun _ h9 => h9) rfl dX10_restore_19 ?_
      refine lv_iload_n hx hb dX10_restore_22 rfl (lv_at hl 1 rfl) ?_
      refine va_zald hx hb hK hP 2 3 rfl rfl (vin (by decide +kernel)) dX10_restore_23 ?_
      refine lv_topi (fun x_15 ex_15 => ?_)
      refine lv_if_ne (tgt := 30) hx hb dX10_restore_24 (by decide) (fun c_16 => ?_) (fun c_16 => ?_)
      · refine lv_iconst (v := 0) hx hb dX10_restore_30 (by decide) ?_
        refine lv_istore_n (lv' := [(2, .int 0), (0, .ref (z 0)), (1, .int 0)]) hx hb dX10_restore_31 rfl hl (by decide) rfl (fun ls hl => ?_)
        refine loopF (X := fun (n_19 : Nat) (H : Heap) (locs : List Loc) (ls : Array Slot) => ∃ (u_17 : Int32) (f_18 : Nat → Int32), (iv 0 2147483647 u_17) ∧ (ivT tA f_18) ∧ (RST 1025 u_17 f_18) ∧ n_19 = (2147483647 - (u_17 : Int32).toInt).toNat ∧ va_P V.1 vwCl [(z 0, .inr (10, mo z 0 pz0_5 pz0_6 pz0_7 pz0_8 pz0_9 pz0_10 pz0_11 pz0_12 pz0_13 pz0_14 pz0_18 pz0_19 pz0_22 pz0_23 pz0_29)), (z 1, aI V 3075 f_18), (z 2, aZ V 2 fz2)] H ∧ va_D A [(z 0, .inr (10, mo z 0 pz0_5 pz0_6 pz0_7 pz0_8 pz0_9 pz0_10 pz0_11 pz0_12 pz0_13 pz0_14 pz0_18 pz0_19 pz0_22 pz0_23 pz0_29)), (z 1, aI V 3075 f_18), (z 2, aZ V 2 fz2)] ∧ va_S A s.heap H locs ∧ lv_has ls 3 [(2, .int u_17), (0, .ref (z 0)), (1, .int 0)]) (g := fun ls => F0 m 32 ls []) (fun n_19 H locs ls hX ihn_19 => ?_) _ ⟨0, fz1, (iv_c (0 : Int32) (by decide)), tfz1, (RST_0 hf0 (by decide)), rfl, hP, hD, hS, lv_sub hl [0, 1, 2] rfl⟩
        obtain ⟨u_17, f_18, bu_17, tf_18, inn_19_0, en_19, hP, hD, hS, hl⟩ := hX
        refine lv_iload_n hx hb dX10_restore_32 rfl (lv_at hl 0 rfl) ?_
        refine lv_sipush (v := 1025) hx hb dX10_restore_33 (by decide) ?_
        refine lv_icmp_ge (tgt := 65) hx hb dX10_restore_36 (by decide) (fun c_20 => ?_) (fun c_20 => ?_)
        · have b_21 : iv 1025 2147483647 u_17 := iv_e2 c_20 (iv_c (1025 : Int32) (a := 1025) (b := 1025) (by decide)) bu_17 (by decide)
          have hRW := RST_e inn_19_0 (Or.inl rfl) (Int32.not_lt.mpr c_20)
          refine lv_aload_n hx hb dX10_restore_65 rfl (lv_at hl 1 rfl) ?_
          refine va_get (ci := 10) (v := .ref (z 1)) (C := RX10) (T := TX10) (N := 40) hx hb hg inX10 hown hK hP 0 rfl rfl 1 (by decide) (hg _ q_5_225) (fun _ h9 => h9) rfl dX10_restore_66 ?_
          refine lv_bipush (v := 53) hx hb dX10_restore_69 (by decide) ?_
          refine lv_iconst (v := 0) hx hb dX10_restore_71 (by decide) ?_
          refine va_iast hx hb hK hP hD hS 1 0 rfl rfl (vin (by decide +kernel)) dX10_restore_72 (fun H locs hP hD hS => ?_)
          obtain ⟨f_22, ef_22, tf_22, hP, hD⟩ : ∃ f_22 : Nat → Int32, f_22 = (upd f_18 (53 : Int32).toNatClampNeg 0) ∧ (ivT tA f_22) ∧ va_P V.1 vwCl [(z 0, .inr (10, mo z 0 pz0_5 pz0_6 pz0_7 pz0_8 pz0_9 pz0_10 pz0_11 pz0_12 pz0_13 pz0_14 pz0_18 pz0_19 pz0_22 pz0_23 pz0_29)), (z 1, aI V 3075 f_22), (z 2, aZ V 2 fz2)] H ∧ va_D A [(z 0, .inr (10, mo z 0 pz0_5 pz0_6 pz0_7 pz0_8 pz0_9 pz0_10 pz0_11 pz0_12 pz0_13 pz0_14 pz0_18 pz0_19 pz0_22 pz0_23 pz0_29)), (z 1, aI V 3075 f_22), (z 2, aZ V 2 fz2)] := ⟨_, rfl, upT (lo := 0) (hi := 10) (a := 53) (n := 1) tf_18 (iv_c (53 : Int32) (a := 53) (b := 53) (by decide)) (by decide) (iv_c (0 : Int32) (by decide)) (by decide +kernel), hP, hD⟩
          refine lv_iconst (v := 0) hx hb dX10_restore_73 (by decide) ?_
          exact fiI hx hb hr hlk hK hP hD hS dX10_restore_74 (Nat.le_of_ble_eq_true rfl) (Nat.le_of_ble_eq_true rfl) (⟨0, f_22, tf_22, (iv_c (0 : Int32) (by decide)), (RW_up hRW (iv_c (53 : Int32) (a := 53) (b := 53) (by decide)) (by decide) ef_22), rfl⟩)
        · have b_23 : iv 0 1024 u_17 := iv_l1 (Int32.not_le.mp c_20) bu_17 (iv_c (1025 : Int32) (a := 1025) (b := 1025) (by decide)) (by decide)
          refine lv_aload_n hx hb dX10_restore_39 rfl (lv_at hl 1 rfl) ?_
          refine va_get (ci := 10) (v := .ref (z 1)) (C := RX10) (T := TX10) (N := 40) hx hb hg inX10 hown hK hP 0 rfl rfl 1 (by decide) (hg _ q_5_225) (fun _ h9 => h9) rfl dX10_restore_40 ?_
          refine lv_iload_n hx hb dX10_restore_43 rfl (lv_at hl 0 rfl) ?_
          refine lv_aload_n hx hb dX10_restore_44 rfl (lv_at hl 1 rfl) ?_
          refine va_get (ci := 10) (v := .ref (z 1)) (C := RX10) (T := TX10) (N := 40) hx hb hg inX10 hown hK hP 0 rfl rfl 1 (by decide) (hg _ q_5_225) (fun _ h9 => h9) rfl dX10_restore_45 ?_
          refine lv_sipush (v := 1025) hx hb dX10_restore_48 (by decide) ?_
          refine lv_iload_n hx hb dX10_restore_51 rfl (lv_at hl 2 rfl) ?_
          refine lv_iconst (v := 1) hx hb dX10_restore_52 (by decide) ?_
          refine lv_iadd hx hb dX10_restore_53 ?_
          refine tpi (y := 1) (by decide +kernel) ?_
          refine lv_imul hx hb dX10_restore_54 ?_
          refine tpi (y := 1025) (by decide +kernel) ?_
          refine lv_iload_n hx hb dX10_restore_55 rfl (lv_at hl 0 rfl) ?_
          refine lv_iadd hx hb dX10_restore_56 ?_
          refine lv_topi (fun x_24 ex_24 => ?_)
          have bx_24 : iv 1025 2049 x_24 := by rw [ex_24]; exact iv_add (iv_c (1025 : Int32) (a := 1025) (b := 1025) (by decide)) b_23 (by decide)
          refine va_iald hx hb hK hP 1 0 rfl rfl (iv_in bx_24 (by decide)) dX10_restore_57 ?_
          refine lv_topi (fun x_25 ex_25 => ?_)
          refine va_iast hx hb hK hP hD hS 1 0 rfl rfl (iv_in b_23 (by decide)) dX10_restore_58 (fun H locs hP hD hS => ?_)
          obtain ⟨f_26, ef_26, tf_26, hP, hD⟩ : ∃ f_26 : Nat → Int32, f_26 = (upd f_18 (u_17 : Int32).toNatClampNeg x_25) ∧ (ivT tA f_26) ∧ va_P V.1 vwCl [(z 0, .inr (10, mo z 0 pz0_5 pz0_6 pz0_7 pz0_8 pz0_9 pz0_10 pz0_11 pz0_12 pz0_13 pz0_14 pz0_18 pz0_19 pz0_22 pz0_23 pz0_29)), (z 1, aI V 3075 f_26), (z 2, aZ V 2 fz2)] H ∧ va_D A [(z 0, .inr (10, mo z 0 pz0_5 pz0_6 pz0_7 pz0_8 pz0_9 pz0_10 pz0_11 pz0_12 pz0_13 pz0_14 pz0_18 pz0_19 pz0_22 pz0_23 pz0_29)), (z 1, aI V 3075 f_26), (z 2, aZ V 2 fz2)] := ⟨_, rfl, tA_cp (c := 0) (d := 1025) tf_18 (show (u_17 : Int32).toInt = ((0 : Nat) : Int) + (u_17 : Int32).toInt from (by omega)) (show (x_24 : Int32).toInt = ((1025 : Nat) : Int) + (u_17 : Int32).toInt from (by have q_x_24 := toInt_add ex_24 (iv_c (1025 : Int32) (a := 1025) (b := 1025) (by decide)) b_23 (by decide); have k_x_24 : (1025 : Int32).toInt = 1025 := (by decide); omega)) b_23 (by decide) (by decide) ex_25, hP, hD⟩
          obtain ⟨x_27, ex_27⟩ : ∃ z9 : Int32, z9 = u_17 + 1 := ⟨_, rfl⟩
          have bx_27 : iv 1 1025 x_27 := by rw [ex_27]; exact iv_add b_23 (iv_c (1 : Int32) (a := 1) (b := 1) (by decide)) (by decide)
          refine lv_iinc (v := x_27) (lv' := [(2, .int x_27), (0, .ref (z 0)), (1, .int 0)]) hx hb dX10_restore_59 hl (k := 0) rfl (by rw [ex_27]; rfl) (by decide) rfl (fun ls hl => ?_)
          refine lv_goto (tgt := 32) hx hb dX10_restore_62 (by decide) ?_
          exact ihn_19 _ _ _ _ (by rw [en_19, ex_27]; exact mu_up b_23 (by decide)) ⟨x_27, f_26, (iv_w bx_27 (by decide)), tf_26, (RST_s inn_19_0 (Or.inl rfl) b_23 (by decide) (show (x_24 : Int32).toInt = ((1025 : Nat) : Int) + (u_17 : Int32).toInt from (by have q_x_24 := toInt_add ex_24 (iv_c (1025 : Int32) (a := 1025) (b := 1025) (by decide)) b_23 (by decide); have k_x_24 : (1025 : Int32).toInt = 1025 := (by decide); omega)) ex_25 ef_26 ex_27), rfl, hP, hD, hS, lv_sub hl [0, 1, 2] rfl⟩
      · have b_28 : iv 0 0 x_15 := iv_q c_16 (iv_c (0 : Int32) (a := 0) (b := 0) (by decide))
        refine lv_bipush (v := (-5)) hx hb dX10_restore_27 (by decide) ?_
        exact fiI hx hb hr hlk hK hP hD hS dX10_restore_29 (Nat.le_of_ble_eq_true rfl) (Nat.le_of_ble_eq_true rfl) (⟨0, fz1, tfz1, (iv_c ((-5) : Int32) (by decide)), hf0, rfl⟩)
    · refine lv_aload_n hx hb dX10_restore_18 rfl (lv_at hl 0 rfl) ?_
      refine va_get (ci := 10) (v := .ref (z 2)) (C := RX10) (T := TX10) (N := 40) hx hb hg inX10 hown hK hP 0 rfl rfl 2 (by decide) (hg _ q_5_226) (fun _ h9 => h9) rfl dX10_restore_19 ?_
      refine lv_iload_n hx hb dX10_restore_22 rfl (lv_at hl 1 rfl) ?_
      refine va_zald hx hb hK hP 2 3 rfl rfl (vin (by decide +kernel)) dX10_restore_23 ?_
      refine lv_topi (fun x_29 ex_29 => ?_)
      refine lv_if_ne (tgt := 30) hx hb dX10_restore_24 (by decide) (fun c_30 => ?_) (fun c_30 => ?_)
      · refine lv_iconst (v := 0) hx hb dX10_restore_30 (by decide) ?_
        refine lv_istore_n (lv' := [(2, .int 0), (0, .ref (z 0)), (1, .int 1)]) hx hb dX10_restore_31 rfl hl (by decide) rfl (fun ls hl => ?_)
        refine loopF (X := fun (n_33 : Nat) (H : Heap) (locs : List Loc) (ls : Array Slot) => ∃ (u_31 : Int32) (f_32 : Nat → Int32), (iv 0 2147483647 u_31) ∧ (ivT tA f_32) ∧ (RST 2050 u_31 f_32) ∧ n_33 = (2147483647 - (u_31 : Int32).toInt).toNat ∧ va_P V.1 vwCl [(z 0, .inr (10, mo z 0 pz0_5 pz0_6 pz0_7 pz0_8 pz0_9 pz0_10 pz0_11 pz0_12 pz0_13 pz0_14 pz0_18 pz0_19 pz0_22 pz0_23 pz0_29)), (z 1, aI V 3075 f_32), (z 2, aZ V 2 fz2)] H ∧ va_D A [(z 0, .inr (10, mo z 0 pz0_5 pz0_6 pz0_7 pz0_8 pz0_9 pz0_10 pz0_11 pz0_12 pz0_13 pz0_14 pz0_18 pz0_19 pz0_22 pz0_23 pz0_29)), (z 1, aI V 3075 f_32), (z 2, aZ V 2 fz2)] ∧ va_S A s.heap H locs ∧ lv_has ls 3 [(2, .int u_31), (0, .ref (z 0)), (1, .int 1)]) (g := fun ls => F0 m 32 ls []) (fun n_33 H locs ls hX ihn_33 => ?_) _ ⟨0, fz1, (iv_c (0 : Int32) (by decide)), tfz1, (RST_0 hf0 (by decide)), rfl, hP, hD, hS, lv_sub hl [0, 1, 2] rfl⟩
        obtain ⟨u_31, f_32, bu_31, tf_32, inn_33_0, en_33, hP, hD, hS, hl⟩ := hX
        refine lv_iload_n hx hb dX10_restore_32 rfl (lv_at hl 0 rfl) ?_
        refine lv_sipush (v := 1025) hx hb dX10_restore_33 (by decide) ?_
        refine lv_icmp_ge (tgt := 65) hx hb dX10_restore_36 (by decide) (fun c_34 => ?_) (fun c_34 => ?_)
        · have b_35 : iv 1025 2147483647 u_31 := iv_e2 c_34 (iv_c (1025 : Int32) (a := 1025) (b := 1025) (by decide)) bu_31 (by decide)
          have hRW := RST_e inn_33_0 (Or.inr rfl) (Int32.not_lt.mpr c_34)
          refine lv_aload_n hx hb dX10_restore_65 rfl (lv_at hl 1 rfl) ?_
          refine va_get (ci := 10) (v := .ref (z 1)) (C := RX10) (T := TX10) (N := 40) hx hb hg inX10 hown hK hP 0 rfl rfl 1 (by decide) (hg _ q_5_225) (fun _ h9 => h9) rfl dX10_restore_66 ?_
          refine lv_bipush (v := 53) hx hb dX10_restore_69 (by decide) ?_
          refine lv_iconst (v := 0) hx hb dX10_restore_71 (by decide) ?_
          refine va_iast hx hb hK hP hD hS 1 0 rfl rfl (vin (by decide +kernel)) dX10_restore_72 (fun H locs hP hD hS => ?_)
          obtain ⟨f_36, ef_36, tf_36, hP, hD⟩ : ∃ f_36 : Nat → Int32, f_36 = (upd f_32 (53 : Int32).toNatClampNeg 0) ∧ (ivT tA f_36) ∧ va_P V.1 vwCl [(z 0, .inr (10, mo z 0 pz0_5 pz0_6 pz0_7 pz0_8 pz0_9 pz0_10 pz0_11 pz0_12 pz0_13 pz0_14 pz0_18 pz0_19 pz0_22 pz0_23 pz0_29)), (z 1, aI V 3075 f_36), (z 2, aZ V 2 fz2)] H ∧ va_D A [(z 0, .inr (10, mo z 0 pz0_5 pz0_6 pz0_7 pz0_8 pz0_9 pz0_10 pz0_11 pz0_12 pz0_13 pz0_14 pz0_18 pz0_19 pz0_22 pz0_23 pz0_29)), (z 1, aI V 3075 f_36), (z 2, aZ V 2 fz2)] := ⟨_, rfl, upT (lo := 0) (hi := 10) (a := 53) (n := 1) tf_32 (iv_c (53 : Int32) (a := 53) (b := 53) (by decide)) (by decide) (iv_c (0 : Int32) (by decide)) (by decide +kernel), hP, hD⟩
          refine lv_iconst (v := 0) hx hb dX10_restore_73 (by decide) ?_
          exact fiI hx hb hr hlk hK hP hD hS dX10_restore_74 (Nat.le_of_ble_eq_true rfl) (Nat.le_of_ble_eq_true rfl) (⟨0, f_36, tf_36, (iv_c (0 : Int32) (by decide)), (RW_up hRW (iv_c (53 : Int32) (a := 53) (b := 53) (by decide)) (by decide) ef_36), rfl⟩)
        · have b_37 : iv 0 1024 u_31 := iv_l1 (Int32.not_le.mp c_34) bu_31 (iv_c (1025 : Int32) (a := 1025) (b := 1025) (by decide)) (by decide)
          refine lv_aload_n hx hb dX10_restore_39 rfl (lv_at hl 1 rfl) ?_
          refine va_get (ci := 10) (v := .ref (z 1)) (C := RX10) (T := TX10) (N := 40) hx hb hg inX10 hown hK hP 0 rfl rfl 1 (by decide) (hg _ q_5_225) (fun _ h9 => h9) rfl dX10_restore_40 ?_
          refine lv_iload_n hx hb dX10_restore_43 rfl (lv_at hl 0 rfl) ?_
          refine lv_aload_n hx hb dX10_restore_44 rfl (lv_at hl 1 rfl) ?_
          refine va_get (ci := 10) (v := .ref (z 1)) (C := RX10) (T := TX10) (N := 40) hx hb hg inX10 hown hK hP 0 rfl rfl 1 (by decide) (hg _ q_5_225) (fun _ h9 => h9) rfl dX10_restore_45 ?_
          refine lv_sipush (v := 1025) hx hb dX10_restore_48 (by decide) ?_
          refine lv_iload_n hx hb dX10_restore_51 rfl (lv_at hl 2 rfl) ?_
          refine lv_iconst (v := 1) hx hb dX10_restore_52 (by decide) ?_
          refine lv_iadd hx hb dX10_restore_53 ?_
          refine tpi (y := 2) (by decide +kernel) ?_
          refine lv_imul hx hb dX10_restore_54 ?_
          refine tpi (y := 2050) (by decide +kernel) ?_
          refine lv_iload_n hx hb dX10_restore_55 rfl (lv_at hl 0 rfl) ?_
          refine lv_iadd hx hb dX10_restore_56 ?_
          refine lv_topi (fun x_38 ex_38 => ?_)
          have bx_38 : iv 2050 3074 x_38 := by rw [ex_38]; exact iv_add (iv_c (2050 : Int32) (a := 2050) (b := 2050) (by decide)) b_37 (by decide)
          refine va_iald hx hb hK hP 1 0 rfl rfl (iv_in bx_38 (by decide)) dX10_restore_57 ?_
          refine lv_topi (fun x_39 ex_39 => ?_)
          refine va_iast hx hb hK hP hD hS 1 0 rfl rfl (iv_in b_37 (by decide)) dX10_restore_58 (fun H locs hP hD hS => ?_)
          obtain ⟨f_40, ef_40, tf_40, hP, hD⟩ : ∃ f_40 : Nat → Int32, f_40 = (upd f_32 (u_31 : Int32).toNatClampNeg x_39) ∧ (ivT tA f_40) ∧ va_P V.1 vwCl [(z 0, .inr (10, mo z 0 pz0_5 pz0_6 pz0_7 pz0_8 pz0_9 pz0_10 pz0_11 pz0_12 pz0_13 pz0_14 pz0_18 pz0_19 pz0_22 pz0_23 pz0_29)), (z 1, aI V 3075 f_40), (z 2, aZ V 2 fz2)] H ∧ va_D A [(z 0, .inr (10, mo z 0 pz0_5 pz0_6 pz0_7 pz0_8 pz0_9 pz0_10 pz0_11 pz0_12 pz0_13 pz0_14 pz0_18 pz0_19 pz0_22 pz0_23 pz0_29)), (z 1, aI V 3075 f_40), (z 2, aZ V 2 fz2)] := ⟨_, rfl, tA_cp (c := 0) (d := 2050) tf_32 (show (u_31 : Int32).toInt = ((0 : Nat) : Int) + (u_31 : Int32).toInt from (by omega)) (show (x_38 : Int32).toInt = ((2050 : Nat) : Int) + (u_31 : Int32).toInt from (by have q_x_38 := toInt_add ex_38 (iv_c (2050 : Int32) (a := 2050) (b := 2050) (by decide)) b_37 (by decide); have k_x_38 : (2050 : Int32).toInt = 2050 := (by decide); omega)) b_37 (by decide) (by decide) ex_39, hP, hD⟩
          obtain ⟨x_41, ex_41⟩ : ∃ z9 : Int32, z9 = u_31 + 1 := ⟨_, rfl⟩
          have bx_41 : iv 1 1025 x_41 := by rw [ex_41]; exact iv_add b_37 (iv_c (1 : Int32) (a := 1) (b := 1) (by decide)) (by decide)
          refine lv_iinc (v := x_41) (lv' := [(2, .int x_41), (0, .ref (z 0)), (1, .int 1)]) hx hb dX10_restore_59 hl (k := 0) rfl (by rw [ex_41]; rfl) (by decide) rfl (fun ls hl => ?_)
          refine lv_goto (tgt := 32) hx hb dX10_restore_62 (by decide) ?_
          exact ihn_33 _ _ _ _ (by rw [en_33, ex_41]; exact mu_up b_37 (by decide)) ⟨x_41, f_40, (iv_w bx_41 (by decide)), tf_40, (RST_s inn_33_0 (Or.inr rfl) b_37 (by decide) (show (x_38 : Int32).toInt = ((2050 : Nat) : Int) + (u_31 : Int32).toInt from (by have q_x_38 := toInt_add ex_38 (iv_c (2050 : Int32) (a := 2050) (b := 2050) (by decide)) b_37 (by decide); have k_x_38 : (2050 : Int32).toInt = 2050 := (by decide); omega)) ex_39 ef_40 ex_41), rfl, hP, hD, hS, lv_sub hl [0, 1, 2] rfl⟩
      · have b_42 : iv 0 0 x_29 := iv_q c_30 (iv_c (0 : Int32) (a := 0) (b := 0) (by decide))
        refine lv_bipush (v := (-5)) hx hb dX10_restore_27 (by decide) ?_
        exact fiI hx hb hr hlk hK hP hD hS dX10_restore_29 (Nat.le_of_ble_eq_true rfl) (Nat.le_of_ble_eq_true rfl) (⟨0, fz1, tfz1, (iv_c ((-5) : Int32) (by decide)), hf0, rfl⟩)
  · have b_43 : iv 0 0 r_2 := iv_q c_6 (iv_c (0 : Int32) (a := 0) (b := 0) (by decide))
    refine lv_bipush (v := (-2)) hx hb dX10_restore_15 (by decide) ?_
    exact fiI hx hb hr hlk hK hP hD hS dX10_restore_17 (Nat.le_of_ble_eq_true rfl) (Nat.le_of_ble_eq_true rfl) (⟨0, fz1, tfz1, (iv_c ((-2) : Int32) (by decide)), hf0, rfl⟩)
theorem dX10_count_0 : decode cX10_count 0 = .ok (.aload_n 0, 1) := by decide +kernel
theorem dX10_count_1 : decode cX10_count 1 = .ok (.iconst 0, 1) := by decide +kernel
theorem dX10_count_2 : decode cX10_count 2 = .ok (.putfield 1, 3) := by decide +kernel
theorem dX10_count_5 : decode cX10_count 5 = .ok (.iload_n 1, 1) := by decide +kernel
theorem dX10_count_6 : decode cX10_count 6 = .ok (.tableswitch 128 0 9 #[54, 61, 68, 75, 83, 92, 100, 108, 116, 121], 54) := by decide +kernel
theorem dX10_count_60 : decode cX10_count 60 = .ok (.aload_n 0, 1) := by decide +kernel
theorem dX10_count_61 : decode cX10_count 61 = .ok (.getfield 13, 3) := by decide +kernel
theorem dX10_count_64 : decode cX10_count 64 = .ok (.iconst 1, 1) := by decide +kernel
theorem dX10_count_65 : decode cX10_count 65 = .ok (.iaload, 1) := by decide +kernel
theorem dX10_count_66 : decode cX10_count 66 = .ok (.ireturn, 1) := by decide +kernel
theorem dX10_count_67 : decode cX10_count 67 = .ok (.aload_n 0, 1) := by decide +kernel
theorem dX10_count_68 : decode cX10_count 68 = .ok (.getfield 13, 3) := by decide +kernel
theorem dX10_count_71 : decode cX10_count 71 = .ok (.iconst 2, 1) := by decide +kernel
theorem dX10_count_72 : decode cX10_count 72 = .ok (.iaload, 1) := by decide +kernel
theorem dX10_count_73 : decode cX10_count 73 = .ok (.ireturn, 1) := by decide +kernel
theorem dX10_count_74 : decode cX10_count 74 = .ok (.aload_n 0, 1) := by decide +kernel
theorem dX10_count_75 : decode cX10_count 75 = .ok (.getfield 13, 3) := by decide +kernel
theorem dX10_count_78 : decode cX10_count 78 = .ok (.iconst 3, 1) := by decide +kernel
theorem dX10_count_79 : decode cX10_count 79 = .ok (.iaload, 1) := by decide +kernel
theorem dX10_count_80 : decode cX10_count 80 = .ok (.ireturn, 1) := by decide +kernel
theorem dX10_count_81 : decode cX10_count 81 = .ok (.aload_n 0, 1) := by decide +kernel
theorem dX10_count_82 : decode cX10_count 82 = .ok (.getfield 13, 3) := by decide +kernel
theorem dX10_count_85 : decode cX10_count 85 = .ok (.bipush 51, 2) := by decide +kernel
theorem dX10_count_87 : decode cX10_count 87 = .ok (.iaload, 1) := by decide +kernel
theorem dX10_count_88 : decode cX10_count 88 = .ok (.ireturn, 1) := by decide +kernel
theorem dX10_count_89 : decode cX10_count 89 = .ok (.aload_n 0, 1) := by decide +kernel
theorem dX10_count_90 : decode cX10_count 90 = .ok (.aload_n 0, 1) := by decide +kernel
theorem dX10_count_91 : decode cX10_count 91 = .ok (.invokevirtual 269, 3) := by decide +kernel
theorem dX10_count_94 : decode cX10_count 94 = .ok (.invokevirtual 326, 3) := by decide +kernel
theorem dX10_count_97 : decode cX10_count 97 = .ok (.ireturn, 1) := by decide +kernel
theorem dX10_count_98 : decode cX10_count 98 = .ok (.aload_n 0, 1) := by decide +kernel
theorem dX10_count_99 : decode cX10_count 99 = .ok (.getfield 13, 3) := by decide +kernel
theorem dX10_count_102 : decode cX10_count 102 = .ok (.bipush 50, 2) := by decide +kernel
theorem dX10_count_104 : decode cX10_count 104 = .ok (.iaload, 1) := by decide +kernel
theorem dX10_count_105 : decode cX10_count 105 = .ok (.ireturn, 1) := by decide +kernel
theorem dX10_count_106 : decode cX10_count 106 = .ok (.aload_n 0, 1) := by decide +kernel
theorem dX10_count_107 : decode cX10_count 107 = .ok (.getfield 13, 3) := by decide +kernel
theorem dX10_count_110 : decode cX10_count 110 = .ok (.bipush 52, 2) := by decide +kernel
theorem dX10_count_112 : decode cX10_count 112 = .ok (.iaload, 1) := by decide +kernel
theorem dX10_count_113 : decode cX10_count 113 = .ok (.ireturn, 1) := by decide +kernel
theorem dX10_count_114 : decode cX10_count 114 = .ok (.aload_n 0, 1) := by decide +kernel
theorem dX10_count_115 : decode cX10_count 115 = .ok (.getfield 13, 3) := by decide +kernel
theorem dX10_count_118 : decode cX10_count 118 = .ok (.bipush 53, 2) := by decide +kernel
theorem dX10_count_120 : decode cX10_count 120 = .ok (.iaload, 1) := by decide +kernel
theorem dX10_count_121 : decode cX10_count 121 = .ok (.ireturn, 1) := by decide +kernel
theorem dX10_count_122 : decode cX10_count 122 = .ok (.aload_n 0, 1) := by decide +kernel
theorem dX10_count_123 : decode cX10_count 123 = .ok (.getfield 97, 3) := by decide +kernel
theorem dX10_count_126 : decode cX10_count 126 = .ok (.ireturn, 1) := by decide +kernel
theorem dX10_count_127 : decode cX10_count 127 = .ok (.aload_n 0, 1) := by decide +kernel
theorem dX10_count_128 : decode cX10_count 128 = .ok (.getfield 13, 3) := by decide +kernel
theorem dX10_count_131 : decode cX10_count 131 = .ok (.iconst 0, 1) := by decide +kernel
theorem dX10_count_132 : decode cX10_count 132 = .ok (.iaload, 1) := by decide +kernel
theorem dX10_count_133 : decode cX10_count 133 = .ok (.ireturn, 1) := by decide +kernel
theorem dX10_count_134 : decode cX10_count 134 = .ok (.iconst (-1), 1) := by decide +kernel
theorem dX10_count_135 : decode cX10_count 135 = .ok (.ireturn, 1) := by decide +kernel
set_option maxHeartbeats 4000000 in
set_option maxRecDepth 100000 in
theorem k_X10_count_0 (l : Launch) (V : GV) (z : Nat → Nat) (a1 : Int32) (pz0_0 : Int32) (pz0_5 : Int32) (pz0_6 : Int32) (pz0_7 : Int32) (pz0_8 : Int32) (pz0_9 : Int32) (pz0_10 : Int32) (pz0_11 : Int32) (pz0_12 : Int32) (pz0_13 : Int32) (pz0_14 : Int32) (pz0_18 : Int32) (pz0_19 : Int32) (pz0_22 : Int32) (pz0_23 : Int32) (pz0_29 : Int32) (fz1 : Nat → Int32) (bpz0_5 : iv 0 900 pz0_5) (bpz0_6 : iv 0 900 pz0_6) (bpz0_7 : iv 0 900 pz0_7) (bpz0_8 : iv 0 900 pz0_8) (bpz0_10 : iv 0 999 pz0_10) (bpz0_11 : iv 0 4 pz0_11) (bpz0_12 : iv 0 900 pz0_12) (bpz0_13 : iv 0 4 pz0_13) (bpz0_14 : iv (-1) 900 pz0_14) (bpz0_18 : iv 0 2 pz0_18) (bpz0_22 : iv 0 9999 pz0_22) (bpz0_29 : iv 0 10000 pz0_29) (tfz1 : ivT tA fz1) : Ct l V yX10_count (.code yX10_count cX10_count 2 (some .int)) 4 [.ref (z 0), .int a1] [(z 0, .inr (10, mo z pz0_0 pz0_5 pz0_6 pz0_7 pz0_8 pz0_9 pz0_10 pz0_11 pz0_12 pz0_13 pz0_14 pz0_18 pz0_19 pz0_22 pz0_23 pz0_29)), (z 1, aI V 3075 fz1)] 0 0 (QI V (fun (r : Int32) (w : va_W) => ∃ (v0 : Int32), w = [(z 0, .inr (10, mo z v0 pz0_5 pz0_6 pz0_7 pz0_8 pz0_9 pz0_10 pz0_11 pz0_12 pz0_13 pz0_14 pz0_18 pz0_19 pz0_22 pz0_23 pz0_29)), (z 1, aI V 3075 fz1)])) := by
  refine Ct.of (by decide) (Nat.le_of_ble_eq_true rfl) (fun p e s m below meth c A ls hx hb hr hml hown hlk hnm hg hP hK hD hE hA hS hl => ?_)
  have hl : lv_has ls 2 [(0, .ref (z 0)), (1, .int a1)] := hl
  refine lv_aload_n hx hb dX10_count_0 rfl (lv_at hl 0 rfl) ?_
  refine lv_iconst (v := 0) hx hb dX10_count_1 (by decide) ?_
  refine va_put (ci := 10) (v := .int 0) (ty := .int) (C := RX10) (T := TX10) (N := 40) hx hb hg inX10 tyX10 tyX10_ok nmX10 hown hK hP hD hS 0 rfl rfl 0 (by decide) (hg _ q_5_224) (fun _ h9 => h9) rfl (by decide +kernel) rfl rfl (Nat.le_of_ble_eq_true rfl) dX10_count_2 (fun H locs hP hD hS => ?_)
  have hP : va_P V.1 vwCl [(z 0, .inr (10, mo z 0 pz0_5 pz0_6 pz0_7 pz0_8 pz0_9 pz0_10 pz0_11 pz0_12 pz0_13 pz0_14 pz0_18 pz0_19 pz0_22 pz0_23 pz0_29)), (z 1, aI V 3075 fz1)] H := hP
  have hD : va_D A [(z 0, .inr (10, mo z 0 pz0_5 pz0_6 pz0_7 pz0_8 pz0_9 pz0_10 pz0_11 pz0_12 pz0_13 pz0_14 pz0_18 pz0_19 pz0_22 pz0_23 pz0_29)), (z 1, aI V 3075 fz1)] := hD
  refine lv_iload_n hx hb dX10_count_5 rfl (lv_at hl 1 rfl) ?_
  by_cases c_1 : a1 = 0
  · refine lv_tableIn (off := 54) (tgt := 60) hx hb dX10_count_6 (by rw [c_1]; decide) (by rw [c_1]; decide) (by rw [c_1]; rfl) (by decide) ?_
    refine lv_aload_n hx hb dX10_count_60 rfl (lv_at hl 0 rfl) ?_
    refine va_get (ci := 10) (v := .ref (z 1)) (C := RX10) (T := TX10) (N := 40) hx hb hg inX10 hown hK hP 0 rfl rfl 1 (by decide) (hg _ q_5_225) (fun _ h9 => h9) rfl dX10_count_61 ?_
    refine lv_iconst (v := 1) hx hb dX10_count_64 (by decide) ?_
    refine va_iald hx hb hK hP 1 0 rfl rfl (vin (by decide +kernel)) dX10_count_65 ?_
    refine lv_topi (fun x_2 ex_2 => ?_)
    have bx_2 : iv 0 4 x_2 := by rw [ex_2]; exact rdT (a := 1) (n := 1) tfz1 (iv_c (1 : Int32) (a := 1) (b := 1) (by decide)) (by decide) (by decide +kernel)
    exact fiI hx hb hr hlk hK hP hD hS dX10_count_66 (Nat.le_of_ble_eq_true rfl) (Nat.le_of_ble_eq_true rfl) (⟨0, rfl⟩)
  · by_cases c_3 : a1 = 1
    · refine lv_tableIn (off := 61) (tgt := 67) hx hb dX10_count_6 (by rw [c_3]; decide) (by rw [c_3]; decide) (by rw [c_3]; rfl) (by decide) ?_
      refine lv_aload_n hx hb dX10_count_67 rfl (lv_at hl 0 rfl) ?_
      refine va_get (ci := 10) (v := .ref (z 1)) (C := RX10) (T := TX10) (N := 40) hx hb hg inX10 hown hK hP 0 rfl rfl 1 (by decide) (hg _ q_5_225) (fun _ h9 => h9) rfl dX10_count_68 ?_
      refine lv_iconst (v := 2) hx hb dX10_count_71 (by decide) ?_
      refine va_iald hx hb hK hP 1 0 rfl rfl (vin (by decide +kernel)) dX10_count_72 ?_
      refine lv_topi (fun x_4 ex_4 => ?_)
      have bx_4 : iv 0 4 x_4 := by rw [ex_4]; exact rdT (a := 2) (n := 1) tfz1 (iv_c (2 : Int32) (a := 2) (b := 2) (by decide)) (by decide) (by decide +kernel)
      exact fiI hx hb hr hlk hK hP hD hS dX10_count_73 (Nat.le_of_ble_eq_true rfl) (Nat.le_of_ble_eq_true rfl) (⟨0, rfl⟩)
    · by_cases c_5 : a1 = 2
      · refine lv_tableIn (off := 68) (tgt := 74) hx hb dX10_count_6 (by rw [c_5]; decide) (by rw [c_5]; decide) (by rw [c_5]; rfl) (by decide) ?_
        refine lv_aload_n hx hb dX10_count_74 rfl (lv_at hl 0 rfl) ?_
        refine va_get (ci := 10) (v := .ref (z 1)) (C := RX10) (T := TX10) (N := 40) hx hb hg inX10 hown hK hP 0 rfl rfl 1 (by decide) (hg _ q_5_225) (fun _ h9 => h9) rfl dX10_count_75 ?_
        refine lv_iconst (v := 3) hx hb dX10_count_78 (by decide) ?_
        refine va_iald hx hb hK hP 1 0 rfl rfl (vin (by decide +kernel)) dX10_count_79 ?_
        refine lv_topi (fun x_6 ex_6 => ?_)
        have bx_6 : iv 0 8 x_6 := by rw [ex_6]; exact rdT (a := 3) (n := 1) tfz1 (iv_c (3 : Int32) (a := 3) (b := 3) (by decide)) (by decide) (by decide +kernel)
        exact fiI hx hb hr hlk hK hP hD hS dX10_count_80 (Nat.le_of_ble_eq_true rfl) (Nat.le_of_ble_eq_true rfl) (⟨0, rfl⟩)
      · by_cases c_7 : a1 = 3
        · refine lv_tableIn (off := 75) (tgt := 81) hx hb dX10_count_6 (by rw [c_7]; decide) (by rw [c_7]; decide) (by rw [c_7]; rfl) (by decide) ?_
          refine lv_aload_n hx hb dX10_count_81 rfl (lv_at hl 0 rfl) ?_
          refine va_get (ci := 10) (v := .ref (z 1)) (C := RX10) (T := TX10) (N := 40) hx hb hg inX10 hown hK hP 0 rfl rfl 1 (by decide) (hg _ q_5_225) (fun _ h9 => h9) rfl dX10_count_82 ?_
          refine lv_bipush (v := 51) hx hb dX10_count_85 (by decide) ?_
          refine va_iald hx hb hK hP 1 0 rfl rfl (vin (by decide +kernel)) dX10_count_87 ?_
          refine lv_topi (fun x_8 ex_8 => ?_)
          have bx_8 : iv 0 9 x_8 := by rw [ex_8]; exact rdT (a := 51) (n := 1) tfz1 (iv_c (51 : Int32) (a := 51) (b := 51) (by decide)) (by decide) (by decide +kernel)
          exact fiI hx hb hr hlk hK hP hD hS dX10_count_88 (Nat.le_of_ble_eq_true rfl) (Nat.le_of_ble_eq_true rfl) (⟨0, rfl⟩)
        · by_cases c_9 : a1 = 4
          · refine lv_tableIn (off := 83) (tgt := 89) hx hb dX10_count_6 (by rw [c_9]; decide) (by rw [c_9]; decide) (by rw [c_9]; rfl) (by decide) ?_
            refine lv_aload_n hx hb dX10_count_89 rfl (lv_at hl 0 rfl) ?_
            refine lv_aload_n hx hb dX10_count_90 rfl (lv_at hl 0 rfl) ?_
            refine jnI (wr := []) (rnV (rest := [.ref (z 0)]) ⟨hx, hb, hml, hown, hg⟩ (k_X10_standNow_0 l V z 0 pz0_5 pz0_6 pz0_7 pz0_8 pz0_9 pz0_10 pz0_11 pz0_12 pz0_13 pz0_14 pz0_18 pz0_19 pz0_22 pz0_23 pz0_29 fz1 bpz0_5 bpz0_6 bpz0_7 bpz0_8 bpz0_10 bpz0_11 bpz0_12 bpz0_13 bpz0_14 bpz0_18 bpz0_22 bpz0_29 tfz1) mt_X10_standNow q_7_11 ⟨Nat.le_of_ble_eq_true rfl, Nat.le_of_ble_eq_true rfl⟩ hK hP hD hS hA hE [0, 1] rfl rfl 0 rfl rfl rfl rfl hl.1 rfl (Nat.le_of_ble_eq_true rfl) dX10_count_91 ⟨Nat.le_of_ble_eq_true rfl, Nat.le_of_ble_eq_true rfl⟩) hP hD hS hA [0, 1] [] rfl rfl rfl (by decide) (fun r_10 w H locs hw hP hD hS => ?_)
            obtain ⟨br_10, er_10, rfl⟩ := hw
            have hP : va_P V.1 vwCl [(z 0, .inr (10, mo z 0 pz0_5 pz0_6 pz0_7 pz0_8 pz0_9 pz0_10 pz0_11 pz0_12 pz0_13 pz0_14 pz0_18 pz0_19 pz0_22 pz0_23 pz0_29)), (z 1, aI V 3075 fz1)] H := hP
            have hD : va_D A [(z 0, .inr (10, mo z 0 pz0_5 pz0_6 pz0_7 pz0_8 pz0_9 pz0_10 pz0_11 pz0_12 pz0_13 pz0_14 pz0_18 pz0_19 pz0_22 pz0_23 pz0_29)), (z 1, aI V 3075 fz1)] := hD
            refine jnI (wr := []) (rnV (rest := []) ⟨hx, hb, hml, hown, hg⟩ (k_X10_sumIn_0 l V z r_10 0 pz0_5 pz0_6 pz0_7 pz0_8 pz0_9 pz0_10 pz0_11 pz0_12 pz0_13 pz0_14 pz0_18 pz0_19 pz0_22 pz0_23 pz0_29 fz1 br_10 bpz0_5 bpz0_6 bpz0_7 bpz0_8 bpz0_10 bpz0_11 bpz0_12 bpz0_13 bpz0_14 bpz0_18 bpz0_22 bpz0_29 tfz1) mt_X10_sumIn q_7_131 ⟨Nat.le_of_ble_eq_true rfl, Nat.le_of_ble_eq_true rfl⟩ hK hP hD hS hA hE [0, 1] rfl rfl 0 rfl rfl rfl rfl hl.1 rfl (Nat.le_of_ble_eq_true rfl) dX10_count_94 ⟨Nat.le_of_ble_eq_true rfl, Nat.le_of_ble_eq_true rfl⟩) hP hD hS hA [0, 1] [] rfl rfl rfl (by decide) (fun r_11 w H locs hw hP hD hS => ?_)
            subst hw
            have hP : va_P V.1 vwCl [(z 0, .inr (10, mo z 0 pz0_5 pz0_6 pz0_7 pz0_8 pz0_9 pz0_10 pz0_11 pz0_12 pz0_13 pz0_14 pz0_18 pz0_19 pz0_22 pz0_23 pz0_29)), (z 1, aI V 3075 fz1)] H := hP
            have hD : va_D A [(z 0, .inr (10, mo z 0 pz0_5 pz0_6 pz0_7 pz0_8 pz0_9 pz0_10 pz0_11 pz0_12 pz0_13 pz0_14 pz0_18 pz0_19 pz0_22 pz0_23 pz0_29)), (z 1, aI V 3075 fz1)] := hD
            exact fiI hx hb hr hlk hK hP hD hS dX10_count_97 (Nat.le_of_ble_eq_true rfl) (Nat.le_of_ble_eq_true rfl) (⟨0, rfl⟩)
          · by_cases c_12 : a1 = 5
            · refine lv_tableIn (off := 92) (tgt := 98) hx hb dX10_count_6 (by rw [c_12]; decide) (by rw [c_12]; decide) (by rw [c_12]; rfl) (by decide) ?_
              refine lv_aload_n hx hb dX10_count_98 rfl (lv_at hl 0 rfl) ?_
              refine va_get (ci := 10) (v := .ref (z 1)) (C := RX10) (T := TX10) (N := 40) hx hb hg inX10 hown hK hP 0 rfl rfl 1 (by decide) (hg _ q_5_225) (fun _ h9 => h9) rfl dX10_count_99 ?_
              refine lv_bipush (v := 50) hx hb dX10_count_102 (by decide) ?_
              refine va_iald hx hb hK hP 1 0 rfl rfl (vin (by decide +kernel)) dX10_count_104 ?_
              refine lv_topi (fun x_13 ex_13 => ?_)
              have bx_13 : iv 0 15 x_13 := by rw [ex_13]; exact rdT (a := 50) (n := 1) tfz1 (iv_c (50 : Int32) (a := 50) (b := 50) (by decide)) (by decide) (by decide +kernel)
              exact fiI hx hb hr hlk hK hP hD hS dX10_count_105 (Nat.le_of_ble_eq_true rfl) (Nat.le_of_ble_eq_true rfl) (⟨0, rfl⟩)
            · by_cases c_14 : a1 = 6
              · refine lv_tableIn (off := 100) (tgt := 106) hx hb dX10_count_6 (by rw [c_14]; decide) (by rw [c_14]; decide) (by rw [c_14]; rfl) (by decide) ?_
                refine lv_aload_n hx hb dX10_count_106 rfl (lv_at hl 0 rfl) ?_
                refine va_get (ci := 10) (v := .ref (z 1)) (C := RX10) (T := TX10) (N := 40) hx hb hg inX10 hown hK hP 0 rfl rfl 1 (by decide) (hg _ q_5_225) (fun _ h9 => h9) rfl dX10_count_107 ?_
                refine lv_bipush (v := 52) hx hb dX10_count_110 (by decide) ?_
                refine va_iald hx hb hK hP 1 0 rfl rfl (vin (by decide +kernel)) dX10_count_112 ?_
                refine lv_topi (fun x_15 ex_15 => ?_)
                exact fiI hx hb hr hlk hK hP hD hS dX10_count_113 (Nat.le_of_ble_eq_true rfl) (Nat.le_of_ble_eq_true rfl) (⟨0, rfl⟩)
              · by_cases c_16 : a1 = 7
                · refine lv_tableIn (off := 108) (tgt := 114) hx hb dX10_count_6 (by rw [c_16]; decide) (by rw [c_16]; decide) (by rw [c_16]; rfl) (by decide) ?_
                  refine lv_aload_n hx hb dX10_count_114 rfl (lv_at hl 0 rfl) ?_
                  refine va_get (ci := 10) (v := .ref (z 1)) (C := RX10) (T := TX10) (N := 40) hx hb hg inX10 hown hK hP 0 rfl rfl 1 (by decide) (hg _ q_5_225) (fun _ h9 => h9) rfl dX10_count_115 ?_
                  refine lv_bipush (v := 53) hx hb dX10_count_118 (by decide) ?_
                  refine va_iald hx hb hK hP 1 0 rfl rfl (vin (by decide +kernel)) dX10_count_120 ?_
                  refine lv_topi (fun x_17 ex_17 => ?_)
                  have bx_17 : iv 0 10 x_17 := by rw [ex_17]; exact rdT (a := 53) (n := 1) tfz1 (iv_c (53 : Int32) (a := 53) (b := 53) (by decide)) (by decide) (by decide +kernel)
                  exact fiI hx hb hr hlk hK hP hD hS dX10_count_121 (Nat.le_of_ble_eq_true rfl) (Nat.le_of_ble_eq_true rfl) (⟨0, rfl⟩)
                · by_cases c_18 : a1 = 8
                  · refine lv_tableIn (off := 116) (tgt := 122) hx hb dX10_count_6 (by rw [c_18]; decide) (by rw [c_18]; decide) (by rw [c_18]; rfl) (by decide) ?_
                    refine lv_aload_n hx hb dX10_count_122 rfl (lv_at hl 0 rfl) ?_
                    refine va_get (ci := 10) (v := .int pz0_5) (C := RX10) (T := TX10) (N := 40) hx hb hg inX10 hown hK hP 0 rfl rfl 5 (by decide) (hg _ q_5_229) (fun _ h9 => h9) rfl dX10_count_123 ?_
                    exact fiI hx hb hr hlk hK hP hD hS dX10_count_126 (Nat.le_of_ble_eq_true rfl) (Nat.le_of_ble_eq_true rfl) (⟨0, rfl⟩)
                  · by_cases c_19 : a1 = 9
                    · refine lv_tableIn (off := 121) (tgt := 127) hx hb dX10_count_6 (by rw [c_19]; decide) (by rw [c_19]; decide) (by rw [c_19]; rfl) (by decide) ?_
                      refine lv_aload_n hx hb dX10_count_127 rfl (lv_at hl 0 rfl) ?_
                      refine va_get (ci := 10) (v := .ref (z 1)) (C := RX10) (T := TX10) (N := 40) hx hb hg inX10 hown hK hP 0 rfl rfl 1 (by decide) (hg _ q_5_225) (fun _ h9 => h9) rfl dX10_count_128 ?_
                      refine lv_iconst (v := 0) hx hb dX10_count_131 (by decide) ?_
                      refine va_iald hx hb hK hP 1 0 rfl rfl (vin (by decide +kernel)) dX10_count_132 ?_
                      refine lv_topi (fun x_20 ex_20 => ?_)
                      exact fiI hx hb hr hlk hK hP hD hS dX10_count_133 (Nat.le_of_ble_eq_true rfl) (Nat.le_of_ble_eq_true rfl) (⟨0, rfl⟩)
                    · refine lv_tableOut (tgt := 134) hx hb dX10_count_6 ((Int.lt_or_le a1.toInt 0).elim Or.inl (fun c_21 => Or.inr (by simp only [tI_eq, (by decide : (0 : Int32).toInt = 0), (by decide : (1 : Int32).toInt = 1), (by decide : (2 : Int32).toInt = 2), (by decide : (3 : Int32).toInt = 3), (by decide : (4 : Int32).toInt = 4), (by decide : (5 : Int32).toInt = 5), (by decide : (6 : Int32).toInt = 6), (by decide : (7 : Int32).toInt = 7), (by decide : (8 : Int32).toInt = 8), (by decide : (9 : Int32).toInt = 9)] at c_1 c_3 c_5 c_7 c_9 c_12 c_14 c_16 c_18 c_19; omega))) (by decide) ?_
                      refine lv_iconst (v := (-1)) hx hb dX10_count_134 (by decide) ?_
                      exact fiI hx hb hr hlk hK hP hD hS dX10_count_135 (Nat.le_of_ble_eq_true rfl) (Nat.le_of_ble_eq_true rfl) (⟨0, rfl⟩)
