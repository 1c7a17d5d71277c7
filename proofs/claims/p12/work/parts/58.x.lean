theorem dX10_cut_0 : decode cX10_cut 0 = .ok (.iload_n 2, 1) := by decide +kernel
theorem dX10_cut_1 : decode cX10_cut 1 = .ok (.ifCond .ne 10, 3) := by decide +kernel
theorem dX10_cut_11 : decode cX10_cut 11 = .ok (.iload_n 2, 1) := by decide +kernel
theorem dX10_cut_12 : decode cX10_cut 12 = .ok (.iconst 1, 1) := by decide +kernel
theorem dX10_cut_13 : decode cX10_cut 13 = .ok (.if_icmp .ne 10, 3) := by decide +kernel
theorem dX10_cut_23 : decode cX10_cut 23 = .ok (.iload_n 2, 1) := by decide +kernel
theorem dX10_cut_24 : decode cX10_cut 24 = .ok (.iconst 2, 1) := by decide +kernel
theorem dX10_cut_25 : decode cX10_cut 25 = .ok (.if_icmp .ne 9, 3) := by decide +kernel
theorem dX10_cut_34 : decode cX10_cut 34 = .ok (.lload_n 0, 1) := by decide +kernel
theorem dX10_cut_35 : decode cX10_cut 35 = .ok (.lreturn, 1) := by decide +kernel
theorem dX10_cut_28 : decode cX10_cut 28 = .ok (.lload_n 0, 1) := by decide +kernel
theorem dX10_cut_29 : decode cX10_cut 29 = .ok (.l2i, 1) := by decide +kernel
theorem dX10_cut_30 : decode cX10_cut 30 = .ok (.i2l, 1) := by decide +kernel
theorem dX10_cut_31 : decode cX10_cut 31 = .ok (.goto 4, 3) := by decide +kernel
theorem dX10_cut_16 : decode cX10_cut 16 = .ok (.lload_n 0, 1) := by decide +kernel
theorem dX10_cut_17 : decode cX10_cut 17 = .ok (.l2i, 1) := by decide +kernel
theorem dX10_cut_18 : decode cX10_cut 18 = .ok (.i2s, 1) := by decide +kernel
theorem dX10_cut_19 : decode cX10_cut 19 = .ok (.i2l, 1) := by decide +kernel
theorem dX10_cut_20 : decode cX10_cut 20 = .ok (.goto 15, 3) := by decide +kernel
theorem dX10_cut_4 : decode cX10_cut 4 = .ok (.lload_n 0, 1) := by decide +kernel
theorem dX10_cut_5 : decode cX10_cut 5 = .ok (.l2i, 1) := by decide +kernel
theorem dX10_cut_6 : decode cX10_cut 6 = .ok (.i2b, 1) := by decide +kernel
theorem dX10_cut_7 : decode cX10_cut 7 = .ok (.i2l, 1) := by decide +kernel
theorem dX10_cut_8 : decode cX10_cut 8 = .ok (.goto 27, 3) := by decide +kernel
set_option maxRecDepth 100000 in
noncomputable def F_k_X10_cut_0 (k0 : Int64) (a1 : Int32) : Int64 := if a1 = (0 : Int32) then (bnd (k0.toInt32 : Int32) fun (x_12 : Int32) => bnd (x_12.toInt8.toInt32 : Int32) fun (x_13 : Int32) => bnd (x_13.toInt64 : Int64) fun (j_14 : Int64) => (j_14)) else (if a1 = (1 : Int32) then (bnd (k0.toInt32 : Int32) fun (x_8 : Int32) => bnd (x_8.toInt16.toInt32 : Int32) fun (x_9 : Int32) => bnd (x_9.toInt64 : Int64) fun (j_10 : Int64) => (j_10)) else (if a1 = (2 : Int32) then (bnd (k0.toInt32 : Int32) fun (x_5 : Int32) => bnd (x_5.toInt64 : Int64) fun (j_6 : Int64) => (j_6)) else ((k0))))
set_option maxHeartbeats 4000000 in
set_option maxRecDepth 100000 in
theorem k_X10_cut_0 (l : Launch) (V : GV) (k0 : Int64) (a1 : Int32) : Ct l V yX10_cut (.code yX10_cut cX10_cut 3 (some .long)) 1 [.long k0, .int a1] [] 0 0 (QL V (fun (r : Int64) (w : va_W) => r = (F_k_X10_cut_0 k0 a1) ∧ w = [])) := by
  refine Ct.of (by decide) (Nat.le_of_ble_eq_true rfl) (fun p e s m below meth c A ls hx hb hr hml hown hlk hnm hg hP hK hD hE hA hS hl => ?_)
  have hl : lv_has ls 3 [(0, .long k0), (2, .int a1)] := hl
  obtain ⟨T0, hT0⟩ : ∃ T9, T9 = F_k_X10_cut_0 k0 a1 := ⟨_, rfl⟩
  have hR := hT0.trans (F_k_X10_cut_0.eq_1 ..)
  refine lv_iload_n hx hb dX10_cut_0 rfl (lv_at hl 1 rfl) ?_
  refine lv_if_ne (tgt := 11) hx hb dX10_cut_1 (by decide) (fun c_1 => ?_) (fun c_1 => ?_)
  · replace hR := te hR c_1
    refine lv_iload_n hx hb dX10_cut_11 rfl (lv_at hl 1 rfl) ?_
    refine lv_iconst (v := 1) hx hb dX10_cut_12 (by decide) ?_
    refine lv_icmp_ne (tgt := 23) hx hb dX10_cut_13 (by decide) (fun c_2 => ?_) (fun c_2 => ?_)
    · replace hR := te hR c_2
      refine lv_iload_n hx hb dX10_cut_23 rfl (lv_at hl 1 rfl) ?_
      refine lv_iconst (v := 2) hx hb dX10_cut_24 (by decide) ?_
      refine lv_icmp_ne (tgt := 34) hx hb dX10_cut_25 (by decide) (fun c_3 => ?_) (fun c_3 => ?_)
      · replace hR := te hR c_3
        refine lv_lload_n hx hb dX10_cut_34 rfl (lv_at hl 0 rfl) ?_
        exact fiL hx hb hr hlk hK hP hD hS dX10_cut_35 (Nat.le_of_ble_eq_true rfl) (Nat.le_of_ble_eq_true rfl) (⟨(hR.symm.trans hT0), rfl⟩)
      · replace hR := ti hR c_3
        have b_4 : iv 2 2 a1 := iv_q c_3 (iv_c (2 : Int32) (a := 2) (b := 2) (by decide))
        refine lv_lload_n hx hb dX10_cut_28 rfl (lv_at hl 0 rfl) ?_
        refine lv_l2i hx hb dX10_cut_29 rfl ?_
        refine lv_topi (fun x_5 ex_5 => ?_)
        replace hR := tb hR ex_5
        refine lv_i2l hx hb dX10_cut_30 rfl ?_
        refine lv_topl (fun j_6 ej_6 => ?_)
        replace hR := tb hR ej_6
        refine lv_goto (tgt := 35) hx hb dX10_cut_31 (by decide) ?_
        exact fiL hx hb hr hlk hK hP hD hS dX10_cut_35 (Nat.le_of_ble_eq_true rfl) (Nat.le_of_ble_eq_true rfl) (⟨(hR.symm.trans hT0), rfl⟩)
    · replace hR := ti hR c_2
      have b_7 : iv 1 1 a1 := iv_q c_2 (iv_c (1 : Int32) (a := 1) (b := 1) (by decide))
      refine lv_lload_n hx hb dX10_cut_16 rfl (lv_at hl 0 rfl) ?_
      refine lv_l2i hx hb dX10_cut_17 rfl ?_
      refine lv_topi (fun x_8 ex_8 => ?_)
      replace hR := tb hR ex_8
      refine lv_i2s hx hb dX10_cut_18 rfl ?_
      refine lv_topi (fun x_9 ex_9 => ?_)
      replace hR := tb hR ex_9
      refine lv_i2l hx hb dX10_cut_19 rfl ?_
      refine lv_topl (fun j_10 ej_10 => ?_)
      replace hR := tb hR ej_10
      refine lv_goto (tgt := 35) hx hb dX10_cut_20 (by decide) ?_
      exact fiL hx hb hr hlk hK hP hD hS dX10_cut_35 (Nat.le_of_ble_eq_true rfl) (Nat.le_of_ble_eq_true rfl) (⟨(hR.symm.trans hT0), rfl⟩)
  · replace hR := ti hR c_1
    have b_11 : iv 0 0 a1 := iv_q c_1 (iv_c (0 : Int32) (a := 0) (b := 0) (by decide))
    refine lv_lload_n hx hb dX10_cut_4 rfl (lv_at hl 0 rfl) ?_
    refine lv_l2i hx hb dX10_cut_5 rfl ?_
    refine lv_topi (fun x_12 ex_12 => ?_)
    replace hR := tb hR ex_12
    refine lv_i2b hx hb dX10_cut_6 rfl ?_
    refine lv_topi (fun x_13 ex_13 => ?_)
    replace hR := tb hR ex_13
    refine lv_i2l hx hb dX10_cut_7 rfl ?_
    refine lv_topl (fun j_14 ej_14 => ?_)
    replace hR := tb hR ej_14
    refine lv_goto (tgt := 35) hx hb dX10_cut_8 (by decide) ?_
    exact fiL hx hb hr hlk hK hP hD hS dX10_cut_35 (Nat.le_of_ble_eq_true rfl) (Nat.le_of_ble_eq_true rfl) (⟨(hR.symm.trans hT0), rfl⟩)
theorem dX10_write_0 : decode cX10_write 0 = .ok (.aload_n 0, 1) := by decide +kernel
theorem dX10_write_1 : decode cX10_write 1 = .ok (.iconst 0, 1) := by decide +kernel
theorem dX10_write_2 : decode cX10_write 2 = .ok (.putfield 1, 3) := by decide +kernel
theorem dX10_write_5 : decode cX10_write 5 = .ok (.aload_n 0, 1) := by decide +kernel
theorem dX10_write_6 : decode cX10_write 6 = .ok (.iload_n 1, 1) := by decide +kernel
theorem dX10_write_7 : decode cX10_write 7 = .ok (.invokevirtual 317, 3) := by decide +kernel
theorem dX10_write_10 : decode cX10_write 10 = .ok (.istore 5, 2) := by decide +kernel
theorem dX10_write_12 : decode cX10_write 12 = .ok (.iload 5, 2) := by decide +kernel
theorem dX10_write_14 : decode cX10_write 14 = .ok (.ifCond .eq 7, 3) := by decide +kernel
theorem dX10_write_21 : decode cX10_write 21 = .ok (.iload_n 2, 1) := by decide +kernel
theorem dX10_write_22 : decode cX10_write 22 = .ok (.i2l, 1) := by decide +kernel
theorem dX10_write_23 : decode cX10_write 23 = .ok (.lconst 0, 1) := by decide +kernel
theorem dX10_write_24 : decode cX10_write 24 = .ok (.aload_n 0, 1) := by decide +kernel
theorem dX10_write_25 : decode cX10_write 25 = .ok (.getfield 87, 3) := by decide +kernel
theorem dX10_write_28 : decode cX10_write 28 = .ok (.iload_n 1, 1) := by decide +kernel
theorem dX10_write_29 : decode cX10_write 29 = .ok (.iaload, 1) := by decide +kernel
theorem dX10_write_30 : decode cX10_write 30 = .ok (.iconst 1, 1) := by decide +kernel
theorem dX10_write_31 : decode cX10_write 31 = .ok (.isub, 1) := by decide +kernel
theorem dX10_write_32 : decode cX10_write 32 = .ok (.i2l, 1) := by decide +kernel
theorem dX10_write_33 : decode cX10_write 33 = .ok (.invokestatic 159, 3) := by decide +kernel
theorem dX10_write_36 : decode cX10_write 36 = .ok (.ifCond .ne 7, 3) := by decide +kernel
theorem dX10_write_43 : decode cX10_write 43 = .ok (.aload_n 0, 1) := by decide +kernel
theorem dX10_write_44 : decode cX10_write 44 = .ok (.getfield 90, 3) := by decide +kernel
theorem dX10_write_47 : decode cX10_write 47 = .ok (.bipush 40, 2) := by decide +kernel
theorem dX10_write_49 : decode cX10_write 49 = .ok (.iload_n 1, 1) := by decide +kernel
theorem dX10_write_50 : decode cX10_write 50 = .ok (.imul, 1) := by decide +kernel
theorem dX10_write_51 : decode cX10_write 51 = .ok (.iload_n 2, 1) := by decide +kernel
theorem dX10_write_52 : decode cX10_write 52 = .ok (.iadd, 1) := by decide +kernel
theorem dX10_write_53 : decode cX10_write 53 = .ok (.lload_n 3, 1) := by decide +kernel
theorem dX10_write_54 : decode cX10_write 54 = .ok (.aload_n 0, 1) := by decide +kernel
theorem dX10_write_55 : decode cX10_write 55 = .ok (.getfield 84, 3) := by decide +kernel
theorem dX10_write_58 : decode cX10_write 58 = .ok (.iload_n 1, 1) := by decide +kernel
theorem dX10_write_59 : decode cX10_write 59 = .ok (.iaload, 1) := by decide +kernel
theorem q_8_142 : Cond.code yX10_cut prog_12_method_128_code 3 (some FieldType.long) ∈ gw := gw_8 (i := 142) (rfl) rfl
theorem q_8_141 : Cond.static yX10_cut ∈ gw := gw_8 (i := 141) (by decide +kernel) rfl
theorem mt_X10_cut : MtS yX10_cut cX10_cut 3 (some .long) 2 := ⟨⟨q_8_142, q_1_9, by decide +kernel, by decide +kernel, by decide +kernel⟩, q_8_141⟩
theorem q_8_140 : Cond.methodLink "BeaconDelayModel" 466 yX10_cut ∈ gw := gw_8 (i := 140) (by decide +kernel) rfl
theorem dX10_write_60 : decode cX10_write 60 = .ok (.invokestatic 466, 3) := by decide +kernel
theorem dX10_write_63 : decode cX10_write 63 = .ok (.lastore, 1) := by decide +kernel
theorem dX10_write_64 : decode cX10_write 64 = .ok (.aload_n 0, 1) := by decide +kernel
theorem dX10_write_65 : decode cX10_write 65 = .ok (.getfield 90, 3) := by decide +kernel
theorem dX10_write_68 : decode cX10_write 68 = .ok (.bipush 40, 2) := by decide +kernel
theorem dX10_write_70 : decode cX10_write 70 = .ok (.iload_n 1, 1) := by decide +kernel
theorem dX10_write_71 : decode cX10_write 71 = .ok (.imul, 1) := by decide +kernel
theorem dX10_write_72 : decode cX10_write 72 = .ok (.iload_n 2, 1) := by decide +kernel
theorem dX10_write_73 : decode cX10_write 73 = .ok (.iadd, 1) := by decide +kernel
theorem dX10_write_74 : decode cX10_write 74 = .ok (.laload, 1) := by decide +kernel
theorem dX10_write_75 : decode cX10_write 75 = .ok (.lreturn, 1) := by decide +kernel
theorem q_8_139 : Cond.constantLong "BeaconDelayModel" 464 (-7 : Int64) ∈ gw := gw_8 (i := 139) (by decide +kernel) rfl
theorem dX10_write_39 : decode cX10_write 39 = .ok (.ldc2_w 464, 3) := by decide +kernel
theorem dX10_write_42 : decode cX10_write 42 = .ok (.lreturn, 1) := by decide +kernel
theorem dX10_write_17 : decode cX10_write 17 = .ok (.iload 5, 2) := by decide +kernel
theorem dX10_write_19 : decode cX10_write 19 = .ok (.i2l, 1) := by decide +kernel
theorem dX10_write_20 : decode cX10_write 20 = .ok (.lreturn, 1) := by decide +kernel
set_option maxRecDepth 100000 in
noncomputable def F_k_X10_write_0 (a1 : Int32) (a2 : Int32) (k3 : Int64) (fz37 : Nat → Int32) (fz38 : Nat → Int32) (fz39 : Nat → Int64) : Int64 × Int32 × (Nat → Int64) := bnd (F_k_X10_noTray_0 a1 fz37 : Int32) fun (r_1 : Int32) => if r_1 = (0 : Int32) then (bnd (a2.toInt64 : Int64) fun (j_8 : Int64) => bnd (fz38 (a1 : Int32).toNatClampNeg : Int32) fun (x_9 : Int32) => bnd (x_9 - (1 : Int32) : Int32) fun (x_10 : Int32) => bnd (x_10.toInt64 : Int64) fun (j_11 : Int64) => bnd (F_k_X10_within_0 j_8 (0 : Int64) j_11 : Int32) fun (r_12 : Int32) => if r_12 = (0 : Int32) then ((((-7) : Int64), (0 : Int32), fz39)) else (bnd ((40 : Int32) * a1 : Int32) fun (x_28 : Int32) => bnd (x_28 + a2 : Int32) fun (x_29 : Int32) => bnd (fz37 (a1 : Int32).toNatClampNeg : Int32) fun (x_30 : Int32) => bnd (F_k_X10_cut_0 k3 x_30 : Int64) fun (r_31 : Int64) => bnd ((vp_updL fz39 (x_29 : Int32).toNatClampNeg r_31) : Nat → Int64) fun (f_34 : Nat → Int64) => (r_31, (0 : Int32), f_34))) else (bnd (r_1.toInt64 : Int64) fun (j_37 : Int64) => (j_37, (0 : Int32), fz39))
set_option maxHeartbeats 4000000 in
set_option maxRecDepth 100000 in
theorem k_X10_write_0 (l : Launch) (V : GV) (z : Nat → Nat) (a1 : Int32) (a2 : Int32) (k3 : Int64) (pz0_0 : Int32) (pz0_5 : Int32) (pz0_6 : Int32) (pz0_7 : Int32) (pz0_8 : Int32) (pz0_9 : Int32) (pz0_10 : Int32) (pz0_11 : Int32) (pz0_12 : Int32) (pz0_13 : Int32) (pz0_14 : Int32) (pz0_18 : Int32) (pz0_19 : Int32) (pz0_22 : Int32) (pz0_23 : Int32) (pz0_29 : Int32) (fz37 : Nat → Int32) (fz38 : Nat → Int32) (fz39 : Nat → Int64) (bpz0_5 : iv 0 900 pz0_5) (bpz0_6 : iv 0 900 pz0_6) (bpz0_7 : iv 0 900 pz0_7) (bpz0_8 : iv 0 900 pz0_8) (bpz0_10 : iv 0 999 pz0_10) (bpz0_11 : iv 0 4 pz0_11) (bpz0_12 : iv 0 900 pz0_12) (bpz0_13 : iv 0 4 pz0_13) (bpz0_14 : iv (-1) 900 pz0_14) (bpz0_18 : iv 0 2 pz0_18) (bpz0_22 : iv 0 9999 pz0_22) (bpz0_29 : iv 0 10000 pz0_29) (tfz37 : ∀ j, iv (-1) 3 (fz37 j)) (tfz38 : ∀ j, iv 0 40 (fz38 j)) : Ct l V yX10_write (.code yX10_write cX10_write 6 (some .long)) 3 [.ref (z 0), .int a1, .int a2, .long k3] [(z 0, .inr (10, mo z pz0_0 pz0_5 pz0_6 pz0_7 pz0_8 pz0_9 pz0_10 pz0_11 pz0_12 pz0_13 pz0_14 pz0_18 pz0_19 pz0_22 pz0_23 pz0_29)), (z 37, aI V 4 fz37), (z 38, aI V 4 fz38), (z 39, aJ V 160 fz39)] 0 0 (QL V (fun (r : Int64) (w : va_W) => ∃ (v0 : Int32) (g1 : Nat → Int64), r = (F_k_X10_write_0 a1 a2 k3 fz37 fz38 fz39).1 ∧ v0 = (F_k_X10_write_0 a1 a2 k3 fz37 fz38 fz39).2.1 ∧ g1 = (F_k_X10_write_0 a1 a2 k3 fz37 fz38 fz39).2.2 ∧ w = [(z 0, .inr (10, mo z v0 pz0_5 pz0_6 pz0_7 pz0_8 pz0_9 pz0_10 pz0_11 pz0_12 pz0_13 pz0_14 pz0_18 pz0_19 pz0_22 pz0_23 pz0_29)), (z 37, aI V 4 fz37), (z 38, aI V 4 fz38), (z 39, aJ V 160 g1)])) := by
  refine Ct.of (by decide) (Nat.le_of_ble_eq_true rfl) (fun p e s m below meth c A ls hx hb hr hml hown hlk hnm hg hP hK hD hE hA hS hl => ?_)
  have hl : lv_has ls 6 [(0, .ref (z 0)), (1, .int a1), (2, .int a2), (3, .long k3)] := hl
  obtain ⟨T0, hT0⟩ : ∃ T9, T9 = F_k_X10_write_0 a1 a2 k3 fz37 fz38 fz39 := ⟨_, rfl⟩
  have hR := hT0.trans (F_k_X10_write_0.eq_1 ..)
  refine lv_aload_n hx hb dX10_write_0 rfl (lv_at hl 0 rfl) ?_
  refine lv_iconst (v := 0) hx hb dX10_write_1 (by decide) ?_
  refine va_put (ci := 10) (v := .int 0) (ty := .int) (C := RX10) (T := TX10) (N := 40) hx hb hg inX10 tyX10 tyX10_ok nmX10 hown hK hP hD hS 0 rfl rfl 0 (by decide) (hg _ q_5_224) (fun _ h9 => h9) rfl (by decide +kernel) rfl rfl (Nat.le_of_ble_eq_true rfl) dX10_write_2 (fun H locs hP hD hS => ?_)
  have hP : va_P V.1 vwCl [(z 0, .inr (10, mo z 0 pz0_5 pz0_6 pz0_7 pz0_8 pz0_9 pz0_10 pz0_11 pz0_12 pz0_13 pz0_14 pz0_18 pz0_19 pz0_22 pz0_23 pz0_29)), (z 37, aI V 4 fz37), (z 38, aI V 4 fz38), (z 39, aJ V 160 fz39)] H := hP
  have hD := cpD hP hD
  refine lv_aload_n hx hb dX10_write_5 rfl (lv_at hl 0 rfl) ?_
  refine lv_iload_n hx hb dX10_write_6 rfl (lv_at hl 1 rfl) ?_
  refine jnI (wr := [(z 38, aI V 4 fz38), (z 39, aJ V 160 fz39)]) (rnV (rest := []) ⟨hx, hb, hml, hown, hg⟩ (k_X10_noTray_0 l V z a1 0 pz0_5 pz0_6 pz0_7 pz0_8 pz0_9 pz0_10 pz0_11 pz0_12 pz0_13 pz0_14 pz0_18 pz0_19 pz0_22 pz0_23 pz0_29 fz37 bpz0_5 bpz0_6 bpz0_7 bpz0_8 bpz0_10 bpz0_11 bpz0_12 bpz0_13 bpz0_14 bpz0_18 bpz0_22 bpz0_29 tfz37) mt_X10_noTray q_7_108 ⟨Nat.le_of_ble_eq_true rfl, Nat.le_of_ble_eq_true rfl⟩ hK hP hD hS hA hE [0, 1] rfl rfl 0 rfl rfl rfl rfl hl.1 rfl (Nat.le_of_ble_eq_true rfl) dX10_write_7 ⟨Nat.le_of_ble_eq_true rfl, Nat.le_of_ble_eq_true rfl⟩) hP hD hS hA [0, 1] [2, 3] rfl rfl rfl (by decide) (fun r_1 w H locs hw hP hD hS => ?_)
  obtain ⟨br_1, g_2, et_3, rfl⟩ := hw
  replace hR := tb hR et_3
  have hP : va_P V.1 vwCl [(z 38, aI V 4 fz38), (z 39, aJ V 160 fz39), (z 0, .inr (10, mo z 0 pz0_5 pz0_6 pz0_7 pz0_8 pz0_9 pz0_10 pz0_11 pz0_12 pz0_13 pz0_14 pz0_18 pz0_19 pz0_22 pz0_23 pz0_29)), (z 37, aI V 4 fz37)] H := hP
  have hD := cpD hP hD
  refine lv_istore (lv' := [(5, .int r_1), (0, .ref (z 0)), (1, .int a1), (2, .int a2), (3, .long k3)]) hx hb dX10_write_10 hl (by decide) rfl (fun ls hl => ?_)
  refine lv_iload hx hb dX10_write_12 (lv_at hl 0 rfl) ?_
  refine lv_if_eq (tgt := 21) hx hb dX10_write_14 (by decide) (fun c_5 => ?_) (fun c_5 => ?_)
  · replace hR := ti hR c_5
    have b_6 : iv 0 0 r_1 := iv_q c_5 (iv_c (0 : Int32) (a := 0) (b := 0) (by decide))
    have b_7 : iv 0 3 a1 := iv_cap (g_2 (iv_eqp b_6 (iv_c (0 : Int32) (by decide)))) (iv_top a1) (by decide)
    refine lv_iload_n hx hb dX10_write_21 rfl (lv_at hl 3 rfl) ?_
    refine lv_i2l hx hb dX10_write_22 rfl ?_
    refine lv_topl (fun j_8 ej_8 => ?_)
    replace hR := tb hR ej_8
    refine lv_lconst (v := 0) hx hb dX10_write_23 (by decide) ?_
    refine lv_aload_n hx hb dX10_write_24 rfl (lv_at hl 1 rfl) ?_
    refine va_get (ci := 10) (v := .ref (z 38)) (C := RX10) (T := TX10) (N := 40) hx hb hg inX10 hown hK hP 2 rfl rfl 38 (by decide) (hg _ q_6_22) (fun _ h9 => h9) rfl dX10_write_25 ?_
    refine lv_iload_n hx hb dX10_write_28 rfl (lv_at hl 2 rfl) ?_
    refine va_iald hx hb hK hP 0 0 rfl rfl (iv_in b_7 (by decide)) dX10_write_29 ?_
    refine lv_topi (fun x_9 ex_9 => ?_)
    have bx_9 : iv 0 40 x_9 := by rw [ex_9]; exact tfz38 _
    replace hR := tb hR ex_9
    refine lv_iconst (v := 1) hx hb dX10_write_30 (by decide) ?_
    refine lv_isub hx hb dX10_write_31 ?_
    refine lv_topi (fun x_10 ex_10 => ?_)
    have bx_10 : iv (-1) 39 x_10 := by rw [ex_10]; exact iv_sub bx_9 (iv_c (1 : Int32) (a := 1) (b := 1) (by decide)) (by decide)
    replace hR := tb hR ex_10
    refine lv_i2l hx hb dX10_write_32 rfl ?_
    refine lv_topl (fun j_11 ej_11 => ?_)
    have bj_11 : ivL (-1) 39 j_11 := by rw [ej_11]; exact ivL_of bx_10
    replace hR := tb hR ej_11
    refine jnI (wr := [(z 38, aI V 4 fz38), (z 39, aJ V 160 fz39), (z 0, .inr (10, mo z 0 pz0_5 pz0_6 pz0_7 pz0_8 pz0_9 pz0_10 pz0_11 pz0_12 pz0_13 pz0_14 pz0_18 pz0_19 pz0_22 pz0_23 pz0_29)), (z 37, aI V 4 fz37)]) (rnS (rest := []) ⟨hx, hb, hml, hown, hg⟩ (k_X10_within_0 l V j_8 0 j_11) mt_X10_within q_6_114 ⟨Nat.le_of_ble_eq_true rfl, Nat.le_of_ble_eq_true rfl⟩ hK hP hD hS hA hE [] rfl rfl rfl hl.1 rfl (Nat.le_of_ble_eq_true rfl) dX10_write_33 ⟨Nat.le_of_ble_eq_true rfl, Nat.le_of_ble_eq_true rfl⟩) hP hD hS hA [] [0, 1, 2, 3] rfl rfl rfl (by decide) (fun r_12 w H locs hw hP hD hS => ?_)
    obtain ⟨br_12, g_13, g_14, g_15, et_16, rfl⟩ := hw
    replace hR := tb hR et_16
    have hP : va_P V.1 vwCl [(z 38, aI V 4 fz38), (z 39, aJ V 160 fz39), (z 0, .inr (10, mo z 0 pz0_5 pz0_6 pz0_7 pz0_8 pz0_9 pz0_10 pz0_11 pz0_12 pz0_13 pz0_14 pz0_18 pz0_19 pz0_22 pz0_23 pz0_29)), (z 37, aI V 4 fz37)] H := hP
    have hD := cpD hP hD
    refine lv_if_ne (tgt := 43) hx hb dX10_write_36 (by decide) (fun c_18 => ?_) (fun c_18 => ?_)
    · replace hR := te hR c_18
      have b_19 : iv 1 1 r_12 := iv_n0 c_18 br_12 (iv_c (0 : Int32) (a := 0) (b := 0) (by decide)) (by decide)
      have c_20 : (0 : Int64) ≤ j_8 := (g_14 (iv_eqp b_19 (iv_c (1 : Int32) (by decide))))
      have b_21 : ivL 0 9223372036854775807 j_8 := ivL_e2 c_20 (ivL_c (0 : Int64) (a := 0) (b := 0) (by decide)) (ivL_top j_8) (by decide)
      have b_22 : iv 0 2147483647 a2 := iv_cap (ivL_i ej_8 b_21) (iv_top a2) (by decide)
      have c_23 : j_8 ≤ j_11 := (g_15 (iv_eqp b_19 (iv_c (1 : Int32) (by decide))))
      have b_24 : ivL 0 39 j_8 := ivL_e1 c_23 b_21 bj_11 (by decide)
      have b_25 : iv 0 39 a2 := iv_cap (ivL_i ej_8 b_24) b_22 (by decide)
      have b_26 : ivL 0 39 j_11 := ivL_e2 c_23 b_21 bj_11 (by decide)
      have b_27 : iv 0 39 x_10 := iv_cap (ivL_i ej_11 b_26) bx_10 (by decide)
      refine lv_aload_n hx hb dX10_write_43 rfl (lv_at hl 1 rfl) ?_
      refine va_get (ci := 10) (v := .ref (z 39)) (C := RX10) (T := TX10) (N := 40) hx hb hg inX10 hown hK hP 2 rfl rfl 39 (by decide) (hg _ q_6_23) (fun _ h9 => h9) rfl dX10_write_44 ?_
      refine lv_bipush (v := 40) hx hb dX10_write_47 (by decide) ?_
      refine lv_iload_n hx hb dX10_write_49 rfl (lv_at hl 2 rfl) ?_
      refine lv_imul hx hb dX10_write_50 ?_
      refine lv_topi (fun x_28 ex_28 => ?_)
      have bx_28 : iv 0 120 x_28 := by rw [ex_28]; exact iv_cmul (iv_c (40 : Int32) (a := 40) (b := 40) (by decide)) b_7 (by decide)
      replace hR := tb hR ex_28
      refine lv_iload_n hx hb dX10_write_51 rfl (lv_at hl 3 rfl) ?_
      refine lv_iadd hx hb dX10_write_52 ?_
      refine lv_topi (fun x_29 ex_29 => ?_)
      have bx_29 : iv 0 159 x_29 := by rw [ex_29]; exact iv_add bx_28 b_25 (by decide)
      replace hR := tb hR ex_29
      refine lv_lload_n hx hb dX10_write_53 rfl (lv_at hl 4 rfl) ?_
      refine lv_aload_n hx hb dX10_write_54 rfl (lv_at hl 1 rfl) ?_
      refine va_get (ci := 10) (v := .ref (z 37)) (C := RX10) (T := TX10) (N := 40) hx hb hg inX10 hown hK hP 2 rfl rfl 37 (by decide) (hg _ q_6_21) (fun _ h9 => h9) rfl dX10_write_55 ?_
      refine lv_iload_n hx hb dX10_write_58 rfl (lv_at hl 2 rfl) ?_
      refine va_iald hx hb hK hP 3 0 rfl rfl (iv_in b_7 (by decide)) dX10_write_59 ?_
      refine lv_topi (fun x_30 ex_30 => ?_)
      have bx_30 : iv (-1) 3 x_30 := by rw [ex_30]; exact tfz37 _
      replace hR := tb hR ex_30
      refine jnL (wr := [(z 38, aI V 4 fz38), (z 39, aJ V 160 fz39), (z 0, .inr (10, mo z 0 pz0_5 pz0_6 pz0_7 pz0_8 pz0_9 pz0_10 pz0_11 pz0_12 pz0_13 pz0_14 pz0_18 pz0_19 pz0_22 pz0_23 pz0_29)), (z 37, aI V 4 fz37)]) (rnS (rest := [.int x_29, .ref (z 39)]) ⟨hx, hb, hml, hown, hg⟩ (k_X10_cut_0 l V k3 x_30) mt_X10_cut q_8_140 ⟨Nat.le_of_ble_eq_true rfl, Nat.le_of_ble_eq_true rfl⟩ hK hP hD hS hA hE [] rfl rfl rfl hl.1 rfl (Nat.le_of_ble_eq_true rfl) dX10_write_60 ⟨Nat.le_of_ble_eq_true rfl, Nat.le_of_ble_eq_true rfl⟩) hP hD hS hA [] [0, 1, 2, 3] rfl rfl rfl (by decide) (fun r_31 w H locs hw hP hD hS => ?_)
      obtain ⟨et_32, rfl⟩ := hw
      replace hR := tb hR et_32
      have hP : va_P V.1 vwCl [(z 38, aI V 4 fz38), (z 39, aJ V 160 fz39), (z 0, .inr (10, mo z 0 pz0_5 pz0_6 pz0_7 pz0_8 pz0_9 pz0_10 pz0_11 pz0_12 pz0_13 pz0_14 pz0_18 pz0_19 pz0_22 pz0_23 pz0_29)), (z 37, aI V 4 fz37)] H := hP
      have hD := cpD hP hD
      refine va_last hx hb hK hP hD hS 1 2 rfl rfl (iv_in bx_29 (by decide)) dX10_write_63 (fun H locs hP hD hS => ?_)
      obtain ⟨f_34, ef_34, hP, hD⟩ : ∃ f_34 : Nat → Int64, f_34 = (vp_updL fz39 (x_29 : Int32).toNatClampNeg r_31) ∧ va_P V.1 vwCl [(z 38, aI V 4 fz38), (z 39, aJ V 160 f_34), (z 0, .inr (10, mo z 0 pz0_5 pz0_6 pz0_7 pz0_8 pz0_9 pz0_10 pz0_11 pz0_12 pz0_13 pz0_14 pz0_18 pz0_19 pz0_22 pz0_23 pz0_29)), (z 37, aI V 4 fz37)] H ∧ va_D A [(z 38, aI V 4 fz38), (z 39, aJ V 160 f_34), (z 0, .inr (10, mo z 0 pz0_5 pz0_6 pz0_7 pz0_8 pz0_9 pz0_10 pz0_11 pz0_12 pz0_13 pz0_14 pz0_18 pz0_19 pz0_22 pz0_23 pz0_29)), (z 37, aI V 4 fz37)] := ⟨_, rfl, hP, hD⟩
      replace hR := tb hR ef_34
      refine lv_aload_n hx hb dX10_write_64 rfl (lv_at hl 1 rfl) ?_
      refine va_get (ci := 10) (v := .ref (z 39)) (C := RX10) (T := TX10) (N := 40) hx hb hg inX10 hown hK hP 2 rfl rfl 39 (by decide) (hg _ q_6_23) (fun _ h9 => h9) rfl dX10_write_65 ?_
      refine lv_bipush (v := 40) hx hb dX10_write_68 (by decide) ?_
      refine lv_iload_n hx hb dX10_write_70 rfl (lv_at hl 2 rfl) ?_
      refine lv_imul hx hb dX10_write_71 ?_
      refine tpi (y := x_28) ex_28.symm ?_
      refine lv_iload_n hx hb dX10_write_72 rfl (lv_at hl 3 rfl) ?_
      refine lv_iadd hx hb dX10_write_73 ?_
      refine tpi (y := x_29) ex_29.symm ?_
      refine va_lald hx hb hK hP 1 2 rfl rfl (iv_in bx_29 (by decide)) dX10_write_74 ?_
      refine tpl (y := r_31) (show f_34 (x_29 : Int32).toNatClampNeg = r_31 from by rw [ef_34]; exact updL_at) ?_
      have hP := subP (ws' := [(z 0, .inr (10, mo z 0 pz0_5 pz0_6 pz0_7 pz0_8 pz0_9 pz0_10 pz0_11 pz0_12 pz0_13 pz0_14 pz0_18 pz0_19 pz0_22 pz0_23 pz0_29)), (z 37, aI V 4 fz37), (z 38, aI V 4 fz38), (z 39, aJ V 160 f_34)]) hP [2, 3, 0, 1] rfl
      have hD := subD hP hD [2, 3, 0, 1] rfl rfl
      exact fiL hx hb hr hlk hK hP hD hS dX10_write_75 (Nat.le_of_ble_eq_true rfl) (Nat.le_of_ble_eq_true rfl) (⟨0, f_34, (congrArg Prod.fst (hR.symm.trans hT0)), (congrArg Prod.fst (congrArg Prod.snd (hR.symm.trans hT0))), (congrArg Prod.snd (congrArg Prod.snd (hR.symm.trans hT0))), rfl⟩)
    · replace hR := ti hR c_18
      have b_35 : iv 0 0 r_12 := iv_q c_18 (iv_c (0 : Int32) (a := 0) (b := 0) (by decide))
      refine lv_ldc2 (v := (-7)) hx hb hown (hg _ q_8_139) dX10_write_39 ?_
      have hP := subP (ws' := [(z 0, .inr (10, mo z 0 pz0_5 pz0_6 pz0_7 pz0_8 pz0_9 pz0_10 pz0_11 pz0_12 pz0_13 pz0_14 pz0_18 pz0_19 pz0_22 pz0_23 pz0_29)), (z 37, aI V 4 fz37), (z 38, aI V 4 fz38), (z 39, aJ V 160 fz39)]) hP [2, 3, 0, 1] rfl
      have hD := subD hP hD [2, 3, 0, 1] rfl rfl
      exact fiL hx hb hr hlk hK hP hD hS dX10_write_42 (Nat.le_of_ble_eq_true rfl) (Nat.le_of_ble_eq_true rfl) (⟨0, fz39, (congrArg Prod.fst (hR.symm.trans hT0)), (congrArg Prod.fst (congrArg Prod.snd (hR.symm.trans hT0))), (congrArg Prod.snd (congrArg Prod.snd (hR.symm.trans hT0))), rfl⟩)
  · replace hR := te hR c_5
    have b_36 : iv (-6) (-1) r_1 := iv_n1 c_5 br_1 (iv_c (0 : Int32) (a := 0) (b := 0) (by decide)) (by decide)
    refine lv_iload hx hb dX10_write_17 (lv_at hl 0 rfl) ?_
    refine lv_i2l hx hb dX10_write_19 rfl ?_
    refine lv_topl (fun j_37 ej_37 => ?_)
    have bj_37 : ivL (-6) (-1) j_37 := by rw [ej_37]; exact ivL_of b_36
    replace hR := tb hR ej_37
    have hP := subP (ws' := [(z 0, .inr (10, mo z 0 pz0_5 pz0_6 pz0_7 pz0_8 pz0_9 pz0_10 pz0_11 pz0_12 pz0_13 pz0_14 pz0_18 pz0_19 pz0_22 pz0_23 pz0_29)), (z 37, aI V 4 fz37), (z 38, aI V 4 fz38), (z 39, aJ V 160 fz39)]) hP [2, 3, 0, 1] rfl
    have hD := subD hP hD [2, 3, 0, 1] rfl rfl
    exact fiL hx hb hr hlk hK hP hD hS dX10_write_20 (Nat.le_of_ble_eq_true rfl) (Nat.le_of_ble_eq_true rfl) (⟨0, fz39, (congrArg Prod.fst (hR.symm.trans hT0)), (congrArg Prod.fst (congrArg Prod.snd (hR.symm.trans hT0))), (congrArg Prod.snd (congrArg Prod.snd (hR.symm.trans hT0))), rfl⟩)
theorem dX10_lists_0 : decode cX10_lists 0 = .ok (.aload_n 0, 1) := by decide +kernel
theorem dX10_lists_1 : decode cX10_lists 1 = .ok (.iconst 0, 1) := by decide +kernel
theorem dX10_lists_2 : decode cX10_lists 2 = .ok (.putfield 1, 3) := by decide +kernel
theorem dX10_lists_5 : decode cX10_lists 5 = .ok (.iload_n 1, 1) := by decide +kernel
theorem dX10_lists_6 : decode cX10_lists 6 = .ok (.i2l, 1) := by decide +kernel
theorem dX10_lists_7 : decode cX10_lists 7 = .ok (.lconst 0, 1) := by decide +kernel
theorem dX10_lists_8 : decode cX10_lists 8 = .ok (.ldc2_w 315, 3) := by decide +kernel
theorem dX10_lists_11 : decode cX10_lists 11 = .ok (.invokestatic 159, 3) := by decide +kernel
theorem dX10_lists_14 : decode cX10_lists 14 = .ok (.ifCond .eq 12, 3) := by decide +kernel
theorem dX10_lists_26 : decode cX10_lists 26 = .ok (.bipush (-2), 2) := by decide +kernel
theorem dX10_lists_28 : decode cX10_lists 28 = .ok (.ireturn, 1) := by decide +kernel
theorem dX10_lists_17 : decode cX10_lists 17 = .ok (.aload_n 0, 1) := by decide +kernel
theorem dX10_lists_18 : decode cX10_lists 18 = .ok (.iload_n 2, 1) := by decide +kernel
theorem dX10_lists_19 : decode cX10_lists 19 = .ok (.i2l, 1) := by decide +kernel
theorem dX10_lists_20 : decode cX10_lists 20 = .ok (.invokevirtual 262, 3) := by decide +kernel
theorem dX10_lists_23 : decode cX10_lists 23 = .ok (.ifCond .ne 6, 3) := by decide +kernel
theorem dX10_lists_29 : decode cX10_lists 29 = .ok (.aload_n 0, 1) := by decide +kernel
theorem dX10_lists_30 : decode cX10_lists 30 = .ok (.iload_n 1, 1) := by decide +kernel
theorem dX10_lists_31 : decode cX10_lists 31 = .ok (.invokevirtual 317, 3) := by decide +kernel
theorem dX10_lists_34 : decode cX10_lists 34 = .ok (.istore_n 3, 1) := by decide +kernel
theorem dX10_lists_35 : decode cX10_lists 35 = .ok (.iload_n 3, 1) := by decide +kernel
theorem dX10_lists_36 : decode cX10_lists 36 = .ok (.ifCond .eq 5, 3) := by decide +kernel
theorem dX10_lists_41 : decode cX10_lists 41 = .ok (.aload_n 0, 1) := by decide +kernel
theorem dX10_lists_42 : decode cX10_lists 42 = .ok (.invokevirtual 269, 3) := by decide +kernel
theorem dX10_lists_45 : decode cX10_lists 45 = .ok (.istore 4, 2) := by decide +kernel
theorem dX10_lists_47 : decode cX10_lists 47 = .ok (.iconst 0, 1) := by decide +kernel
theorem dX10_lists_48 : decode cX10_lists 48 = .ok (.istore 5, 2) := by decide +kernel
theorem dX10_lists_50 : decode cX10_lists 50 = .ok (.iload 5, 2) := by decide +kernel
theorem dX10_lists_52 : decode cX10_lists 52 = .ok (.aload_n 0, 1) := by decide +kernel
theorem dX10_lists_53 : decode cX10_lists 53 = .ok (.getfield 87, 3) := by decide +kernel
theorem dX10_lists_56 : decode cX10_lists 56 = .ok (.iload_n 1, 1) := by decide +kernel
theorem dX10_lists_57 : decode cX10_lists 57 = .ok (.iaload, 1) := by decide +kernel
theorem dX10_lists_58 : decode cX10_lists 58 = .ok (.if_icmp .ge 44, 3) := by decide +kernel
theorem dX10_lists_102 : decode cX10_lists 102 = .ok (.aload_n 0, 1) := by decide +kernel
theorem dX10_lists_103 : decode cX10_lists 103 = .ok (.getfield 87, 3) := by decide +kernel
theorem dX10_lists_106 : decode cX10_lists 106 = .ok (.iload_n 1, 1) := by decide +kernel
theorem dX10_lists_107 : decode cX10_lists 107 = .ok (.iaload, 1) := by decide +kernel
theorem dX10_lists_108 : decode cX10_lists 108 = .ok (.ireturn, 1) := by decide +kernel
theorem dX10_lists_61 : decode cX10_lists 61 = .ok (.aload_n 0, 1) := by decide +kernel
theorem dX10_lists_62 : decode cX10_lists 62 = .ok (.iload 4, 2) := by decide +kernel
theorem dX10_lists_64 : decode cX10_lists 64 = .ok (.iconst 0, 1) := by decide +kernel
theorem dX10_lists_65 : decode cX10_lists 65 = .ok (.aload_n 0, 1) := by decide +kernel
theorem dX10_lists_66 : decode cX10_lists 66 = .ok (.getfield 13, 3) := by decide +kernel
theorem dX10_lists_69 : decode cX10_lists 69 = .ok (.bipush 51, 2) := by decide +kernel
theorem dX10_lists_71 : decode cX10_lists 71 = .ok (.iaload, 1) := by decide +kernel
theorem dX10_lists_72 : decode cX10_lists 72 = .ok (.invokevirtual 272, 3) := by decide +kernel
theorem dX10_lists_75 : decode cX10_lists 75 = .ok (.istore 4, 2) := by decide +kernel
theorem dX10_lists_77 : decode cX10_lists 77 = .ok (.aload_n 0, 1) := by decide +kernel
theorem dX10_lists_78 : decode cX10_lists 78 = .ok (.getfield 90, 3) := by decide +kernel
theorem dX10_lists_81 : decode cX10_lists 81 = .ok (.bipush 40, 2) := by decide +kernel
theorem dX10_lists_83 : decode cX10_lists 83 = .ok (.iload_n 1, 1) := by decide +kernel
theorem dX10_lists_84 : decode cX10_lists 84 = .ok (.imul, 1) := by decide +kernel
theorem dX10_lists_85 : decode cX10_lists 85 = .ok (.iload 5, 2) := by decide +kernel
theorem dX10_lists_87 : decode cX10_lists 87 = .ok (.iadd, 1) := by decide +kernel
theorem dX10_lists_88 : decode cX10_lists 88 = .ok (.iload 4, 2) := by decide +kernel
theorem dX10_lists_90 : decode cX10_lists 90 = .ok (.iload_n 2, 1) := by decide +kernel
theorem dX10_lists_91 : decode cX10_lists 91 = .ok (.invokestatic 231, 3) := by decide +kernel
theorem dX10_lists_94 : decode cX10_lists 94 = .ok (.i2l, 1) := by decide +kernel
theorem dX10_lists_95 : decode cX10_lists 95 = .ok (.lastore, 1) := by decide +kernel
theorem dX10_lists_96 : decode cX10_lists 96 = .ok (.iinc 5 1, 3) := by decide +kernel
theorem dX10_lists_99 : decode cX10_lists 99 = .ok (.goto (-49), 3) := by decide +kernel
theorem dX10_lists_39 : decode cX10_lists 39 = .ok (.iload_n 3, 1) := by decide +kernel
theorem dX10_lists_40 : decode cX10_lists 40 = .ok (.ireturn, 1) := by decide +kernel
set_option maxRecDepth 100000 in
noncomputable def B_k_X10_lists_0_1 (a1 : Int32) (a2 : Int32) (fz1 : Nat → Int32) (fz38 : Nat → Int32) (u_35 : Int32) (u_36 : Int32) (f_37 : Nat → Int32) (f_38 : Nat → Int32) (f_39 : Nat → Int64) : (Int32 × Int32 × (Nat → Int32) × (Nat → Int32) × (Nat → Int64)) ⊕ (Int32 × Int32 × (Nat → Int32) × (Nat → Int32) × (Nat → Int64)) := bnd (fz38 (a1 : Int32).toNatClampNeg : Int32) fun (x_41 : Int32) => if x_41 ≤ u_35 then (Sum.inr ((x_41, (0 : Int32), f_37, f_38, f_39))) else (bnd (fz1 (51 : Int32).toNatClampNeg : Int32) fun (x_45 : Int32) => bnd (F_k_X10_nightTo_0 u_36 (0 : Int32) x_45 f_37 f_38 fz1 : Int32 × (Nat → Int32) × (Nat → Int32)) fun (q_53 : Int32 × (Nat → Int32) × (Nat → Int32)) => bnd (q_53.1 : Int32) fun (r_46 : Int32) => bnd (q_53.2.1 : Nat → Int32) fun (f_47 : Nat → Int32) => bnd (q_53.2.2 : Nat → Int32) fun (f_48 : Nat → Int32) => bnd ((40 : Int32) * a1 : Int32) fun (x_54 : Int32) => bnd (x_54 + u_35 : Int32) fun (x_55 : Int32) => bnd (F_k_X10_stackIn_0 r_46 a2 : Int32) fun (r_56 : Int32) => bnd (r_56.toInt64 : Int64) fun (j_59 : Int64) => bnd ((vp_updL f_39 (x_55 : Int32).toNatClampNeg j_59) : Nat → Int64) fun (f_60 : Nat → Int64) => bnd (u_35 + 1 : Int32) fun (x_61 : Int32) => Sum.inl (x_61, r_46, f_47, f_48, f_60))
noncomputable def L_k_X10_lists_0_1 (a1 : Int32) (a2 : Int32) (fz1 : Nat → Int32) (fz38 : Nat → Int32) (q9 : Int32 × Int32 × (Nat → Int32) × (Nat → Int32) × (Nat → Int64)) : (Int32 × Int32 × (Nat → Int32) × (Nat → Int32) × (Nat → Int64)) ⊕ (Int32 × Int32 × (Nat → Int32) × (Nat → Int32) × (Nat → Int64)) := B_k_X10_lists_0_1 a1 a2 fz1 fz38 q9.1 q9.2.1 q9.2.2.1 q9.2.2.2.1 q9.2.2.2.2
set_option maxRecDepth 100000 in
noncomputable def F_k_X10_lists_0 (a1 : Int32) (a2 : Int32) (fz1 : Nat → Int32) (fz15 : Nat → Int32) (fz16 : Nat → Int32) (fz37 : Nat → Int32) (fz38 : Nat → Int32) (fz39 : Nat → Int64) : Int32 × Int32 × (Nat → Int32) × (Nat → Int32) × (Nat → Int64) := bnd (a1.toInt64 : Int64) fun (j_1 : Int64) => bnd (F_k_X10_within_0 j_1 (0 : Int64) (3 : Int64) : Int32) fun (r_2 : Int32) => if r_2 = (0 : Int32) then ((((-2) : Int32), (0 : Int32), fz15, fz16, fz39)) else (bnd (a2.toInt64 : Int64) fun (j_17 : Int64) => bnd (F_k_X10_isHill_0 j_17 fz1 : Int32) fun (r_18 : Int32) => if r_18 = (0 : Int32) then ((((-2) : Int32), (0 : Int32), fz15, fz16, fz39)) else (bnd (F_k_X10_noTray_0 a1 fz37 : Int32) fun (r_26 : Int32) => if r_26 = (0 : Int32) then (bnd (F_k_X10_standNow_0 fz1 : Int32) fun (r_32 : Int32) => W9 (L_k_X10_lists_0_1 a1 a2 fz1 fz38) (0, r_32, fz15, fz16, fz39)) else ((r_26, (0 : Int32), fz15, fz16, fz39))))
set_option maxHeartbeats 4000000 in
set_option maxRecDepth 100000 in
theorem k_X10_lists_0 (l : Launch) (V : GV) (z : Nat → Nat) (a1 : Int32) (a2 : Int32) (pz0_0 : Int32) (pz0_5 : Int32) (pz0_6 : Int32) (pz0_7 : Int32) (pz0_8 : Int32) (pz0_9 : Int32) (pz0_10 : Int32) (pz0_11 : Int32) (pz0_12 : Int32) (pz0_13 : Int32) (pz0_14 : Int32) (pz0_18 : Int32) (pz0_19 : Int32) (pz0_22 : Int32) (pz0_23 : Int32) (pz0_29 : Int32) (fz1 : Nat → Int32) (fz15 : Nat → Int32) (fz16 : Nat → Int32) (fz37 : Nat → Int32) (fz38 : Nat → Int32) (fz39 : Nat → Int64) (bpz0_5 : iv 0 900 pz0_5) (bpz0_6 : iv 0 900 pz0_6) (bpz0_7 : iv 0 900 pz0_7) (bpz0_8 : iv 0 900 pz0_8) (bpz0_10 : iv 0 999 pz0_10) (bpz0_11 : iv 0 4 pz0_11) (bpz0_12 : iv 0 900 pz0_12) (bpz0_13 : iv 0 4 pz0_13) (bpz0_14 : iv (-1) 900 pz0_14) (bpz0_18 : iv 0 2 pz0_18) (bpz0_22 : iv 0 9999 pz0_22) (bpz0_29 : iv 0 10000 pz0_29) (tfz1 : ivT tA fz1) (tfz16 : ivT tW fz16) (tfz37 : ∀ j, iv (-1) 3 (fz37 j)) (tfz38 : ∀ j, iv 0 40 (fz38 j)) (hf0 : RW fz1) : Ct l V yX10_lists (.code yX10_lists cX10_lists 6 (some .int)) 5 [.ref (z 0), .int a1, .int a2] [(z 0, .inr (10, mo z pz0_0 pz0_5 pz0_6 pz0_7 pz0_8 pz0_9 pz0_10 pz0_11 pz0_12 pz0_13 pz0_14 pz0_18 pz0_19 pz0_22 pz0_23 pz0_29)), (z 1, aI V 3075 fz1), (z 15, aI V 900 fz15), (z 16, aI V 6 fz16), (z 37, aI V 4 fz37), (z 38, aI V 4 fz38), (z 39, aJ V 160 fz39)] 0 0 (QI V (fun (r : Int32) (w : va_W) => ∃ (v0 : Int32) (g1 : Nat → Int32) (g2 : Nat → Int32) (g3 : Nat → Int64), (ivT tW g2) ∧ iv (-6) 40 r ∧ (RW fz1) ∧ r = (F_k_X10_lists_0 a1 a2 fz1 fz15 fz16 fz37 fz38 fz39).1 ∧ v0 = (F_k_X10_lists_0 a1 a2 fz1 fz15 fz16 fz37 fz38 fz39).2.1 ∧ g1 = (F_k_X10_lists_0 a1 a2 fz1 fz15 fz16 fz37 fz38 fz39).2.2.1 ∧ g2 = (F_k_X10_lists_0 a1 a2 fz1 fz15 fz16 fz37 fz38 fz39).2.2.2.1 ∧ g3 = (F_k_X10_lists_0 a1 a2 fz1 fz15 fz16 fz37 fz38 fz39).2.2.2.2 ∧ w = [(z 0, .inr (10, mo z v0 pz0_5 pz0_6 pz0_7 pz0_8 pz0_9 pz0_10 pz0_11 pz0_12 pz0_13 pz0_14 pz0_18 pz0_19 pz0_22 pz0_23 pz0_29)), (z 1, aI V 3075 fz1), (z 15, aI V 900 g1), (z 16, aI V 6 g2), (z 37, aI V 4 fz37), (z 38, aI V 4 fz38), (z 39, aJ V 160 g3)])) := by
  refine Ct.of (by decide) (Nat.le_of_ble_eq_true rfl) (fun p e s m below meth c A ls hx hb hr hml hown hlk hnm hg hP hK hD hE hA hS hl => ?_)
  have hl : lv_has ls 6 [(0, .ref (z 0)), (1, .int a1), (2, .int a2)] := hl
  obtain ⟨T0, hT0⟩ : ∃ T9, T9 = F_k_X10_lists_0 a1 a2 fz1 fz15 fz16 fz37 fz38 fz39 := ⟨_, rfl⟩
  have hR := hT0.trans (F_k_X10_lists_0.eq_1 ..)
  refine lv_aload_n hx hb dX10_lists_0 rfl (lv_at hl 0 rfl) ?_
  refine lv_iconst (v := 0) hx hb dX10_lists_1 (by decide) ?_
  refine va_put (ci := 10) (v := .int 0) (ty := .int) (C := RX10) (T := TX10) (N := 40) hx hb hg inX10 tyX10 tyX10_ok nmX10 hown hK hP hD hS 0 rfl rfl 0 (by decide) (hg _ q_5_224) (fun _ h9 => h9) rfl (by decide +kernel) rfl rfl (Nat.le_of_ble_eq_true rfl) dX10_lists_2 (fun H locs hP hD hS => ?_)
  have hP : va_P V.1 vwCl [(z 0, .inr (10, mo z 0 pz0_5 pz0_6 pz0_7 pz0_8 pz0_9 pz0_10 pz0_11 pz0_12 pz0_13 pz0_14 pz0_18 pz0_19 pz0_22 pz0_23 pz0_29)), (z 1, aI V 3075 fz1), (z 15, aI V 900 fz15), (z 16, aI V 6 fz16), (z 37, aI V 4 fz37), (z 38, aI V 4 fz38), (z 39, aJ V 160 fz39)] H := hP
  have hD := cpD hP hD
  refine lv_iload_n hx hb dX10_lists_5 rfl (lv_at hl 1 rfl) ?_
  refine lv_i2l hx hb dX10_lists_6 rfl ?_
  refine lv_topl (fun j_1 ej_1 => ?_)
  replace hR := tb hR ej_1
  refine lv_lconst (v := 0) hx hb dX10_lists_7 (by decide) ?_
  refine lv_ldc2 (v := 3) hx hb hown (hg _ q_7_107) dX10_lists_8 ?_
  refine jnI (wr := [(z 0, .inr (10, mo z 0 pz0_5 pz0_6 pz0_7 pz0_8 pz0_9 pz0_10 pz0_11 pz0_12 pz0_13 pz0_14 pz0_18 pz0_19 pz0_22 pz0_23 pz0_29)), (z 1, aI V 3075 fz1), (z 15, aI V 900 fz15), (z 16, aI V 6 fz16), (z 37, aI V 4 fz37), (z 38, aI V 4 fz38), (z 39, aJ V 160 fz39)]) (rnS (rest := []) ⟨hx, hb, hml, hown, hg⟩ (k_X10_within_0 l V j_1 0 3) mt_X10_within q_6_114 ⟨Nat.le_of_ble_eq_true rfl, Nat.le_of_ble_eq_true rfl⟩ hK hP hD hS hA hE [] rfl rfl rfl hl.1 rfl (Nat.le_of_ble_eq_true rfl) dX10_lists_11 ⟨Nat.le_of_ble_eq_true rfl, Nat.le_of_ble_eq_true rfl⟩) hP hD hS hA [] [0, 1, 2, 3, 4, 5, 6] rfl rfl rfl (by decide) (fun r_2 w H locs hw hP hD hS => ?_)
  obtain ⟨br_2, g_3, g_4, g_5, et_6, rfl⟩ := hw
  replace hR := tb hR et_6
  have hP : va_P V.1 vwCl [(z 0, .inr (10, mo z 0 pz0_5 pz0_6 pz0_7 pz0_8 pz0_9 pz0_10 pz0_11 pz0_12 pz0_13 pz0_14 pz0_18 pz0_19 pz0_22 pz0_23 pz0_29)), (z 1, aI V 3075 fz1), (z 15, aI V 900 fz15), (z 16, aI V 6 fz16), (z 37, aI V 4 fz37), (z 38, aI V 4 fz38), (z 39, aJ V 160 fz39)] H := hP
  have hD := cpD hP hD
  refine lv_if_eq (tgt := 26) hx hb dX10_lists_14 (by decide) (fun c_8 => ?_) (fun c_8 => ?_)
  · replace hR := ti hR c_8
    have b_9 : iv 0 0 r_2 := iv_q c_8 (iv_c (0 : Int32) (a := 0) (b := 0) (by decide))
    refine lv_bipush (v := (-2)) hx hb dX10_lists_26 (by decide) ?_
    exact fiI hx hb hr hlk hK hP hD hS dX10_lists_28 (Nat.le_of_ble_eq_true rfl) (Nat.le_of_ble_eq_true rfl) (⟨0, fz15, fz16, fz39, tfz16, (iv_c ((-2) : Int32) (by decide)), hf0, (congrArg Prod.fst (hR.symm.trans hT0)), (congrArg Prod.fst (congrArg Prod.snd (hR.symm.trans hT0))), (congrArg Prod.fst (congrArg Prod.snd (congrArg Prod.snd (hR.symm.trans hT0)))), (congrArg Prod.fst (congrArg Prod.snd (congrArg Prod.snd (congrArg Prod.snd (hR.symm.trans hT0))))), (congrArg Prod.snd (congrArg Prod.snd (congrArg Prod.snd (congrArg Prod.snd (hR.symm.trans hT0))))), rfl⟩)
  · replace hR := te hR c_8
    have b_10 : iv 1 1 r_2 := iv_n0 c_8 br_2 (iv_c (0 : Int32) (a := 0) (b := 0) (by decide)) (by decide)
    have c_11 : (0 : Int64) ≤ j_1 := (g_4 (iv_eqp b_10 (iv_c (1 : Int32) (by decide))))
    have b_12 : ivL 0 9223372036854775807 j_1 := ivL_e2 c_11 (ivL_c (0 : Int64) (a := 0) (b := 0) (by decide)) (ivL_top j_1) (by decide)
    have b_13 : iv 0 2147483647 a1 := iv_cap (ivL_i ej_1 b_12) (iv_top a1) (by decide)
    have c_14 : j_1 ≤ 3 := (g_5 (iv_eqp b_10 (iv_c (1 : Int32) (by decide))))
    have b_15 : ivL 0 3 j_1 := ivL_e1 c_14 b_12 (ivL_c (3 : Int64) (a := 3) (b := 3) (by decide)) (by decide)
    have b_16 : iv 0 3 a1 := iv_cap (ivL_i ej_1 b_15) b_13 (by decide)
    refine lv_aload_n hx hb dX10_lists_17 rfl (lv_at hl 0 rfl) ?_
    refine lv_iload_n hx hb dX10_lists_18 rfl (lv_at hl 2 rfl) ?_
    refine lv_i2l hx hb dX10_lists_19 rfl ?_
    refine lv_topl (fun j_17 ej_17 => ?_)
    replace hR := tb hR ej_17
    refine jnI (wr := [(z 15, aI V 900 fz15), (z 16, aI V 6 fz16), (z 37, aI V 4 fz37), (z 38, aI V 4 fz38), (z 39, aJ V 160 fz39)]) (rnV (rest := []) ⟨hx, hb, hml, hown, hg⟩ (k_X10_isHill_0 l V z j_17 0 pz0_5 pz0_6 pz0_7 pz0_8 pz0_9 pz0_10 pz0_11 pz0_12 pz0_13 pz0_14 pz0_18 pz0_19 pz0_22 pz0_23 pz0_29 fz1 bpz0_5 bpz0_6 bpz0_7 bpz0_8 bpz0_10 bpz0_11 bpz0_12 bpz0_13 bpz0_14 bpz0_18 bpz0_22 bpz0_29 tfz1) mt_X10_isHill q_6_235 ⟨Nat.le_of_ble_eq_true rfl, Nat.le_of_ble_eq_true rfl⟩ hK hP hD hS hA hE [0, 1] rfl rfl 0 rfl rfl rfl rfl hl.1 rfl (Nat.le_of_ble_eq_true rfl) dX10_lists_20 ⟨Nat.le_of_ble_eq_true rfl, Nat.le_of_ble_eq_true rfl⟩) hP hD hS hA [0, 1] [2, 3, 4, 5, 6] rfl rfl rfl (by decide) (fun r_18 w H locs hw hP hD hS => ?_)
    obtain ⟨br_18, g_19, et_20, rfl⟩ := hw
    replace hR := tb hR et_20
    have hP : va_P V.1 vwCl [(z 15, aI V 900 fz15), (z 16, aI V 6 fz16), (z 37, aI V 4 fz37), (z 38, aI V 4 fz38), (z 39, aJ V 160 fz39), (z 0, .inr (10, mo z 0 pz0_5 pz0_6 pz0_7 pz0_8 pz0_9 pz0_10 pz0_11 pz0_12 pz0_13 pz0_14 pz0_18 pz0_19 pz0_22 pz0_23 pz0_29)), (z 1, aI V 3075 fz1)] H := hP
    have hD := cpD hP hD
    refine lv_if_ne (tgt := 29) hx hb dX10_lists_23 (by decide) (fun c_22 => ?_) (fun c_22 => ?_)
    · replace hR := te hR c_22
      have b_23 : iv 1 1 r_18 := iv_n0 c_22 br_18 (iv_c (0 : Int32) (a := 0) (b := 0) (by decide)) (by decide)
      have b_24 : ivL 0 3 j_17 := ivL_cap (g_19 (iv_eqp b_23 (iv_c (1 : Int32) (by decide)))) (ivL_top j_17) (by decide)
      have b_25 : iv 0 3 a2 := iv_cap (ivL_i ej_17 b_24) (iv_top a2) (by decide)
      refine lv_aload_n hx hb dX10_lists_29 rfl (lv_at hl 0 rfl) ?_
      refine lv_iload_n hx hb dX10_lists_30 rfl (lv_at hl 1 rfl) ?_
      refine jnI (wr := [(z 15, aI V 900 fz15), (z 16, aI V 6 fz16), (z 38, aI V 4 fz38), (z 39, aJ V 160 fz39), (z 1, aI V 3075 fz1)]) (rnV (rest := []) ⟨hx, hb, hml, hown, hg⟩ (k_X10_noTray_0 l V z a1 0 pz0_5 pz0_6 pz0_7 pz0_8 pz0_9 pz0_10 pz0_11 pz0_12 pz0_13 pz0_14 pz0_18 pz0_19 pz0_22 pz0_23 pz0_29 fz37 bpz0_5 bpz0_6 bpz0_7 bpz0_8 bpz0_10 bpz0_11 bpz0_12 bpz0_13 bpz0_14 bpz0_18 bpz0_22 bpz0_29 tfz37) mt_X10_noTray q_7_108 ⟨Nat.le_of_ble_eq_true rfl, Nat.le_of_ble_eq_true rfl⟩ hK hP hD hS hA hE [5, 2] rfl rfl 5 rfl rfl rfl rfl hl.1 rfl (Nat.le_of_ble_eq_true rfl) dX10_lists_31 ⟨Nat.le_of_ble_eq_true rfl, Nat.le_of_ble_eq_true rfl⟩) hP hD hS hA [5, 2] [0, 1, 3, 4, 6] rfl rfl rfl (by decide) (fun r_26 w H locs hw hP hD hS => ?_)
      obtain ⟨br_26, g_27, et_28, rfl⟩ := hw
      replace hR := tb hR et_28
      have hP : va_P V.1 vwCl [(z 15, aI V 900 fz15), (z 16, aI V 6 fz16), (z 38, aI V 4 fz38), (z 39, aJ V 160 fz39), (z 1, aI V 3075 fz1), (z 0, .inr (10, mo z 0 pz0_5 pz0_6 pz0_7 pz0_8 pz0_9 pz0_10 pz0_11 pz0_12 pz0_13 pz0_14 pz0_18 pz0_19 pz0_22 pz0_23 pz0_29)), (z 37, aI V 4 fz37)] H := hP
      have hD := cpD hP hD
      refine lv_istore_n (lv' := [(3, .int r_26), (0, .ref (z 0)), (1, .int a1), (2, .int a2)]) hx hb dX10_lists_34 rfl hl (by decide) rfl (fun ls hl => ?_)
      refine lv_iload_n hx hb dX10_lists_35 rfl (lv_at hl 0 rfl) ?_
      refine lv_if_eq (tgt := 41) hx hb dX10_lists_36 (by decide) (fun c_30 => ?_) (fun c_30 => ?_)
      · replace hR := ti hR c_30
        have b_31 : iv 0 0 r_26 := iv_q c_30 (iv_c (0 : Int32) (a := 0) (b := 0) (by decide))
        refine lv_aload_n hx hb dX10_lists_41 rfl (lv_at hl 1 rfl) ?_
        refine jnI (wr := [(z 15, aI V 900 fz15), (z 16, aI V 6 fz16), (z 38, aI V 4 fz38), (z 39, aJ V 160 fz39), (z 37, aI V 4 fz37)]) (rnV (rest := []) ⟨hx, hb, hml, hown, hg⟩ (k_X10_standNow_0 l V z 0 pz0_5 pz0_6 pz0_7 pz0_8 pz0_9 pz0_10 pz0_11 pz0_12 pz0_13 pz0_14 pz0_18 pz0_19 pz0_22 pz0_23 pz0_29 fz1 bpz0_5 bpz0_6 bpz0_7 bpz0_8 bpz0_10 bpz0_11 bpz0_12 bpz0_13 bpz0_14 bpz0_18 bpz0_22 bpz0_29 tfz1) mt_X10_standNow q_7_11 ⟨Nat.le_of_ble_eq_true rfl, Nat.le_of_ble_eq_true rfl⟩ hK hP hD hS hA hE [5, 4] rfl rfl 5 rfl rfl rfl rfl hl.1 rfl (Nat.le_of_ble_eq_true rfl) dX10_lists_42 ⟨Nat.le_of_ble_eq_true rfl, Nat.le_of_ble_eq_true rfl⟩) hP hD hS hA [5, 4] [0, 1, 2, 3, 6] rfl rfl rfl (by decide) (fun r_32 w H locs hw hP hD hS => ?_)
        obtain ⟨br_32, er_32, et_33, rfl⟩ := hw
        replace hR := tb hR et_33
        have hP : va_P V.1 vwCl [(z 15, aI V 900 fz15), (z 16, aI V 6 fz16), (z 38, aI V 4 fz38), (z 39, aJ V 160 fz39), (z 37, aI V 4 fz37), (z 0, .inr (10, mo z 0 pz0_5 pz0_6 pz0_7 pz0_8 pz0_9 pz0_10 pz0_11 pz0_12 pz0_13 pz0_14 pz0_18 pz0_19 pz0_22 pz0_23 pz0_29)), (z 1, aI V 3075 fz1)] H := hP
        have hD := cpD hP hD
        refine lv_istore (lv' := [(4, .int r_32), (3, .int r_26), (0, .ref (z 0)), (1, .int a1), (2, .int a2)]) hx hb dX10_lists_45 hl (by decide) rfl (fun ls hl => ?_)
        refine lv_iconst (v := 0) hx hb dX10_lists_47 (by decide) ?_
        refine lv_istore (lv' := [(5, .int 0), (4, .int r_32), (3, .int r_26), (0, .ref (z 0)), (1, .int a1), (2, .int a2)]) hx hb dX10_lists_48 hl (by decide) rfl (fun ls hl => ?_)
        refine loopF (X := fun (n_40 : Nat) (H : Heap) (locs : List Loc) (ls : Array Slot) => ∃ (u_35 : Int32) (u_36 : Int32) (f_37 : Nat → Int32) (f_38 : Nat → Int32) (f_39 : Nat → Int64), (iv 0 2147483647 u_35) ∧ (iv 0 9999 u_36) ∧ (ivT tW f_38) ∧ (RW fz1) ∧ T0 = W9 (L_k_X10_lists_0_1 a1 a2 fz1 fz38) (u_35, u_36, f_37, f_38, f_39) ∧ n_40 = (2147483647 - (u_35 : Int32).toInt).toNat ∧ va_P V.1 vwCl [(z 15, aI V 900 f_37), (z 16, aI V 6 f_38), (z 38, aI V 4 fz38), (z 39, aJ V 160 f_39), (z 37, aI V 4 fz37), (z 0, .inr (10, mo z 0 pz0_5 pz0_6 pz0_7 pz0_8 pz0_9 pz0_10 pz0_11 pz0_12 pz0_13 pz0_14 pz0_18 pz0_19 pz0_22 pz0_23 pz0_29)), (z 1, aI V 3075 fz1)] H ∧ va_D A [(z 15, aI V 900 f_37), (z 16, aI V 6 f_38), (z 38, aI V 4 fz38), (z 39, aJ V 160 f_39), (z 37, aI V 4 fz37), (z 0, .inr (10, mo z 0 pz0_5 pz0_6 pz0_7 pz0_8 pz0_9 pz0_10 pz0_11 pz0_12 pz0_13 pz0_14 pz0_18 pz0_19 pz0_22 pz0_23 pz0_29)), (z 1, aI V 3075 fz1)] ∧ va_S A s.heap H locs ∧ lv_has ls 6 [(5, .int u_35), (4, .int u_36), (3, .int r_26), (0, .ref (z 0)), (1, .int a1), (2, .int a2)]) (g := fun ls => F0 m 50 ls []) (fun n_40 H locs ls hX ihn_40 => ?_) _ ⟨0, r_32, fz15, fz16, fz39, (iv_c (0 : Int32) (by decide)), br_32, tfz16, hf0, hR, rfl, hP, hD, hS, lv_sub hl [0, 1, 2, 3, 4, 5] rfl⟩
        obtain ⟨u_35, u_36, f_37, f_38, f_39, bu_35, bu_36, tf_38, inn_40_0, hR, en_40, hP, hD, hS, hl⟩ := hX
        obtain ⟨Tn_40, hR, hAn_40⟩ := tw hR
        replace hR : Tn_40 = B_k_X10_lists_0_1 a1 a2 fz1 fz38 u_35 u_36 f_37 f_38 f_39 := hR
        replace hR := hR.trans (B_k_X10_lists_0_1.eq_1 ..)
        refine lv_iload hx hb dX10_lists_50 (lv_at hl 0 rfl) ?_
        refine lv_aload_n hx hb dX10_lists_52 rfl (lv_at hl 3 rfl) ?_
        refine va_get (ci := 10) (v := .ref (z 38)) (C := RX10) (T := TX10) (N := 40) hx hb hg inX10 hown hK hP 5 rfl rfl 38 (by decide) (hg _ q_6_22) (fun _ h9 => h9) rfl dX10_lists_53 ?_
        refine lv_iload_n hx hb dX10_lists_56 rfl (lv_at hl 4 rfl) ?_
        refine va_iald hx hb hK hP 2 0 rfl rfl (iv_in b_16 (by decide)) dX10_lists_57 ?_
        refine lv_topi (fun x_41 ex_41 => ?_)
        have bx_41 : iv 0 40 x_41 := by rw [ex_41]; exact tfz38 _
        replace hR := tb hR ex_41
        refine lv_icmp_ge (tgt := 102) hx hb dX10_lists_58 (by decide) (fun c_42 => ?_) (fun c_42 => ?_)
        · replace hR := ti hR c_42
          refine lv_aload_n hx hb dX10_lists_102 rfl (lv_at hl 3 rfl) ?_
          refine va_get (ci := 10) (v := .ref (z 38)) (C := RX10) (T := TX10) (N := 40) hx hb hg inX10 hown hK hP 5 rfl rfl 38 (by decide) (hg _ q_6_22) (fun _ h9 => h9) rfl dX10_lists_103 ?_
          refine lv_iload_n hx hb dX10_lists_106 rfl (lv_at hl 4 rfl) ?_
          refine va_iald hx hb hK hP 2 0 rfl rfl (iv_in b_16 (by decide)) dX10_lists_107 ?_
          refine tpi (y := x_41) ex_41.symm ?_
          have hP := subP (ws' := [(z 0, .inr (10, mo z 0 pz0_5 pz0_6 pz0_7 pz0_8 pz0_9 pz0_10 pz0_11 pz0_12 pz0_13 pz0_14 pz0_18 pz0_19 pz0_22 pz0_23 pz0_29)), (z 1, aI V 3075 fz1), (z 15, aI V 900 f_37), (z 16, aI V 6 f_38), (z 37, aI V 4 fz37), (z 38, aI V 4 fz38), (z 39, aJ V 160 f_39)]) hP [5, 6, 0, 1, 4, 2, 3] rfl
          have hD := subD hP hD [5, 6, 0, 1, 4, 2, 3] rfl rfl
          exact fiI hx hb hr hlk hK hP hD hS dX10_lists_108 (Nat.le_of_ble_eq_true rfl) (Nat.le_of_ble_eq_true rfl) (⟨0, f_37, f_38, f_39, tf_38, (iv_w bx_41 (by decide)), inn_40_0, (congrArg Prod.fst ((tx hAn_40 hR).symm.trans hT0)), (congrArg Prod.fst (congrArg Prod.snd ((tx hAn_40 hR).symm.trans hT0))), (congrArg Prod.fst (congrArg Prod.snd (congrArg Prod.snd ((tx hAn_40 hR).symm.trans hT0)))), (congrArg Prod.fst (congrArg Prod.snd (congrArg Prod.snd (congrArg Prod.snd ((tx hAn_40 hR).symm.trans hT0))))), (congrArg Prod.snd (congrArg Prod.snd (congrArg Prod.snd (congrArg Prod.snd ((tx hAn_40 hR).symm.trans hT0))))), rfl⟩)
        · replace hR := te hR c_42
          have b_43 : iv 0 39 u_35 := iv_l1 (Int32.not_le.mp c_42) bu_35 bx_41 (by decide)
          have b_44 : iv 1 40 x_41 := iv_l2 (Int32.not_le.mp c_42) bu_35 bx_41 (by decide)
          refine lv_aload_n hx hb dX10_lists_61 rfl (lv_at hl 3 rfl) ?_
          refine lv_iload hx hb dX10_lists_62 (lv_at hl 1 rfl) ?_
          refine lv_iconst (v := 0) hx hb dX10_lists_64 (by decide) ?_
          refine lv_aload_n hx hb dX10_lists_65 rfl (lv_at hl 3 rfl) ?_
          refine va_get (ci := 10) (v := .ref (z 1)) (C := RX10) (T := TX10) (N := 40) hx hb hg inX10 hown hK hP 5 rfl rfl 1 (by decide) (hg _ q_5_225) (fun _ h9 => h9) rfl dX10_lists_66 ?_
          refine lv_bipush (v := 51) hx hb dX10_lists_69 (by decide) ?_
          refine va_iald hx hb hK hP 6 0 rfl rfl (vin (by decide +kernel)) dX10_lists_71 ?_
          refine lv_topi (fun x_45 ex_45 => ?_)
          have bx_45 : iv 0 9 x_45 := by rw [ex_45]; exact rdT (a := 51) (n := 1) tfz1 (iv_c (51 : Int32) (a := 51) (b := 51) (by decide)) (by decide) (by decide +kernel)
          replace hR := tb hR ex_45
          refine jnI (wr := [(z 38, aI V 4 fz38), (z 39, aJ V 160 f_39), (z 37, aI V 4 fz37)]) (rnV (rest := []) ⟨hx, hb, hml, hown, hg⟩ (k_X10_nightTo_0 l V z u_36 0 x_45 f_37 f_38 0 pz0_5 pz0_6 pz0_7 pz0_8 pz0_9 pz0_10 pz0_11 pz0_12 pz0_13 pz0_14 pz0_18 pz0_19 pz0_22 pz0_23 pz0_29 fz1 bu_36 tf_38 bpz0_5 bpz0_6 bpz0_7 bpz0_8 bpz0_10 bpz0_11 bpz0_12 bpz0_13 bpz0_14 bpz0_18 bpz0_22 bpz0_29 tfz1 inn_40_0) mt_X10_nightTo q_7_18 ⟨Nat.le_of_ble_eq_true rfl, Nat.le_of_ble_eq_true rfl⟩ hK hP hD hS hA hE [0, 1, 5, 6] rfl rfl 5 rfl rfl rfl rfl hl.1 rfl (Nat.le_of_ble_eq_true rfl) dX10_lists_72 ⟨Nat.le_of_ble_eq_true rfl, Nat.le_of_ble_eq_true rfl⟩) hP hD hS hA [0, 1, 5, 6] [2, 3, 4] rfl rfl rfl (by decide) (fun r_46 w H locs hw hP hD hS => ?_)
          obtain ⟨f_47, f_48, tf_48, br_46, g_49, et_50, et_51, et_52, rfl⟩ := hw
          replace hR := tb0 hR
          replace hR := tb hR et_50
          replace hR := tb hR et_51
          replace hR := tb hR et_52
          have hP : va_P V.1 vwCl [(z 38, aI V 4 fz38), (z 39, aJ V 160 f_39), (z 37, aI V 4 fz37), (z 15, aI V 900 f_47), (z 16, aI V 6 f_48), (z 0, .inr (10, mo z 0 pz0_5 pz0_6 pz0_7 pz0_8 pz0_9 pz0_10 pz0_11 pz0_12 pz0_13 pz0_14 pz0_18 pz0_19 pz0_22 pz0_23 pz0_29)), (z 1, aI V 3075 fz1)] H := hP
          have hD := cpD hP hD
          refine lv_istore (lv' := [(4, .int r_46), (5, .int u_35), (3, .int r_26), (0, .ref (z 0)), (1, .int a1), (2, .int a2)]) hx hb dX10_lists_75 hl (by decide) rfl (fun ls hl => ?_)
          refine lv_aload_n hx hb dX10_lists_77 rfl (lv_at hl 3 rfl) ?_
          refine va_get (ci := 10) (v := .ref (z 39)) (C := RX10) (T := TX10) (N := 40) hx hb hg inX10 hown hK hP 5 rfl rfl 39 (by decide) (hg _ q_6_23) (fun _ h9 => h9) rfl dX10_lists_78 ?_
          refine lv_bipush (v := 40) hx hb dX10_lists_81 (by decide) ?_
          refine lv_iload_n hx hb dX10_lists_83 rfl (lv_at hl 4 rfl) ?_
          refine lv_imul hx hb dX10_lists_84 ?_
          refine lv_topi (fun x_54 ex_54 => ?_)
          have bx_54 : iv 0 120 x_54 := by rw [ex_54]; exact iv_cmul (iv_c (40 : Int32) (a := 40) (b := 40) (by decide)) b_16 (by decide)
          replace hR := tb hR ex_54
          refine lv_iload hx hb dX10_lists_85 (lv_at hl 1 rfl) ?_
          refine lv_iadd hx hb dX10_lists_87 ?_
          refine lv_topi (fun x_55 ex_55 => ?_)
          have bx_55 : iv 0 159 x_55 := by rw [ex_55]; exact iv_add bx_54 b_43 (by decide)
          replace hR := tb hR ex_55
          refine lv_iload hx hb dX10_lists_88 (lv_at hl 0 rfl) ?_
          refine lv_iload_n hx hb dX10_lists_90 rfl (lv_at hl 5 rfl) ?_
          refine jnI (wr := [(z 38, aI V 4 fz38), (z 39, aJ V 160 f_39), (z 37, aI V 4 fz37), (z 15, aI V 900 f_47), (z 16, aI V 6 f_48), (z 0, .inr (10, mo z 0 pz0_5 pz0_6 pz0_7 pz0_8 pz0_9 pz0_10 pz0_11 pz0_12 pz0_13 pz0_14 pz0_18 pz0_19 pz0_22 pz0_23 pz0_29)), (z 1, aI V 3075 fz1)]) (rnS (rest := [.int x_55, .ref (z 39)]) ⟨hx, hb, hml, hown, hg⟩ (k_X10_stackIn_0 l V r_46 a2 (iv_w br_46 (by decide)) b_25) mt_X10_stackIn q_7_26 ⟨Nat.le_of_ble_eq_true rfl, Nat.le_of_ble_eq_true rfl⟩ hK hP hD hS hA hE [] rfl rfl rfl hl.1 rfl (Nat.le_of_ble_eq_true rfl) dX10_lists_91 ⟨Nat.le_of_ble_eq_true rfl, Nat.le_of_ble_eq_true rfl⟩) hP hD hS hA [] [0, 1, 2, 3, 4, 5, 6] rfl rfl rfl (by decide) (fun r_56 w H locs hw hP hD hS => ?_)
          obtain ⟨br_56, er_56, et_57, rfl⟩ := hw
          replace hR := tb hR et_57
          have hP : va_P V.1 vwCl [(z 38, aI V 4 fz38), (z 39, aJ V 160 f_39), (z 37, aI V 4 fz37), (z 15, aI V 900 f_47), (z 16, aI V 6 f_48), (z 0, .inr (10, mo z 0 pz0_5 pz0_6 pz0_7 pz0_8 pz0_9 pz0_10 pz0_11 pz0_12 pz0_13 pz0_14 pz0_18 pz0_19 pz0_22 pz0_23 pz0_29)), (z 1, aI V 3075 fz1)] H := hP
          have hD := cpD hP hD
          refine lv_i2l hx hb dX10_lists_94 rfl ?_
          refine lv_topl (fun j_59 ej_59 => ?_)
          have bj_59 : ivL 0 4 j_59 := by rw [ej_59]; exact ivL_of br_56
          replace hR := tb hR ej_59
          refine va_last hx hb hK hP hD hS 1 2 rfl rfl (iv_in bx_55 (by decide)) dX10_lists_95 (fun H locs hP hD hS => ?_)
          obtain ⟨f_60, ef_60, hP, hD⟩ : ∃ f_60 : Nat → Int64, f_60 = (vp_updL f_39 (x_55 : Int32).toNatClampNeg j_59) ∧ va_P V.1 vwCl [(z 38, aI V 4 fz38), (z 39, aJ V 160 f_60), (z 37, aI V 4 fz37), (z 15, aI V 900 f_47), (z 16, aI V 6 f_48), (z 0, .inr (10, mo z 0 pz0_5 pz0_6 pz0_7 pz0_8 pz0_9 pz0_10 pz0_11 pz0_12 pz0_13 pz0_14 pz0_18 pz0_19 pz0_22 pz0_23 pz0_29)), (z 1, aI V 3075 fz1)] H ∧ va_D A [(z 38, aI V 4 fz38), (z 39, aJ V 160 f_60), (z 37, aI V 4 fz37), (z 15, aI V 900 f_47), (z 16, aI V 6 f_48), (z 0, .inr (10, mo z 0 pz0_5 pz0_6 pz0_7 pz0_8 pz0_9 pz0_10 pz0_11 pz0_12 pz0_13 pz0_14 pz0_18 pz0_19 pz0_22 pz0_23 pz0_29)), (z 1, aI V 3075 fz1)] := ⟨_, rfl, hP, hD⟩
          replace hR := tb hR ef_60
          obtain ⟨x_61, ex_61⟩ : ∃ z9 : Int32, z9 = u_35 + 1 := ⟨_, rfl⟩
          have bx_61 : iv 1 40 x_61 := by rw [ex_61]; exact iv_add b_43 (iv_c (1 : Int32) (a := 1) (b := 1) (by decide)) (by decide)
          replace hR := tb hR ex_61
          refine lv_iinc (v := x_61) (lv' := [(5, .int x_61), (4, .int r_46), (3, .int r_26), (0, .ref (z 0)), (1, .int a1), (2, .int a2)]) hx hb dX10_lists_96 hl (k := 1) rfl (by rw [ex_61]; rfl) (by decide) rfl (fun ls hl => ?_)
          refine lv_goto (tgt := 50) hx hb dX10_lists_99 (by decide) ?_
          have hP := subP (ws' := [(z 15, aI V 900 f_47), (z 16, aI V 6 f_48), (z 38, aI V 4 fz38), (z 39, aJ V 160 f_60), (z 37, aI V 4 fz37), (z 0, .inr (10, mo z 0 pz0_5 pz0_6 pz0_7 pz0_8 pz0_9 pz0_10 pz0_11 pz0_12 pz0_13 pz0_14 pz0_18 pz0_19 pz0_22 pz0_23 pz0_29)), (z 1, aI V 3075 fz1)]) hP [3, 4, 0, 1, 2, 5, 6] rfl
          have hD := subD hP hD [3, 4, 0, 1, 2, 5, 6] rfl rfl
          exact ihn_40 _ _ _ _ (by rw [en_40, ex_61]; exact mu_up b_43 (by decide)) ⟨x_61, r_46, f_47, f_48, f_60, (iv_w bx_61 (by decide)), (iv_w br_46 (by decide)), tf_48, g_49, (tbk hAn_40 hR), rfl, hP, hD, hS, lv_sub hl [0, 1, 2, 3, 4, 5] rfl⟩
      · replace hR := te hR c_30
        have b_62 : iv (-6) (-1) r_26 := iv_n1 c_30 br_26 (iv_c (0 : Int32) (a := 0) (b := 0) (by decide)) (by decide)
        refine lv_iload_n hx hb dX10_lists_39 rfl (lv_at hl 0 rfl) ?_
        have hP := subP (ws' := [(z 0, .inr (10, mo z 0 pz0_5 pz0_6 pz0_7 pz0_8 pz0_9 pz0_10 pz0_11 pz0_12 pz0_13 pz0_14 pz0_18 pz0_19 pz0_22 pz0_23 pz0_29)), (z 1, aI V 3075 fz1), (z 15, aI V 900 fz15), (z 16, aI V 6 fz16), (z 37, aI V 4 fz37), (z 38, aI V 4 fz38), (z 39, aJ V 160 fz39)]) hP [5, 4, 0, 1, 6, 2, 3] rfl
        have hD := subD hP hD [5, 4, 0, 1, 6, 2, 3] rfl rfl
        exact fiI hx hb hr hlk hK hP hD hS dX10_lists_40 (Nat.le_of_ble_eq_true rfl) (Nat.le_of_ble_eq_true rfl) (⟨0, fz15, fz16, fz39, tfz16, (iv_w b_62 (by decide)), hf0, (congrArg Prod.fst (hR.symm.trans hT0)), (congrArg Prod.fst (congrArg Prod.snd (hR.symm.trans hT0))), (congrArg Prod.fst (congrArg Prod.snd (congrArg Prod.snd (hR.symm.trans hT0)))), (congrArg Prod.fst (congrArg Prod.snd (congrArg Prod.snd (congrArg Prod.snd (hR.symm.trans hT0))))), (congrArg Prod.snd (congrArg Prod.snd (congrArg Prod.snd (congrArg Prod.snd (hR.symm.trans hT0))))), rfl⟩)
    · replace hR := ti hR c_22
      have b_63 : iv 0 0 r_18 := iv_q c_22 (iv_c (0 : Int32) (a := 0) (b := 0) (by decide))
      refine lv_bipush (v := (-2)) hx hb dX10_lists_26 (by decide) ?_
      have hP := subP (ws' := [(z 0, .inr (10, mo z 0 pz0_5 pz0_6 pz0_7 pz0_8 pz0_9 pz0_10 pz0_11 pz0_12 pz0_13 pz0_14 pz0_18 pz0_19 pz0_22 pz0_23 pz0_29)), (z 1, aI V 3075 fz1), (z 15, aI V 900 fz15), (z 16, aI V 6 fz16), (z 37, aI V 4 fz37), (z 38, aI V 4 fz38), (z 39, aJ V 160 fz39)]) hP [5, 6, 0, 1, 2, 3, 4] rfl
      have hD := subD hP hD [5, 6, 0, 1, 2, 3, 4] rfl rfl
      exact fiI hx hb hr hlk hK hP hD hS dX10_lists_28 (Nat.le_of_ble_eq_true rfl) (Nat.le_of_ble_eq_true rfl) (⟨0, fz15, fz16, fz39, tfz16, (iv_c ((-2) : Int32) (by decide)), hf0, (congrArg Prod.fst (hR.symm.trans hT0)), (congrArg Prod.fst (congrArg Prod.snd (hR.symm.trans hT0))), (congrArg Prod.fst (congrArg Prod.snd (congrArg Prod.snd (hR.symm.trans hT0)))), (congrArg Prod.fst (congrArg Prod.snd (congrArg Prod.snd (congrArg Prod.snd (hR.symm.trans hT0))))), (congrArg Prod.snd (congrArg Prod.snd (congrArg Prod.snd (congrArg Prod.snd (hR.symm.trans hT0))))), rfl⟩)
theorem dX10_image_0 : decode cX10_image 0 = .ok (.aload_n 0, 1) := by decide +kernel
theorem dX10_image_1 : decode cX10_image 1 = .ok (.iconst 0, 1) := by decide +kernel
theorem dX10_image_2 : decode cX10_image 2 = .ok (.putfield 1, 3) := by decide +kernel
theorem dX10_image_5 : decode cX10_image 5 = .ok (.iload_n 1, 1) := by decide +kernel
theorem dX10_image_6 : decode cX10_image 6 = .ok (.i2l, 1) := by decide +kernel
theorem dX10_image_7 : decode cX10_image 7 = .ok (.lconst 0, 1) := by decide +kernel
theorem dX10_image_8 : decode cX10_image 8 = .ok (.lconst 1, 1) := by decide +kernel
theorem dX10_image_9 : decode cX10_image 9 = .ok (.invokestatic 159, 3) := by decide +kernel
theorem dX10_image_12 : decode cX10_image 12 = .ok (.ifCond .ne 6, 3) := by decide +kernel
theorem dX10_image_18 : decode cX10_image 18 = .ok (.iconst 0, 1) := by decide +kernel
theorem dX10_image_19 : decode cX10_image 19 = .ok (.istore_n 2, 1) := by decide +kernel
theorem dX10_image_20 : decode cX10_image 20 = .ok (.iload_n 2, 1) := by decide +kernel
theorem dX10_image_21 : decode cX10_image 21 = .ok (.sipush 1025, 3) := by decide +kernel
theorem dX10_image_24 : decode cX10_image 24 = .ok (.if_icmp .ge 29, 3) := by decide +kernel
theorem dX10_image_53 : decode cX10_image 53 = .ok (.aload_n 0, 1) := by decide +kernel
theorem q_5_226 : Cond.fieldLink "BeaconDelayModel" 17 "BeaconDelayModel" "hasImage" "[Z" ∈ gw := gw_5 (i := 226) (by decide +kernel) rfl
theorem dX10_image_54 : decode cX10_image 54 = .ok (.getfield 17, 3) := by decide +kernel
theorem dX10_image_57 : decode cX10_image 57 = .ok (.iload_n 1, 1) := by decide +kernel
theorem dX10_image_58 : decode cX10_image 58 = .ok (.iconst 1, 1) := by decide +kernel
theorem dX10_image_59 : decode cX10_image 59 = .ok (.bastore, 1) := by decide +kernel
theorem dX10_image_60 : decode cX10_image 60 = .ok (.iconst 0, 1) := by decide +kernel
theorem dX10_image_61 : decode cX10_image 61 = .ok (.ireturn, 1) := by decide +kernel
theorem dX10_image_27 : decode cX10_image 27 = .ok (.aload_n 0, 1) := by decide +kernel
theorem dX10_image_28 : decode cX10_image 28 = .ok (.getfield 13, 3) := by decide +kernel
theorem dX10_image_31 : decode cX10_image 31 = .ok (.sipush 1025, 3) := by decide +kernel
theorem dX10_image_34 : decode cX10_image 34 = .ok (.iload_n 1, 1) := by decide +kernel
theorem dX10_image_35 : decode cX10_image 35 = .ok (.iconst 1, 1) := by decide +kernel
theorem dX10_image_36 : decode cX10_image 36 = .ok (.iadd, 1) := by decide +kernel
theorem dX10_image_37 : decode cX10_image 37 = .ok (.imul, 1) := by decide +kernel
theorem dX10_image_38 : decode cX10_image 38 = .ok (.iload_n 2, 1) := by decide +kernel
theorem dX10_image_39 : decode cX10_image 39 = .ok (.iadd, 1) := by decide +kernel
theorem dX10_image_40 : decode cX10_image 40 = .ok (.aload_n 0, 1) := by decide +kernel
theorem dX10_image_41 : decode cX10_image 41 = .ok (.getfield 13, 3) := by decide +kernel
theorem dX10_image_44 : decode cX10_image 44 = .ok (.iload_n 2, 1) := by decide +kernel
theorem dX10_image_45 : decode cX10_image 45 = .ok (.iaload, 1) := by decide +kernel
theorem dX10_image_46 : decode cX10_image 46 = .ok (.iastore, 1) := by decide +kernel
theorem dX10_image_47 : decode cX10_image 47 = .ok (.iinc 2 1, 3) := by decide +kernel
theorem dX10_image_50 : decode cX10_image 50 = .ok (.goto (-30), 3) := by decide +kernel
theorem dX10_image_15 : decode cX10_image 15 = .ok (.bipush (-2), 2) := by decide +kernel
theorem dX10_image_17 : decode cX10_image 17 = .ok (.ireturn, 1) := by decide +kernel
set_option maxRecDepth 100000 in
noncomputable def B_k_X10_image_0_1 (fz2 : Nat → Int32) (u_17 : Int32) (f_18 : Nat → Int32) : (Int32 × (Nat → Int32)) ⊕ (Int32 × Int32 × (Nat → Int32) × (Nat → Int32)) := if (1025 : Int32) ≤ u_17 then (bnd ((upd fz2 (0 : Int32).toNatClampNeg (vp_nar .boolean 1)) : Nat → Int32) fun (f_22 : Nat → Int32) => Sum.inr (((0 : Int32), (0 : Int32), f_18, f_22))) else (bnd ((1025 : Int32) + u_17 : Int32) fun (x_24 : Int32) => bnd (f_18 (u_17 : Int32).toNatClampNeg : Int32) fun (x_25 : Int32) => bnd ((upd f_18 (x_24 : Int32).toNatClampNeg x_25) : Nat → Int32) fun (f_26 : Nat → Int32) => bnd (u_17 + 1 : Int32) fun (x_27 : Int32) => Sum.inl (x_27, f_26))
noncomputable def L_k_X10_image_0_1 (fz2 : Nat → Int32) (q9 : Int32 × (Nat → Int32)) : (Int32 × (Nat → Int32)) ⊕ (Int32 × Int32 × (Nat → Int32) × (Nat → Int32)) := B_k_X10_image_0_1 fz2 q9.1 q9.2
set_option maxRecDepth 100000 in
noncomputable def B_k_X10_image_0_2 (fz2 : Nat → Int32) (u_28 : Int32) (f_29 : Nat → Int32) : (Int32 × (Nat → Int32)) ⊕ (Int32 × Int32 × (Nat → Int32) × (Nat → Int32)) := if (1025 : Int32) ≤ u_28 then (bnd ((upd fz2 (1 : Int32).toNatClampNeg (vp_nar .boolean 1)) : Nat → Int32) fun (f_33 : Nat → Int32) => Sum.inr (((0 : Int32), (0 : Int32), f_29, f_33))) else (bnd ((2050 : Int32) + u_28 : Int32) fun (x_35 : Int32) => bnd (f_29 (u_28 : Int32).toNatClampNeg : Int32) fun (x_36 : Int32) => bnd ((upd f_29 (x_35 : Int32).toNatClampNeg x_36) : Nat → Int32) fun (f_37 : Nat → Int32) => bnd (u_28 + 1 : Int32) fun (x_38 : Int32) => Sum.inl (x_38, f_37))
noncomputable def L_k_X10_image_0_2 (fz2 : Nat → Int32) (q9 : Int32 × (Nat → Int32)) : (Int32 × (Nat → Int32)) ⊕ (Int32 × Int32 × (Nat → Int32) × (Nat → Int32)) := B_k_X10_image_0_2 fz2 q9.1 q9.2
set_option maxRecDepth 100000 in
noncomputable def F_k_X10_image_0 (a1 : Int32) (fz1 : Nat → Int32) (fz2 : Nat → Int32) : Int32 × Int32 × (Nat → Int32) × (Nat → Int32) := bnd (a1.toInt64 : Int64) fun (j_1 : Int64) => bnd (F_k_X10_within_0 j_1 (0 : Int64) (1 : Int64) : Int32) fun (r_2 : Int32) => if r_2 = (0 : Int32) then ((((-2) : Int32), (0 : Int32), fz1, fz2)) else (if a1 = 0 then (W9 (L_k_X10_image_0_1 fz2) (0, fz1)) else (W9 (L_k_X10_image_0_2 fz2) (0, fz1)))
set_option maxHeartbeats 4000000 in
set_option maxRecDepth 100000 in
theorem k_X10_image_0 (l : Launch) (V : GV) (z : Nat → Nat) (a1 : Int32) (pz0_0 : Int32) (pz0_5 : Int32) (pz0_6 : Int32) (pz0_7 : Int32) (pz0_8 : Int32) (pz0_9 : Int32) (pz0_10 : Int32) (pz0_11 : Int32) (pz0_12 : Int32) (pz0_13 : Int32) (pz0_14 : Int32) (pz0_18 : Int32) (pz0_19 : Int32) (pz0_22 : Int32) (pz0_23 : Int32) (pz0_29 : Int32) (fz1 : Nat → Int32) (fz2 : Nat → Int32) (bpz0_5 : iv 0 900 pz0_5) (bpz0_6 : iv 0 900 pz0_6) (bpz0_7 : iv 0 900 pz0_7) (bpz0_8 : iv 0 900 pz0_8) (bpz0_10 : iv 0 999 pz0_10) (bpz0_11 : iv 0 4 pz0_11) (bpz0_12 : iv 0 900 pz0_12) (bpz0_13 : iv 0 4 pz0_13) (bpz0_14 : iv (-1) 900 pz0_14) (bpz0_18 : iv 0 2 pz0_18) (bpz0_22 : iv 0 9999 pz0_22) (bpz0_29 : iv 0 10000 pz0_29) (tfz1 : ivT tA fz1) (hf0 : RW fz1) : Ct l V yX10_image (.code yX10_image cX10_image 3 (some .int)) 2 [.ref (z 0), .int a1] [(z 0, .inr (10, mo z pz0_0 pz0_5 pz0_6 pz0_7 pz0_8 pz0_9 pz0_10 pz0_11 pz0_12 pz0_13 pz0_14 pz0_18 pz0_19 pz0_22 pz0_23 pz0_29)), (z 1, aI V 3075 fz1), (z 2, aZ V 2 fz2)] 0 0 (QI V (fun (r : Int32) (w : va_W) => ∃ (v0 : Int32) (g1 : Nat → Int32) (g2 : Nat → Int32), (ivT tA g1) ∧ iv (-2) 0 r ∧ (RW g1) ∧ r = (F_k_X10_image_0 a1 fz1 fz2).1 ∧ v0 = (F_k_X10_image_0 a1 fz1 fz2).2.1 ∧ g1 = (F_k_X10_image_0 a1 fz1 fz2).2.2.1 ∧ g2 = (F_k_X10_image_0 a1 fz1 fz2).2.2.2 ∧ w = [(z 0, .inr (10, mo z v0 pz0_5 pz0_6 pz0_7 pz0_8 pz0_9 pz0_10 pz0_11 pz0_12 pz0_13 pz0_14 pz0_18 pz0_19 pz0_22 pz0_23 pz0_29)), (z 1, aI V 3075 g1), (z 2, aZ V 2 g2)])) := by
  refine Ct.of (by decide) (Nat.le_of_ble_eq_true rfl) (fun p e s m below meth c A ls hx hb hr hml hown hlk hnm hg hP hK hD hE hA hS hl => ?_)
  have hl : lv_has ls 3 [(0, .ref (z 0)), (1, .int a1)] := hl
  obtain ⟨T0, hT0⟩ : ∃ T9, T9 = F_k_X10_image_0 a1 fz1 fz2 := ⟨_, rfl⟩
  have hR := hT0.trans (F_k_X10_image_0.eq_1 ..)
  refine lv_aload_n hx hb dX10_image_0 rfl (lv_at hl 0 rfl) ?_
  refine lv_iconst (v := 0) hx hb dX10_image_1 (by decide) ?_
  refine va_put (ci := 10) (v := .int 0) (ty := .int) (C := RX10) (T := TX10) (N := 40) hx hb hg inX10 tyX10 tyX10_ok nmX10 hown hK hP hD hS 0 rfl rfl 0 (by decide) (hg _ q_5_224) (fun _ h9 => h9) rfl (by decide +kernel) rfl rfl (Nat.le_of_ble_eq_true rfl) dX10_image_2 (fun H locs hP hD hS => ?_)
  have hP : va_P V.1 vwCl [(z 0, .inr (10, mo z 0 pz0_5 pz0_6 pz0_7 pz0_8 pz0_9 pz0_10 pz0_11 pz0_12 pz0_13 pz0_14 pz0_18 pz0_19 pz0_22 pz0_23 pz0_29)), (z 1, aI V 3075 fz1), (z 2, aZ V 2 fz2)] H := hP
  have hD := cpD hP hD
  refine lv_iload_n hx hb dX10_image_5 rfl (lv_at hl 1 rfl) ?_
  refine lv_i2l hx hb dX10_image_6 rfl ?_
  refine lv_topl (fun j_1 ej_1 => ?_)
  replace hR := tb hR ej_1
  refine lv_lconst (v := 0) hx hb dX10_image_7 (by decide) ?_
  refine lv_lconst (v := 1) hx hb dX10_image_8 (by decide) ?_
  refine jnI (wr := [(z 0, .inr (10, mo z 0 pz0_5 pz0_6 pz0_7 pz0_8 pz0_9 pz0_10 pz0_11 pz0_12 pz0_13 pz0_14 pz0_18 pz0_19 pz0_22 pz0_23 pz0_29)), (z 1, aI V 3075 fz1), (z 2, aZ V 2 fz2)]) (rnS (rest := []) ⟨hx, hb, hml, hown, hg⟩ (k_X10_within_0 l V j_1 0 1) mt_X10_within q_6_114 ⟨Nat.le_of_ble_eq_true rfl, Nat.le_of_ble_eq_true rfl⟩ hK hP hD hS hA hE [] rfl rfl rfl hl.1 rfl (Nat.le_of_ble_eq_true rfl) dX10_image_9 ⟨Nat.le_of_ble_eq_true rfl, Nat.le_of_ble_eq_true rfl⟩) hP hD hS hA [] [0, 1, 2] rfl rfl rfl (by decide) (fun r_2 w H locs hw hP hD hS => ?_)
  obtain ⟨br_2, g_3, g_4, g_5, et_6, rfl⟩ := hw
  replace hR := tb hR et_6
  have hP : va_P V.1 vwCl [(z 0, .inr (10, mo z 0 pz0_5 pz0_6 pz0_7 pz0_8 pz0_9 pz0_10 pz0_11 pz0_12 pz0_13 pz0_14 pz0_18 pz0_19 pz0_22 pz0_23 pz0_29)), (z 1, aI V 3075 fz1), (z 2, aZ V 2 fz2)] H := hP
  have hD := cpD hP hD
  refine lv_if_ne (tgt := 18) hx hb dX10_image_12 (by decide) (fun c_8 => ?_) (fun c_8 => ?_)
  · replace hR := te hR c_8
    have b_9 : iv 1 1 r_2 := iv_n0 c_8 br_2 (iv_c (0 : Int32) (a := 0) (b := 0) (by decide)) (by decide)
    have c_10 : (0 : Int64) ≤ j_1 := (g_4 (iv_eqp b_9 (iv_c (1 : Int32) (by decide))))
    have b_11 : ivL 0 9223372036854775807 j_1 := ivL_e2 c_10 (ivL_c (0 : Int64) (a := 0) (b := 0) (by decide)) (ivL_top j_1) (by decide)
    have b_12 : iv 0 2147483647 a1 := iv_cap (ivL_i ej_1 b_11) (iv_top a1) (by decide)
    have c_13 : j_1 ≤ 1 := (g_5 (iv_eqp b_9 (iv_c (1 : Int32) (by decide))))
    have b_14 : ivL 0 1 j_1 := ivL_e1 c_13 b_11 (ivL_c (1 : Int64) (a := 1) (b := 1) (by decide)) (by decide)
    have b_15 : iv 0 1 a1 := iv_cap (ivL_i ej_1 b_14) b_12 (by decide)
    have c_16 : a1 = 0 ∨ a1 = 1 := by have q9 := b_15; unfold iv at q9; simp only [tI_eq, (by decide : (0 : Int32).toInt = 0), (by decide : (1 : Int32).toInt = 1)]; omega
    rcases c_16 with rfl | rfl
    · replace hR := ti hR rfl
      refine lv_iconst (v := 0) hx hb dX10_image_18 (by decide) ?_
      refine lv_istore_n (lv' := [(2, .int 0), (0, .ref (z 0)), (1, .int 0)]) hx hb dX10_image_19 rfl hl (by decide) rfl (fun ls hl => ?_)
      refine loopF (X := fun (n_19 : Nat) (H : Heap) (locs : List Loc) (ls : Array Slot) => ∃ (u_17 : Int32) (f_18 : Nat → Int32), (iv 0 2147483647 u_17) ∧ (ivT tA f_18) ∧ (IMG 1025 u_17 f_18) ∧ T0 = W9 (L_k_X10_image_0_1 fz2) (u_17, f_18) ∧ n_19 = (2147483647 - (u_17 : Int32).toInt).toNat ∧ va_P V.1 vwCl [(z 0, .inr (10, mo z 0 pz0_5 pz0_6 pz0_7 pz0_8 pz0_9 pz0_10 pz0_11 pz0_12 pz0_13 pz0_14 pz0_18 pz0_19 pz0_22 pz0_23 pz0_29)), (z 1, aI V 3075 f_18), (z 2, aZ V 2 fz2)] H ∧ va_D A [(z 0, .inr (10, mo z 0 pz0_5 pz0_6 pz0_7 pz0_8 pz0_9 pz0_10 pz0_11 pz0_12 pz0_13 pz0_14 pz0_18 pz0_19 pz0_22 pz0_23 pz0_29)), (z 1, aI V 3075 f_18), (z 2, aZ V 2 fz2)] ∧ va_S A s.heap H locs ∧ lv_has ls 3 [(2, .int u_17), (0, .ref (z 0)), (1, .int 0)]) (g := fun ls => F0 m 20 ls []) (fun n_19 H locs ls hX ihn_19 => ?_) _ ⟨0, fz1, (iv_c (0 : Int32) (by decide)), tfz1, (IMG_0 hf0 (by decide)), hR, rfl, hP, hD, hS, lv_sub hl [0, 1, 2] rfl⟩
      obtain ⟨u_17, f_18, bu_17, tf_18, inn_19_0, hR, en_19, hP, hD, hS, hl⟩ := hX
      obtain ⟨Tn_19, hR, hAn_19⟩ := tw hR
      replace hR : Tn_19 = B_k_X10_image_0_1 fz2 u_17 f_18 := hR
      replace hR := hR.trans (B_k_X10_image_0_1.eq_1 ..)
      refine lv_iload_n hx hb dX10_image_20 rfl (lv_at hl 0 rfl) ?_
      refine lv_sipush (v := 1025) hx hb dX10_image_21 (by decide) ?_
      refine lv_icmp_ge (tgt := 53) hx hb dX10_image_24 (by decide) (fun c_20 => ?_) (fun c_20 => ?_)
      · replace hR := ti hR c_20
        have b_21 : iv 1025 2147483647 u_17 := iv_e2 c_20 (iv_c (1025 : Int32) (a := 1025) (b := 1025) (by decide)) bu_17 (by decide)
        have hRW := IMG_e inn_19_0 (Or.inl rfl) (Int32.not_lt.mpr c_20)
        refine lv_aload_n hx hb dX10_image_53 rfl (lv_at hl 1 rfl) ?_
        refine va_get (ci := 10) (v := .ref (z 2)) (C := RX10) (T := TX10) (N := 40) hx hb hg inX10 hown hK hP 0 rfl rfl 2 (by decide) (hg _ q_5_226) (fun _ h9 => h9) rfl dX10_image_54 ?_
        refine lv_iload_n hx hb dX10_image_57 rfl (lv_at hl 2 rfl) ?_
        refine lv_iconst (v := 1) hx hb dX10_image_58 (by decide) ?_
        refine va_zast hx hb hK hP hD hS 2 3 rfl rfl (vin (by decide +kernel)) dX10_image_59 (fun H locs hP hD hS => ?_)
        obtain ⟨f_22, ef_22, hP, hD⟩ : ∃ f_22 : Nat → Int32, f_22 = (upd fz2 (0 : Int32).toNatClampNeg (vp_nar .boolean 1)) ∧ va_P V.1 vwCl [(z 0, .inr (10, mo z 0 pz0_5 pz0_6 pz0_7 pz0_8 pz0_9 pz0_10 pz0_11 pz0_12 pz0_13 pz0_14 pz0_18 pz0_19 pz0_22 pz0_23 pz0_29)), (z 1, aI V 3075 f_18), (z 2, aZ V 2 f_22)] H ∧ va_D A [(z 0, .inr (10, mo z 0 pz0_5 pz0_6 pz0_7 pz0_8 pz0_9 pz0_10 pz0_11 pz0_12 pz0_13 pz0_14 pz0_18 pz0_19 pz0_22 pz0_23 pz0_29)), (z 1, aI V 3075 f_18), (z 2, aZ V 2 f_22)] := ⟨_, rfl, hP, hD⟩
        replace hR := tb hR ef_22
        refine lv_iconst (v := 0) hx hb dX10_image_60 (by decide) ?_
        exact fiI hx hb hr hlk hK hP hD hS dX10_image_61 (Nat.le_of_ble_eq_true rfl) (Nat.le_of_ble_eq_true rfl) (⟨0, f_18, f_22, tf_18, (iv_c (0 : Int32) (by decide)), hRW, (congrArg Prod.fst ((tx hAn_19 hR).symm.trans hT0)), (congrArg Prod.fst (congrArg Prod.snd ((tx hAn_19 hR).symm.trans hT0))), (congrArg Prod.fst (congrArg Prod.snd (congrArg Prod.snd ((tx hAn_19 hR).symm.trans hT0)))), (congrArg Prod.snd (congrArg Prod.snd (congrArg Prod.snd ((tx hAn_19 hR).symm.trans hT0)))), rfl⟩)
      · replace hR := te hR c_20
        have b_23 : iv 0 1024 u_17 := iv_l1 (Int32.not_le.mp c_20) bu_17 (iv_c (1025 : Int32) (a := 1025) (b := 1025) (by decide)) (by decide)
        refine lv_aload_n hx hb dX10_image_27 rfl (lv_at hl 1 rfl) ?_
        refine va_get (ci := 10) (v := .ref (z 1)) (C := RX10) (T := TX10) (N := 40) hx hb hg inX10 hown hK hP 0 rfl rfl 1 (by decide) (hg _ q_5_225) (fun _ h9 => h9) rfl dX10_image_28 ?_
        refine lv_sipush (v := 1025) hx hb dX10_image_31 (by decide) ?_
        refine lv_iload_n hx hb dX10_image_34 rfl (lv_at hl 2 rfl) ?_
        refine lv_iconst (v := 1) hx hb dX10_image_35 (by decide) ?_
        refine lv_iadd hx hb dX10_image_36 ?_
        refine tpi (y := 1) (by decide +kernel) ?_
        refine lv_imul hx hb dX10_image_37 ?_
        refine tpi (y := 1025) (by decide +kernel) ?_
        refine lv_iload_n hx hb dX10_image_38 rfl (lv_at hl 0 rfl) ?_
        refine lv_iadd hx hb dX10_image_39 ?_
        refine lv_topi (fun x_24 ex_24 => ?_)
        have bx_24 : iv 1025 2049 x_24 := by rw [ex_24]; exact iv_add (iv_c (1025 : Int32) (a := 1025) (b := 1025) (by decide)) b_23 (by decide)
        replace hR := tb hR ex_24
        refine lv_aload_n hx hb dX10_image_40 rfl (lv_at hl 1 rfl) ?_
        refine va_get (ci := 10) (v := .ref (z 1)) (C := RX10) (T := TX10) (N := 40) hx hb hg inX10 hown hK hP 0 rfl rfl 1 (by decide) (hg _ q_5_225) (fun _ h9 => h9) rfl dX10_image_41 ?_
        refine lv_iload_n hx hb dX10_image_44 rfl (lv_at hl 0 rfl) ?_
        refine va_iald hx hb hK hP 1 0 rfl rfl (iv_in b_23 (by decide)) dX10_image_45 ?_
        refine lv_topi (fun x_25 ex_25 => ?_)
        replace hR := tb hR ex_25
        refine va_iast hx hb hK hP hD hS 1 0 rfl rfl (iv_in bx_24 (by decide)) dX10_image_46 (fun H locs hP hD hS => ?_)
        obtain ⟨f_26, ef_26, tf_26, hP, hD⟩ : ∃ f_26 : Nat → Int32, f_26 = (upd f_18 (x_24 : Int32).toNatClampNeg x_25) ∧ (ivT tA f_26) ∧ va_P V.1 vwCl [(z 0, .inr (10, mo z 0 pz0_5 pz0_6 pz0_7 pz0_8 pz0_9 pz0_10 pz0_11 pz0_12 pz0_13 pz0_14 pz0_18 pz0_19 pz0_22 pz0_23 pz0_29)), (z 1, aI V 3075 f_26), (z 2, aZ V 2 fz2)] H ∧ va_D A [(z 0, .inr (10, mo z 0 pz0_5 pz0_6 pz0_7 pz0_8 pz0_9 pz0_10 pz0_11 pz0_12 pz0_13 pz0_14 pz0_18 pz0_19 pz0_22 pz0_23 pz0_29)), (z 1, aI V 3075 f_26), (z 2, aZ V 2 fz2)] := ⟨_, rfl, tA_cp (c := 1025) (d := 0) tf_18 (show (x_24 : Int32).toInt = ((1025 : Nat) : Int) + (u_17 : Int32).toInt from (by have q_x_24 := toInt_add ex_24 (iv_c (1025 : Int32) (a := 1025) (b := 1025) (by decide)) b_23 (by decide); have k_x_24 : (1025 : Int32).toInt = 1025 := (by decide); omega)) (show (u_17 : Int32).toInt = ((0 : Nat) : Int) + (u_17 : Int32).toInt from (by omega)) b_23 (by decide) (by decide) ex_25, hP, hD⟩
        replace hR := tb hR ef_26
        obtain ⟨x_27, ex_27⟩ : ∃ z9 : Int32, z9 = u_17 + 1 := ⟨_, rfl⟩
        have bx_27 : iv 1 1025 x_27 := by rw [ex_27]; exact iv_add b_23 (iv_c (1 : Int32) (a := 1) (b := 1) (by decide)) (by decide)
        replace hR := tb hR ex_27
        refine lv_iinc (v := x_27) (lv' := [(2, .int x_27), (0, .ref (z 0)), (1, .int 0)]) hx hb dX10_image_47 hl (k := 0) rfl (by rw [ex_27]; rfl) (by decide) rfl (fun ls hl => ?_)
        refine lv_goto (tgt := 20) hx hb dX10_image_50 (by decide) ?_
        exact ihn_19 _ _ _ _ (by rw [en_19, ex_27]; exact mu_up b_23 (by decide)) ⟨x_27, f_26, (iv_w bx_27 (by decide)), tf_26, (IMG_s inn_19_0 (Or.inl rfl) b_23 (by decide) (show (x_24 : Int32).toInt = ((1025 : Nat) : Int) + (u_17 : Int32).toInt from (by have q_x_24 := toInt_add ex_24 (iv_c (1025 : Int32) (a := 1025) (b := 1025) (by decide)) b_23 (by decide); have k_x_24 : (1025 : Int32).toInt = 1025 := (by decide); omega)) ex_25 ef_26 ex_27), (tbk hAn_19 hR), rfl, hP, hD, hS, lv_sub hl [0, 1, 2] rfl⟩
    · replace hR := te hR (by decide)
      refine lv_iconst (v := 0) hx hb dX10_image_18 (by decide) ?_
      refine lv_istore_n (lv' := [(2, .int 0), (0, .ref (z 0)), (1, .int 1)]) hx hb dX10_image_19 rfl hl (by decide) rfl (fun ls hl => ?_)
      refine loopF (X := fun (n_30 : Nat) (H : Heap) (locs : List Loc) (ls : Array Slot) => ∃ (u_28 : Int32) (f_29 : Nat → Int32), (iv 0 2147483647 u_28) ∧ (ivT tA f_29) ∧ (IMG 2050 u_28 f_29) ∧ T0 = W9 (L_k_X10_image_0_2 fz2) (u_28, f_29) ∧ n_30 = (2147483647 - (u_28 : Int32).toInt).toNat ∧ va_P V.1 vwCl [(z 0, .inr (10, mo z 0 pz0_5 pz0_6 pz0_7 pz0_8 pz0_9 pz0_10 pz0_11 pz0_12 pz0_13 pz0_14 pz0_18 pz0_19 pz0_22 pz0_23 pz0_29)), (z 1, aI V 3075 f_29), (z 2, aZ V 2 fz2)] H ∧ va_D A [(z 0, .inr (10, mo z 0 pz0_5 pz0_6 pz0_7 pz0_8 pz0_9 pz0_10 pz0_11 pz0_12 pz0_13 pz0_14 pz0_18 pz0_19 pz0_22 pz0_23 pz0_29)), (z 1, aI V 3075 f_29), (z 2, aZ V 2 fz2)] ∧ va_S A s.heap H locs ∧ lv_has ls 3 [(2, .int u_28), (0, .ref (z 0)), (1, .int 1)]) (g := fun ls => F0 m 20 ls []) (fun n_30 H locs ls hX ihn_30 => ?_) _ ⟨0, fz1, (iv_c (0 : Int32) (by decide)), tfz1, (IMG_0 hf0 (by decide)), hR, rfl, hP, hD, hS, lv_sub hl [0, 1, 2] rfl⟩
      obtain ⟨u_28, f_29, bu_28, tf_29, inn_30_0, hR, en_30, hP, hD, hS, hl⟩ := hX
      obtain ⟨Tn_30, hR, hAn_30⟩ := tw hR
      replace hR : Tn_30 = B_k_X10_image_0_2 fz2 u_28 f_29 := hR
      replace hR := hR.trans (B_k_X10_image_0_2.eq_1 ..)
      refine lv_iload_n hx hb dX10_image_20 rfl (lv_at hl 0 rfl) ?_
      refine lv_sipush (v := 1025) hx hb dX10_image_21 (by decide) ?_
      refine lv_icmp_ge (tgt := 53) hx hb dX10_image_24 (by decide) (fun c_31 => ?_) (fun c_31 => ?_)
      · replace hR := ti hR c_31
        have b_32 : iv 1025 2147483647 u_28 := iv_e2 c_31 (iv_c (1025 : Int32) (a := 1025) (b := 1025) (by decide)) bu_28 (by decide)
        have hRW := IMG_e inn_30_0 (Or.inr rfl) (Int32.not_lt.mpr c_31)
        refine lv_aload_n hx hb dX10_image_53 rfl (lv_at hl 1 rfl) ?_
        refine va_get (ci := 10) (v := .ref (z 2)) (C := RX10) (T := TX10) (N := 40) hx hb hg inX10 hown hK hP 0 rfl rfl 2 (by decide) (hg _ q_5_226) (fun _ h9 => h9) rfl dX10_image_54 ?_
        refine lv_iload_n hx hb dX10_image_57 rfl (lv_at hl 2 rfl) ?_
        refine lv_iconst (v := 1) hx hb dX10_image_58 (by decide) ?_
        refine va_zast hx hb hK hP hD hS 2 3 rfl rfl (vin (by decide +kernel)) dX10_image_59 (fun H locs hP hD hS => ?_)
        obtain ⟨f_33, ef_33, hP, hD⟩ : ∃ f_33 : Nat → Int32, f_33 = (upd fz2 (1 : Int32).toNatClampNeg (vp_nar .boolean 1)) ∧ va_P V.1 vwCl [(z 0, .inr (10, mo z 0 pz0_5 pz0_6 pz0_7 pz0_8 pz0_9 pz0_10 pz0_11 pz0_12 pz0_13 pz0_14 pz0_18 pz0_19 pz0_22 pz0_23 pz0_29)), (z 1, aI V 3075 f_29), (z 2, aZ V 2 f_33)] H ∧ va_D A [(z 0, .inr (10, mo z 0 pz0_5 pz0_6 pz0_7 pz0_8 pz0_9 pz0_10 pz0_11 pz0_12 pz0_13 pz0_14 pz0_18 pz0_19 pz0_22 pz0_23 pz0_29)), (z 1, aI V 3075 f_29), (z 2, aZ V 2 f_33)] := ⟨_, rfl, hP, hD⟩
        replace hR := tb hR ef_33
        refine lv_iconst (v := 0) hx hb dX10_image_60 (by decide) ?_
        exact fiI hx hb hr hlk hK hP hD hS dX10_image_61 (Nat.le_of_ble_eq_true rfl) (Nat.le_of_ble_eq_true rfl) (⟨0, f_29, f_33, tf_29, (iv_c (0 : Int32) (by decide)), hRW, (congrArg Prod.fst ((tx hAn_30 hR).symm.trans hT0)), (congrArg Prod.fst (congrArg Prod.snd ((tx hAn_30 hR).symm.trans hT0))), (congrArg Prod.fst (congrArg Prod.snd (congrArg Prod.snd ((tx hAn_30 hR).symm.trans hT0)))), (congrArg Prod.snd (congrArg Prod.snd (congrArg Prod.snd ((tx hAn_30 hR).symm.trans hT0)))), rfl⟩)
      · replace hR := te hR c_31
        have b_34 : iv 0 1024 u_28 := iv_l1 (Int32.not_le.mp c_31) bu_28 (iv_c (1025 : Int32) (a := 1025) (b := 1025) (by decide)) (by decide)
        refine lv_aload_n hx hb dX10_image_27 rfl (lv_at hl 1 rfl) ?_
        refine va_get (ci := 10) (v := .ref (z 1)) (C := RX10) (T := TX10) (N := 40) hx hb hg inX10 hown hK hP 0 rfl rfl 1 (by decide) (hg _ q_5_225) (fun _ h9 => h9) rfl dX10_image_28 ?_
        refine lv_sipush (v := 1025) hx hb dX10_image_31 (by decide) ?_
        refine lv_iload_n hx hb dX10_image_34 rfl (lv_at hl 2 rfl) ?_
        refine lv_iconst (v := 1) hx hb dX10_image_35 (by decide) ?_
        refine lv_iadd hx hb dX10_image_36 ?_
        refine tpi (y := 2) (by decide +kernel) ?_
        refine lv_imul hx hb dX10_image_37 ?_
        refine tpi (y := 2050) (by decide +kernel) ?_
        refine lv_iload_n hx hb dX10_image_38 rfl (lv_at hl 0 rfl) ?_
        refine lv_iadd hx hb dX10_image_39 ?_
        refine lv_topi (fun x_35 ex_35 => ?_)
        have bx_35 : iv 2050 3074 x_35 := by rw [ex_35]; exact iv_add (iv_c (2050 : Int32) (a := 2050) (b := 2050) (by decide)) b_34 (by decide)
        replace hR := tb hR ex_35
        refine lv_aload_n hx hb dX10_image_40 rfl (lv_at hl 1 rfl) ?_
        refine va_get (ci := 10) (v := .ref (z 1)) (C := RX10) (T := TX10) (N := 40) hx hb hg inX10 hown hK hP 0 rfl rfl 1 (by decide) (hg _ q_5_225) (fun _ h9 => h9) rfl dX10_image_41 ?_
        refine lv_iload_n hx hb dX10_image_44 rfl (lv_at hl 0 rfl) ?_
        refine va_iald hx hb hK hP 1 0 rfl rfl (iv_in b_34 (by decide)) dX10_image_45 ?_
        refine lv_topi (fun x_36 ex_36 => ?_)
        replace hR := tb hR ex_36
        refine va_iast hx hb hK hP hD hS 1 0 rfl rfl (iv_in bx_35 (by decide)) dX10_image_46 (fun H locs hP hD hS => ?_)
        obtain ⟨f_37, ef_37, tf_37, hP, hD⟩ : ∃ f_37 : Nat → Int32, f_37 = (upd f_29 (x_35 : Int32).toNatClampNeg x_36) ∧ (ivT tA f_37) ∧ va_P V.1 vwCl [(z 0, .inr (10, mo z 0 pz0_5 pz0_6 pz0_7 pz0_8 pz0_9 pz0_10 pz0_11 pz0_12 pz0_13 pz0_14 pz0_18 pz0_19 pz0_22 pz0_23 pz0_29)), (z 1, aI V 3075 f_37), (z 2, aZ V 2 fz2)] H ∧ va_D A [(z 0, .inr (10, mo z 0 pz0_5 pz0_6 pz0_7 pz0_8 pz0_9 pz0_10 pz0_11 pz0_12 pz0_13 pz0_14 pz0_18 pz0_19 pz0_22 pz0_23 pz0_29)), (z 1, aI V 3075 f_37), (z 2, aZ V 2 fz2)] := ⟨_, rfl, tA_cp (c := 2050) (d := 0) tf_29 (show (x_35 : Int32).toInt = ((2050 : Nat) : Int) + (u_28 : Int32).toInt from (by have q_x_35 := toInt_add ex_35 (iv_c (2050 : Int32) (a := 2050) (b := 2050) (by decide)) b_34 (by decide); have k_x_35 : (2050 : Int32).toInt = 2050 := (by decide); omega)) (show (u_28 : Int32).toInt = ((0 : Nat) : Int) + (u_28 : Int32).toInt from (by omega)) b_34 (by decide) (by decide) ex_36, hP, hD⟩
        replace hR := tb hR ef_37
        obtain ⟨x_38, ex_38⟩ : ∃ z9 : Int32, z9 = u_28 + 1 := ⟨_, rfl⟩
        have bx_38 : iv 1 1025 x_38 := by rw [ex_38]; exact iv_add b_34 (iv_c (1 : Int32) (a := 1) (b := 1) (by decide)) (by decide)
        replace hR := tb hR ex_38
        refine lv_iinc (v := x_38) (lv' := [(2, .int x_38), (0, .ref (z 0)), (1, .int 1)]) hx hb dX10_image_47 hl (k := 0) rfl (by rw [ex_38]; rfl) (by decide) rfl (fun ls hl => ?_)
        refine lv_goto (tgt := 20) hx hb dX10_image_50 (by decide) ?_
        exact ihn_30 _ _ _ _ (by rw [en_30, ex_38]; exact mu_up b_34 (by decide)) ⟨x_38, f_37, (iv_w bx_38 (by decide)), tf_37, (IMG_s inn_30_0 (Or.inr rfl) b_34 (by decide) (show (x_35 : Int32).toInt = ((2050 : Nat) : Int) + (u_28 : Int32).toInt from (by have q_x_35 := toInt_add ex_35 (iv_c (2050 : Int32) (a := 2050) (b := 2050) (by decide)) b_34 (by decide); have k_x_35 : (2050 : Int32).toInt = 2050 := (by decide); omega)) ex_36 ef_37 ex_38), (tbk hAn_30 hR), rfl, hP, hD, hS, lv_sub hl [0, 1, 2] rfl⟩
  · replace hR := ti hR c_8
    have b_39 : iv 0 0 r_2 := iv_q c_8 (iv_c (0 : Int32) (a := 0) (b := 0) (by decide))
    refine lv_bipush (v := (-2)) hx hb dX10_image_15 (by decide) ?_
    exact fiI hx hb hr hlk hK hP hD hS dX10_image_17 (Nat.le_of_ble_eq_true rfl) (Nat.le_of_ble_eq_true rfl) (⟨0, fz1, fz2, tfz1, (iv_c ((-2) : Int32) (by decide)), hf0, (congrArg Prod.fst (hR.symm.trans hT0)), (congrArg Prod.fst (congrArg Prod.snd (hR.symm.trans hT0))), (congrArg Prod.fst (congrArg Prod.snd (congrArg Prod.snd (hR.symm.trans hT0)))), (congrArg Prod.snd (congrArg Prod.snd (congrArg Prod.snd (hR.symm.trans hT0)))), rfl⟩)
theorem dX10_restore_0 : decode cX10_restore 0 = .ok (.aload_n 0, 1) := by decide +kernel
theorem dX10_restore_1 : decode cX10_restore 1 = .ok (.iconst 0, 1) := by decide +kernel
theorem dX10_restore_2 : decode cX10_restore 2 = .ok (.putfield 1, 3) := by decide +kernel
theorem dX10_restore_5 : decode cX10_restore 5 = .ok (.iload_n 1, 1) := by decide +kernel
theorem dX10_restore_6 : decode cX10_restore 6 = .ok (.i2l, 1) := by decide +kernel
theorem dX10_restore_7 : decode cX10_restore 7 = .ok (.lconst 0, 1) := by decide +kernel
theorem dX10_restore_8 : decode cX10_restore 8 = .ok (.lconst 1, 1) := by decide +kernel
theorem dX10_restore_9 : decode cX10_restore 9 = .ok (.invokestatic 159, 3) := by decide +kernel
theorem dX10_restore_12 : decode cX10_restore 12 = .ok (.ifCond .ne 6, 3) := by decide +kernel
theorem dX10_restore_18 : decode cX10_restore 18 = .ok (.aload_n 0, 1) := by decide +kernel
theorem dX10_restore_19 : decode cX10_restore 19 = .ok (.getfield 17, 3) := by decide +kernel
theorem dX10_restore_22 : decode cX10_restore 22 = .ok (.iload_n 1, 1) := by decide +kernel
theorem dX10_restore_23 : decode cX10_restore 23 = .ok (.baload, 1) := by decide +kernel
theorem dX10_restore_24 : decode cX10_restore 24 = .ok (.ifCond .ne 6, 3) := by decide +kernel
theorem dX10_restore_30 : decode cX10_restore 30 = .ok (.iconst 0, 1) := by decide +kernel
theorem dX10_restore_31 : decode cX10_restore 31 = .ok (.istore_n 2, 1) := by decide +kernel
theorem dX10_restore_32 : decode cX10_restore 32 = .ok (.iload_n 2, 1) := by decide +kernel
theorem dX10_restore_33 : decode cX10_restore 33 = .ok (.sipush 1025, 3) := by decide +kernel
theorem dX10_restore_36 : decode cX10_restore 36 = .ok (.if_icmp .ge 29, 3) := by decide +kernel
theorem dX10_restore_65 : decode cX10_restore 65 = .ok (.aload_n 0, 1) := by decide +kernel
theorem dX10_restore_66 : decode cX10_restore 66 = .ok (.getfield 13, 3) := by decide +kernel
theorem dX10_restore_69 : decode cX10_restore 69 = .ok (.bipush 53, 2) := by decide +kernel
theorem dX10_restore_71 : decode cX10_restore 71 = .ok (.iconst 0, 1) := by decide +kernel
theorem dX10_restore_72 : decode cX10_restore 72 = .ok (.iastore, 1) := by decide +kernel
theorem dX10_restore_73 : decode cX10_restore 73 = .ok (.iconst 0, 1) := by decide +kernel
theorem dX10_restore_74 : decode cX10_restore 74 = .ok (.ireturn, 1) := by decide +kernel
theorem dX10_restore_39 : decode cX10_restore 39 = .ok (.aload_n 0, 1) := by decide +kernel
theorem dX10_restore_40 : decode cX10_restore 40 = .ok (.getfield 13, 3) := by decide +kernel
theorem dX10_restore_43 : decode cX10_restore 43 = .ok (.iload_n 2, 1) := by decide +kernel
theorem dX10_restore_44 : decode cX10_restore 44 = .ok (.aload_n 0, 1) := by decide +kernel
theorem dX10_restore_45 : decode cX10_restore 45 = .ok (.getfield 13, 3) := by decide +kernel
theorem dX10_restore_48 : decode cX10_restore 48 = .ok (.sipush 1025, 3) := by decide +kernel
theorem dX10_restore_51 : decode cX10_restore 51 = .ok (.iload_n 1, 1) := by decide +kernel
theorem dX10_restore_52 : decode cX10_restore 52 = .ok (.iconst 1, 1) := by decide +kernel
theorem dX10_restore_53 : decode cX10_restore 53 = .ok (.iadd, 1) := by decide +kernel
theorem dX10_restore_54 : decode cX10_restore 54 = .ok (.imul, 1) := by decide +kernel
theorem dX10_restore_55 : decode cX10_restore 55 = .ok (.iload_n 2, 1) := by decide +kernel
theorem dX10_restore_56 : decode cX10_restore 56 = .ok (.iadd, 1) := by decide +kernel
theorem dX10_restore_57 : decode cX10_restore 57 = .ok (.iaload, 1) := by decide +kernel
theorem dX10_restore_58 : decode cX10_restore 58 = .ok (.iastore, 1) := by decide +kernel
theorem dX10_restore_59 : decode cX10_restore 59 = .ok (.iinc 2 1, 3) := by decide +kernel
theorem dX10_restore_62 : decode cX10_restore 62 = .ok (.goto (-30), 3) := by decide +kernel
theorem dX10_restore_27 : decode cX10_restore 27 = .ok (.bipush (-5), 2) := by decide +kernel
theorem dX10_restore_29 : decode cX10_restore 29 = .ok (.ireturn, 1) := by decide +kernel
theorem dX10_restore_15 : decode cX10_restore 15 = .ok (.bipush (-2), 2) := by decide +kernel
theorem dX10_restore_17 : decode cX10_restore 17 = .ok (.ireturn, 1) := by decide +kernel
set_option maxRecDepth 100000 in
noncomputable def B_k_X10_restore_0_1 (u_19 : Int32) (f_20 : Nat → Int32) : (Int32 × (Nat → Int32)) ⊕ (Int32 × Int32 × (Nat → Int32)) := if (1025 : Int32) ≤ u_19 then (bnd ((upd f_20 (53 : Int32).toNatClampNeg 0) : Nat → Int32) fun (f_24 : Nat → Int32) => Sum.inr (((0 : Int32), (0 : Int32), f_24))) else (bnd ((1025 : Int32) + u_19 : Int32) fun (x_26 : Int32) => bnd (f_20 (x_26 : Int32).toNatClampNeg : Int32) fun (x_27 : Int32) => bnd ((upd f_20 (u_19 : Int32).toNatClampNeg x_27) : Nat → Int32) fun (f_28 : Nat → Int32) => bnd (u_19 + 1 : Int32) fun (x_29 : Int32) => Sum.inl (x_29, f_28))
noncomputable def L_k_X10_restore_0_1 (q9 : Int32 × (Nat → Int32)) : (Int32 × (Nat → Int32)) ⊕ (Int32 × Int32 × (Nat → Int32)) := B_k_X10_restore_0_1 q9.1 q9.2
set_option maxRecDepth 100000 in
noncomputable def B_k_X10_restore_0_2 (u_33 : Int32) (f_34 : Nat → Int32) : (Int32 × (Nat → Int32)) ⊕ (Int32 × Int32 × (Nat → Int32)) := if (1025 : Int32) ≤ u_33 then (bnd ((upd f_34 (53 : Int32).toNatClampNeg 0) : Nat → Int32) fun (f_38 : Nat → Int32) => Sum.inr (((0 : Int32), (0 : Int32), f_38))) else (bnd ((2050 : Int32) + u_33 : Int32) fun (x_40 : Int32) => bnd (f_34 (x_40 : Int32).toNatClampNeg : Int32) fun (x_41 : Int32) => bnd ((upd f_34 (u_33 : Int32).toNatClampNeg x_41) : Nat → Int32) fun (f_42 : Nat → Int32) => bnd (u_33 + 1 : Int32) fun (x_43 : Int32) => Sum.inl (x_43, f_42))
noncomputable def L_k_X10_restore_0_2 (q9 : Int32 × (Nat → Int32)) : (Int32 × (Nat → Int32)) ⊕ (Int32 × Int32 × (Nat → Int32)) := B_k_X10_restore_0_2 q9.1 q9.2
set_option maxRecDepth 100000 in
noncomputable def F_k_X10_restore_0 (a1 : Int32) (fz1 : Nat → Int32) (fz2 : Nat → Int32) : Int32 × Int32 × (Nat → Int32) := bnd (a1.toInt64 : Int64) fun (j_1 : Int64) => bnd (F_k_X10_within_0 j_1 (0 : Int64) (1 : Int64) : Int32) fun (r_2 : Int32) => if r_2 = (0 : Int32) then ((((-2) : Int32), (0 : Int32), fz1)) else (if a1 = 0 then (bnd (fz2 (0 : Int32).toNatClampNeg : Int32) fun (x_17 : Int32) => if x_17 = (0 : Int32) then ((((-5) : Int32), (0 : Int32), fz1)) else (W9 (L_k_X10_restore_0_1) (0, fz1))) else (bnd (fz2 (1 : Int32).toNatClampNeg : Int32) fun (x_31 : Int32) => if x_31 = (0 : Int32) then ((((-5) : Int32), (0 : Int32), fz1)) else (W9 (L_k_X10_restore_0_2) (0, fz1))))
set_option maxHeartbeats 4000000 in
set_option maxRecDepth 100000 in
theorem k_X10_restore_0 (l : Launch) (V : GV) (z : Nat → Nat) (a1 : Int32) (pz0_0 : Int32) (pz0_5 : Int32) (pz0_6 : Int32) (pz0_7 : Int32) (pz0_8 : Int32) (pz0_9 : Int32) (pz0_10 : Int32) (pz0_11 : Int32) (pz0_12 : Int32) (pz0_13 : Int32) (pz0_14 : Int32) (pz0_18 : Int32) (pz0_19 : Int32) (pz0_22 : Int32) (pz0_23 : Int32) (pz0_29 : Int32) (fz1 : Nat → Int32) (fz2 : Nat → Int32) (bpz0_5 : iv 0 900 pz0_5) (bpz0_6 : iv 0 900 pz0_6) (bpz0_7 : iv 0 900 pz0_7) (bpz0_8 : iv 0 900 pz0_8) (bpz0_10 : iv 0 999 pz0_10) (bpz0_11 : iv 0 4 pz0_11) (bpz0_12 : iv 0 900 pz0_12) (bpz0_13 : iv 0 4 pz0_13) (bpz0_14 : iv (-1) 900 pz0_14) (bpz0_18 : iv 0 2 pz0_18) (bpz0_22 : iv 0 9999 pz0_22) (bpz0_29 : iv 0 10000 pz0_29) (tfz1 : ivT tA fz1) (hf0 : RW fz1) : Ct l V yX10_restore (.code yX10_restore cX10_restore 3 (some .int)) 2 [.ref (z 0), .int a1] [(z 0, .inr (10, mo z pz0_0 pz0_5 pz0_6 pz0_7 pz0_8 pz0_9 pz0_10 pz0_11 pz0_12 pz0_13 pz0_14 pz0_18 pz0_19 pz0_22 pz0_23 pz0_29)), (z 1, aI V 3075 fz1), (z 2, aZ V 2 fz2)] 0 0 (QI V (fun (r : Int32) (w : va_W) => ∃ (v0 : Int32) (g1 : Nat → Int32), (ivT tA g1) ∧ iv (-5) 0 r ∧ (RW g1) ∧ r = (F_k_X10_restore_0 a1 fz1 fz2).1 ∧ v0 = (F_k_X10_restore_0 a1 fz1 fz2).2.1 ∧ g1 = (F_k_X10_restore_0 a1 fz1 fz2).2.2 ∧ w = [(z 0, .inr (10, mo z v0 pz0_5 pz0_6 pz0_7 pz0_8 pz0_9 pz0_10 pz0_11 pz0_12 pz0_13 pz0_14 pz0_18 pz0_19 pz0_22 pz0_23 pz0_29)), (z 1, aI V 3075 g1), (z 2, aZ V 2 fz2)])) := by
  refine Ct.of (by decide) (Nat.le_of_ble_eq_true rfl) (fun p e s m below meth c A ls hx hb hr hml hown hlk hnm hg hP hK hD hE hA hS hl => ?_)
  have hl : lv_has ls 3 [(0, .ref (z 0)), (1, .int a1)] := hl
  obtain ⟨T0, hT0⟩ : ∃ T9, T9 = F_k_X10_restore_0 a1 fz1 fz2 := ⟨_, rfl⟩
  have hR := hT0.trans (F_k_X10_restore_0.eq_1 ..)
  refine lv_aload_n hx hb dX10_restore_0 rfl (lv_at hl 0 rfl) ?_
  refine lv_iconst (v := 0) hx hb dX10_restore_1 (by decide) ?_
  refine va_put (ci := 10) (v := .int 0) (ty := .int) (C := RX10) (T := TX10) (N := 40) hx hb hg inX10 tyX10 tyX10_ok nmX10 hown hK hP hD hS 0 rfl rfl 0 (by decide) (hg _ q_5_224) (fun _ h9 => h9) rfl (by decide +kernel) rfl rfl (Nat.le_of_ble_eq_true rfl) dX10_restore_2 (fun H locs hP hD hS => ?_)
  have hP : va_P V.1 vwCl [(z 0, .inr (10, mo z 0 pz0_5 pz0_6 pz0_7 pz0_8 pz0_9 pz0_10 pz0_11 pz0_12 pz0_13 pz0_14 pz0_18 pz0_19 pz0_22 pz0_23 pz0_29)), (z 1, aI V 3075 fz1), (z 2, aZ V 2 fz2)] H := hP
  have hD := cpD hP hD
  refine lv_iload_n hx hb dX10_restore_5 rfl (lv_at hl 1 rfl) ?_
  refine lv_i2l hx hb dX10_restore_6 rfl ?_
  refine lv_topl (fun j_1 ej_1 => ?_)
  replace hR := tb hR ej_1
  refine lv_lconst (v := 0) hx hb dX10_restore_7 (by decide) ?_
  refine lv_lconst (v := 1) hx hb dX10_restore_8 (by decide) ?_
  refine jnI (wr := [(z 0, .inr (10, mo z 0 pz0_5 pz0_6 pz0_7 pz0_8 pz0_9 pz0_10 pz0_11 pz0_12 pz0_13 pz0_14 pz0_18 pz0_19 pz0_22 pz0_23 pz0_29)), (z 1, aI V 3075 fz1), (z 2, aZ V 2 fz2)]) (rnS (rest := []) ⟨hx, hb, hml, hown, hg⟩ (k_X10_within_0 l V j_1 0 1) mt_X10_within q_6_114 ⟨Nat.le_of_ble_eq_true rfl, Nat.le_of_ble_eq_true rfl⟩ hK hP hD hS hA hE [] rfl rfl rfl hl.1 rfl (Nat.le_of_ble_eq_true rfl) dX10_restore_9 ⟨Nat.le_of_ble_eq_true rfl, Nat.le_of_ble_eq_true rfl⟩) hP hD hS hA [] [0, 1, 2] rfl rfl rfl (by decide) (fun r_2 w H locs hw hP hD hS => ?_)
  obtain ⟨br_2, g_3, g_4, g_5, et_6, rfl⟩ := hw
  replace hR := tb hR et_6
  have hP : va_P V.1 vwCl [(z 0, .inr (10, mo z 0 pz0_5 pz0_6 pz0_7 pz0_8 pz0_9 pz0_10 pz0_11 pz0_12 pz0_13 pz0_14 pz0_18 pz0_19 pz0_22 pz0_23 pz0_29)), (z 1, aI V 3075 fz1), (z 2, aZ V 2 fz2)] H := hP
  have hD := cpD hP hD
  refine lv_if_ne (tgt := 18) hx hb dX10_restore_12 (by decide) (fun c_8 => ?_) (fun c_8 => ?_)
  · replace hR := te hR c_8
    have b_9 : iv 1 1 r_2 := iv_n0 c_8 br_2 (iv_c (0 : Int32) (a := 0) (b := 0) (by decide)) (by decide)
    have c_10 : (0 : Int64) ≤ j_1 := (g_4 (iv_eqp b_9 (iv_c (1 : Int32) (by decide))))
    have b_11 : ivL 0 9223372036854775807 j_1 := ivL_e2 c_10 (ivL_c (0 : Int64) (a := 0) (b := 0) (by decide)) (ivL_top j_1) (by decide)
    have b_12 : iv 0 2147483647 a1 := iv_cap (ivL_i ej_1 b_11) (iv_top a1) (by decide)
    have c_13 : j_1 ≤ 1 := (g_5 (iv_eqp b_9 (iv_c (1 : Int32) (by decide))))
    have b_14 : ivL 0 1 j_1 := ivL_e1 c_13 b_11 (ivL_c (1 : Int64) (a := 1) (b := 1) (by decide)) (by decide)
    have b_15 : iv 0 1 a1 := iv_cap (ivL_i ej_1 b_14) b_12 (by decide)
    have c_16 : a1 = 0 ∨ a1 = 1 := by have q9 := b_15; unfold iv at q9; simp only [tI_eq, (by decide : (0 : Int32).toInt = 0), (by decide : (1 : Int32).toInt = 1)]; omega
    rcases c_16 with rfl | rfl
    · replace hR := ti hR rfl
      refine lv_aload_n hx hb dX10_restore_18 rfl (lv_at hl 0 rfl) ?_
      refine va_get (ci := 10) (v := .ref (z 2)) (C := RX10) (T := TX10) (N := 40) hx hb hg inX10 hown hK hP 0 rfl rfl 2 (by decide) (hg _ q_5_226) (fun _ h9 => h9) rfl dX10_restore_19 ?_
      refine lv_iload_n hx hb dX10_restore_22 rfl (lv_at hl 1 rfl) ?_
      refine va_zald hx hb hK hP 2 3 rfl rfl (vin (by decide +kernel)) dX10_restore_23 ?_
      refine lv_topi (fun x_17 ex_17 => ?_)
      replace hR := tb hR ex_17
      refine lv_if_ne (tgt := 30) hx hb dX10_restore_24 (by decide) (fun c_18 => ?_) (fun c_18 => ?_)
      · replace hR := te hR c_18
        refine lv_iconst (v := 0) hx hb dX10_restore_30 (by decide) ?_
        refine lv_istore_n (lv' := [(2, .int 0), (0, .ref (z 0)), (1, .int 0)]) hx hb dX10_restore_31 rfl hl (by decide) rfl (fun ls hl => ?_)
        refine loopF (X := fun (n_21 : Nat) (H : Heap) (locs : List Loc) (ls : Array Slot) => ∃ (u_19 : Int32) (f_20 : Nat → Int32), (iv 0 2147483647 u_19) ∧ (ivT tA f_20) ∧ (RST 1025 u_19 f_20) ∧ T0 = W9 (L_k_X10_restore_0_1) (u_19, f_20) ∧ n_21 = (2147483647 - (u_19 : Int32).toInt).toNat ∧ va_P V.1 vwCl [(z 0, .inr (10, mo z 0 pz0_5 pz0_6 pz0_7 pz0_8 pz0_9 pz0_10 pz0_11 pz0_12 pz0_13 pz0_14 pz0_18 pz0_19 pz0_22 pz0_23 pz0_29)), (z 1, aI V 3075 f_20), (z 2, aZ V 2 fz2)] H ∧ va_D A [(z 0, .inr (10, mo z 0 pz0_5 pz0_6 pz0_7 pz0_8 pz0_9 pz0_10 pz0_11 pz0_12 pz0_13 pz0_14 pz0_18 pz0_19 pz0_22 pz0_23 pz0_29)), (z 1, aI V 3075 f_20), (z 2, aZ V 2 fz2)] ∧ va_S A s.heap H locs ∧ lv_has ls 3 [(2, .int u_19), (0, .ref (z 0)), (1, .int 0)]) (g := fun ls => F0 m 32 ls []) (fun n_21 H locs ls hX ihn_21 => ?_) _ ⟨0, fz1, (iv_c (0 : Int32) (by decide)), tfz1, (RST_0 hf0 (by decide)), hR, rfl, hP, hD, hS, lv_sub hl [0, 1, 2] rfl⟩
        obtain ⟨u_19, f_20, bu_19, tf_20, inn_21_0, hR, en_21, hP, hD, hS, hl⟩ := hX
        obtain ⟨Tn_21, hR, hAn_21⟩ := tw hR
        replace hR : Tn_21 = B_k_X10_restore_0_1 u_19 f_20 := hR
        replace hR := hR.trans (B_k_X10_restore_0_1.eq_1 ..)
        refine lv_iload_n hx hb dX10_restore_32 rfl (lv_at hl 0 rfl) ?_
        refine lv_sipush (v := 1025) hx hb dX10_restore_33 (by decide) ?_
        refine lv_icmp_ge (tgt := 65) hx hb dX10_restore_36 (by decide) (fun c_22 => ?_) (fun c_22 => ?_)
        · replace hR := ti hR c_22
          have b_23 : iv 1025 2147483647 u_19 := iv_e2 c_22 (iv_c (1025 : Int32) (a := 1025) (b := 1025) (by decide)) bu_19 (by decide)
          have hRW := RST_e inn_21_0 (Or.inl rfl) (Int32.not_lt.mpr c_22)
          refine lv_aload_n hx hb dX10_restore_65 rfl (lv_at hl 1 rfl) ?_
          refine va_get (ci := 10) (v := .ref (z 1)) (C := RX10) (T := TX10) (N := 40) hx hb hg inX10 hown hK hP 0 rfl rfl 1 (by decide) (hg _ q_5_225) (fun _ h9 => h9) rfl dX10_restore_66 ?_
          refine lv_bipush (v := 53) hx hb dX10_restore_69 (by decide) ?_
          refine lv_iconst (v := 0) hx hb dX10_restore_71 (by decide) ?_
          refine va_iast hx hb hK hP hD hS 1 0 rfl rfl (vin (by decide +kernel)) dX10_restore_72 (fun H locs hP hD hS => ?_)
          obtain ⟨f_24, ef_24, tf_24, hP, hD⟩ : ∃ f_24 : Nat → Int32, f_24 = (upd f_20 (53 : Int32).toNatClampNeg 0) ∧ (ivT tA f_24) ∧ va_P V.1 vwCl [(z 0, .inr (10, mo z 0 pz0_5 pz0_6 pz0_7 pz0_8 pz0_9 pz0_10 pz0_11 pz0_12 pz0_13 pz0_14 pz0_18 pz0_19 pz0_22 pz0_23 pz0_29)), (z 1, aI V 3075 f_24), (z 2, aZ V 2 fz2)] H ∧ va_D A [(z 0, .inr (10, mo z 0 pz0_5 pz0_6 pz0_7 pz0_8 pz0_9 pz0_10 pz0_11 pz0_12 pz0_13 pz0_14 pz0_18 pz0_19 pz0_22 pz0_23 pz0_29)), (z 1, aI V 3075 f_24), (z 2, aZ V 2 fz2)] := ⟨_, rfl, upT (lo := 0) (hi := 10) (a := 53) (n := 1) tf_20 (iv_c (53 : Int32) (a := 53) (b := 53) (by decide)) (by decide) (iv_c (0 : Int32) (by decide)) (by decide +kernel), hP, hD⟩
          replace hR := tb hR ef_24
          refine lv_iconst (v := 0) hx hb dX10_restore_73 (by decide) ?_
          exact fiI hx hb hr hlk hK hP hD hS dX10_restore_74 (Nat.le_of_ble_eq_true rfl) (Nat.le_of_ble_eq_true rfl) (⟨0, f_24, tf_24, (iv_c (0 : Int32) (by decide)), (RW_up hRW (iv_c (53 : Int32) (a := 53) (b := 53) (by decide)) (by decide) ef_24), (congrArg Prod.fst ((tx hAn_21 hR).symm.trans hT0)), (congrArg Prod.fst (congrArg Prod.snd ((tx hAn_21 hR).symm.trans hT0))), (congrArg Prod.snd (congrArg Prod.snd ((tx hAn_21 hR).symm.trans hT0))), rfl⟩)
        · replace hR := te hR c_22
          have b_25 : iv 0 1024 u_19 := iv_l1 (Int32.not_le.mp c_22) bu_19 (iv_c (1025 : Int32) (a := 1025) (b := 1025) (by decide)) (by decide)
          refine lv_aload_n hx hb dX10_restore_39 rfl (lv_at hl 1 rfl) ?_
          refine va_get (ci := 10) (v := .ref (z 1)) (C := RX10) (T := TX10) (N := 40) hx hb hg inX10 hown hK hP 0 rfl rfl 1 (by decide) (hg _ q_5_225) (fun _ h9 => h9) rfl dX10_restore_40 ?_
          refine lv_iload_n hx hb dX10_restore_43 rfl (lv_at hl 0 rfl) ?_
          refine lv_aload_n hx hb dX10_restore_44 rfl (lv_at hl 1 rfl) ?_
          refine va_get (ci := 10) (v := .ref (z 1)) (C := RX10) (T := TX10) (N := 40) hx hb hg inX10 hown hK hP 0 rfl rfl 1 (by decide) (hg _ q_5_225) (fun _ h9 => h9) rfl dX10_restore_45 ?_
          refine lv_sipush (v := 1025) hx hb dX10_restore_48 (by decide) ?_
          refine lv_iload_n hx hb dX10_restore_51 rfl (lv_at hl 2 rfl) ?_
          refine lv_iconst (v := 1) hx hb dX10_restore_52 (by decide) ?_
          refine lv_iadd hx hb dX10_restore_53 ?_
          refine tpi (y := 1) (by decide +kernel) ?_
          refine lv_imul hx hb dX10_restore_54 ?_
          refine tpi (y := 1025) (by decide +kernel) ?_
          refine lv_iload_n hx hb dX10_restore_55 rfl (lv_at hl 0 rfl) ?_
          refine lv_iadd hx hb dX10_restore_56 ?_
          refine lv_topi (fun x_26 ex_26 => ?_)
          have bx_26 : iv 1025 2049 x_26 := by rw [ex_26]; exact iv_add (iv_c (1025 : Int32) (a := 1025) (b := 1025) (by decide)) b_25 (by decide)
          replace hR := tb hR ex_26
          refine va_iald hx hb hK hP 1 0 rfl rfl (iv_in bx_26 (by decide)) dX10_restore_57 ?_
          refine lv_topi (fun x_27 ex_27 => ?_)
          replace hR := tb hR ex_27
          refine va_iast hx hb hK hP hD hS 1 0 rfl rfl (iv_in b_25 (by decide)) dX10_restore_58 (fun H locs hP hD hS => ?_)
          obtain ⟨f_28, ef_28, tf_28, hP, hD⟩ : ∃ f_28 : Nat → Int32, f_28 = (upd f_20 (u_19 : Int32).toNatClampNeg x_27) ∧ (ivT tA f_28) ∧ va_P V.1 vwCl [(z 0, .inr (10, mo z 0 pz0_5 pz0_6 pz0_7 pz0_8 pz0_9 pz0_10 pz0_11 pz0_12 pz0_13 pz0_14 pz0_18 pz0_19 pz0_22 pz0_23 pz0_29)), (z 1, aI V 3075 f_28), (z 2, aZ V 2 fz2)] H ∧ va_D A [(z 0, .inr (10, mo z 0 pz0_5 pz0_6 pz0_7 pz0_8 pz0_9 pz0_10 pz0_11 pz0_12 pz0_13 pz0_14 pz0_18 pz0_19 pz0_22 pz0_23 pz0_29)), (z 1, aI V 3075 f_28), (z 2, aZ V 2 fz2)] := ⟨_, rfl, tA_cp (c := 0) (d := 1025) tf_20 (show (u_19 : Int32).toInt = ((0 : Nat) : Int) + (u_19 : Int32).toInt from (by omega)) (show (x_26 : Int32).toInt = ((1025 : Nat) : Int) + (u_19 : Int32).toInt from (by have q_x_26 := toInt_add ex_26 (iv_c (1025 : Int32) (a := 1025) (b := 1025) (by decide)) b_25 (by decide); have k_x_26 : (1025 : Int32).toInt = 1025 := (by decide); omega)) b_25 (by decide) (by decide) ex_27, hP, hD⟩
          replace hR := tb hR ef_28
          obtain ⟨x_29, ex_29⟩ : ∃ z9 : Int32, z9 = u_19 + 1 := ⟨_, rfl⟩
          have bx_29 : iv 1 1025 x_29 := by rw [ex_29]; exact iv_add b_25 (iv_c (1 : Int32) (a := 1) (b := 1) (by decide)) (by decide)
          replace hR := tb hR ex_29
          refine lv_iinc (v := x_29) (lv' := [(2, .int x_29), (0, .ref (z 0)), (1, .int 0)]) hx hb dX10_restore_59 hl (k := 0) rfl (by rw [ex_29]; rfl) (by decide) rfl (fun ls hl => ?_)
          refine lv_goto (tgt := 32) hx hb dX10_restore_62 (by decide) ?_
          exact ihn_21 _ _ _ _ (by rw [en_21, ex_29]; exact mu_up b_25 (by decide)) ⟨x_29, f_28, (iv_w bx_29 (by decide)), tf_28, (RST_s inn_21_0 (Or.inl rfl) b_25 (by decide) (show (x_26 : Int32).toInt = ((1025 : Nat) : Int) + (u_19 : Int32).toInt from (by have q_x_26 := toInt_add ex_26 (iv_c (1025 : Int32) (a := 1025) (b := 1025) (by decide)) b_25 (by decide); have k_x_26 : (1025 : Int32).toInt = 1025 := (by decide); omega)) ex_27 ef_28 ex_29), (tbk hAn_21 hR), rfl, hP, hD, hS, lv_sub hl [0, 1, 2] rfl⟩
      · replace hR := ti hR c_18
        have b_30 : iv 0 0 x_17 := iv_q c_18 (iv_c (0 : Int32) (a := 0) (b := 0) (by decide))
        refine lv_bipush (v := (-5)) hx hb dX10_restore_27 (by decide) ?_
        exact fiI hx hb hr hlk hK hP hD hS dX10_restore_29 (Nat.le_of_ble_eq_true rfl) (Nat.le_of_ble_eq_true rfl) (⟨0, fz1, tfz1, (iv_c ((-5) : Int32) (by decide)), hf0, (congrArg Prod.fst (hR.symm.trans hT0)), (congrArg Prod.fst (congrArg Prod.snd (hR.symm.trans hT0))), (congrArg Prod.snd (congrArg Prod.snd (hR.symm.trans hT0))), rfl⟩)
    · replace hR := te hR (by decide)
      refine lv_aload_n hx hb dX10_restore_18 rfl (lv_at hl 0 rfl) ?_
      refine va_get (ci := 10) (v := .ref (z 2)) (C := RX10) (T := TX10) (N := 40) hx hb hg inX10 hown hK hP 0 rfl rfl 2 (by decide) (hg _ q_5_226) (fun _ h9 => h9) rfl dX10_restore_19 ?_
      refine lv_iload_n hx hb dX10_restore_22 rfl (lv_at hl 1 rfl) ?_
      refine va_zald hx hb hK hP 2 3 rfl rfl (vin (by decide +kernel)) dX10_restore_23 ?_
      refine lv_topi (fun x_31 ex_31 => ?_)
      replace hR := tb hR ex_31
      refine lv_if_ne (tgt := 30) hx hb dX10_restore_24 (by decide) (fun c_32 => ?_) (fun c_32 => ?_)
      · replace hR := te hR c_32
        refine lv_iconst (v := 0) hx hb dX10_restore_30 (by decide) ?_
        refine lv_istore_n (lv' := [(2, .int 0), (0, .ref (z 0)), (1, .int 1)]) hx hb dX10_restore_31 rfl hl (by decide) rfl (fun ls hl => ?_)
        refine loopF (X := fun (n_35 : Nat) (H : Heap) (locs : List Loc) (ls : Array Slot) => ∃ (u_33 : Int32) (f_34 : Nat → Int32), (iv 0 2147483647 u_33) ∧ (ivT tA f_34) ∧ (RST 2050 u_33 f_34) ∧ T0 = W9 (L_k_X10_restore_0_2) (u_33, f_34) ∧ n_35 = (2147483647 - (u_33 : Int32).toInt).toNat ∧ va_P V.1 vwCl [(z 0, .inr (10, mo z 0 pz0_5 pz0_6 pz0_7 pz0_8 pz0_9 pz0_10 pz0_11 pz0_12 pz0_13 pz0_14 pz0_18 pz0_19 pz0_22 pz0_23 pz0_29)), (z 1, aI V 3075 f_34), (z 2, aZ V 2 fz2)] H ∧ va_D A [(z 0, .inr (10, mo z 0 pz0_5 pz0_6 pz0_7 pz0_8 pz0_9 pz0_10 pz0_11 pz0_12 pz0_13 pz0_14 pz0_18 pz0_19 pz0_22 pz0_23 pz0_29)), (z 1, aI V 3075 f_34), (z 2, aZ V 2 fz2)] ∧ va_S A s.heap H locs ∧ lv_has ls 3 [(2, .int u_33), (0, .ref (z 0)), (1, .int 1)]) (g := fun ls => F0 m 32 ls []) (fun n_35 H locs ls hX ihn_35 => ?_) _ ⟨0, fz1, (iv_c (0 : Int32) (by decide)), tfz1, (RST_0 hf0 (by decide)), hR, rfl, hP, hD, hS, lv_sub hl [0, 1, 2] rfl⟩
        obtain ⟨u_33, f_34, bu_33, tf_34, inn_35_0, hR, en_35, hP, hD, hS, hl⟩ := hX
        obtain ⟨Tn_35, hR, hAn_35⟩ := tw hR
        replace hR : Tn_35 = B_k_X10_restore_0_2 u_33 f_34 := hR
        replace hR := hR.trans (B_k_X10_restore_0_2.eq_1 ..)
        refine lv_iload_n hx hb dX10_restore_32 rfl (lv_at hl 0 rfl) ?_
        refine lv_sipush (v := 1025) hx hb dX10_restore_33 (by decide) ?_
        refine lv_icmp_ge (tgt := 65) hx hb dX10_restore_36 (by decide) (fun c_36 => ?_) (fun c_36 => ?_)
        · replace hR := ti hR c_36
          have b_37 : iv 1025 2147483647 u_33 := iv_e2 c_36 (iv_c (1025 : Int32) (a := 1025) (b := 1025) (by decide)) bu_33 (by decide)
          have hRW := RST_e inn_35_0 (Or.inr rfl) (Int32.not_lt.mpr c_36)
          refine lv_aload_n hx hb dX10_restore_65 rfl (lv_at hl 1 rfl) ?_
          refine va_get (ci := 10) (v := .ref (z 1)) (C := RX10) (T := TX10) (N := 40) hx hb hg inX10 hown hK hP 0 rfl rfl 1 (by decide) (hg _ q_5_225) (fun _ h9 => h9) rfl dX10_restore_66 ?_
          refine lv_bipush (v := 53) hx hb dX10_restore_69 (by decide) ?_
          refine lv_iconst (v := 0) hx hb dX10_restore_71 (by decide) ?_
          refine va_iast hx hb hK hP hD hS 1 0 rfl rfl (vin (by decide +kernel)) dX10_restore_72 (fun H locs hP hD hS => ?_)
          obtain ⟨f_38, ef_38, tf_38, hP, hD⟩ : ∃ f_38 : Nat → Int32, f_38 = (upd f_34 (53 : Int32).toNatClampNeg 0) ∧ (ivT tA f_38) ∧ va_P V.1 vwCl [(z 0, .inr (10, mo z 0 pz0_5 pz0_6 pz0_7 pz0_8 pz0_9 pz0_10 pz0_11 pz0_12 pz0_13 pz0_14 pz0_18 pz0_19 pz0_22 pz0_23 pz0_29)), (z 1, aI V 3075 f_38), (z 2, aZ V 2 fz2)] H ∧ va_D A [(z 0, .inr (10, mo z 0 pz0_5 pz0_6 pz0_7 pz0_8 pz0_9 pz0_10 pz0_11 pz0_12 pz0_13 pz0_14 pz0_18 pz0_19 pz0_22 pz0_23 pz0_29)), (z 1, aI V 3075 f_38), (z 2, aZ V 2 fz2)] := ⟨_, rfl, upT (lo := 0) (hi := 10) (a := 53) (n := 1) tf_34 (iv_c (53 : Int32) (a := 53) (b := 53) (by decide)) (by decide) (iv_c (0 : Int32) (by decide)) (by decide +kernel), hP, hD⟩
          replace hR := tb hR ef_38
          refine lv_iconst (v := 0) hx hb dX10_restore_73 (by decide) ?_
          exact fiI hx hb hr hlk hK hP hD hS dX10_restore_74 (Nat.le_of_ble_eq_true rfl) (Nat.le_of_ble_eq_true rfl) (⟨0, f_38, tf_38, (iv_c (0 : Int32) (by decide)), (RW_up hRW (iv_c (53 : Int32) (a := 53) (b := 53) (by decide)) (by decide) ef_38), (congrArg Prod.fst ((tx hAn_35 hR).symm.trans hT0)), (congrArg Prod.fst (congrArg Prod.snd ((tx hAn_35 hR).symm.trans hT0))), (congrArg Prod.snd (congrArg Prod.snd ((tx hAn_35 hR).symm.trans hT0))), rfl⟩)
        · replace hR := te hR c_36
          have b_39 : iv 0 1024 u_33 := iv_l1 (Int32.not_le.mp c_36) bu_33 (iv_c (1025 : Int32) (a := 1025) (b := 1025) (by decide)) (by decide)
          refine lv_aload_n hx hb dX10_restore_39 rfl (lv_at hl 1 rfl) ?_
          refine va_get (ci := 10) (v := .ref (z 1)) (C := RX10) (T := TX10) (N := 40) hx hb hg inX10 hown hK hP 0 rfl rfl 1 (by decide) (hg _ q_5_225) (fun _ h9 => h9) rfl dX10_restore_40 ?_
          refine lv_iload_n hx hb dX10_restore_43 rfl (lv_at hl 0 rfl) ?_
          refine lv_aload_n hx hb dX10_restore_44 rfl (lv_at hl 1 rfl) ?_
          refine va_get (ci := 10) (v := .ref (z 1)) (C := RX10) (T := TX10) (N := 40) hx hb hg inX10 hown hK hP 0 rfl rfl 1 (by decide) (hg _ q_5_225) (fun _ h9 => h9) rfl dX10_restore_45 ?_
          refine lv_sipush (v := 1025) hx hb dX10_restore_48 (by decide) ?_
          refine lv_iload_n hx hb dX10_restore_51 rfl (lv_at hl 2 rfl) ?_
          refine lv_iconst (v := 1) hx hb dX10_restore_52 (by decide) ?_
          refine lv_iadd hx hb dX10_restore_53 ?_
          refine tpi (y := 2) (by decide +kernel) ?_
          refine lv_imul hx hb dX10_restore_54 ?_
          refine tpi (y := 2050) (by decide +kernel) ?_
          refine lv_iload_n hx hb dX10_restore_55 rfl (lv_at hl 0 rfl) ?_
          refine lv_iadd hx hb dX10_restore_56 ?_
          refine lv_topi (fun x_40 ex_40 => ?_)
          have bx_40 : iv 2050 3074 x_40 := by rw [ex_40]; exact iv_add (iv_c (2050 : Int32) (a := 2050) (b := 2050) (by decide)) b_39 (by decide)
          replace hR := tb hR ex_40
          refine va_iald hx hb hK hP 1 0 rfl rfl (iv_in bx_40 (by decide)) dX10_restore_57 ?_
          refine lv_topi (fun x_41 ex_41 => ?_)
          replace hR := tb hR ex_41
          refine va_iast hx hb hK hP hD hS 1 0 rfl rfl (iv_in b_39 (by decide)) dX10_restore_58 (fun H locs hP hD hS => ?_)
          obtain ⟨f_42, ef_42, tf_42, hP, hD⟩ : ∃ f_42 : Nat → Int32, f_42 = (upd f_34 (u_33 : Int32).toNatClampNeg x_41) ∧ (ivT tA f_42) ∧ va_P V.1 vwCl [(z 0, .inr (10, mo z 0 pz0_5 pz0_6 pz0_7 pz0_8 pz0_9 pz0_10 pz0_11 pz0_12 pz0_13 pz0_14 pz0_18 pz0_19 pz0_22 pz0_23 pz0_29)), (z 1, aI V 3075 f_42), (z 2, aZ V 2 fz2)] H ∧ va_D A [(z 0, .inr (10, mo z 0 pz0_5 pz0_6 pz0_7 pz0_8 pz0_9 pz0_10 pz0_11 pz0_12 pz0_13 pz0_14 pz0_18 pz0_19 pz0_22 pz0_23 pz0_29)), (z 1, aI V 3075 f_42), (z 2, aZ V 2 fz2)] := ⟨_, rfl, tA_cp (c := 0) (d := 2050) tf_34 (show (u_33 : Int32).toInt = ((0 : Nat) : Int) + (u_33 : Int32).toInt from (by omega)) (show (x_40 : Int32).toInt = ((2050 : Nat) : Int) + (u_33 : Int32).toInt from (by have q_x_40 := toInt_add ex_40 (iv_c (2050 : Int32) (a := 2050) (b := 2050) (by decide)) b_39 (by decide); have k_x_40 : (2050 : Int32).toInt = 2050 := (by decide); omega)) b_39 (by decide) (by decide) ex_41, hP, hD⟩
          replace hR := tb hR ef_42
          obtain ⟨x_43, ex_43⟩ : ∃ z9 : Int32, z9 = u_33 + 1 := ⟨_, rfl⟩
          have bx_43 : iv 1 1025 x_43 := by rw [ex_43]; exact iv_add b_39 (iv_c (1 : Int32) (a := 1) (b := 1) (by decide)) (by decide)
          replace hR := tb hR ex_43
          refine lv_iinc (v := x_43) (lv' := [(2, .int x_43), (0, .ref (z 0)), (1, .int 1)]) hx hb dX10_restore_59 hl (k := 0) rfl (by rw [ex_43]; rfl) (by decide) rfl (fun ls hl => ?_)
          refine lv_goto (tgt := 32) hx hb dX10_restore_62 (by decide) ?_
          exact ihn_35 _ _ _ _ (by rw [en_35, ex_43]; exact mu_up b_39 (by decide)) ⟨x_43, f_42, (iv_w bx_43 (by decide)), tf_42, (RST_s inn_35_0 (Or.inr rfl) b_39 (by decide) (show (x_40 : Int32).toInt = ((2050 : Nat) : Int) + (u_33 : Int32).toInt from (by have q_x_40 := toInt_add ex_40 (iv_c (2050 : Int32) (a := 2050) (b := 2050) (by decide)) b_39 (by decide); have k_x_40 : (2050 : Int32).toInt = 2050 := (by decide); omega)) ex_41 ef_42 ex_43), (tbk hAn_35 hR), rfl, hP, hD, hS, lv_sub hl [0, 1, 2] rfl⟩
      · replace hR := ti hR c_32
        have b_44 : iv 0 0 x_31 := iv_q c_32 (iv_c (0 : Int32) (a := 0) (b := 0) (by decide))
        refine lv_bipush (v := (-5)) hx hb dX10_restore_27 (by decide) ?_
        exact fiI hx hb hr hlk hK hP hD hS dX10_restore_29 (Nat.le_of_ble_eq_true rfl) (Nat.le_of_ble_eq_true rfl) (⟨0, fz1, tfz1, (iv_c ((-5) : Int32) (by decide)), hf0, (congrArg Prod.fst (hR.symm.trans hT0)), (congrArg Prod.fst (congrArg Prod.snd (hR.symm.trans hT0))), (congrArg Prod.snd (congrArg Prod.snd (hR.symm.trans hT0))), rfl⟩)
  · replace hR := ti hR c_8
    have b_45 : iv 0 0 r_2 := iv_q c_8 (iv_c (0 : Int32) (a := 0) (b := 0) (by decide))
    refine lv_bipush (v := (-2)) hx hb dX10_restore_15 (by decide) ?_
    exact fiI hx hb hr hlk hK hP hD hS dX10_restore_17 (Nat.le_of_ble_eq_true rfl) (Nat.le_of_ble_eq_true rfl) (⟨0, fz1, tfz1, (iv_c ((-2) : Int32) (by decide)), hf0, (congrArg Prod.fst (hR.symm.trans hT0)), (congrArg Prod.fst (congrArg Prod.snd (hR.symm.trans hT0))), (congrArg Prod.snd (congrArg Prod.snd (hR.symm.trans hT0))), rfl⟩)
theorem dX10_count_0 : decode cX10_count 0 = .ok (.aload_n 0, 1) := by decide +kernel
theorem dX10_count_1 : decode cX10_count 1 = .ok (.iconst 0, 1) := by decide +kernel
theorem dX10_count_2 : decode cX10_count 2 = .ok (.putfield 1, 3) := by decide +kernel
theorem dX10_count_5 : decode cX10_count 5 = .ok (.iload_n 1, 1) := by decide +kernel
theorem dX10_count_6 : decode cX10_count 6 = .ok (.tableswitch 128 0 9 #[54, 61, 68, 75, 83, 92, 100, 108, 116, 121], 54) := by decide +kernel
theorem dX10_count_60 : decode cX10_count 60 = .ok (.aload_n 0, 1) := by decide +kernel
theorem dX10_count_61 : decode cX10_count 61 = .ok (.getfield 13, 3) := by decide +kernel
theorem dX10_count_64 : decode cX10_count 64 = .ok (.iconst 1, 1) := by decide +kernel
theorem dX10_count_65 : decode cX10_count 65 = .ok (.iaload, 1) := by decide +kernel
theorem dX10_count_66 : decode cX10_count 66 = .ok (.ireturn, 1) := by decide +kernel
theorem dX10_count_67 : decode cX10_count 67 = .ok (.aload_n 0, 1) := by decide +kernel
theorem dX10_count_68 : decode cX10_count 68 = .ok (.getfield 13, 3) := by decide +kernel
theorem dX10_count_71 : decode cX10_count 71 = .ok (.iconst 2, 1) := by decide +kernel
theorem dX10_count_72 : decode cX10_count 72 = .ok (.iaload, 1) := by decide +kernel
theorem dX10_count_73 : decode cX10_count 73 = .ok (.ireturn, 1) := by decide +kernel
theorem dX10_count_74 : decode cX10_count 74 = .ok (.aload_n 0, 1) := by decide +kernel
theorem dX10_count_75 : decode cX10_count 75 = .ok (.getfield 13, 3) := by decide +kernel
theorem dX10_count_78 : decode cX10_count 78 = .ok (.iconst 3, 1) := by decide +kernel
theorem dX10_count_79 : decode cX10_count 79 = .ok (.iaload, 1) := by decide +kernel
theorem dX10_count_80 : decode cX10_count 80 = .ok (.ireturn, 1) := by decide +kernel
theorem dX10_count_81 : decode cX10_count 81 = .ok (.aload_n 0, 1) := by decide +kernel
theorem dX10_count_82 : decode cX10_count 82 = .ok (.getfield 13, 3) := by decide +kernel
theorem dX10_count_85 : decode cX10_count 85 = .ok (.bipush 51, 2) := by decide +kernel
theorem dX10_count_87 : decode cX10_count 87 = .ok (.iaload, 1) := by decide +kernel
theorem dX10_count_88 : decode cX10_count 88 = .ok (.ireturn, 1) := by decide +kernel
theorem dX10_count_89 : decode cX10_count 89 = .ok (.aload_n 0, 1) := by decide +kernel
theorem dX10_count_90 : decode cX10_count 90 = .ok (.aload_n 0, 1) := by decide +kernel
theorem dX10_count_91 : decode cX10_count 91 = .ok (.invokevirtual 269, 3) := by decide +kernel
theorem dX10_count_94 : decode cX10_count 94 = .ok (.invokevirtual 326, 3) := by decide +kernel
theorem dX10_count_97 : decode cX10_count 97 = .ok (.ireturn, 1) := by decide +kernel
theorem dX10_count_98 : decode cX10_count 98 = .ok (.aload_n 0, 1) := by decide +kernel
theorem dX10_count_99 : decode cX10_count 99 = .ok (.getfield 13, 3) := by decide +kernel
theorem dX10_count_102 : decode cX10_count 102 = .ok (.bipush 50, 2) := by decide +kernel
theorem dX10_count_104 : decode cX10_count 104 = .ok (.iaload, 1) := by decide +kernel
theorem dX10_count_105 : decode cX10_count 105 = .ok (.ireturn, 1) := by decide +kernel
theorem dX10_count_106 : decode cX10_count 106 = .ok (.aload_n 0, 1) := by decide +kernel
theorem dX10_count_107 : decode cX10_count 107 = .ok (.getfield 13, 3) := by decide +kernel
theorem dX10_count_110 : decode cX10_count 110 = .ok (.bipush 52, 2) := by decide +kernel
theorem dX10_count_112 : decode cX10_count 112 = .ok (.iaload, 1) := by decide +kernel
theorem dX10_count_113 : decode cX10_count 113 = .ok (.ireturn, 1) := by decide +kernel
theorem dX10_count_114 : decode cX10_count 114 = .ok (.aload_n 0, 1) := by decide +kernel
theorem dX10_count_115 : decode cX10_count 115 = .ok (.getfield 13, 3) := by decide +kernel
theorem dX10_count_118 : decode cX10_count 118 = .ok (.bipush 53, 2) := by decide +kernel
theorem dX10_count_120 : decode cX10_count 120 = .ok (.iaload, 1) := by decide +kernel
theorem dX10_count_121 : decode cX10_count 121 = .ok (.ireturn, 1) := by decide +kernel
theorem dX10_count_122 : decode cX10_count 122 = .ok (.aload_n 0, 1) := by decide +kernel
theorem dX10_count_123 : decode cX10_count 123 = .ok (.getfield 97, 3) := by decide +kernel
theorem dX10_count_126 : decode cX10_count 126 = .ok (.ireturn, 1) := by decide +kernel
theorem dX10_count_127 : decode cX10_count 127 = .ok (.aload_n 0, 1) := by decide +kernel
theorem dX10_count_128 : decode cX10_count 128 = .ok (.getfield 13, 3) := by decide +kernel
theorem dX10_count_131 : decode cX10_count 131 = .ok (.iconst 0, 1) := by decide +kernel
theorem dX10_count_132 : decode cX10_count 132 = .ok (.iaload, 1) := by decide +kernel
theorem dX10_count_133 : decode cX10_count 133 = .ok (.ireturn, 1) := by decide +kernel
theorem dX10_count_134 : decode cX10_count 134 = .ok (.iconst (-1), 1) := by decide +kernel
theorem dX10_count_135 : decode cX10_count 135 = .ok (.ireturn, 1) := by decide +kernel
set_option maxRecDepth 100000 in
noncomputable def F_k_X10_count_0 (a1 : Int32) (pz0_5 : Int32) (fz1 : Nat → Int32) : Int32 × Int32 := if a1 = 0 then (bnd (fz1 (1 : Int32).toNatClampNeg : Int32) fun (x_2 : Int32) => (x_2, (0 : Int32))) else (if a1 = 1 then (bnd (fz1 (2 : Int32).toNatClampNeg : Int32) fun (x_4 : Int32) => (x_4, (0 : Int32))) else (if a1 = 2 then (bnd (fz1 (3 : Int32).toNatClampNeg : Int32) fun (x_6 : Int32) => (x_6, (0 : Int32))) else (if a1 = 3 then (bnd (fz1 (51 : Int32).toNatClampNeg : Int32) fun (x_8 : Int32) => (x_8, (0 : Int32))) else (if a1 = 4 then (bnd (F_k_X10_standNow_0 fz1 : Int32) fun (r_10 : Int32) => bnd (F_k_X10_sumIn_0 r_10 fz1 : Int32) fun (r_13 : Int32) => (r_13, (0 : Int32))) else (if a1 = 5 then (bnd (fz1 (50 : Int32).toNatClampNeg : Int32) fun (x_17 : Int32) => (x_17, (0 : Int32))) else (if a1 = 6 then (bnd (fz1 (52 : Int32).toNatClampNeg : Int32) fun (x_19 : Int32) => (x_19, (0 : Int32))) else (if a1 = 7 then (bnd (fz1 (53 : Int32).toNatClampNeg : Int32) fun (x_21 : Int32) => (x_21, (0 : Int32))) else (if a1 = 8 then ((pz0_5, (0 : Int32))) else (if a1 = 9 then (bnd (fz1 (0 : Int32).toNatClampNeg : Int32) fun (x_24 : Int32) => (x_24, (0 : Int32))) else ((((-1) : Int32), (0 : Int32))))))))))))
set_option maxHeartbeats 4000000 in
set_option maxRecDepth 100000 in
theorem k_X10_count_0 (l : Launch) (V : GV) (z : Nat → Nat) (a1 : Int32) (pz0_0 : Int32) (pz0_5 : Int32) (pz0_6 : Int32) (pz0_7 : Int32) (pz0_8 : Int32) (pz0_9 : Int32) (pz0_10 : Int32) (pz0_11 : Int32) (pz0_12 : Int32) (pz0_13 : Int32) (pz0_14 : Int32) (pz0_18 : Int32) (pz0_19 : Int32) (pz0_22 : Int32) (pz0_23 : Int32) (pz0_29 : Int32) (fz1 : Nat → Int32) (bpz0_5 : iv 0 900 pz0_5) (bpz0_6 : iv 0 900 pz0_6) (bpz0_7 : iv 0 900 pz0_7) (bpz0_8 : iv 0 900 pz0_8) (bpz0_10 : iv 0 999 pz0_10) (bpz0_11 : iv 0 4 pz0_11) (bpz0_12 : iv 0 900 pz0_12) (bpz0_13 : iv 0 4 pz0_13) (bpz0_14 : iv (-1) 900 pz0_14) (bpz0_18 : iv 0 2 pz0_18) (bpz0_22 : iv 0 9999 pz0_22) (bpz0_29 : iv 0 10000 pz0_29) (tfz1 : ivT tA fz1) : Ct l V yX10_count (.code yX10_count cX10_count 2 (some .int)) 4 [.ref (z 0), .int a1] [(z 0, .inr (10, mo z pz0_0 pz0_5 pz0_6 pz0_7 pz0_8 pz0_9 pz0_10 pz0_11 pz0_12 pz0_13 pz0_14 pz0_18 pz0_19 pz0_22 pz0_23 pz0_29)), (z 1, aI V 3075 fz1)] 0 0 (QI V (fun (r : Int32) (w : va_W) => ∃ (v0 : Int32), r = (F_k_X10_count_0 a1 pz0_5 fz1).1 ∧ v0 = (F_k_X10_count_0 a1 pz0_5 fz1).2 ∧ w = [(z 0, .inr (10, mo z v0 pz0_5 pz0_6 pz0_7 pz0_8 pz0_9 pz0_10 pz0_11 pz0_12 pz0_13 pz0_14 pz0_18 pz0_19 pz0_22 pz0_23 pz0_29)), (z 1, aI V 3075 fz1)])) := by
  refine Ct.of (by decide) (Nat.le_of_ble_eq_true rfl) (fun p e s m below meth c A ls hx hb hr hml hown hlk hnm hg hP hK hD hE hA hS hl => ?_)
  have hl : lv_has ls 2 [(0, .ref (z 0)), (1, .int a1)] := hl
  obtain ⟨T0, hT0⟩ : ∃ T9, T9 = F_k_X10_count_0 a1 pz0_5 fz1 := ⟨_, rfl⟩
  have hR := hT0.trans (F_k_X10_count_0.eq_1 ..)
  refine lv_aload_n hx hb dX10_count_0 rfl (lv_at hl 0 rfl) ?_
  refine lv_iconst (v := 0) hx hb dX10_count_1 (by decide) ?_
  refine va_put (ci := 10) (v := .int 0) (ty := .int) (C := RX10) (T := TX10) (N := 40) hx hb hg inX10 tyX10 tyX10_ok nmX10 hown hK hP hD hS 0 rfl rfl 0 (by decide) (hg _ q_5_224) (fun _ h9 => h9) rfl (by decide +kernel) rfl rfl (Nat.le_of_ble_eq_true rfl) dX10_count_2 (fun H locs hP hD hS => ?_)
  have hP : va_P V.1 vwCl [(z 0, .inr (10, mo z 0 pz0_5 pz0_6 pz0_7 pz0_8 pz0_9 pz0_10 pz0_11 pz0_12 pz0_13 pz0_14 pz0_18 pz0_19 pz0_22 pz0_23 pz0_29)), (z 1, aI V 3075 fz1)] H := hP
  have hD := cpD hP hD
  refine lv_iload_n hx hb dX10_count_5 rfl (lv_at hl 1 rfl) ?_
  by_cases c_1 : a1 = 0
  · refine lv_tableIn (off := 54) (tgt := 60) hx hb dX10_count_6 (by rw [c_1]; decide) (by rw [c_1]; decide) (by rw [c_1]; rfl) (by decide) ?_
    replace hR := ti hR c_1
    refine lv_aload_n hx hb dX10_count_60 rfl (lv_at hl 0 rfl) ?_
    refine va_get (ci := 10) (v := .ref (z 1)) (C := RX10) (T := TX10) (N := 40) hx hb hg inX10 hown hK hP 0 rfl rfl 1 (by decide) (hg _ q_5_225) (fun _ h9 => h9) rfl dX10_count_61 ?_
    refine lv_iconst (v := 1) hx hb dX10_count_64 (by decide) ?_
    refine va_iald hx hb hK hP 1 0 rfl rfl (vin (by decide +kernel)) dX10_count_65 ?_
    refine lv_topi (fun x_2 ex_2 => ?_)
    have bx_2 : iv 0 4 x_2 := by rw [ex_2]; exact rdT (a := 1) (n := 1) tfz1 (iv_c (1 : Int32) (a := 1) (b := 1) (by decide)) (by decide) (by decide +kernel)
    replace hR := tb hR ex_2
    exact fiI hx hb hr hlk hK hP hD hS dX10_count_66 (Nat.le_of_ble_eq_true rfl) (Nat.le_of_ble_eq_true rfl) (⟨0, (congrArg Prod.fst (hR.symm.trans hT0)), (congrArg Prod.snd (hR.symm.trans hT0)), rfl⟩)
  · replace hR := te hR c_1
    by_cases c_3 : a1 = 1
    · refine lv_tableIn (off := 61) (tgt := 67) hx hb dX10_count_6 (by rw [c_3]; decide) (by rw [c_3]; decide) (by rw [c_3]; rfl) (by decide) ?_
      replace hR := ti hR c_3
      refine lv_aload_n hx hb dX10_count_67 rfl (lv_at hl 0 rfl) ?_
      refine va_get (ci := 10) (v := .ref (z 1)) (C := RX10) (T := TX10) (N := 40) hx hb hg inX10 hown hK hP 0 rfl rfl 1 (by decide) (hg _ q_5_225) (fun _ h9 => h9) rfl dX10_count_68 ?_
      refine lv_iconst (v := 2) hx hb dX10_count_71 (by decide) ?_
      refine va_iald hx hb hK hP 1 0 rfl rfl (vin (by decide +kernel)) dX10_count_72 ?_
      refine lv_topi (fun x_4 ex_4 => ?_)
      have bx_4 : iv 0 4 x_4 := by rw [ex_4]; exact rdT (a := 2) (n := 1) tfz1 (iv_c (2 : Int32) (a := 2) (b := 2) (by decide)) (by decide) (by decide +kernel)
      replace hR := tb hR ex_4
      exact fiI hx hb hr hlk hK hP hD hS dX10_count_73 (Nat.le_of_ble_eq_true rfl) (Nat.le_of_ble_eq_true rfl) (⟨0, (congrArg Prod.fst (hR.symm.trans hT0)), (congrArg Prod.snd (hR.symm.trans hT0)), rfl⟩)
    · replace hR := te hR c_3
      by_cases c_5 : a1 = 2
      · refine lv_tableIn (off := 68) (tgt := 74) hx hb dX10_count_6 (by rw [c_5]; decide) (by rw [c_5]; decide) (by rw [c_5]; rfl) (by decide) ?_
        replace hR := ti hR c_5
        refine lv_aload_n hx hb dX10_count_74 rfl (lv_at hl 0 rfl) ?_
        refine va_get (ci := 10) (v := .ref (z 1)) (C := RX10) (T := TX10) (N := 40) hx hb hg inX10 hown hK hP 0 rfl rfl 1 (by decide) (hg _ q_5_225) (fun _ h9 => h9) rfl dX10_count_75 ?_
        refine lv_iconst (v := 3) hx hb dX10_count_78 (by decide) ?_
        refine va_iald hx hb hK hP 1 0 rfl rfl (vin (by decide +kernel)) dX10_count_79 ?_
        refine lv_topi (fun x_6 ex_6 => ?_)
        have bx_6 : iv 0 8 x_6 := by rw [ex_6]; exact rdT (a := 3) (n := 1) tfz1 (iv_c (3 : Int32) (a := 3) (b := 3) (by decide)) (by decide) (by decide +kernel)
        replace hR := tb hR ex_6
        exact fiI hx hb hr hlk hK hP hD hS dX10_count_80 (Nat.le_of_ble_eq_true rfl) (Nat.le_of_ble_eq_true rfl) (⟨0, (congrArg Prod.fst (hR.symm.trans hT0)), (congrArg Prod.snd (hR.symm.trans hT0)), rfl⟩)
      · replace hR := te hR c_5
        by_cases c_7 : a1 = 3
        · refine lv_tableIn (off := 75) (tgt := 81) hx hb dX10_count_6 (by rw [c_7]; decide) (by rw [c_7]; decide) (by rw [c_7]; rfl) (by decide) ?_
          replace hR := ti hR c_7
          refine lv_aload_n hx hb dX10_count_81 rfl (lv_at hl 0 rfl) ?_
          refine va_get (ci := 10) (v := .ref (z 1)) (C := RX10) (T := TX10) (N := 40) hx hb hg inX10 hown hK hP 0 rfl rfl 1 (by decide) (hg _ q_5_225) (fun _ h9 => h9) rfl dX10_count_82 ?_
          refine lv_bipush (v := 51) hx hb dX10_count_85 (by decide) ?_
          refine va_iald hx hb hK hP 1 0 rfl rfl (vin (by decide +kernel)) dX10_count_87 ?_
          refine lv_topi (fun x_8 ex_8 => ?_)
          have bx_8 : iv 0 9 x_8 := by rw [ex_8]; exact rdT (a := 51) (n := 1) tfz1 (iv_c (51 : Int32) (a := 51) (b := 51) (by decide)) (by decide) (by decide +kernel)
          replace hR := tb hR ex_8
          exact fiI hx hb hr hlk hK hP hD hS dX10_count_88 (Nat.le_of_ble_eq_true rfl) (Nat.le_of_ble_eq_true rfl) (⟨0, (congrArg Prod.fst (hR.symm.trans hT0)), (congrArg Prod.snd (hR.symm.trans hT0)), rfl⟩)
        · replace hR := te hR c_7
          by_cases c_9 : a1 = 4
          · refine lv_tableIn (off := 83) (tgt := 89) hx hb dX10_count_6 (by rw [c_9]; decide) (by rw [c_9]; decide) (by rw [c_9]; rfl) (by decide) ?_
            replace hR := ti hR c_9
            refine lv_aload_n hx hb dX10_count_89 rfl (lv_at hl 0 rfl) ?_
            refine lv_aload_n hx hb dX10_count_90 rfl (lv_at hl 0 rfl) ?_
            refine jnI (wr := []) (rnV (rest := [.ref (z 0)]) ⟨hx, hb, hml, hown, hg⟩ (k_X10_standNow_0 l V z 0 pz0_5 pz0_6 pz0_7 pz0_8 pz0_9 pz0_10 pz0_11 pz0_12 pz0_13 pz0_14 pz0_18 pz0_19 pz0_22 pz0_23 pz0_29 fz1 bpz0_5 bpz0_6 bpz0_7 bpz0_8 bpz0_10 bpz0_11 bpz0_12 bpz0_13 bpz0_14 bpz0_18 bpz0_22 bpz0_29 tfz1) mt_X10_standNow q_7_11 ⟨Nat.le_of_ble_eq_true rfl, Nat.le_of_ble_eq_true rfl⟩ hK hP hD hS hA hE [0, 1] rfl rfl 0 rfl rfl rfl rfl hl.1 rfl (Nat.le_of_ble_eq_true rfl) dX10_count_91 ⟨Nat.le_of_ble_eq_true rfl, Nat.le_of_ble_eq_true rfl⟩) hP hD hS hA [0, 1] [] rfl rfl rfl (by decide) (fun r_10 w H locs hw hP hD hS => ?_)
            obtain ⟨br_10, er_10, et_11, rfl⟩ := hw
            replace hR := tb hR et_11
            have hP : va_P V.1 vwCl [(z 0, .inr (10, mo z 0 pz0_5 pz0_6 pz0_7 pz0_8 pz0_9 pz0_10 pz0_11 pz0_12 pz0_13 pz0_14 pz0_18 pz0_19 pz0_22 pz0_23 pz0_29)), (z 1, aI V 3075 fz1)] H := hP
            have hD := cpD hP hD
            refine jnI (wr := []) (rnV (rest := []) ⟨hx, hb, hml, hown, hg⟩ (k_X10_sumIn_0 l V z r_10 0 pz0_5 pz0_6 pz0_7 pz0_8 pz0_9 pz0_10 pz0_11 pz0_12 pz0_13 pz0_14 pz0_18 pz0_19 pz0_22 pz0_23 pz0_29 fz1 br_10 bpz0_5 bpz0_6 bpz0_7 bpz0_8 bpz0_10 bpz0_11 bpz0_12 bpz0_13 bpz0_14 bpz0_18 bpz0_22 bpz0_29 tfz1) mt_X10_sumIn q_7_131 ⟨Nat.le_of_ble_eq_true rfl, Nat.le_of_ble_eq_true rfl⟩ hK hP hD hS hA hE [0, 1] rfl rfl 0 rfl rfl rfl rfl hl.1 rfl (Nat.le_of_ble_eq_true rfl) dX10_count_94 ⟨Nat.le_of_ble_eq_true rfl, Nat.le_of_ble_eq_true rfl⟩) hP hD hS hA [0, 1] [] rfl rfl rfl (by decide) (fun r_13 w H locs hw hP hD hS => ?_)
            obtain ⟨et_14, rfl⟩ := hw
            replace hR := tb hR et_14
            have hP : va_P V.1 vwCl [(z 0, .inr (10, mo z 0 pz0_5 pz0_6 pz0_7 pz0_8 pz0_9 pz0_10 pz0_11 pz0_12 pz0_13 pz0_14 pz0_18 pz0_19 pz0_22 pz0_23 pz0_29)), (z 1, aI V 3075 fz1)] H := hP
            have hD := cpD hP hD
            exact fiI hx hb hr hlk hK hP hD hS dX10_count_97 (Nat.le_of_ble_eq_true rfl) (Nat.le_of_ble_eq_true rfl) (⟨0, (congrArg Prod.fst (hR.symm.trans hT0)), (congrArg Prod.snd (hR.symm.trans hT0)), rfl⟩)
          · replace hR := te hR c_9
            by_cases c_16 : a1 = 5
            · refine lv_tableIn (off := 92) (tgt := 98) hx hb dX10_count_6 (by rw [c_16]; decide) (by rw [c_16]; decide) (by rw [c_16]; rfl) (by decide) ?_
              replace hR := ti hR c_16
              refine lv_aload_n hx hb dX10_count_98 rfl (lv_at hl 0 rfl) ?_
              refine va_get (ci := 10) (v := .ref (z 1)) (C := RX10) (T := TX10) (N := 40) hx hb hg inX10 hown hK hP 0 rfl rfl 1 (by decide) (hg _ q_5_225) (fun _ h9 => h9) rfl dX10_count_99 ?_
              refine lv_bipush (v := 50) hx hb dX10_count_102 (by decide) ?_
              refine va_iald hx hb hK hP 1 0 rfl rfl (vin (by decide +kernel)) dX10_count_104 ?_
              refine lv_topi (fun x_17 ex_17 => ?_)
              have bx_17 : iv 0 15 x_17 := by rw [ex_17]; exact rdT (a := 50) (n := 1) tfz1 (iv_c (50 : Int32) (a := 50) (b := 50) (by decide)) (by decide) (by decide +kernel)
              replace hR := tb hR ex_17
              exact fiI hx hb hr hlk hK hP hD hS dX10_count_105 (Nat.le_of_ble_eq_true rfl) (Nat.le_of_ble_eq_true rfl) (⟨0, (congrArg Prod.fst (hR.symm.trans hT0)), (congrArg Prod.snd (hR.symm.trans hT0)), rfl⟩)
            · replace hR := te hR c_16
              by_cases c_18 : a1 = 6
              · refine lv_tableIn (off := 100) (tgt := 106) hx hb dX10_count_6 (by rw [c_18]; decide) (by rw [c_18]; decide) (by rw [c_18]; rfl) (by decide) ?_
                replace hR := ti hR c_18
                refine lv_aload_n hx hb dX10_count_106 rfl (lv_at hl 0 rfl) ?_
                refine va_get (ci := 10) (v := .ref (z 1)) (C := RX10) (T := TX10) (N := 40) hx hb hg inX10 hown hK hP 0 rfl rfl 1 (by decide) (hg _ q_5_225) (fun _ h9 => h9) rfl dX10_count_107 ?_
                refine lv_bipush (v := 52) hx hb dX10_count_110 (by decide) ?_
                refine va_iald hx hb hK hP 1 0 rfl rfl (vin (by decide +kernel)) dX10_count_112 ?_
                refine lv_topi (fun x_19 ex_19 => ?_)
                replace hR := tb hR ex_19
                exact fiI hx hb hr hlk hK hP hD hS dX10_count_113 (Nat.le_of_ble_eq_true rfl) (Nat.le_of_ble_eq_true rfl) (⟨0, (congrArg Prod.fst (hR.symm.trans hT0)), (congrArg Prod.snd (hR.symm.trans hT0)), rfl⟩)
              · replace hR := te hR c_18
                by_cases c_20 : a1 = 7
                · refine lv_tableIn (off := 108) (tgt := 114) hx hb dX10_count_6 (by rw [c_20]; decide) (by rw [c_20]; decide) (by rw [c_20]; rfl) (by decide) ?_
                  replace hR := ti hR c_20
                  refine lv_aload_n hx hb dX10_count_114 rfl (lv_at hl 0 rfl) ?_
                  refine va_get (ci := 10) (v := .ref (z 1)) (C := RX10) (T := TX10) (N := 40) hx hb hg inX10 hown hK hP 0 rfl rfl 1 (by decide) (hg _ q_5_225) (fun _ h9 => h9) rfl dX10_count_115 ?_
                  refine lv_bipush (v := 53) hx hb dX10_count_118 (by decide) ?_
                  refine va_iald hx hb hK hP 1 0 rfl rfl (vin (by decide +kernel)) dX10_count_120 ?_
                  refine lv_topi (fun x_21 ex_21 => ?_)
                  have bx_21 : iv 0 10 x_21 := by rw [ex_21]; exact rdT (a := 53) (n := 1) tfz1 (iv_c (53 : Int32) (a := 53) (b := 53) (by decide)) (by decide) (by decide +kernel)
                  replace hR := tb hR ex_21
                  exact fiI hx hb hr hlk hK hP hD hS dX10_count_121 (Nat.le_of_ble_eq_true rfl) (Nat.le_of_ble_eq_true rfl) (⟨0, (congrArg Prod.fst (hR.symm.trans hT0)), (congrArg Prod.snd (hR.symm.trans hT0)), rfl⟩)
                · replace hR := te hR c_20
                  by_cases c_22 : a1 = 8
                  · refine lv_tableIn (off := 116) (tgt := 122) hx hb dX10_count_6 (by rw [c_22]; decide) (by rw [c_22]; decide) (by rw [c_22]; rfl) (by decide) ?_
                    replace hR := ti hR c_22
                    refine lv_aload_n hx hb dX10_count_122 rfl (lv_at hl 0 rfl) ?_
                    refine va_get (ci := 10) (v := .int pz0_5) (C := RX10) (T := TX10) (N := 40) hx hb hg inX10 hown hK hP 0 rfl rfl 5 (by decide) (hg _ q_5_229) (fun _ h9 => h9) rfl dX10_count_123 ?_
                    exact fiI hx hb hr hlk hK hP hD hS dX10_count_126 (Nat.le_of_ble_eq_true rfl) (Nat.le_of_ble_eq_true rfl) (⟨0, (congrArg Prod.fst (hR.symm.trans hT0)), (congrArg Prod.snd (hR.symm.trans hT0)), rfl⟩)
                  · replace hR := te hR c_22
                    by_cases c_23 : a1 = 9
                    · refine lv_tableIn (off := 121) (tgt := 127) hx hb dX10_count_6 (by rw [c_23]; decide) (by rw [c_23]; decide) (by rw [c_23]; rfl) (by decide) ?_
                      replace hR := ti hR c_23
                      refine lv_aload_n hx hb dX10_count_127 rfl (lv_at hl 0 rfl) ?_
                      refine va_get (ci := 10) (v := .ref (z 1)) (C := RX10) (T := TX10) (N := 40) hx hb hg inX10 hown hK hP 0 rfl rfl 1 (by decide) (hg _ q_5_225) (fun _ h9 => h9) rfl dX10_count_128 ?_
                      refine lv_iconst (v := 0) hx hb dX10_count_131 (by decide) ?_
                      refine va_iald hx hb hK hP 1 0 rfl rfl (vin (by decide +kernel)) dX10_count_132 ?_
                      refine lv_topi (fun x_24 ex_24 => ?_)
                      replace hR := tb hR ex_24
                      exact fiI hx hb hr hlk hK hP hD hS dX10_count_133 (Nat.le_of_ble_eq_true rfl) (Nat.le_of_ble_eq_true rfl) (⟨0, (congrArg Prod.fst (hR.symm.trans hT0)), (congrArg Prod.snd (hR.symm.trans hT0)), rfl⟩)
                    · replace hR := te hR c_23
                      refine lv_tableOut (tgt := 134) hx hb dX10_count_6 ((Int.lt_or_le a1.toInt 0).elim Or.inl (fun c_25 => Or.inr (by simp only [tI_eq, (by decide : (0 : Int32).toInt = 0), (by decide : (1 : Int32).toInt = 1), (by decide : (2 : Int32).toInt = 2), (by decide : (3 : Int32).toInt = 3), (by decide : (4 : Int32).toInt = 4), (by decide : (5 : Int32).toInt = 5), (by decide : (6 : Int32).toInt = 6), (by decide : (7 : Int32).toInt = 7), (by decide : (8 : Int32).toInt = 8), (by decide : (9 : Int32).toInt = 9)] at c_1 c_3 c_5 c_7 c_9 c_16 c_18 c_20 c_22 c_23; omega))) (by decide) ?_
                      refine lv_iconst (v := (-1)) hx hb dX10_count_134 (by decide) ?_
                      exact fiI hx hb hr hlk hK hP hD hS dX10_count_135 (Nat.le_of_ble_eq_true rfl) (Nat.le_of_ble_eq_true rfl) (⟨0, (congrArg Prod.fst (hR.symm.trans hT0)), (congrArg Prod.snd (hR.symm.trans hT0)), rfl⟩)
