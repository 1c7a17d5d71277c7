theorem dX10_weathersOf_0 : decode cX10_weathersOf 0 = .ok (.iconst 0, 1) := by decide +kernel
theorem dX10_weathersOf_1 : decode cX10_weathersOf 1 = .ok (.istore_n 3, 1) := by decide +kernel
theorem dX10_weathersOf_2 : decode cX10_weathersOf 2 = .ok (.iconst 0, 1) := by decide +kernel
theorem dX10_weathersOf_3 : decode cX10_weathersOf 3 = .ok (.istore 4, 2) := by decide +kernel
theorem dX10_weathersOf_5 : decode cX10_weathersOf 5 = .ok (.iload 4, 2) := by decide +kernel
theorem dX10_weathersOf_7 : decode cX10_weathersOf 7 = .ok (.bipush 10, 2) := by decide +kernel
theorem dX10_weathersOf_9 : decode cX10_weathersOf 9 = .ok (.if_icmp .ge 98, 3) := by decide +kernel
theorem dX10_weathersOf_107 : decode cX10_weathersOf 107 = .ok (.iload_n 3, 1) := by decide +kernel
theorem dX10_weathersOf_108 : decode cX10_weathersOf 108 = .ok (.ireturn, 1) := by decide +kernel
theorem dX10_weathersOf_12 : decode cX10_weathersOf 12 = .ok (.aload_n 0, 1) := by decide +kernel
theorem dX10_weathersOf_13 : decode cX10_weathersOf 13 = .ok (.invokevirtual 269, 3) := by decide +kernel
theorem dX10_weathersOf_16 : decode cX10_weathersOf 16 = .ok (.istore 5, 2) := by decide +kernel
theorem dX10_weathersOf_18 : decode cX10_weathersOf 18 = .ok (.iconst 1, 1) := by decide +kernel
theorem dX10_weathersOf_19 : decode cX10_weathersOf 19 = .ok (.istore 6, 2) := by decide +kernel
theorem dX10_weathersOf_21 : decode cX10_weathersOf 21 = .ok (.iconst 0, 1) := by decide +kernel
theorem dX10_weathersOf_22 : decode cX10_weathersOf 22 = .ok (.istore 7, 2) := by decide +kernel
theorem dX10_weathersOf_24 : decode cX10_weathersOf 24 = .ok (.iload 7, 2) := by decide +kernel
theorem dX10_weathersOf_26 : decode cX10_weathersOf 26 = .ok (.aload_n 0, 1) := by decide +kernel
theorem dX10_weathersOf_27 : decode cX10_weathersOf 27 = .ok (.getfield 87, 3) := by decide +kernel
theorem dX10_weathersOf_30 : decode cX10_weathersOf 30 = .ok (.iload_n 1, 1) := by decide +kernel
theorem dX10_weathersOf_31 : decode cX10_weathersOf 31 = .ok (.iaload, 1) := by decide +kernel
theorem dX10_weathersOf_32 : decode cX10_weathersOf 32 = .ok (.if_icmp .ge 53, 3) := by decide +kernel
theorem dX10_weathersOf_85 : decode cX10_weathersOf 85 = .ok (.iload_n 3, 1) := by decide +kernel
theorem dX10_weathersOf_86 : decode cX10_weathersOf 86 = .ok (.iload 6, 2) := by decide +kernel
theorem dX10_weathersOf_88 : decode cX10_weathersOf 88 = .ok (.ifCond .eq 10, 3) := by decide +kernel
theorem dX10_weathersOf_98 : decode cX10_weathersOf 98 = .ok (.iconst 0, 1) := by decide +kernel
theorem dX10_weathersOf_99 : decode cX10_weathersOf 99 = .ok (.ior, 1) := by decide +kernel
theorem dX10_weathersOf_100 : decode cX10_weathersOf 100 = .ok (.istore_n 3, 1) := by decide +kernel
theorem dX10_weathersOf_101 : decode cX10_weathersOf 101 = .ok (.iinc 4 1, 3) := by decide +kernel
theorem dX10_weathersOf_104 : decode cX10_weathersOf 104 = .ok (.goto (-99), 3) := by decide +kernel
theorem dX10_weathersOf_91 : decode cX10_weathersOf 91 = .ok (.iconst 1, 1) := by decide +kernel
theorem dX10_weathersOf_92 : decode cX10_weathersOf 92 = .ok (.iload 4, 2) := by decide +kernel
theorem dX10_weathersOf_94 : decode cX10_weathersOf 94 = .ok (.ishl, 1) := by decide +kernel
theorem dX10_weathersOf_95 : decode cX10_weathersOf 95 = .ok (.goto 4, 3) := by decide +kernel
theorem dX10_weathersOf_35 : decode cX10_weathersOf 35 = .ok (.aload_n 0, 1) := by decide +kernel
theorem dX10_weathersOf_36 : decode cX10_weathersOf 36 = .ok (.iload 5, 2) := by decide +kernel
theorem dX10_weathersOf_38 : decode cX10_weathersOf 38 = .ok (.iconst 0, 1) := by decide +kernel
theorem dX10_weathersOf_39 : decode cX10_weathersOf 39 = .ok (.iload 4, 2) := by decide +kernel
theorem dX10_weathersOf_41 : decode cX10_weathersOf 41 = .ok (.invokevirtual 272, 3) := by decide +kernel
theorem dX10_weathersOf_44 : decode cX10_weathersOf 44 = .ok (.istore 5, 2) := by decide +kernel
theorem dX10_weathersOf_46 : decode cX10_weathersOf 46 = .ok (.iload 6, 2) := by decide +kernel
theorem dX10_weathersOf_48 : decode cX10_weathersOf 48 = .ok (.iload 5, 2) := by decide +kernel
theorem dX10_weathersOf_50 : decode cX10_weathersOf 50 = .ok (.iload_n 2, 1) := by decide +kernel
theorem dX10_weathersOf_51 : decode cX10_weathersOf 51 = .ok (.invokestatic 231, 3) := by decide +kernel
theorem dX10_weathersOf_54 : decode cX10_weathersOf 54 = .ok (.i2l, 1) := by decide +kernel
theorem dX10_weathersOf_55 : decode cX10_weathersOf 55 = .ok (.aload_n 0, 1) := by decide +kernel
theorem dX10_weathersOf_56 : decode cX10_weathersOf 56 = .ok (.getfield 90, 3) := by decide +kernel
theorem dX10_weathersOf_59 : decode cX10_weathersOf 59 = .ok (.bipush 40, 2) := by decide +kernel
theorem dX10_weathersOf_61 : decode cX10_weathersOf 61 = .ok (.iload_n 1, 1) := by decide +kernel
theorem dX10_weathersOf_62 : decode cX10_weathersOf 62 = .ok (.imul, 1) := by decide +kernel
theorem dX10_weathersOf_63 : decode cX10_weathersOf 63 = .ok (.iload 7, 2) := by decide +kernel
theorem dX10_weathersOf_65 : decode cX10_weathersOf 65 = .ok (.iadd, 1) := by decide +kernel
theorem dX10_weathersOf_66 : decode cX10_weathersOf 66 = .ok (.laload, 1) := by decide +kernel
theorem dX10_weathersOf_67 : decode cX10_weathersOf 67 = .ok (.lcmp, 1) := by decide +kernel
theorem dX10_weathersOf_68 : decode cX10_weathersOf 68 = .ok (.ifCond .ne 7, 3) := by decide +kernel
theorem dX10_weathersOf_75 : decode cX10_weathersOf 75 = .ok (.iconst 0, 1) := by decide +kernel
theorem dX10_weathersOf_76 : decode cX10_weathersOf 76 = .ok (.iand, 1) := by decide +kernel
theorem dX10_weathersOf_77 : decode cX10_weathersOf 77 = .ok (.istore 6, 2) := by decide +kernel
theorem dX10_weathersOf_79 : decode cX10_weathersOf 79 = .ok (.iinc 7 1, 3) := by decide +kernel
theorem dX10_weathersOf_82 : decode cX10_weathersOf 82 = .ok (.goto (-58), 3) := by decide +kernel
theorem dX10_weathersOf_71 : decode cX10_weathersOf 71 = .ok (.iconst 1, 1) := by decide +kernel
theorem dX10_weathersOf_72 : decode cX10_weathersOf 72 = .ok (.goto 4, 3) := by decide +kernel
set_option maxHeartbeats 4000000 in
set_option maxRecDepth 100000 in
theorem k_X10_weathersOf_0 (l : Launch) (V : GV) (z : Nat → Nat) (a1 : Int32) (a2 : Int32) (fz15 : Nat → Int32) (fz16 : Nat → Int32) (pz0_0 : Int32) (pz0_5 : Int32) (pz0_6 : Int32) (pz0_7 : Int32) (pz0_8 : Int32) (pz0_9 : Int32) (pz0_10 : Int32) (pz0_11 : Int32) (pz0_12 : Int32) (pz0_13 : Int32) (pz0_14 : Int32) (pz0_18 : Int32) (pz0_19 : Int32) (pz0_22 : Int32) (pz0_23 : Int32) (pz0_29 : Int32) (fz1 : Nat → Int32) (fz38 : Nat → Int32) (fz39 : Nat → Int64) (ba1 : iv 0 3 a1) (ba2 : iv 0 3 a2) (tfz16 : ivT tW fz16) (bpz0_5 : iv 0 900 pz0_5) (bpz0_6 : iv 0 900 pz0_6) (bpz0_7 : iv 0 900 pz0_7) (bpz0_8 : iv 0 900 pz0_8) (bpz0_10 : iv 0 999 pz0_10) (bpz0_11 : iv 0 4 pz0_11) (bpz0_12 : iv 0 900 pz0_12) (bpz0_13 : iv 0 4 pz0_13) (bpz0_14 : iv (-1) 900 pz0_14) (bpz0_18 : iv 0 2 pz0_18) (bpz0_22 : iv 0 9999 pz0_22) (bpz0_29 : iv 0 10000 pz0_29) (tfz1 : ivT tA fz1) (tfz38 : ∀ j, iv 0 40 (fz38 j)) (hf0 : RW fz1) : Ct l V yX10_weathersOf (.code yX10_weathersOf cX10_weathersOf 8 (some .int)) 5 [.ref (z 0), .int a1, .int a2] [(z 15, aI V 900 fz15), (z 16, aI V 6 fz16), (z 0, .inr (10, mo z pz0_0 pz0_5 pz0_6 pz0_7 pz0_8 pz0_9 pz0_10 pz0_11 pz0_12 pz0_13 pz0_14 pz0_18 pz0_19 pz0_22 pz0_23 pz0_29)), (z 1, aI V 3075 fz1), (z 38, aI V 4 fz38), (z 39, aJ V 160 fz39)] 0 0 (QI V (fun (r : Int32) (w : va_W) => ∃ (g0 : Nat → Int32) (g1 : Nat → Int32), (ivT tW g1) ∧ (RW fz1) ∧ w = [(z 15, aI V 900 g0), (z 16, aI V 6 g1), (z 0, .inr (10, mo z pz0_0 pz0_5 pz0_6 pz0_7 pz0_8 pz0_9 pz0_10 pz0_11 pz0_12 pz0_13 pz0_14 pz0_18 pz0_19 pz0_22 pz0_23 pz0_29)), (z 1, aI V 3075 fz1), (z 38, aI V 4 fz38), (z 39, aJ V 160 fz39)])) := by
  refine Ct.of (by decide) (Nat.le_of_ble_eq_true rfl) (fun p e s m below meth c A ls hx hb hr hml hown hlk hnm hg hP hK hD hE hA hS hl => ?_)
  have hl : lv_has ls 8 [(0, .ref (z 0)), (1, .int a1), (2, .int a2)] := hl
  refine lv_iconst (v := 0) hx hb dX10_weathersOf_0 (by decide) ?_
  refine lv_istore_n (lv' := [(3, .int 0), (0, .ref (z 0)), (1, .int a1), (2, .int a2)]) hx hb dX10_weathersOf_1 rfl hl (by decide) rfl (fun ls hl => ?_)
  refine lv_iconst (v := 0) hx hb dX10_weathersOf_2 (by decide) ?_
  refine lv_istore (lv' := [(4, .int 0), (3, .int 0), (0, .ref (z 0)), (1, .int a1), (2, .int a2)]) hx hb dX10_weathersOf_3 hl (by decide) rfl (fun ls hl => ?_)
  refine loopF (X := fun (n_5 : Nat) (H : Heap) (locs : List Loc) (ls : Array Slot) => ∃ (u_1 : Int32) (u_2 : Int32) (f_3 : Nat → Int32) (f_4 : Nat → Int32), (iv 0 2147483647 u_1) ∧ (ivT tW f_4) ∧ (RW fz1) ∧ n_5 = (2147483647 - (u_1 : Int32).toInt).toNat ∧ va_P V.1 vwCl [(z 15, aI V 900 f_3), (z 16, aI V 6 f_4), (z 0, .inr (10, mo z pz0_0 pz0_5 pz0_6 pz0_7 pz0_8 pz0_9 pz0_10 pz0_11 pz0_12 pz0_13 pz0_14 pz0_18 pz0_19 pz0_22 pz0_23 pz0_29)), (z 1, aI V 3075 fz1), (z 38, aI V 4 fz38), (z 39, aJ V 160 fz39)] H ∧ va_D A [(z 15, aI V 900 f_3), (z 16, aI V 6 f_4), (z 0, .inr (10, mo z pz0_0 pz0_5 pz0_6 pz0_7 pz0_8 pz0_9 pz0_10 pz0_11 pz0_12 pz0_13 pz0_14 pz0_18 pz0_19 pz0_22 pz0_23 pz0_29)), (z 1, aI V 3075 fz1), (z 38, aI V 4 fz38), (z 39, aJ V 160 fz39)] ∧ va_S A s.heap H locs ∧ lv_has ls 8 [(4, .int u_1), (3, .int u_2), (0, .ref (z 0)), (1, .int a1), (2, .int a2)]) (g := fun ls => F0 m 5 ls []) (fun n_5 H locs ls hX ihn_5 => ?_) _ ⟨0, 0, fz15, fz16, (iv_c (0 : Int32) (by decide)), tfz16, hf0, rfl, hP, hD, hS, lv_sub hl [0, 1, 2, 3, 4] rfl⟩
  obtain ⟨u_1, u_2, f_3, f_4, bu_1, tf_4, inn_5_0, en_5, hP, hD, hS, hl⟩ := hX
  refine lv_iload hx hb dX10_weathersOf_5 (lv_at hl 0 rfl) ?_
  refine lv_bipush (v := 10) hx hb dX10_weathersOf_7 (by decide) ?_
  refine lv_icmp_ge (tgt := 107) hx hb dX10_weathersOf_9 (by decide) (fun c_6 => ?_) (fun c_6 => ?_)
  · have b_7 : iv 10 2147483647 u_1 := iv_e2 c_6 (iv_c (10 : Int32) (a := 10) (b := 10) (by decide)) bu_1 (by decide)
    refine lv_iload_n hx hb dX10_weathersOf_107 rfl (lv_at hl 1 rfl) ?_
    exact fiI hx hb hr hlk hK hP hD hS dX10_weathersOf_108 (Nat.le_of_ble_eq_true rfl) (Nat.le_of_ble_eq_true rfl) (⟨f_3, f_4, tf_4, inn_5_0, rfl⟩)
  · have b_8 : iv 0 9 u_1 := iv_l1 (Int32.not_le.mp c_6) bu_1 (iv_c (10 : Int32) (a := 10) (b := 10) (by decide)) (by decide)
    refine lv_aload_n hx hb dX10_weathersOf_12 rfl (lv_at hl 2 rfl) ?_
    refine jnI (wr := [(z 15, aI V 900 f_3), (z 16, aI V 6 f_4), (z 38, aI V 4 fz38), (z 39, aJ V 160 fz39)]) (rnV (rest := []) ⟨hx, hb, hml, hown, hg⟩ (k_X10_standNow_0 l V z pz0_0 pz0_5 pz0_6 pz0_7 pz0_8 pz0_9 pz0_10 pz0_11 pz0_12 pz0_13 pz0_14 pz0_18 pz0_19 pz0_22 pz0_23 pz0_29 fz1 bpz0_5 bpz0_6 bpz0_7 bpz0_8 bpz0_10 bpz0_11 bpz0_12 bpz0_13 bpz0_14 bpz0_18 bpz0_22 bpz0_29 tfz1) mt_X10_standNow q_7_11 ⟨Nat.le_of_ble_eq_true rfl, Nat.le_of_ble_eq_true rfl⟩ hK hP hD hS hA hE [2, 3] rfl rfl 2 rfl rfl rfl rfl hl.1 rfl (Nat.le_of_ble_eq_true rfl) dX10_weathersOf_13 ⟨Nat.le_of_ble_eq_true rfl, Nat.le_of_ble_eq_true rfl⟩) hP hD hS hA [2, 3] [0, 1, 4, 5] rfl rfl rfl (by decide) (fun r_9 w H locs hw hP hD hS => ?_)
    obtain ⟨br_9, er_9, et_10, rfl⟩ := hw
    have hP : va_P V.1 vwCl [(z 15, aI V 900 f_3), (z 16, aI V 6 f_4), (z 38, aI V 4 fz38), (z 39, aJ V 160 fz39), (z 0, .inr (10, mo z pz0_0 pz0_5 pz0_6 pz0_7 pz0_8 pz0_9 pz0_10 pz0_11 pz0_12 pz0_13 pz0_14 pz0_18 pz0_19 pz0_22 pz0_23 pz0_29)), (z 1, aI V 3075 fz1)] H := hP
    have hD := cpD hP hD
    refine lv_istore (lv' := [(5, .int r_9), (4, .int u_1), (3, .int u_2), (0, .ref (z 0)), (1, .int a1), (2, .int a2)]) hx hb dX10_weathersOf_16 hl (by decide) rfl (fun ls hl => ?_)
    refine lv_iconst (v := 1) hx hb dX10_weathersOf_18 (by decide) ?_
    refine lv_istore (lv' := [(6, .int 1), (5, .int r_9), (4, .int u_1), (3, .int u_2), (0, .ref (z 0)), (1, .int a1), (2, .int a2)]) hx hb dX10_weathersOf_19 hl (by decide) rfl (fun ls hl => ?_)
    refine lv_iconst (v := 0) hx hb dX10_weathersOf_21 (by decide) ?_
    refine lv_istore (lv' := [(7, .int 0), (6, .int 1), (5, .int r_9), (4, .int u_1), (3, .int u_2), (0, .ref (z 0)), (1, .int a1), (2, .int a2)]) hx hb dX10_weathersOf_22 hl (by decide) rfl (fun ls hl => ?_)
    refine loopF (X := fun (n_16 : Nat) (H : Heap) (locs : List Loc) (ls : Array Slot) => ∃ (u_11 : Int32) (u_12 : Int32) (u_13 : Int32) (f_14 : Nat → Int32) (f_15 : Nat → Int32), (iv 0 2147483647 u_11) ∧ (iv 0 9999 u_13) ∧ (ivT tW f_15) ∧ (RW fz1) ∧ n_16 = (2147483647 - (u_11 : Int32).toInt).toNat ∧ va_P V.1 vwCl [(z 15, aI V 900 f_14), (z 16, aI V 6 f_15), (z 38, aI V 4 fz38), (z 39, aJ V 160 fz39), (z 0, .inr (10, mo z pz0_0 pz0_5 pz0_6 pz0_7 pz0_8 pz0_9 pz0_10 pz0_11 pz0_12 pz0_13 pz0_14 pz0_18 pz0_19 pz0_22 pz0_23 pz0_29)), (z 1, aI V 3075 fz1)] H ∧ va_D A [(z 15, aI V 900 f_14), (z 16, aI V 6 f_15), (z 38, aI V 4 fz38), (z 39, aJ V 160 fz39), (z 0, .inr (10, mo z pz0_0 pz0_5 pz0_6 pz0_7 pz0_8 pz0_9 pz0_10 pz0_11 pz0_12 pz0_13 pz0_14 pz0_18 pz0_19 pz0_22 pz0_23 pz0_29)), (z 1, aI V 3075 fz1)] ∧ va_S A s.heap H locs ∧ lv_has ls 8 [(7, .int u_11), (6, .int u_12), (5, .int u_13), (4, .int u_1), (3, .int u_2), (0, .ref (z 0)), (1, .int a1), (2, .int a2)]) (g := fun ls => F0 m 24 ls []) (fun n_16 H locs ls hX ihn_16 => ?_) _ ⟨0, 1, r_9, f_3, f_4, (iv_c (0 : Int32) (by decide)), br_9, tf_4, inn_5_0, rfl, hP, hD, hS, lv_sub hl [0, 1, 2, 3, 4, 5, 6, 7] rfl⟩
    obtain ⟨u_11, u_12, u_13, f_14, f_15, bu_11, bu_13, tf_15, inn_16_0, en_16, hP, hD, hS, hl⟩ := hX
    refine lv_iload hx hb dX10_weathersOf_24 (lv_at hl 0 rfl) ?_
    refine lv_aload_n hx hb dX10_weathersOf_26 rfl (lv_at hl 5 rfl) ?_
    refine va_get (ci := 10) (v := .ref (z 38)) (C := RX10) (T := TX10) (N := 40) hx hb hg inX10 hown hK hP 4 rfl rfl 38 (by decide) (hg _ q_6_22) (fun _ h9 => h9) rfl dX10_weathersOf_27 ?_
    refine lv_iload_n hx hb dX10_weathersOf_30 rfl (lv_at hl 6 rfl) ?_
    refine va_iald hx hb hK hP 2 0 rfl rfl (iv_in ba1 (by decide)) dX10_weathersOf_31 ?_
    refine lv_topi (fun x_17 ex_17 => ?_)
    have bx_17 : iv 0 40 x_17 := by rw [ex_17]; exact tfz38 _
    refine lv_icmp_ge (tgt := 85) hx hb dX10_weathersOf_32 (by decide) (fun c_18 => ?_) (fun c_18 => ?_)
    · refine lv_iload_n hx hb dX10_weathersOf_85 rfl (lv_at hl 4 rfl) ?_
      refine lv_iload hx hb dX10_weathersOf_86 (lv_at hl 1 rfl) ?_
      refine lv_if_eq (tgt := 98) hx hb dX10_weathersOf_88 (by decide) (fun c_19 => ?_) (fun c_19 => ?_)
      · have b_20 : iv 0 0 u_12 := iv_q c_19 (iv_c (0 : Int32) (a := 0) (b := 0) (by decide))
        refine lv_iconst (v := 0) hx hb dX10_weathersOf_98 (by decide) ?_
        refine lv_ior hx hb dX10_weathersOf_99 ?_
        refine lv_topi (fun x_21 ex_21 => ?_)
        refine lv_istore_n (lv' := [(3, .int x_21), (7, .int u_11), (6, .int u_12), (5, .int u_13), (4, .int u_1), (0, .ref (z 0)), (1, .int a1), (2, .int a2)]) hx hb dX10_weathersOf_100 rfl hl (by decide) rfl (fun ls hl => ?_)
        obtain ⟨x_22, ex_22⟩ : ∃ z9 : Int32, z9 = u_1 + 1 := ⟨_, rfl⟩
        have bx_22 : iv 1 10 x_22 := by rw [ex_22]; exact iv_add b_8 (iv_c (1 : Int32) (a := 1) (b := 1) (by decide)) (by decide)
        refine lv_iinc (v := x_22) (lv' := [(4, .int x_22), (3, .int x_21), (7, .int u_11), (6, .int u_12), (5, .int u_13), (0, .ref (z 0)), (1, .int a1), (2, .int a2)]) hx hb dX10_weathersOf_101 hl (k := 4) rfl (by rw [ex_22]; rfl) (by decide) rfl (fun ls hl => ?_)
        refine lv_goto (tgt := 5) hx hb dX10_weathersOf_104 (by decide) ?_
        have hP := subP (ws' := [(z 15, aI V 900 f_14), (z 16, aI V 6 f_15), (z 0, .inr (10, mo z pz0_0 pz0_5 pz0_6 pz0_7 pz0_8 pz0_9 pz0_10 pz0_11 pz0_12 pz0_13 pz0_14 pz0_18 pz0_19 pz0_22 pz0_23 pz0_29)), (z 1, aI V 3075 fz1), (z 38, aI V 4 fz38), (z 39, aJ V 160 fz39)]) hP [0, 1, 4, 5, 2, 3] rfl
        have hD := subD hP hD [0, 1, 4, 5, 2, 3] rfl rfl
        exact ihn_5 _ _ _ _ (by rw [en_5, ex_22]; exact mu_up b_8 (by decide)) ⟨x_22, x_21, f_14, f_15, (iv_w bx_22 (by decide)), tf_15, inn_16_0, rfl, hP, hD, hS, lv_sub hl [0, 1, 5, 6, 7] rfl⟩
      · refine lv_iconst (v := 1) hx hb dX10_weathersOf_91 (by decide) ?_
        refine lv_iload hx hb dX10_weathersOf_92 (lv_at hl 3 rfl) ?_
        refine lv_ishl hx hb dX10_weathersOf_94 ?_
        refine lv_topi (fun x_23 ex_23 => ?_)
        refine lv_goto (tgt := 99) hx hb dX10_weathersOf_95 (by decide) ?_
        refine lv_ior hx hb dX10_weathersOf_99 ?_
        refine lv_topi (fun x_24 ex_24 => ?_)
        refine lv_istore_n (lv' := [(3, .int x_24), (7, .int u_11), (6, .int u_12), (5, .int u_13), (4, .int u_1), (0, .ref (z 0)), (1, .int a1), (2, .int a2)]) hx hb dX10_weathersOf_100 rfl hl (by decide) rfl (fun ls hl => ?_)
        obtain ⟨x_25, ex_25⟩ : ∃ z9 : Int32, z9 = u_1 + 1 := ⟨_, rfl⟩
        have bx_25 : iv 1 10 x_25 := by rw [ex_25]; exact iv_add b_8 (iv_c (1 : Int32) (a := 1) (b := 1) (by decide)) (by decide)
        refine lv_iinc (v := x_25) (lv' := [(4, .int x_25), (3, .int x_24), (7, .int u_11), (6, .int u_12), (5, .int u_13), (0, .ref (z 0)), (1, .int a1), (2, .int a2)]) hx hb dX10_weathersOf_101 hl (k := 4) rfl (by rw [ex_25]; rfl) (by decide) rfl (fun ls hl => ?_)
        refine lv_goto (tgt := 5) hx hb dX10_weathersOf_104 (by decide) ?_
        have hP := subP (ws' := [(z 15, aI V 900 f_14), (z 16, aI V 6 f_15), (z 0, .inr (10, mo z pz0_0 pz0_5 pz0_6 pz0_7 pz0_8 pz0_9 pz0_10 pz0_11 pz0_12 pz0_13 pz0_14 pz0_18 pz0_19 pz0_22 pz0_23 pz0_29)), (z 1, aI V 3075 fz1), (z 38, aI V 4 fz38), (z 39, aJ V 160 fz39)]) hP [0, 1, 4, 5, 2, 3] rfl
        have hD := subD hP hD [0, 1, 4, 5, 2, 3] rfl rfl
        exact ihn_5 _ _ _ _ (by rw [en_5, ex_25]; exact mu_up b_8 (by decide)) ⟨x_25, x_24, f_14, f_15, (iv_w bx_25 (by decide)), tf_15, inn_16_0, rfl, hP, hD, hS, lv_sub hl [0, 1, 5, 6, 7] rfl⟩
    · have b_26 : iv 0 39 u_11 := iv_l1 (Int32.not_le.mp c_18) bu_11 bx_17 (by decide)
      have b_27 : iv 1 40 x_17 := iv_l2 (Int32.not_le.mp c_18) bu_11 bx_17 (by decide)
      refine lv_aload_n hx hb dX10_weathersOf_35 rfl (lv_at hl 5 rfl) ?_
      refine lv_iload hx hb dX10_weathersOf_36 (lv_at hl 2 rfl) ?_
      refine lv_iconst (v := 0) hx hb dX10_weathersOf_38 (by decide) ?_
      refine lv_iload hx hb dX10_weathersOf_39 (lv_at hl 3 rfl) ?_
      refine jnI (wr := [(z 38, aI V 4 fz38), (z 39, aJ V 160 fz39)]) (rnV (rest := []) ⟨hx, hb, hml, hown, hg⟩ (k_X10_nightTo_0 l V z u_13 0 u_1 f_14 f_15 pz0_0 pz0_5 pz0_6 pz0_7 pz0_8 pz0_9 pz0_10 pz0_11 pz0_12 pz0_13 pz0_14 pz0_18 pz0_19 pz0_22 pz0_23 pz0_29 fz1 bu_13 tf_15 bpz0_5 bpz0_6 bpz0_7 bpz0_8 bpz0_10 bpz0_11 bpz0_12 bpz0_13 bpz0_14 bpz0_18 bpz0_22 bpz0_29 tfz1 inn_16_0) mt_X10_nightTo q_7_18 ⟨Nat.le_of_ble_eq_true rfl, Nat.le_of_ble_eq_true rfl⟩ hK hP hD hS hA hE [0, 1, 4, 5] rfl rfl 4 rfl rfl rfl rfl hl.1 rfl (Nat.le_of_ble_eq_true rfl) dX10_weathersOf_41 ⟨Nat.le_of_ble_eq_true rfl, Nat.le_of_ble_eq_true rfl⟩) hP hD hS hA [0, 1, 4, 5] [2, 3] rfl rfl rfl (by decide) (fun r_28 w H locs hw hP hD hS => ?_)
      obtain ⟨f_29, f_30, tf_30, br_28, g_31, et_32, et_33, et_34, rfl⟩ := hw
      have hP : va_P V.1 vwCl [(z 38, aI V 4 fz38), (z 39, aJ V 160 fz39), (z 15, aI V 900 f_29), (z 16, aI V 6 f_30), (z 0, .inr (10, mo z pz0_0 pz0_5 pz0_6 pz0_7 pz0_8 pz0_9 pz0_10 pz0_11 pz0_12 pz0_13 pz0_14 pz0_18 pz0_19 pz0_22 pz0_23 pz0_29)), (z 1, aI V 3075 fz1)] H := hP
      have hD := cpD hP hD
      refine lv_istore (lv' := [(5, .int r_28), (7, .int u_11), (6, .int u_12), (4, .int u_1), (3, .int u_2), (0, .ref (z 0)), (1, .int a1), (2, .int a2)]) hx hb dX10_weathersOf_44 hl (by decide) rfl (fun ls hl => ?_)
      refine lv_iload hx hb dX10_weathersOf_46 (lv_at hl 2 rfl) ?_
      refine lv_iload hx hb dX10_weathersOf_48 (lv_at hl 0 rfl) ?_
      refine lv_iload_n hx hb dX10_weathersOf_50 rfl (lv_at hl 7 rfl) ?_
      refine jnI (wr := [(z 38, aI V 4 fz38), (z 39, aJ V 160 fz39), (z 15, aI V 900 f_29), (z 16, aI V 6 f_30), (z 0, .inr (10, mo z pz0_0 pz0_5 pz0_6 pz0_7 pz0_8 pz0_9 pz0_10 pz0_11 pz0_12 pz0_13 pz0_14 pz0_18 pz0_19 pz0_22 pz0_23 pz0_29)), (z 1, aI V 3075 fz1)]) (rnS (rest := [.int u_12]) ⟨hx, hb, hml, hown, hg⟩ (k_X10_stackIn_0 l V r_28 a2 (iv_w br_28 (by decide)) ba2) mt_X10_stackIn q_7_26 ⟨Nat.le_of_ble_eq_true rfl, Nat.le_of_ble_eq_true rfl⟩ hK hP hD hS hA hE [] rfl rfl rfl hl.1 rfl (Nat.le_of_ble_eq_true rfl) dX10_weathersOf_51 ⟨Nat.le_of_ble_eq_true rfl, Nat.le_of_ble_eq_true rfl⟩) hP hD hS hA [] [0, 1, 2, 3, 4, 5] rfl rfl rfl (by decide) (fun r_35 w H locs hw hP hD hS => ?_)
      obtain ⟨br_35, er_35, et_36, rfl⟩ := hw
      have hP : va_P V.1 vwCl [(z 38, aI V 4 fz38), (z 39, aJ V 160 fz39), (z 15, aI V 900 f_29), (z 16, aI V 6 f_30), (z 0, .inr (10, mo z pz0_0 pz0_5 pz0_6 pz0_7 pz0_8 pz0_9 pz0_10 pz0_11 pz0_12 pz0_13 pz0_14 pz0_18 pz0_19 pz0_22 pz0_23 pz0_29)), (z 1, aI V 3075 fz1)] H := hP
      have hD := cpD hP hD
      refine lv_i2l hx hb dX10_weathersOf_54 rfl ?_
      refine lv_topl (fun j_37 ej_37 => ?_)
      have bj_37 : ivL 0 4 j_37 := by rw [ej_37]; exact ivL_of br_35
      refine lv_aload_n hx hb dX10_weathersOf_55 rfl (lv_at hl 5 rfl) ?_
      refine va_get (ci := 10) (v := .ref (z 39)) (C := RX10) (T := TX10) (N := 40) hx hb hg inX10 hown hK hP 4 rfl rfl 39 (by decide) (hg _ q_6_23) (fun _ h9 => h9) rfl dX10_weathersOf_56 ?_
      refine lv_bipush (v := 40) hx hb dX10_weathersOf_59 (by decide) ?_
      refine lv_iload_n hx hb dX10_weathersOf_61 rfl (lv_at hl 6 rfl) ?_
      refine lv_imul hx hb dX10_weathersOf_62 ?_
      refine lv_topi (fun x_38 ex_38 => ?_)
      have bx_38 : iv 0 120 x_38 := by rw [ex_38]; exact iv_cmul (iv_c (40 : Int32) (a := 40) (b := 40) (by decide)) ba1 (by decide)
      refine lv_iload hx hb dX10_weathersOf_63 (lv_at hl 1 rfl) ?_
      refine lv_iadd hx hb dX10_weathersOf_65 ?_
      refine lv_topi (fun x_39 ex_39 => ?_)
      have bx_39 : iv 0 159 x_39 := by rw [ex_39]; exact iv_add bx_38 b_26 (by decide)
      refine va_lald hx hb hK hP 1 2 rfl rfl (iv_in bx_39 (by decide)) dX10_weathersOf_66 ?_
      refine lv_topl (fun j_40 ej_40 => ?_)
      refine W.lcmp hx hb dX10_weathersOf_67 ?_
      refine lv_if_ne (tgt := 75) hx hb dX10_weathersOf_68 (by decide) (fun c_41 => ?_) (fun c_41 => ?_)
      · replace c_41 : ¬ j_37 = j_40 := fun z => c_41 ((lg_cmp_eq _ _).mpr z)
        refine lv_iconst (v := 0) hx hb dX10_weathersOf_75 (by decide) ?_
        refine lv_iand hx hb dX10_weathersOf_76 ?_
        refine lv_topi (fun x_42 ex_42 => ?_)
        refine lv_istore (lv' := [(6, .int x_42), (5, .int r_28), (7, .int u_11), (4, .int u_1), (3, .int u_2), (0, .ref (z 0)), (1, .int a1), (2, .int a2)]) hx hb dX10_weathersOf_77 hl (by decide) rfl (fun ls hl => ?_)
        obtain ⟨x_43, ex_43⟩ : ∃ z9 : Int32, z9 = u_11 + 1 := ⟨_, rfl⟩
        have bx_43 : iv 1 40 x_43 := by rw [ex_43]; exact iv_add b_26 (iv_c (1 : Int32) (a := 1) (b := 1) (by decide)) (by decide)
        refine lv_iinc (v := x_43) (lv' := [(7, .int x_43), (6, .int x_42), (5, .int r_28), (4, .int u_1), (3, .int u_2), (0, .ref (z 0)), (1, .int a1), (2, .int a2)]) hx hb dX10_weathersOf_79 hl (k := 2) rfl (by rw [ex_43]; rfl) (by decide) rfl (fun ls hl => ?_)
        refine lv_goto (tgt := 24) hx hb dX10_weathersOf_82 (by decide) ?_
        have hP := subP (ws' := [(z 15, aI V 900 f_29), (z 16, aI V 6 f_30), (z 38, aI V 4 fz38), (z 39, aJ V 160 fz39), (z 0, .inr (10, mo z pz0_0 pz0_5 pz0_6 pz0_7 pz0_8 pz0_9 pz0_10 pz0_11 pz0_12 pz0_13 pz0_14 pz0_18 pz0_19 pz0_22 pz0_23 pz0_29)), (z 1, aI V 3075 fz1)]) hP [2, 3, 0, 1, 4, 5] rfl
        have hD := subD hP hD [2, 3, 0, 1, 4, 5] rfl rfl
        exact ihn_16 _ _ _ _ (by rw [en_16, ex_43]; exact mu_up b_26 (by decide)) ⟨x_43, x_42, r_28, f_29, f_30, (iv_w bx_43 (by decide)), (iv_w br_28 (by decide)), tf_30, g_31, rfl, hP, hD, hS, lv_sub hl [0, 1, 2, 3, 4, 5, 6, 7] rfl⟩
      · replace c_41 : j_37 = j_40 := (lg_cmp_eq _ _).mp c_41
        have b_44 : ivL 0 4 j_40 := ivL_q c_41.symm bj_37
        refine lv_iconst (v := 1) hx hb dX10_weathersOf_71 (by decide) ?_
        refine lv_goto (tgt := 76) hx hb dX10_weathersOf_72 (by decide) ?_
        refine lv_iand hx hb dX10_weathersOf_76 ?_
        refine lv_topi (fun x_45 ex_45 => ?_)
        have bx_45 : iv 0 1 x_45 := by rw [ex_45]; exact iv_and1 _
        refine lv_istore (lv' := [(6, .int x_45), (5, .int r_28), (7, .int u_11), (4, .int u_1), (3, .int u_2), (0, .ref (z 0)), (1, .int a1), (2, .int a2)]) hx hb dX10_weathersOf_77 hl (by decide) rfl (fun ls hl => ?_)
        obtain ⟨x_46, ex_46⟩ : ∃ z9 : Int32, z9 = u_11 + 1 := ⟨_, rfl⟩
        have bx_46 : iv 1 40 x_46 := by rw [ex_46]; exact iv_add b_26 (iv_c (1 : Int32) (a := 1) (b := 1) (by decide)) (by decide)
        refine lv_iinc (v := x_46) (lv' := [(7, .int x_46), (6, .int x_45), (5, .int r_28), (4, .int u_1), (3, .int u_2), (0, .ref (z 0)), (1, .int a1), (2, .int a2)]) hx hb dX10_weathersOf_79 hl (k := 2) rfl (by rw [ex_46]; rfl) (by decide) rfl (fun ls hl => ?_)
        refine lv_goto (tgt := 24) hx hb dX10_weathersOf_82 (by decide) ?_
        have hP := subP (ws' := [(z 15, aI V 900 f_29), (z 16, aI V 6 f_30), (z 38, aI V 4 fz38), (z 39, aJ V 160 fz39), (z 0, .inr (10, mo z pz0_0 pz0_5 pz0_6 pz0_7 pz0_8 pz0_9 pz0_10 pz0_11 pz0_12 pz0_13 pz0_14 pz0_18 pz0_19 pz0_22 pz0_23 pz0_29)), (z 1, aI V 3075 fz1)]) hP [2, 3, 0, 1, 4, 5] rfl
        have hD := subD hP hD [2, 3, 0, 1, 4, 5] rfl rfl
        exact ihn_16 _ _ _ _ (by rw [en_16, ex_46]; exact mu_up b_26 (by decide)) ⟨x_46, x_45, r_28, f_29, f_30, (iv_w bx_46 (by decide)), (iv_w br_28 (by decide)), tf_30, g_31, rfl, hP, hD, hS, lv_sub hl [0, 1, 2, 3, 4, 5, 6, 7] rfl⟩
theorem dX10_weathers_0 : decode cX10_weathers 0 = .ok (.aload_n 0, 1) := by decide +kernel
theorem dX10_weathers_1 : decode cX10_weathers 1 = .ok (.iconst 0, 1) := by decide +kernel
theorem dX10_weathers_2 : decode cX10_weathers 2 = .ok (.putfield 1, 3) := by decide +kernel
theorem dX10_weathers_5 : decode cX10_weathers 5 = .ok (.aload_n 0, 1) := by decide +kernel
theorem dX10_weathers_6 : decode cX10_weathers 6 = .ok (.iload_n 1, 1) := by decide +kernel
theorem dX10_weathers_7 : decode cX10_weathers 7 = .ok (.iload_n 2, 1) := by decide +kernel
theorem dX10_weathers_8 : decode cX10_weathers 8 = .ok (.iconst 0, 1) := by decide +kernel
theorem dX10_weathers_9 : decode cX10_weathers 9 = .ok (.invokevirtual 425, 3) := by decide +kernel
theorem dX10_weathers_12 : decode cX10_weathers 12 = .ok (.istore_n 3, 1) := by decide +kernel
theorem dX10_weathers_13 : decode cX10_weathers 13 = .ok (.iload_n 3, 1) := by decide +kernel
theorem dX10_weathers_14 : decode cX10_weathers 14 = .ok (.ifCond .eq 7, 3) := by decide +kernel
theorem dX10_weathers_21 : decode cX10_weathers 21 = .ok (.aload_n 0, 1) := by decide +kernel
theorem dX10_weathers_22 : decode cX10_weathers 22 = .ok (.iload_n 1, 1) := by decide +kernel
theorem dX10_weathers_23 : decode cX10_weathers 23 = .ok (.iload_n 2, 1) := by decide +kernel
theorem q_8_80 : Cond.code yX10_weathersOf prog_12_method_113_code 8 (some FieldType.int) ∈ gw := gw_8 (i := 80) (rfl) rfl
theorem q_8_79 : Cond.instanceMethod yX10_weathersOf ∈ gw := gw_8 (i := 79) (by decide +kernel) rfl
theorem q_s_120 : Cond.selects "BeaconDelayModel" yX10_weathersOf yX10_weathersOf ∈ gw := gw_s (i := 120) (by decide +kernel) rfl
theorem mt_X10_weathersOf : MtV yX10_weathersOf cX10_weathersOf 8 (some .int) 2 := ⟨⟨q_8_80, q_1_9, by decide +kernel, by decide +kernel, by decide +kernel⟩, q_8_79, q_s_120⟩
theorem q_8_77 : Cond.methodLink "BeaconDelayModel" 432 yX10_weathersOf ∈ gw := gw_8 (i := 77) (by decide +kernel) rfl
theorem dX10_weathers_24 : decode cX10_weathers 24 = .ok (.invokevirtual 432, 3) := by decide +kernel
theorem dX10_weathers_27 : decode cX10_weathers 27 = .ok (.ireturn, 1) := by decide +kernel
theorem dX10_weathers_17 : decode cX10_weathers 17 = .ok (.iload_n 3, 1) := by decide +kernel
theorem dX10_weathers_18 : decode cX10_weathers 18 = .ok (.goto 9, 3) := by decide +kernel
set_option maxHeartbeats 4000000 in
set_option maxRecDepth 100000 in
theorem k_X10_weathers_0 (l : Launch) (V : GV) (z : Nat → Nat) (a1 : Int32) (a2 : Int32) (pz0_0 : Int32) (pz0_5 : Int32) (pz0_6 : Int32) (pz0_7 : Int32) (pz0_8 : Int32) (pz0_9 : Int32) (pz0_10 : Int32) (pz0_11 : Int32) (pz0_12 : Int32) (pz0_13 : Int32) (pz0_14 : Int32) (pz0_18 : Int32) (pz0_19 : Int32) (pz0_22 : Int32) (pz0_23 : Int32) (pz0_29 : Int32) (fz1 : Nat → Int32) (fz15 : Nat → Int32) (fz16 : Nat → Int32) (fz37 : Nat → Int32) (fz38 : Nat → Int32) (fz39 : Nat → Int64) (bpz0_5 : iv 0 900 pz0_5) (bpz0_6 : iv 0 900 pz0_6) (bpz0_7 : iv 0 900 pz0_7) (bpz0_8 : iv 0 900 pz0_8) (bpz0_10 : iv 0 999 pz0_10) (bpz0_11 : iv 0 4 pz0_11) (bpz0_12 : iv 0 900 pz0_12) (bpz0_13 : iv 0 4 pz0_13) (bpz0_14 : iv (-1) 900 pz0_14) (bpz0_18 : iv 0 2 pz0_18) (bpz0_22 : iv 0 9999 pz0_22) (bpz0_29 : iv 0 10000 pz0_29) (tfz1 : ivT tA fz1) (tfz16 : ivT tW fz16) (tfz37 : ∀ j, iv (-1) 3 (fz37 j)) (tfz38 : ∀ j, iv 0 40 (fz38 j)) (hf0 : RW fz1) : Ct l V yX10_weathers (.code yX10_weathers cX10_weathers 4 (some .int)) 6 [.ref (z 0), .int a1, .int a2] [(z 0, .inr (10, mo z pz0_0 pz0_5 pz0_6 pz0_7 pz0_8 pz0_9 pz0_10 pz0_11 pz0_12 pz0_13 pz0_14 pz0_18 pz0_19 pz0_22 pz0_23 pz0_29)), (z 1, aI V 3075 fz1), (z 15, aI V 900 fz15), (z 16, aI V 6 fz16), (z 37, aI V 4 fz37), (z 38, aI V 4 fz38), (z 39, aJ V 160 fz39)] 0 0 (QI V (fun (r : Int32) (w : va_W) => ∃ (v0 : Int32) (g1 : Nat → Int32) (g2 : Nat → Int32), (ivT tW g2) ∧ (RW fz1) ∧ w = [(z 0, .inr (10, mo z v0 pz0_5 pz0_6 pz0_7 pz0_8 pz0_9 pz0_10 pz0_11 pz0_12 pz0_13 pz0_14 pz0_18 pz0_19 pz0_22 pz0_23 pz0_29)), (z 1, aI V 3075 fz1), (z 15, aI V 900 g1), (z 16, aI V 6 g2), (z 37, aI V 4 fz37), (z 38, aI V 4 fz38), (z 39, aJ V 160 fz39)])) := by
  refine Ct.of (by decide) (Nat.le_of_ble_eq_true rfl) (fun p e s m below meth c A ls hx hb hr hml hown hlk hnm hg hP hK hD hE hA hS hl => ?_)
  have hl : lv_has ls 4 [(0, .ref (z 0)), (1, .int a1), (2, .int a2)] := hl
  refine lv_aload_n hx hb dX10_weathers_0 rfl (lv_at hl 0 rfl) ?_
  refine lv_iconst (v := 0) hx hb dX10_weathers_1 (by decide) ?_
  refine va_put (ci := 10) (v := .int 0) (ty := .int) (C := RX10) (T := TX10) (N := 40) hx hb hg inX10 tyX10 tyX10_ok nmX10 hown hK hP hD hS 0 rfl rfl 0 (by decide) (hg _ q_5_224) (fun _ h9 => h9) rfl (by decide +kernel) rfl rfl (Nat.le_of_ble_eq_true rfl) dX10_weathers_2 (fun H locs hP hD hS => ?_)
  have hP : va_P V.1 vwCl [(z 0, .inr (10, mo z 0 pz0_5 pz0_6 pz0_7 pz0_8 pz0_9 pz0_10 pz0_11 pz0_12 pz0_13 pz0_14 pz0_18 pz0_19 pz0_22 pz0_23 pz0_29)), (z 1, aI V 3075 fz1), (z 15, aI V 900 fz15), (z 16, aI V 6 fz16), (z 37, aI V 4 fz37), (z 38, aI V 4 fz38), (z 39, aJ V 160 fz39)] H := hP
  have hD := cpD hP hD
  refine lv_aload_n hx hb dX10_weathers_5 rfl (lv_at hl 0 rfl) ?_
  refine lv_iload_n hx hb dX10_weathers_6 rfl (lv_at hl 1 rfl) ?_
  refine lv_iload_n hx hb dX10_weathers_7 rfl (lv_at hl 2 rfl) ?_
  refine lv_iconst (v := 0) hx hb dX10_weathers_8 (by decide) ?_
  refine jnI (wr := [(z 15, aI V 900 fz15), (z 16, aI V 6 fz16)]) (rnV (rest := []) ⟨hx, hb, hml, hown, hg⟩ (k_X10_noTold_0 l V z a1 a2 0 0 pz0_5 pz0_6 pz0_7 pz0_8 pz0_9 pz0_10 pz0_11 pz0_12 pz0_13 pz0_14 pz0_18 pz0_19 pz0_22 pz0_23 pz0_29 fz1 fz37 fz38 fz39 bpz0_5 bpz0_6 bpz0_7 bpz0_8 bpz0_10 bpz0_11 bpz0_12 bpz0_13 bpz0_14 bpz0_18 bpz0_22 bpz0_29 tfz1 tfz37 tfz38) mt_X10_noTold q_8_51 ⟨Nat.le_of_ble_eq_true rfl, Nat.le_of_ble_eq_true rfl⟩ hK hP hD hS hA hE [0, 1, 4, 5, 6] rfl rfl 0 rfl rfl rfl rfl hl.1 rfl (Nat.le_of_ble_eq_true rfl) dX10_weathers_9 ⟨Nat.le_of_ble_eq_true rfl, Nat.le_of_ble_eq_true rfl⟩) hP hD hS hA [0, 1, 4, 5, 6] [2, 3] rfl rfl rfl (by decide) (fun r_1 w H locs hw hP hD hS => ?_)
  obtain ⟨br_1, g_2, g_3, g_4, rfl⟩ := hw
  have hP : va_P V.1 vwCl [(z 15, aI V 900 fz15), (z 16, aI V 6 fz16), (z 0, .inr (10, mo z 0 pz0_5 pz0_6 pz0_7 pz0_8 pz0_9 pz0_10 pz0_11 pz0_12 pz0_13 pz0_14 pz0_18 pz0_19 pz0_22 pz0_23 pz0_29)), (z 1, aI V 3075 fz1), (z 37, aI V 4 fz37), (z 38, aI V 4 fz38), (z 39, aJ V 160 fz39)] H := hP
  have hD := cpD hP hD
  refine lv_istore_n (lv' := [(3, .int r_1), (0, .ref (z 0)), (1, .int a1), (2, .int a2)]) hx hb dX10_weathers_12 rfl hl (by decide) rfl (fun ls hl => ?_)
  refine lv_iload_n hx hb dX10_weathers_13 rfl (lv_at hl 0 rfl) ?_
  refine lv_if_eq (tgt := 21) hx hb dX10_weathers_14 (by decide) (fun c_5 => ?_) (fun c_5 => ?_)
  · have b_6 : iv 0 0 r_1 := iv_q c_5 (iv_c (0 : Int32) (a := 0) (b := 0) (by decide))
    have b_7 : iv 0 3 a1 := iv_cap (g_3 (iv_eqp b_6 (iv_c (0 : Int32) (by decide)))) (iv_top a1) (by decide)
    have b_8 : iv 0 3 a2 := iv_cap (g_4 (iv_eqp b_6 (iv_c (0 : Int32) (by decide)))) (iv_top a2) (by decide)
    refine lv_aload_n hx hb dX10_weathers_21 rfl (lv_at hl 1 rfl) ?_
    refine lv_iload_n hx hb dX10_weathers_22 rfl (lv_at hl 2 rfl) ?_
    refine lv_iload_n hx hb dX10_weathers_23 rfl (lv_at hl 3 rfl) ?_
    refine jnI (wr := [(z 37, aI V 4 fz37)]) (rnV (rest := []) ⟨hx, hb, hml, hown, hg⟩ (k_X10_weathersOf_0 l V z a1 a2 fz15 fz16 0 pz0_5 pz0_6 pz0_7 pz0_8 pz0_9 pz0_10 pz0_11 pz0_12 pz0_13 pz0_14 pz0_18 pz0_19 pz0_22 pz0_23 pz0_29 fz1 fz38 fz39 b_7 b_8 tfz16 bpz0_5 bpz0_6 bpz0_7 bpz0_8 bpz0_10 bpz0_11 bpz0_12 bpz0_13 bpz0_14 bpz0_18 bpz0_22 bpz0_29 tfz1 tfz38 hf0) mt_X10_weathersOf q_8_77 ⟨Nat.le_of_ble_eq_true rfl, Nat.le_of_ble_eq_true rfl⟩ hK hP hD hS hA hE [0, 1, 2, 3, 5, 6] rfl rfl 2 rfl rfl rfl rfl hl.1 rfl (Nat.le_of_ble_eq_true rfl) dX10_weathers_24 ⟨Nat.le_of_ble_eq_true rfl, Nat.le_of_ble_eq_true rfl⟩) hP hD hS hA [0, 1, 2, 3, 5, 6] [4] rfl rfl rfl (by decide) (fun r_9 w H locs hw hP hD hS => ?_)
    obtain ⟨f_10, f_11, tf_11, g_12, rfl⟩ := hw
    have hP : va_P V.1 vwCl [(z 37, aI V 4 fz37), (z 15, aI V 900 f_10), (z 16, aI V 6 f_11), (z 0, .inr (10, mo z 0 pz0_5 pz0_6 pz0_7 pz0_8 pz0_9 pz0_10 pz0_11 pz0_12 pz0_13 pz0_14 pz0_18 pz0_19 pz0_22 pz0_23 pz0_29)), (z 1, aI V 3075 fz1), (z 38, aI V 4 fz38), (z 39, aJ V 160 fz39)] H := hP
    have hD := cpD hP hD
    have hP := subP (ws' := [(z 0, .inr (10, mo z 0 pz0_5 pz0_6 pz0_7 pz0_8 pz0_9 pz0_10 pz0_11 pz0_12 pz0_13 pz0_14 pz0_18 pz0_19 pz0_22 pz0_23 pz0_29)), (z 1, aI V 3075 fz1), (z 15, aI V 900 f_10), (z 16, aI V 6 f_11), (z 37, aI V 4 fz37), (z 38, aI V 4 fz38), (z 39, aJ V 160 fz39)]) hP [3, 4, 1, 2, 0, 5, 6] rfl
    have hD := subD hP hD [3, 4, 1, 2, 0, 5, 6] rfl rfl
    exact fiI hx hb hr hlk hK hP hD hS dX10_weathers_27 (Nat.le_of_ble_eq_true rfl) (Nat.le_of_ble_eq_true rfl) (⟨0, f_10, f_11, tf_11, g_12, rfl⟩)
  · have b_13 : iv (-6) (-1) r_1 := iv_n1 c_5 br_1 (iv_c (0 : Int32) (a := 0) (b := 0) (by decide)) (by decide)
    refine lv_iload_n hx hb dX10_weathers_17 rfl (lv_at hl 0 rfl) ?_
    refine lv_goto (tgt := 27) hx hb dX10_weathers_18 (by decide) ?_
    have hP := subP (ws' := [(z 0, .inr (10, mo z 0 pz0_5 pz0_6 pz0_7 pz0_8 pz0_9 pz0_10 pz0_11 pz0_12 pz0_13 pz0_14 pz0_18 pz0_19 pz0_22 pz0_23 pz0_29)), (z 1, aI V 3075 fz1), (z 15, aI V 900 fz15), (z 16, aI V 6 fz16), (z 37, aI V 4 fz37), (z 38, aI V 4 fz38), (z 39, aJ V 160 fz39)]) hP [2, 3, 0, 1, 4, 5, 6] rfl
    have hD := subD hP hD [2, 3, 0, 1, 4, 5, 6] rfl rfl
    exact fiI hx hb hr hlk hK hP hD hS dX10_weathers_27 (Nat.le_of_ble_eq_true rfl) (Nat.le_of_ble_eq_true rfl) (⟨0, fz15, fz16, tfz16, hf0, rfl⟩)
theorem dX10_mostAlike_0 : decode cX10_mostAlike 0 = .ok (.iconst 0, 1) := by decide +kernel
theorem dX10_mostAlike_1 : decode cX10_mostAlike 1 = .ok (.istore_n 3, 1) := by decide +kernel
theorem dX10_mostAlike_2 : decode cX10_mostAlike 2 = .ok (.iconst 0, 1) := by decide +kernel
theorem dX10_mostAlike_3 : decode cX10_mostAlike 3 = .ok (.istore 4, 2) := by decide +kernel
theorem dX10_mostAlike_5 : decode cX10_mostAlike 5 = .ok (.iload 4, 2) := by decide +kernel
theorem dX10_mostAlike_7 : decode cX10_mostAlike 7 = .ok (.bipush 10, 2) := by decide +kernel
theorem dX10_mostAlike_9 : decode cX10_mostAlike 9 = .ok (.if_icmp .ge 45, 3) := by decide +kernel
theorem dX10_mostAlike_54 : decode cX10_mostAlike 54 = .ok (.iconst 0, 1) := by decide +kernel
theorem dX10_mostAlike_55 : decode cX10_mostAlike 55 = .ok (.istore 4, 2) := by decide +kernel
theorem dX10_mostAlike_57 : decode cX10_mostAlike 57 = .ok (.iload 4, 2) := by decide +kernel
theorem dX10_mostAlike_59 : decode cX10_mostAlike 59 = .ok (.bipush 10, 2) := by decide +kernel
theorem dX10_mostAlike_61 : decode cX10_mostAlike 61 = .ok (.if_icmp .ge 79, 3) := by decide +kernel
theorem dX10_mostAlike_140 : decode cX10_mostAlike 140 = .ok (.iload_n 3, 1) := by decide +kernel
theorem dX10_mostAlike_141 : decode cX10_mostAlike 141 = .ok (.ireturn, 1) := by decide +kernel
theorem dX10_mostAlike_64 : decode cX10_mostAlike 64 = .ok (.iconst 0, 1) := by decide +kernel
theorem dX10_mostAlike_65 : decode cX10_mostAlike 65 = .ok (.istore 5, 2) := by decide +kernel
theorem dX10_mostAlike_67 : decode cX10_mostAlike 67 = .ok (.iconst 0, 1) := by decide +kernel
theorem dX10_mostAlike_68 : decode cX10_mostAlike 68 = .ok (.istore 6, 2) := by decide +kernel
theorem dX10_mostAlike_70 : decode cX10_mostAlike 70 = .ok (.iload 6, 2) := by decide +kernel
theorem dX10_mostAlike_72 : decode cX10_mostAlike 72 = .ok (.bipush 10, 2) := by decide +kernel
theorem dX10_mostAlike_74 : decode cX10_mostAlike 74 = .ok (.if_icmp .ge 47, 3) := by decide +kernel
theorem dX10_mostAlike_121 : decode cX10_mostAlike 121 = .ok (.iload 5, 2) := by decide +kernel
theorem dX10_mostAlike_123 : decode cX10_mostAlike 123 = .ok (.iload_n 3, 1) := by decide +kernel
theorem dX10_mostAlike_124 : decode cX10_mostAlike 124 = .ok (.if_icmp .le 8, 3) := by decide +kernel
theorem dX10_mostAlike_132 : decode cX10_mostAlike 132 = .ok (.iload_n 3, 1) := by decide +kernel
theorem dX10_mostAlike_133 : decode cX10_mostAlike 133 = .ok (.istore_n 3, 1) := by decide +kernel
theorem dX10_mostAlike_134 : decode cX10_mostAlike 134 = .ok (.iinc 4 1, 3) := by decide +kernel
theorem dX10_mostAlike_137 : decode cX10_mostAlike 137 = .ok (.goto (-80), 3) := by decide +kernel
theorem dX10_mostAlike_127 : decode cX10_mostAlike 127 = .ok (.iload 5, 2) := by decide +kernel
theorem dX10_mostAlike_129 : decode cX10_mostAlike 129 = .ok (.goto 4, 3) := by decide +kernel
theorem dX10_mostAlike_77 : decode cX10_mostAlike 77 = .ok (.iload 5, 2) := by decide +kernel
theorem dX10_mostAlike_79 : decode cX10_mostAlike 79 = .ok (.aload_n 0, 1) := by decide +kernel
theorem q_6_20 : Cond.fieldLink "BeaconDelayModel" 81 "BeaconDelayModel" "highBy1" "[I" ∈ gw := gw_6 (i := 20) (by decide +kernel) rfl
theorem dX10_mostAlike_80 : decode cX10_mostAlike 80 = .ok (.getfield 81, 3) := by decide +kernel
theorem dX10_mostAlike_83 : decode cX10_mostAlike 83 = .ok (.iload 4, 2) := by decide +kernel
theorem dX10_mostAlike_85 : decode cX10_mostAlike 85 = .ok (.iaload, 1) := by decide +kernel
theorem dX10_mostAlike_86 : decode cX10_mostAlike 86 = .ok (.iconst (-1), 1) := by decide +kernel
theorem dX10_mostAlike_87 : decode cX10_mostAlike 87 = .ok (.if_icmp .eq 24, 3) := by decide +kernel
theorem dX10_mostAlike_111 : decode cX10_mostAlike 111 = .ok (.iconst 0, 1) := by decide +kernel
theorem dX10_mostAlike_112 : decode cX10_mostAlike 112 = .ok (.iadd, 1) := by decide +kernel
theorem dX10_mostAlike_113 : decode cX10_mostAlike 113 = .ok (.istore 5, 2) := by decide +kernel
theorem dX10_mostAlike_115 : decode cX10_mostAlike 115 = .ok (.iinc 6 1, 3) := by decide +kernel
theorem dX10_mostAlike_118 : decode cX10_mostAlike 118 = .ok (.goto (-48), 3) := by decide +kernel
theorem dX10_mostAlike_90 : decode cX10_mostAlike 90 = .ok (.aload_n 0, 1) := by decide +kernel
theorem dX10_mostAlike_91 : decode cX10_mostAlike 91 = .ok (.getfield 81, 3) := by decide +kernel
theorem dX10_mostAlike_94 : decode cX10_mostAlike 94 = .ok (.iload 6, 2) := by decide +kernel
theorem dX10_mostAlike_96 : decode cX10_mostAlike 96 = .ok (.iaload, 1) := by decide +kernel
theorem dX10_mostAlike_97 : decode cX10_mostAlike 97 = .ok (.aload_n 0, 1) := by decide +kernel
theorem dX10_mostAlike_98 : decode cX10_mostAlike 98 = .ok (.getfield 81, 3) := by decide +kernel
theorem dX10_mostAlike_101 : decode cX10_mostAlike 101 = .ok (.iload 4, 2) := by decide +kernel
theorem dX10_mostAlike_103 : decode cX10_mostAlike 103 = .ok (.iaload, 1) := by decide +kernel
theorem dX10_mostAlike_104 : decode cX10_mostAlike 104 = .ok (.if_icmp .ne 7, 3) := by decide +kernel
theorem dX10_mostAlike_107 : decode cX10_mostAlike 107 = .ok (.iconst 1, 1) := by decide +kernel
theorem dX10_mostAlike_108 : decode cX10_mostAlike 108 = .ok (.goto 4, 3) := by decide +kernel
theorem dX10_mostAlike_12 : decode cX10_mostAlike 12 = .ok (.aload_n 0, 1) := by decide +kernel
theorem dX10_mostAlike_13 : decode cX10_mostAlike 13 = .ok (.getfield 81, 3) := by decide +kernel
theorem dX10_mostAlike_16 : decode cX10_mostAlike 16 = .ok (.iload 4, 2) := by decide +kernel
theorem dX10_mostAlike_18 : decode cX10_mostAlike 18 = .ok (.iload_n 2, 1) := by decide +kernel
theorem dX10_mostAlike_19 : decode cX10_mostAlike 19 = .ok (.i2l, 1) := by decide +kernel
theorem dX10_mostAlike_20 : decode cX10_mostAlike 20 = .ok (.iload 4, 2) := by decide +kernel
theorem dX10_mostAlike_22 : decode cX10_mostAlike 22 = .ok (.invokestatic 244, 3) := by decide +kernel
theorem dX10_mostAlike_25 : decode cX10_mostAlike 25 = .ok (.ifCond .eq 21, 3) := by decide +kernel
theorem dX10_mostAlike_46 : decode cX10_mostAlike 46 = .ok (.iconst (-1), 1) := by decide +kernel
theorem dX10_mostAlike_47 : decode cX10_mostAlike 47 = .ok (.iastore, 1) := by decide +kernel
theorem dX10_mostAlike_48 : decode cX10_mostAlike 48 = .ok (.iinc 4 1, 3) := by decide +kernel
theorem dX10_mostAlike_51 : decode cX10_mostAlike 51 = .ok (.goto (-46), 3) := by decide +kernel
theorem dX10_mostAlike_28 : decode cX10_mostAlike 28 = .ok (.aload_n 0, 1) := by decide +kernel
theorem dX10_mostAlike_29 : decode cX10_mostAlike 29 = .ok (.aload_n 0, 1) := by decide +kernel
theorem dX10_mostAlike_30 : decode cX10_mostAlike 30 = .ok (.invokevirtual 269, 3) := by decide +kernel
theorem dX10_mostAlike_33 : decode cX10_mostAlike 33 = .ok (.iload_n 1, 1) := by decide +kernel
theorem dX10_mostAlike_34 : decode cX10_mostAlike 34 = .ok (.iload 4, 2) := by decide +kernel
theorem dX10_mostAlike_36 : decode cX10_mostAlike 36 = .ok (.invokevirtual 272, 3) := by decide +kernel
theorem dX10_mostAlike_39 : decode cX10_mostAlike 39 = .ok (.sipush 625, 3) := by decide +kernel
theorem dX10_mostAlike_42 : decode cX10_mostAlike 42 = .ok (.irem, 1) := by decide +kernel
theorem dX10_mostAlike_43 : decode cX10_mostAlike 43 = .ok (.goto 4, 3) := by decide +kernel
set_option maxHeartbeats 4000000 in
set_option maxRecDepth 100000 in
theorem k_X10_mostAlike_0 (l : Launch) (V : GV) (z : Nat → Nat) (a1 : Int32) (a2 : Int32) (fz36 : Nat → Int32) (fz15 : Nat → Int32) (fz16 : Nat → Int32) (pz0_0 : Int32) (pz0_5 : Int32) (pz0_6 : Int32) (pz0_7 : Int32) (pz0_8 : Int32) (pz0_9 : Int32) (pz0_10 : Int32) (pz0_11 : Int32) (pz0_12 : Int32) (pz0_13 : Int32) (pz0_14 : Int32) (pz0_18 : Int32) (pz0_19 : Int32) (pz0_22 : Int32) (pz0_23 : Int32) (pz0_29 : Int32) (fz1 : Nat → Int32) (ba1 : iv 0 3 a1) (tfz16 : ivT tW fz16) (bpz0_5 : iv 0 900 pz0_5) (bpz0_6 : iv 0 900 pz0_6) (bpz0_7 : iv 0 900 pz0_7) (bpz0_8 : iv 0 900 pz0_8) (bpz0_10 : iv 0 999 pz0_10) (bpz0_11 : iv 0 4 pz0_11) (bpz0_12 : iv 0 900 pz0_12) (bpz0_13 : iv 0 4 pz0_13) (bpz0_14 : iv (-1) 900 pz0_14) (bpz0_18 : iv 0 2 pz0_18) (bpz0_22 : iv 0 9999 pz0_22) (bpz0_29 : iv 0 10000 pz0_29) (tfz1 : ivT tA fz1) (hf0 : RW fz1) : Ct l V yX10_mostAlike (.code yX10_mostAlike cX10_mostAlike 7 (some .int)) 5 [.ref (z 0), .int a1, .int a2] [(z 36, aI V 10 fz36), (z 15, aI V 900 fz15), (z 16, aI V 6 fz16), (z 0, .inr (10, mo z pz0_0 pz0_5 pz0_6 pz0_7 pz0_8 pz0_9 pz0_10 pz0_11 pz0_12 pz0_13 pz0_14 pz0_18 pz0_19 pz0_22 pz0_23 pz0_29)), (z 1, aI V 3075 fz1)] 0 0 (QI V (fun (r : Int32) (w : va_W) => ∃ (g0 : Nat → Int32) (g1 : Nat → Int32) (g2 : Nat → Int32), (ivT tW g2) ∧ (RW fz1) ∧ w = [(z 36, aI V 10 g0), (z 15, aI V 900 g1), (z 16, aI V 6 g2), (z 0, .inr (10, mo z pz0_0 pz0_5 pz0_6 pz0_7 pz0_8 pz0_9 pz0_10 pz0_11 pz0_12 pz0_13 pz0_14 pz0_18 pz0_19 pz0_22 pz0_23 pz0_29)), (z 1, aI V 3075 fz1)])) := by
  refine Ct.of (by decide) (Nat.le_of_ble_eq_true rfl) (fun p e s m below meth c A ls hx hb hr hml hown hlk hnm hg hP hK hD hE hA hS hl => ?_)
  have hl : lv_has ls 7 [(0, .ref (z 0)), (1, .int a1), (2, .int a2)] := hl
  refine lv_iconst (v := 0) hx hb dX10_mostAlike_0 (by decide) ?_
  refine lv_istore_n (lv' := [(3, .int 0), (0, .ref (z 0)), (1, .int a1), (2, .int a2)]) hx hb dX10_mostAlike_1 rfl hl (by decide) rfl (fun ls hl => ?_)
  refine lv_iconst (v := 0) hx hb dX10_mostAlike_2 (by decide) ?_
  refine lv_istore (lv' := [(4, .int 0), (3, .int 0), (0, .ref (z 0)), (1, .int a1), (2, .int a2)]) hx hb dX10_mostAlike_3 hl (by decide) rfl (fun ls hl => ?_)
  refine loopF (X := fun (n_5 : Nat) (H : Heap) (locs : List Loc) (ls : Array Slot) => ∃ (u_1 : Int32) (f_2 : Nat → Int32) (f_3 : Nat → Int32) (f_4 : Nat → Int32), (iv 0 2147483647 u_1) ∧ (ivT tW f_4) ∧ (RW fz1) ∧ n_5 = (2147483647 - (u_1 : Int32).toInt).toNat ∧ va_P V.1 vwCl [(z 36, aI V 10 f_2), (z 15, aI V 900 f_3), (z 16, aI V 6 f_4), (z 0, .inr (10, mo z pz0_0 pz0_5 pz0_6 pz0_7 pz0_8 pz0_9 pz0_10 pz0_11 pz0_12 pz0_13 pz0_14 pz0_18 pz0_19 pz0_22 pz0_23 pz0_29)), (z 1, aI V 3075 fz1)] H ∧ va_D A [(z 36, aI V 10 f_2), (z 15, aI V 900 f_3), (z 16, aI V 6 f_4), (z 0, .inr (10, mo z pz0_0 pz0_5 pz0_6 pz0_7 pz0_8 pz0_9 pz0_10 pz0_11 pz0_12 pz0_13 pz0_14 pz0_18 pz0_19 pz0_22 pz0_23 pz0_29)), (z 1, aI V 3075 fz1)] ∧ va_S A s.heap H locs ∧ lv_has ls 7 [(4, .int u_1), (3, .int 0), (0, .ref (z 0)), (1, .int a1), (2, .int a2)]) (g := fun ls => F0 m 5 ls []) (fun n_5 H locs ls hX ihn_5 => ?_) _ ⟨0, fz36, fz15, fz16, (iv_c (0 : Int32) (by decide)), tfz16, hf0, rfl, hP, hD, hS, lv_sub hl [0, 1, 2, 3, 4] rfl⟩
  obtain ⟨u_1, f_2, f_3, f_4, bu_1, tf_4, inn_5_0, en_5, hP, hD, hS, hl⟩ := hX
  refine lv_iload hx hb dX10_mostAlike_5 (lv_at hl 0 rfl) ?_
  refine lv_bipush (v := 10) hx hb dX10_mostAlike_7 (by decide) ?_
  refine lv_icmp_ge (tgt := 54) hx hb dX10_mostAlike_9 (by decide) (fun c_6 => ?_) (fun c_6 => ?_)
  · have b_7 : iv 10 2147483647 u_1 := iv_e2 c_6 (iv_c (10 : Int32) (a := 10) (b := 10) (by decide)) bu_1 (by decide)
    refine lv_iconst (v := 0) hx hb dX10_mostAlike_54 (by decide) ?_
    refine lv_istore (lv' := [(4, .int 0), (3, .int 0), (0, .ref (z 0)), (1, .int a1), (2, .int a2)]) hx hb dX10_mostAlike_55 hl (by decide) rfl (fun ls hl => ?_)
    refine loopF (X := fun (n_10 : Nat) (H : Heap) (locs : List Loc) (ls : Array Slot) => ∃ (u_8 : Int32) (u_9 : Int32), (iv 0 2147483647 u_8) ∧ (RW fz1) ∧ n_10 = (2147483647 - (u_8 : Int32).toInt).toNat ∧ va_P V.1 vwCl [(z 36, aI V 10 f_2), (z 15, aI V 900 f_3), (z 16, aI V 6 f_4), (z 0, .inr (10, mo z pz0_0 pz0_5 pz0_6 pz0_7 pz0_8 pz0_9 pz0_10 pz0_11 pz0_12 pz0_13 pz0_14 pz0_18 pz0_19 pz0_22 pz0_23 pz0_29)), (z 1, aI V 3075 fz1)] H ∧ va_D A [(z 36, aI V 10 f_2), (z 15, aI V 900 f_3), (z 16, aI V 6 f_4), (z 0, .inr (10, mo z pz0_0 pz0_5 pz0_6 pz0_7 pz0_8 pz0_9 pz0_10 pz0_11 pz0_12 pz0_13 pz0_14 pz0_18 pz0_19 pz0_22 pz0_23 pz0_29)), (z 1, aI V 3075 fz1)] ∧ va_S A s.heap H locs ∧ lv_has ls 7 [(4, .int u_8), (3, .int u_9), (0, .ref (z 0)), (1, .int a1), (2, .int a2)]) (g := fun ls => F0 m 57 ls []) (fun n_10 H locs ls hX ihn_10 => ?_) _ ⟨0, 0, (iv_c (0 : Int32) (by decide)), inn_5_0, rfl, hP, hD, hS, lv_sub hl [0, 1, 2, 3, 4] rfl⟩
    obtain ⟨u_8, u_9, bu_8, inn_10_0, en_10, hP, hD, hS, hl⟩ := hX
    refine lv_iload hx hb dX10_mostAlike_57 (lv_at hl 0 rfl) ?_
    refine lv_bipush (v := 10) hx hb dX10_mostAlike_59 (by decide) ?_
    refine lv_icmp_ge (tgt := 140) hx hb dX10_mostAlike_61 (by decide) (fun c_11 => ?_) (fun c_11 => ?_)
    · have b_12 : iv 10 2147483647 u_8 := iv_e2 c_11 (iv_c (10 : Int32) (a := 10) (b := 10) (by decide)) bu_8 (by decide)
      refine lv_iload_n hx hb dX10_mostAlike_140 rfl (lv_at hl 1 rfl) ?_
      exact fiI hx hb hr hlk hK hP hD hS dX10_mostAlike_141 (Nat.le_of_ble_eq_true rfl) (Nat.le_of_ble_eq_true rfl) (⟨f_2, f_3, f_4, tf_4, inn_10_0, rfl⟩)
    · have b_13 : iv 0 9 u_8 := iv_l1 (Int32.not_le.mp c_11) bu_8 (iv_c (10 : Int32) (a := 10) (b := 10) (by decide)) (by decide)
      refine lv_iconst (v := 0) hx hb dX10_mostAlike_64 (by decide) ?_
      refine lv_istore (lv' := [(5, .int 0), (4, .int u_8), (3, .int u_9), (0, .ref (z 0)), (1, .int a1), (2, .int a2)]) hx hb dX10_mostAlike_65 hl (by decide) rfl (fun ls hl => ?_)
      refine lv_iconst (v := 0) hx hb dX10_mostAlike_67 (by decide) ?_
      refine lv_istore (lv' := [(6, .int 0), (5, .int 0), (4, .int u_8), (3, .int u_9), (0, .ref (z 0)), (1, .int a1), (2, .int a2)]) hx hb dX10_mostAlike_68 hl (by decide) rfl (fun ls hl => ?_)
      refine loopF (X := fun (n_16 : Nat) (H : Heap) (locs : List Loc) (ls : Array Slot) => ∃ (u_14 : Int32) (u_15 : Int32), (iv 0 2147483647 u_14) ∧ (RW fz1) ∧ n_16 = (2147483647 - (u_14 : Int32).toInt).toNat ∧ va_P V.1 vwCl [(z 36, aI V 10 f_2), (z 15, aI V 900 f_3), (z 16, aI V 6 f_4), (z 0, .inr (10, mo z pz0_0 pz0_5 pz0_6 pz0_7 pz0_8 pz0_9 pz0_10 pz0_11 pz0_12 pz0_13 pz0_14 pz0_18 pz0_19 pz0_22 pz0_23 pz0_29)), (z 1, aI V 3075 fz1)] H ∧ va_D A [(z 36, aI V 10 f_2), (z 15, aI V 900 f_3), (z 16, aI V 6 f_4), (z 0, .inr (10, mo z pz0_0 pz0_5 pz0_6 pz0_7 pz0_8 pz0_9 pz0_10 pz0_11 pz0_12 pz0_13 pz0_14 pz0_18 pz0_19 pz0_22 pz0_23 pz0_29)), (z 1, aI V 3075 fz1)] ∧ va_S A s.heap H locs ∧ lv_has ls 7 [(6, .int u_14), (5, .int u_15), (4, .int u_8), (3, .int u_9), (0, .ref (z 0)), (1, .int a1), (2, .int a2)]) (g := fun ls => F0 m 70 ls []) (fun n_16 H locs ls hX ihn_16 => ?_) _ ⟨0, 0, (iv_c (0 : Int32) (by decide)), inn_10_0, rfl, hP, hD, hS, lv_sub hl [0, 1, 2, 3, 4, 5, 6] rfl⟩
      obtain ⟨u_14, u_15, bu_14, inn_16_0, en_16, hP, hD, hS, hl⟩ := hX
      refine lv_iload hx hb dX10_mostAlike_70 (lv_at hl 0 rfl) ?_
      refine lv_bipush (v := 10) hx hb dX10_mostAlike_72 (by decide) ?_
      refine lv_icmp_ge (tgt := 121) hx hb dX10_mostAlike_74 (by decide) (fun c_17 => ?_) (fun c_17 => ?_)
      · have b_18 : iv 10 2147483647 u_14 := iv_e2 c_17 (iv_c (10 : Int32) (a := 10) (b := 10) (by decide)) bu_14 (by decide)
        refine lv_iload hx hb dX10_mostAlike_121 (lv_at hl 1 rfl) ?_
        refine lv_iload_n hx hb dX10_mostAlike_123 rfl (lv_at hl 3 rfl) ?_
        refine lv_icmp_le (tgt := 132) hx hb dX10_mostAlike_124 (by decide) (fun c_19 => ?_) (fun c_19 => ?_)
        · refine lv_iload_n hx hb dX10_mostAlike_132 rfl (lv_at hl 3 rfl) ?_
          refine lv_istore_n (lv' := [(3, .int u_9), (6, .int u_14), (5, .int u_15), (4, .int u_8), (0, .ref (z 0)), (1, .int a1), (2, .int a2)]) hx hb dX10_mostAlike_133 rfl hl (by decide) rfl (fun ls hl => ?_)
          obtain ⟨x_20, ex_20⟩ : ∃ z9 : Int32, z9 = u_8 + 1 := ⟨_, rfl⟩
          have bx_20 : iv 1 10 x_20 := by rw [ex_20]; exact iv_add b_13 (iv_c (1 : Int32) (a := 1) (b := 1) (by decide)) (by decide)
          refine lv_iinc (v := x_20) (lv' := [(4, .int x_20), (3, .int u_9), (6, .int u_14), (5, .int u_15), (0, .ref (z 0)), (1, .int a1), (2, .int a2)]) hx hb dX10_mostAlike_134 hl (k := 3) rfl (by rw [ex_20]; rfl) (by decide) rfl (fun ls hl => ?_)
          refine lv_goto (tgt := 57) hx hb dX10_mostAlike_137 (by decide) ?_
          exact ihn_10 _ _ _ _ (by rw [en_10, ex_20]; exact mu_up b_13 (by decide)) ⟨x_20, u_9, (iv_w bx_20 (by decide)), inn_16_0, rfl, hP, hD, hS, lv_sub hl [0, 1, 4, 5, 6] rfl⟩
        · have b_21 : iv (-2147483648) 2147483646 u_9 := iv_l1 (Int32.not_le.mp c_19) (iv_top u_9) (iv_top u_15) (by decide)
          have b_22 : iv (-2147483647) 2147483647 u_15 := iv_l2 (Int32.not_le.mp c_19) (iv_top u_9) (iv_top u_15) (by decide)
          refine lv_iload hx hb dX10_mostAlike_127 (lv_at hl 1 rfl) ?_
          refine lv_goto (tgt := 133) hx hb dX10_mostAlike_129 (by decide) ?_
          refine lv_istore_n (lv' := [(3, .int u_15), (6, .int u_14), (5, .int u_15), (4, .int u_8), (0, .ref (z 0)), (1, .int a1), (2, .int a2)]) hx hb dX10_mostAlike_133 rfl hl (by decide) rfl (fun ls hl => ?_)
          obtain ⟨x_23, ex_23⟩ : ∃ z9 : Int32, z9 = u_8 + 1 := ⟨_, rfl⟩
          have bx_23 : iv 1 10 x_23 := by rw [ex_23]; exact iv_add b_13 (iv_c (1 : Int32) (a := 1) (b := 1) (by decide)) (by decide)
          refine lv_iinc (v := x_23) (lv' := [(4, .int x_23), (3, .int u_15), (6, .int u_14), (5, .int u_15), (0, .ref (z 0)), (1, .int a1), (2, .int a2)]) hx hb dX10_mostAlike_134 hl (k := 3) rfl (by rw [ex_23]; rfl) (by decide) rfl (fun ls hl => ?_)
          refine lv_goto (tgt := 57) hx hb dX10_mostAlike_137 (by decide) ?_
          exact ihn_10 _ _ _ _ (by rw [en_10, ex_23]; exact mu_up b_13 (by decide)) ⟨x_23, u_15, (iv_w bx_23 (by decide)), inn_16_0, rfl, hP, hD, hS, lv_sub hl [0, 1, 4, 5, 6] rfl⟩
      · have b_24 : iv 0 9 u_14 := iv_l1 (Int32.not_le.mp c_17) bu_14 (iv_c (10 : Int32) (a := 10) (b := 10) (by decide)) (by decide)
        refine lv_iload hx hb dX10_mostAlike_77 (lv_at hl 1 rfl) ?_
        refine lv_aload_n hx hb dX10_mostAlike_79 rfl (lv_at hl 4 rfl) ?_
        refine va_get (ci := 10) (v := .ref (z 36)) (C := RX10) (T := TX10) (N := 40) hx hb hg inX10 hown hK hP 3 rfl rfl 36 (by decide) (hg _ q_6_20) (fun _ h9 => h9) rfl dX10_mostAlike_80 ?_
        refine lv_iload hx hb dX10_mostAlike_83 (lv_at hl 2 rfl) ?_
        refine va_iald hx hb hK hP 0 0 rfl rfl (iv_in b_13 (by decide)) dX10_mostAlike_85 ?_
        refine lv_topi (fun x_25 ex_25 => ?_)
        refine lv_iconst (v := (-1)) hx hb dX10_mostAlike_86 (by decide) ?_
        refine lv_icmp_eq (tgt := 111) hx hb dX10_mostAlike_87 (by decide) (fun c_26 => ?_) (fun c_26 => ?_)
        · have b_27 : iv (-1) (-1) x_25 := iv_q c_26 (iv_c ((-1) : Int32) (a := (-1)) (b := (-1)) (by decide))
          refine lv_iconst (v := 0) hx hb dX10_mostAlike_111 (by decide) ?_
          refine lv_iadd hx hb dX10_mostAlike_112 ?_
          refine lv_topi (fun x_28 ex_28 => ?_)
          refine lv_istore (lv' := [(5, .int x_28), (6, .int u_14), (4, .int u_8), (3, .int u_9), (0, .ref (z 0)), (1, .int a1), (2, .int a2)]) hx hb dX10_mostAlike_113 hl (by decide) rfl (fun ls hl => ?_)
          obtain ⟨x_29, ex_29⟩ : ∃ z9 : Int32, z9 = u_14 + 1 := ⟨_, rfl⟩
          have bx_29 : iv 1 10 x_29 := by rw [ex_29]; exact iv_add b_24 (iv_c (1 : Int32) (a := 1) (b := 1) (by decide)) (by decide)
          refine lv_iinc (v := x_29) (lv' := [(6, .int x_29), (5, .int x_28), (4, .int u_8), (3, .int u_9), (0, .ref (z 0)), (1, .int a1), (2, .int a2)]) hx hb dX10_mostAlike_115 hl (k := 1) rfl (by rw [ex_29]; rfl) (by decide) rfl (fun ls hl => ?_)
          refine lv_goto (tgt := 70) hx hb dX10_mostAlike_118 (by decide) ?_
          exact ihn_16 _ _ _ _ (by rw [en_16, ex_29]; exact mu_up b_24 (by decide)) ⟨x_29, x_28, (iv_w bx_29 (by decide)), inn_16_0, rfl, hP, hD, hS, lv_sub hl [0, 1, 2, 3, 4, 5, 6] rfl⟩
        · refine lv_aload_n hx hb dX10_mostAlike_90 rfl (lv_at hl 4 rfl) ?_
          refine va_get (ci := 10) (v := .ref (z 36)) (C := RX10) (T := TX10) (N := 40) hx hb hg inX10 hown hK hP 3 rfl rfl 36 (by decide) (hg _ q_6_20) (fun _ h9 => h9) rfl dX10_mostAlike_91 ?_
          refine lv_iload hx hb dX10_mostAlike_94 (lv_at hl 0 rfl) ?_
          refine va_iald hx hb hK hP 0 0 rfl rfl (iv_in b_24 (by decide)) dX10_mostAlike_96 ?_
          refine lv_topi (fun x_30 ex_30 => ?_)
          refine lv_aload_n hx hb dX10_mostAlike_97 rfl (lv_at hl 4 rfl) ?_
          refine va_get (ci := 10) (v := .ref (z 36)) (C := RX10) (T := TX10) (N := 40) hx hb hg inX10 hown hK hP 3 rfl rfl 36 (by decide) (hg _ q_6_20) (fun _ h9 => h9) rfl dX10_mostAlike_98 ?_
          refine lv_iload hx hb dX10_mostAlike_101 (lv_at hl 2 rfl) ?_
          refine va_iald hx hb hK hP 0 0 rfl rfl (iv_in b_13 (by decide)) dX10_mostAlike_103 ?_
          refine lv_topi (fun x_31 ex_31 => ?_)
          refine lv_icmp_ne (tgt := 111) hx hb dX10_mostAlike_104 (by decide) (fun c_32 => ?_) (fun c_32 => ?_)
          · refine lv_iconst (v := 0) hx hb dX10_mostAlike_111 (by decide) ?_
            refine lv_iadd hx hb dX10_mostAlike_112 ?_
            refine lv_topi (fun x_33 ex_33 => ?_)
            refine lv_istore (lv' := [(5, .int x_33), (6, .int u_14), (4, .int u_8), (3, .int u_9), (0, .ref (z 0)), (1, .int a1), (2, .int a2)]) hx hb dX10_mostAlike_113 hl (by decide) rfl (fun ls hl => ?_)
            obtain ⟨x_34, ex_34⟩ : ∃ z9 : Int32, z9 = u_14 + 1 := ⟨_, rfl⟩
            have bx_34 : iv 1 10 x_34 := by rw [ex_34]; exact iv_add b_24 (iv_c (1 : Int32) (a := 1) (b := 1) (by decide)) (by decide)
            refine lv_iinc (v := x_34) (lv' := [(6, .int x_34), (5, .int x_33), (4, .int u_8), (3, .int u_9), (0, .ref (z 0)), (1, .int a1), (2, .int a2)]) hx hb dX10_mostAlike_115 hl (k := 1) rfl (by rw [ex_34]; rfl) (by decide) rfl (fun ls hl => ?_)
            refine lv_goto (tgt := 70) hx hb dX10_mostAlike_118 (by decide) ?_
            exact ihn_16 _ _ _ _ (by rw [en_16, ex_34]; exact mu_up b_24 (by decide)) ⟨x_34, x_33, (iv_w bx_34 (by decide)), inn_16_0, rfl, hP, hD, hS, lv_sub hl [0, 1, 2, 3, 4, 5, 6] rfl⟩
          · refine lv_iconst (v := 1) hx hb dX10_mostAlike_107 (by decide) ?_
            refine lv_goto (tgt := 112) hx hb dX10_mostAlike_108 (by decide) ?_
            refine lv_iadd hx hb dX10_mostAlike_112 ?_
            refine lv_topi (fun x_35 ex_35 => ?_)
            refine lv_istore (lv' := [(5, .int x_35), (6, .int u_14), (4, .int u_8), (3, .int u_9), (0, .ref (z 0)), (1, .int a1), (2, .int a2)]) hx hb dX10_mostAlike_113 hl (by decide) rfl (fun ls hl => ?_)
            obtain ⟨x_36, ex_36⟩ : ∃ z9 : Int32, z9 = u_14 + 1 := ⟨_, rfl⟩
            have bx_36 : iv 1 10 x_36 := by rw [ex_36]; exact iv_add b_24 (iv_c (1 : Int32) (a := 1) (b := 1) (by decide)) (by decide)
            refine lv_iinc (v := x_36) (lv' := [(6, .int x_36), (5, .int x_35), (4, .int u_8), (3, .int u_9), (0, .ref (z 0)), (1, .int a1), (2, .int a2)]) hx hb dX10_mostAlike_115 hl (k := 1) rfl (by rw [ex_36]; rfl) (by decide) rfl (fun ls hl => ?_)
            refine lv_goto (tgt := 70) hx hb dX10_mostAlike_118 (by decide) ?_
            exact ihn_16 _ _ _ _ (by rw [en_16, ex_36]; exact mu_up b_24 (by decide)) ⟨x_36, x_35, (iv_w bx_36 (by decide)), inn_16_0, rfl, hP, hD, hS, lv_sub hl [0, 1, 2, 3, 4, 5, 6] rfl⟩
  · have b_37 : iv 0 9 u_1 := iv_l1 (Int32.not_le.mp c_6) bu_1 (iv_c (10 : Int32) (a := 10) (b := 10) (by decide)) (by decide)
    refine lv_aload_n hx hb dX10_mostAlike_12 rfl (lv_at hl 2 rfl) ?_
    refine va_get (ci := 10) (v := .ref (z 36)) (C := RX10) (T := TX10) (N := 40) hx hb hg inX10 hown hK hP 3 rfl rfl 36 (by decide) (hg _ q_6_20) (fun _ h9 => h9) rfl dX10_mostAlike_13 ?_
    refine lv_iload hx hb dX10_mostAlike_16 (lv_at hl 0 rfl) ?_
    refine lv_iload_n hx hb dX10_mostAlike_18 rfl (lv_at hl 4 rfl) ?_
    refine lv_i2l hx hb dX10_mostAlike_19 rfl ?_
    refine lv_topl (fun j_38 ej_38 => ?_)
    refine lv_iload hx hb dX10_mostAlike_20 (lv_at hl 0 rfl) ?_
    refine jnI (wr := [(z 36, aI V 10 f_2), (z 15, aI V 900 f_3), (z 16, aI V 6 f_4), (z 0, .inr (10, mo z pz0_0 pz0_5 pz0_6 pz0_7 pz0_8 pz0_9 pz0_10 pz0_11 pz0_12 pz0_13 pz0_14 pz0_18 pz0_19 pz0_22 pz0_23 pz0_29)), (z 1, aI V 3075 fz1)]) (rnS (rest := [.int u_1, .ref (z 36)]) ⟨hx, hb, hml, hown, hg⟩ (k_X10_isIn_0 l V j_38 u_1 (iv_w b_37 (by decide))) mt_X10_isIn q_7_32 ⟨Nat.le_of_ble_eq_true rfl, Nat.le_of_ble_eq_true rfl⟩ hK hP hD hS hA hE [] rfl rfl rfl hl.1 rfl (Nat.le_of_ble_eq_true rfl) dX10_mostAlike_22 ⟨Nat.le_of_ble_eq_true rfl, Nat.le_of_ble_eq_true rfl⟩) hP hD hS hA [] [0, 1, 2, 3, 4] rfl rfl rfl (by decide) (fun r_39 w H locs hw hP hD hS => ?_)
    obtain ⟨br_39, et_40, rfl⟩ := hw
    have hP : va_P V.1 vwCl [(z 36, aI V 10 f_2), (z 15, aI V 900 f_3), (z 16, aI V 6 f_4), (z 0, .inr (10, mo z pz0_0 pz0_5 pz0_6 pz0_7 pz0_8 pz0_9 pz0_10 pz0_11 pz0_12 pz0_13 pz0_14 pz0_18 pz0_19 pz0_22 pz0_23 pz0_29)), (z 1, aI V 3075 fz1)] H := hP
    have hD := cpD hP hD
    refine lv_if_eq (tgt := 46) hx hb dX10_mostAlike_25 (by decide) (fun c_41 => ?_) (fun c_41 => ?_)
    · have b_42 : iv 0 0 r_39 := iv_q c_41 (iv_c (0 : Int32) (a := 0) (b := 0) (by decide))
      refine lv_iconst (v := (-1)) hx hb dX10_mostAlike_46 (by decide) ?_
      refine va_iast hx hb hK hP hD hS 0 0 rfl rfl (iv_in b_37 (by decide)) dX10_mostAlike_47 (fun H locs hP hD hS => ?_)
      obtain ⟨f_43, hP, hD⟩ : ∃ f_43 : Nat → Int32, va_P V.1 vwCl [(z 36, aI V 10 f_43), (z 15, aI V 900 f_3), (z 16, aI V 6 f_4), (z 0, .inr (10, mo z pz0_0 pz0_5 pz0_6 pz0_7 pz0_8 pz0_9 pz0_10 pz0_11 pz0_12 pz0_13 pz0_14 pz0_18 pz0_19 pz0_22 pz0_23 pz0_29)), (z 1, aI V 3075 fz1)] H ∧ va_D A [(z 36, aI V 10 f_43), (z 15, aI V 900 f_3), (z 16, aI V 6 f_4), (z 0, .inr (10, mo z pz0_0 pz0_5 pz0_6 pz0_7 pz0_8 pz0_9 pz0_10 pz0_11 pz0_12 pz0_13 pz0_14 pz0_18 pz0_19 pz0_22 pz0_23 pz0_29)), (z 1, aI V 3075 fz1)] := ⟨_, hP, hD⟩
      obtain ⟨x_44, ex_44⟩ : ∃ z9 : Int32, z9 = u_1 + 1 := ⟨_, rfl⟩
      have bx_44 : iv 1 10 x_44 := by rw [ex_44]; exact iv_add b_37 (iv_c (1 : Int32) (a := 1) (b := 1) (by decide)) (by decide)
      refine lv_iinc (v := x_44) (lv' := [(4, .int x_44), (3, .int 0), (0, .ref (z 0)), (1, .int a1), (2, .int a2)]) hx hb dX10_mostAlike_48 hl (k := 0) rfl (by rw [ex_44]; rfl) (by decide) rfl (fun ls hl => ?_)
      refine lv_goto (tgt := 5) hx hb dX10_mostAlike_51 (by decide) ?_
      exact ihn_5 _ _ _ _ (by rw [en_5, ex_44]; exact mu_up b_37 (by decide)) ⟨x_44, f_43, f_3, f_4, (iv_w bx_44 (by decide)), tf_4, inn_5_0, rfl, hP, hD, hS, lv_sub hl [0, 1, 2, 3, 4] rfl⟩
    · have b_45 : iv 1 1 r_39 := iv_n0 c_41 br_39 (iv_c (0 : Int32) (a := 0) (b := 0) (by decide)) (by decide)
      refine lv_aload_n hx hb dX10_mostAlike_28 rfl (lv_at hl 2 rfl) ?_
      refine lv_aload_n hx hb dX10_mostAlike_29 rfl (lv_at hl 2 rfl) ?_
      refine jnI (wr := [(z 36, aI V 10 f_2), (z 15, aI V 900 f_3), (z 16, aI V 6 f_4)]) (rnV (rest := [.ref (z 0), .int u_1, .ref (z 36)]) ⟨hx, hb, hml, hown, hg⟩ (k_X10_standNow_0 l V z pz0_0 pz0_5 pz0_6 pz0_7 pz0_8 pz0_9 pz0_10 pz0_11 pz0_12 pz0_13 pz0_14 pz0_18 pz0_19 pz0_22 pz0_23 pz0_29 fz1 bpz0_5 bpz0_6 bpz0_7 bpz0_8 bpz0_10 bpz0_11 bpz0_12 bpz0_13 bpz0_14 bpz0_18 bpz0_22 bpz0_29 tfz1) mt_X10_standNow q_7_11 ⟨Nat.le_of_ble_eq_true rfl, Nat.le_of_ble_eq_true rfl⟩ hK hP hD hS hA hE [3, 4] rfl rfl 3 rfl rfl rfl rfl hl.1 rfl (Nat.le_of_ble_eq_true rfl) dX10_mostAlike_30 ⟨Nat.le_of_ble_eq_true rfl, Nat.le_of_ble_eq_true rfl⟩) hP hD hS hA [3, 4] [0, 1, 2] rfl rfl rfl (by decide) (fun r_46 w H locs hw hP hD hS => ?_)
      obtain ⟨br_46, er_46, et_47, rfl⟩ := hw
      have hP : va_P V.1 vwCl [(z 36, aI V 10 f_2), (z 15, aI V 900 f_3), (z 16, aI V 6 f_4), (z 0, .inr (10, mo z pz0_0 pz0_5 pz0_6 pz0_7 pz0_8 pz0_9 pz0_10 pz0_11 pz0_12 pz0_13 pz0_14 pz0_18 pz0_19 pz0_22 pz0_23 pz0_29)), (z 1, aI V 3075 fz1)] H := hP
      have hD := cpD hP hD
      refine lv_iload_n hx hb dX10_mostAlike_33 rfl (lv_at hl 3 rfl) ?_
      refine lv_iload hx hb dX10_mostAlike_34 (lv_at hl 0 rfl) ?_
      refine jnI (wr := [(z 36, aI V 10 f_2)]) (rnV (rest := [.int u_1, .ref (z 36)]) ⟨hx, hb, hml, hown, hg⟩ (k_X10_nightTo_0 l V z r_46 a1 u_1 f_3 f_4 pz0_0 pz0_5 pz0_6 pz0_7 pz0_8 pz0_9 pz0_10 pz0_11 pz0_12 pz0_13 pz0_14 pz0_18 pz0_19 pz0_22 pz0_23 pz0_29 fz1 br_46 tf_4 bpz0_5 bpz0_6 bpz0_7 bpz0_8 bpz0_10 bpz0_11 bpz0_12 bpz0_13 bpz0_14 bpz0_18 bpz0_22 bpz0_29 tfz1 inn_5_0) mt_X10_nightTo q_7_18 ⟨Nat.le_of_ble_eq_true rfl, Nat.le_of_ble_eq_true rfl⟩ hK hP hD hS hA hE [1, 2, 3, 4] rfl rfl 3 rfl rfl rfl rfl hl.1 rfl (Nat.le_of_ble_eq_true rfl) dX10_mostAlike_36 ⟨Nat.le_of_ble_eq_true rfl, Nat.le_of_ble_eq_true rfl⟩) hP hD hS hA [1, 2, 3, 4] [0] rfl rfl rfl (by decide) (fun r_48 w H locs hw hP hD hS => ?_)
      obtain ⟨f_49, f_50, tf_50, br_48, g_51, et_52, et_53, et_54, rfl⟩ := hw
      have hP : va_P V.1 vwCl [(z 36, aI V 10 f_2), (z 15, aI V 900 f_49), (z 16, aI V 6 f_50), (z 0, .inr (10, mo z pz0_0 pz0_5 pz0_6 pz0_7 pz0_8 pz0_9 pz0_10 pz0_11 pz0_12 pz0_13 pz0_14 pz0_18 pz0_19 pz0_22 pz0_23 pz0_29)), (z 1, aI V 3075 fz1)] H := hP
      have hD := cpD hP hD
      refine lv_sipush (v := 625) hx hb dX10_mostAlike_39 (by decide) ?_
      refine lv_irem hx hb dX10_mostAlike_42 (by decide) ?_
      refine lv_topi (fun x_55 ex_55 => ?_)
      have bx_55 : iv 0 624 x_55 := by rw [ex_55]; exact iv_remp br_48 (k := 625) (by decide) (by decide)
      refine lv_goto (tgt := 47) hx hb dX10_mostAlike_43 (by decide) ?_
      refine va_iast hx hb hK hP hD hS 0 0 rfl rfl (iv_in b_37 (by decide)) dX10_mostAlike_47 (fun H locs hP hD hS => ?_)
      obtain ⟨f_56, hP, hD⟩ : ∃ f_56 : Nat → Int32, va_P V.1 vwCl [(z 36, aI V 10 f_56), (z 15, aI V 900 f_49), (z 16, aI V 6 f_50), (z 0, .inr (10, mo z pz0_0 pz0_5 pz0_6 pz0_7 pz0_8 pz0_9 pz0_10 pz0_11 pz0_12 pz0_13 pz0_14 pz0_18 pz0_19 pz0_22 pz0_23 pz0_29)), (z 1, aI V 3075 fz1)] H ∧ va_D A [(z 36, aI V 10 f_56), (z 15, aI V 900 f_49), (z 16, aI V 6 f_50), (z 0, .inr (10, mo z pz0_0 pz0_5 pz0_6 pz0_7 pz0_8 pz0_9 pz0_10 pz0_11 pz0_12 pz0_13 pz0_14 pz0_18 pz0_19 pz0_22 pz0_23 pz0_29)), (z 1, aI V 3075 fz1)] := ⟨_, hP, hD⟩
      obtain ⟨x_57, ex_57⟩ : ∃ z9 : Int32, z9 = u_1 + 1 := ⟨_, rfl⟩
      have bx_57 : iv 1 10 x_57 := by rw [ex_57]; exact iv_add b_37 (iv_c (1 : Int32) (a := 1) (b := 1) (by decide)) (by decide)
      refine lv_iinc (v := x_57) (lv' := [(4, .int x_57), (3, .int 0), (0, .ref (z 0)), (1, .int a1), (2, .int a2)]) hx hb dX10_mostAlike_48 hl (k := 0) rfl (by rw [ex_57]; rfl) (by decide) rfl (fun ls hl => ?_)
      refine lv_goto (tgt := 5) hx hb dX10_mostAlike_51 (by decide) ?_
      exact ihn_5 _ _ _ _ (by rw [en_5, ex_57]; exact mu_up b_37 (by decide)) ⟨x_57, f_56, f_49, f_50, (iv_w bx_57 (by decide)), tf_50, g_51, rfl, hP, hD, hS, lv_sub hl [0, 1, 2, 3, 4] rfl⟩
theorem dX10_attempt_0 : decode cX10_attempt 0 = .ok (.aload_n 0, 1) := by decide +kernel
theorem dX10_attempt_1 : decode cX10_attempt 1 = .ok (.iconst 0, 1) := by decide +kernel
theorem dX10_attempt_2 : decode cX10_attempt 2 = .ok (.putfield 1, 3) := by decide +kernel
theorem dX10_attempt_5 : decode cX10_attempt 5 = .ok (.aload_n 0, 1) := by decide +kernel
theorem dX10_attempt_6 : decode cX10_attempt 6 = .ok (.iload_n 1, 1) := by decide +kernel
theorem dX10_attempt_7 : decode cX10_attempt 7 = .ok (.iload_n 2, 1) := by decide +kernel
theorem dX10_attempt_8 : decode cX10_attempt 8 = .ok (.iconst 0, 1) := by decide +kernel
theorem dX10_attempt_9 : decode cX10_attempt 9 = .ok (.invokevirtual 425, 3) := by decide +kernel
theorem dX10_attempt_12 : decode cX10_attempt 12 = .ok (.istore_n 3, 1) := by decide +kernel
theorem dX10_attempt_13 : decode cX10_attempt 13 = .ok (.iload_n 3, 1) := by decide +kernel
theorem dX10_attempt_14 : decode cX10_attempt 14 = .ok (.ifCond .eq 5, 3) := by decide +kernel
theorem dX10_attempt_19 : decode cX10_attempt 19 = .ok (.aload_n 0, 1) := by decide +kernel
theorem dX10_attempt_20 : decode cX10_attempt 20 = .ok (.iload_n 1, 1) := by decide +kernel
theorem dX10_attempt_21 : decode cX10_attempt 21 = .ok (.iload_n 2, 1) := by decide +kernel
theorem dX10_attempt_22 : decode cX10_attempt 22 = .ok (.invokevirtual 432, 3) := by decide +kernel
theorem dX10_attempt_25 : decode cX10_attempt 25 = .ok (.istore 4, 2) := by decide +kernel
theorem dX10_attempt_27 : decode cX10_attempt 27 = .ok (.iconst (-1), 1) := by decide +kernel
theorem dX10_attempt_28 : decode cX10_attempt 28 = .ok (.istore 5, 2) := by decide +kernel
theorem dX10_attempt_30 : decode cX10_attempt 30 = .ok (.ldc_w 361, 3) := by decide +kernel
theorem dX10_attempt_33 : decode cX10_attempt 33 = .ok (.istore 6, 2) := by decide +kernel
theorem dX10_attempt_35 : decode cX10_attempt 35 = .ok (.iconst 0, 1) := by decide +kernel
theorem dX10_attempt_36 : decode cX10_attempt 36 = .ok (.istore 7, 2) := by decide +kernel
theorem dX10_attempt_38 : decode cX10_attempt 38 = .ok (.aload_n 0, 1) := by decide +kernel
theorem dX10_attempt_39 : decode cX10_attempt 39 = .ok (.iload 7, 2) := by decide +kernel
theorem dX10_attempt_41 : decode cX10_attempt 41 = .ok (.i2l, 1) := by decide +kernel
theorem dX10_attempt_42 : decode cX10_attempt 42 = .ok (.invokevirtual 266, 3) := by decide +kernel
theorem dX10_attempt_45 : decode cX10_attempt 45 = .ok (.ifCond .eq 42, 3) := by decide +kernel
theorem dX10_attempt_87 : decode cX10_attempt 87 = .ok (.iload 5, 2) := by decide +kernel
theorem dX10_attempt_89 : decode cX10_attempt 89 = .ok (.ireturn, 1) := by decide +kernel
theorem dX10_attempt_48 : decode cX10_attempt 48 = .ok (.iload 4, 2) := by decide +kernel
theorem dX10_attempt_50 : decode cX10_attempt 50 = .ok (.ifCond .eq 37, 3) := by decide +kernel
theorem dX10_attempt_53 : decode cX10_attempt 53 = .ok (.aload_n 0, 1) := by decide +kernel
theorem dX10_attempt_54 : decode cX10_attempt 54 = .ok (.iload 7, 2) := by decide +kernel
theorem dX10_attempt_56 : decode cX10_attempt 56 = .ok (.iload 4, 2) := by decide +kernel
theorem q_8_88 : Cond.code yX10_mostAlike prog_12_method_115_code 7 (some FieldType.int) ∈ gw := gw_8 (i := 88) (rfl) rfl
theorem q_8_87 : Cond.instanceMethod yX10_mostAlike ∈ gw := gw_8 (i := 87) (by decide +kernel) rfl
theorem q_s_121 : Cond.selects "BeaconDelayModel" yX10_mostAlike yX10_mostAlike ∈ gw := gw_s (i := 121) (by decide +kernel) rfl
theorem mt_X10_mostAlike : MtV yX10_mostAlike cX10_mostAlike 7 (some .int) 2 := ⟨⟨q_8_88, q_1_9, by decide +kernel, by decide +kernel, by decide +kernel⟩, q_8_87, q_s_121⟩
theorem q_8_85 : Cond.methodLink "BeaconDelayModel" 435 yX10_mostAlike ∈ gw := gw_8 (i := 85) (by decide +kernel) rfl
theorem dX10_attempt_58 : decode cX10_attempt 58 = .ok (.invokevirtual 435, 3) := by decide +kernel
theorem dX10_attempt_61 : decode cX10_attempt 61 = .ok (.istore 8, 2) := by decide +kernel
theorem dX10_attempt_63 : decode cX10_attempt 63 = .ok (.iload 8, 2) := by decide +kernel
theorem dX10_attempt_65 : decode cX10_attempt 65 = .ok (.iload 6, 2) := by decide +kernel
theorem dX10_attempt_67 : decode cX10_attempt 67 = .ok (.if_icmp .lt 6, 3) := by decide +kernel
theorem dX10_attempt_73 : decode cX10_attempt 73 = .ok (.iload 7, 2) := by decide +kernel
theorem dX10_attempt_75 : decode cX10_attempt 75 = .ok (.istore 5, 2) := by decide +kernel
theorem dX10_attempt_77 : decode cX10_attempt 77 = .ok (.iload 8, 2) := by decide +kernel
theorem dX10_attempt_79 : decode cX10_attempt 79 = .ok (.istore 6, 2) := by decide +kernel
theorem dX10_attempt_81 : decode cX10_attempt 81 = .ok (.iinc 7 1, 3) := by decide +kernel
theorem dX10_attempt_84 : decode cX10_attempt 84 = .ok (.goto (-46), 3) := by decide +kernel
theorem dX10_attempt_70 : decode cX10_attempt 70 = .ok (.goto 11, 3) := by decide +kernel
theorem dX10_attempt_17 : decode cX10_attempt 17 = .ok (.iload_n 3, 1) := by decide +kernel
theorem dX10_attempt_18 : decode cX10_attempt 18 = .ok (.ireturn, 1) := by decide +kernel
set_option maxHeartbeats 4000000 in
set_option maxRecDepth 100000 in
theorem k_X10_attempt_0 (l : Launch) (V : GV) (z : Nat → Nat) (a1 : Int32) (a2 : Int32) (pz0_0 : Int32) (pz0_5 : Int32) (pz0_6 : Int32) (pz0_7 : Int32) (pz0_8 : Int32) (pz0_9 : Int32) (pz0_10 : Int32) (pz0_11 : Int32) (pz0_12 : Int32) (pz0_13 : Int32) (pz0_14 : Int32) (pz0_18 : Int32) (pz0_19 : Int32) (pz0_22 : Int32) (pz0_23 : Int32) (pz0_29 : Int32) (fz1 : Nat → Int32) (fz15 : Nat → Int32) (fz16 : Nat → Int32) (fz36 : Nat → Int32) (fz37 : Nat → Int32) (fz38 : Nat → Int32) (fz39 : Nat → Int64) (bpz0_5 : iv 0 900 pz0_5) (bpz0_6 : iv 0 900 pz0_6) (bpz0_7 : iv 0 900 pz0_7) (bpz0_8 : iv 0 900 pz0_8) (bpz0_10 : iv 0 999 pz0_10) (bpz0_11 : iv 0 4 pz0_11) (bpz0_12 : iv 0 900 pz0_12) (bpz0_13 : iv 0 4 pz0_13) (bpz0_14 : iv (-1) 900 pz0_14) (bpz0_18 : iv 0 2 pz0_18) (bpz0_22 : iv 0 9999 pz0_22) (bpz0_29 : iv 0 10000 pz0_29) (tfz1 : ivT tA fz1) (tfz16 : ivT tW fz16) (tfz37 : ∀ j, iv (-1) 3 (fz37 j)) (tfz38 : ∀ j, iv 0 40 (fz38 j)) (hf0 : RW fz1) : Ct l V yX10_attempt (.code yX10_attempt cX10_attempt 9 (some .int)) 6 [.ref (z 0), .int a1, .int a2] [(z 0, .inr (10, mo z pz0_0 pz0_5 pz0_6 pz0_7 pz0_8 pz0_9 pz0_10 pz0_11 pz0_12 pz0_13 pz0_14 pz0_18 pz0_19 pz0_22 pz0_23 pz0_29)), (z 1, aI V 3075 fz1), (z 15, aI V 900 fz15), (z 16, aI V 6 fz16), (z 36, aI V 10 fz36), (z 37, aI V 4 fz37), (z 38, aI V 4 fz38), (z 39, aJ V 160 fz39)] 0 0 (QI V (fun (r : Int32) (w : va_W) => ∃ (v0 : Int32) (g1 : Nat → Int32) (g2 : Nat → Int32) (g3 : Nat → Int32), (ivT tW g2) ∧ (RW fz1) ∧ w = [(z 0, .inr (10, mo z v0 pz0_5 pz0_6 pz0_7 pz0_8 pz0_9 pz0_10 pz0_11 pz0_12 pz0_13 pz0_14 pz0_18 pz0_19 pz0_22 pz0_23 pz0_29)), (z 1, aI V 3075 fz1), (z 15, aI V 900 g1), (z 16, aI V 6 g2), (z 36, aI V 10 g3), (z 37, aI V 4 fz37), (z 38, aI V 4 fz38), (z 39, aJ V 160 fz39)])) := by
  refine Ct.of (by decide) (Nat.le_of_ble_eq_true rfl) (fun p e s m below meth c A ls hx hb hr hml hown hlk hnm hg hP hK hD hE hA hS hl => ?_)
  have hl : lv_has ls 9 [(0, .ref (z 0)), (1, .int a1), (2, .int a2)] := hl
  refine lv_aload_n hx hb dX10_attempt_0 rfl (lv_at hl 0 rfl) ?_
  refine lv_iconst (v := 0) hx hb dX10_attempt_1 (by decide) ?_
  refine va_put (ci := 10) (v := .int 0) (ty := .int) (C := RX10) (T := TX10) (N := 40) hx hb hg inX10 tyX10 tyX10_ok nmX10 hown hK hP hD hS 0 rfl rfl 0 (by decide) (hg _ q_5_224) (fun _ h9 => h9) rfl (by decide +kernel) rfl rfl (Nat.le_of_ble_eq_true rfl) dX10_attempt_2 (fun H locs hP hD hS => ?_)
  have hP : va_P V.1 vwCl [(z 0, .inr (10, mo z 0 pz0_5 pz0_6 pz0_7 pz0_8 pz0_9 pz0_10 pz0_11 pz0_12 pz0_13 pz0_14 pz0_18 pz0_19 pz0_22 pz0_23 pz0_29)), (z 1, aI V 3075 fz1), (z 15, aI V 900 fz15), (z 16, aI V 6 fz16), (z 36, aI V 10 fz36), (z 37, aI V 4 fz37), (z 38, aI V 4 fz38), (z 39, aJ V 160 fz39)] H := hP
  have hD := cpD hP hD
  refine lv_aload_n hx hb dX10_attempt_5 rfl (lv_at hl 0 rfl) ?_
  refine lv_iload_n hx hb dX10_attempt_6 rfl (lv_at hl 1 rfl) ?_
  refine lv_iload_n hx hb dX10_attempt_7 rfl (lv_at hl 2 rfl) ?_
  refine lv_iconst (v := 0) hx hb dX10_attempt_8 (by decide) ?_
  refine jnI (wr := [(z 15, aI V 900 fz15), (z 16, aI V 6 fz16), (z 36, aI V 10 fz36)]) (rnV (rest := []) ⟨hx, hb, hml, hown, hg⟩ (k_X10_noTold_0 l V z a1 a2 0 0 pz0_5 pz0_6 pz0_7 pz0_8 pz0_9 pz0_10 pz0_11 pz0_12 pz0_13 pz0_14 pz0_18 pz0_19 pz0_22 pz0_23 pz0_29 fz1 fz37 fz38 fz39 bpz0_5 bpz0_6 bpz0_7 bpz0_8 bpz0_10 bpz0_11 bpz0_12 bpz0_13 bpz0_14 bpz0_18 bpz0_22 bpz0_29 tfz1 tfz37 tfz38) mt_X10_noTold q_8_51 ⟨Nat.le_of_ble_eq_true rfl, Nat.le_of_ble_eq_true rfl⟩ hK hP hD hS hA hE [0, 1, 5, 6, 7] rfl rfl 0 rfl rfl rfl rfl hl.1 rfl (Nat.le_of_ble_eq_true rfl) dX10_attempt_9 ⟨Nat.le_of_ble_eq_true rfl, Nat.le_of_ble_eq_true rfl⟩) hP hD hS hA [0, 1, 5, 6, 7] [2, 3, 4] rfl rfl rfl (by decide) (fun r_1 w H locs hw hP hD hS => ?_)
  obtain ⟨br_1, g_2, g_3, g_4, rfl⟩ := hw
  have hP : va_P V.1 vwCl [(z 15, aI V 900 fz15), (z 16, aI V 6 fz16), (z 36, aI V 10 fz36), (z 0, .inr (10, mo z 0 pz0_5 pz0_6 pz0_7 pz0_8 pz0_9 pz0_10 pz0_11 pz0_12 pz0_13 pz0_14 pz0_18 pz0_19 pz0_22 pz0_23 pz0_29)), (z 1, aI V 3075 fz1), (z 37, aI V 4 fz37), (z 38, aI V 4 fz38), (z 39, aJ V 160 fz39)] H := hP
  have hD := cpD hP hD
  refine lv_istore_n (lv' := [(3, .int r_1), (0, .ref (z 0)), (1, .int a1), (2, .int a2)]) hx hb dX10_attempt_12 rfl hl (by decide) rfl (fun ls hl => ?_)
  refine lv_iload_n hx hb dX10_attempt_13 rfl (lv_at hl 0 rfl) ?_
  refine lv_if_eq (tgt := 19) hx hb dX10_attempt_14 (by decide) (fun c_5 => ?_) (fun c_5 => ?_)
  · have b_6 : iv 0 0 r_1 := iv_q c_5 (iv_c (0 : Int32) (a := 0) (b := 0) (by decide))
    have b_7 : iv 0 3 a1 := iv_cap (g_3 (iv_eqp b_6 (iv_c (0 : Int32) (by decide)))) (iv_top a1) (by decide)
    have b_8 : iv 0 3 a2 := iv_cap (g_4 (iv_eqp b_6 (iv_c (0 : Int32) (by decide)))) (iv_top a2) (by decide)
    refine lv_aload_n hx hb dX10_attempt_19 rfl (lv_at hl 1 rfl) ?_
    refine lv_iload_n hx hb dX10_attempt_20 rfl (lv_at hl 2 rfl) ?_
    refine lv_iload_n hx hb dX10_attempt_21 rfl (lv_at hl 3 rfl) ?_
    refine jnI (wr := [(z 36, aI V 10 fz36), (z 37, aI V 4 fz37)]) (rnV (rest := []) ⟨hx, hb, hml, hown, hg⟩ (k_X10_weathersOf_0 l V z a1 a2 fz15 fz16 0 pz0_5 pz0_6 pz0_7 pz0_8 pz0_9 pz0_10 pz0_11 pz0_12 pz0_13 pz0_14 pz0_18 pz0_19 pz0_22 pz0_23 pz0_29 fz1 fz38 fz39 b_7 b_8 tfz16 bpz0_5 bpz0_6 bpz0_7 bpz0_8 bpz0_10 bpz0_11 bpz0_12 bpz0_13 bpz0_14 bpz0_18 bpz0_22 bpz0_29 tfz1 tfz38 hf0) mt_X10_weathersOf q_8_77 ⟨Nat.le_of_ble_eq_true rfl, Nat.le_of_ble_eq_true rfl⟩ hK hP hD hS hA hE [0, 1, 3, 4, 6, 7] rfl rfl 3 rfl rfl rfl rfl hl.1 rfl (Nat.le_of_ble_eq_true rfl) dX10_attempt_22 ⟨Nat.le_of_ble_eq_true rfl, Nat.le_of_ble_eq_true rfl⟩) hP hD hS hA [0, 1, 3, 4, 6, 7] [2, 5] rfl rfl rfl (by decide) (fun r_9 w H locs hw hP hD hS => ?_)
    obtain ⟨f_10, f_11, tf_11, g_12, rfl⟩ := hw
    have hP : va_P V.1 vwCl [(z 36, aI V 10 fz36), (z 37, aI V 4 fz37), (z 15, aI V 900 f_10), (z 16, aI V 6 f_11), (z 0, .inr (10, mo z 0 pz0_5 pz0_6 pz0_7 pz0_8 pz0_9 pz0_10 pz0_11 pz0_12 pz0_13 pz0_14 pz0_18 pz0_19 pz0_22 pz0_23 pz0_29)), (z 1, aI V 3075 fz1), (z 38, aI V 4 fz38), (z 39, aJ V 160 fz39)] H := hP
    have hD := cpD hP hD
    refine lv_istore (lv' := [(4, .int r_9), (3, .int r_1), (0, .ref (z 0)), (1, .int a1), (2, .int a2)]) hx hb dX10_attempt_25 hl (by decide) rfl (fun ls hl => ?_)
    refine lv_iconst (v := (-1)) hx hb dX10_attempt_27 (by decide) ?_
    refine lv_istore (lv' := [(5, .int (-1)), (4, .int r_9), (3, .int r_1), (0, .ref (z 0)), (1, .int a1), (2, .int a2)]) hx hb dX10_attempt_28 hl (by decide) rfl (fun ls hl => ?_)
    refine lv_ldcw (v := 268435456) hx hb hown (hg _ q_7_202) dX10_attempt_30 ?_
    refine lv_istore (lv' := [(6, .int 268435456), (5, .int (-1)), (4, .int r_9), (3, .int r_1), (0, .ref (z 0)), (1, .int a1), (2, .int a2)]) hx hb dX10_attempt_33 hl (by decide) rfl (fun ls hl => ?_)
    refine lv_iconst (v := 0) hx hb dX10_attempt_35 (by decide) ?_
    refine lv_istore (lv' := [(7, .int 0), (6, .int 268435456), (5, .int (-1)), (4, .int r_9), (3, .int r_1), (0, .ref (z 0)), (1, .int a1), (2, .int a2)]) hx hb dX10_attempt_36 hl (by decide) rfl (fun ls hl => ?_)
    refine loopF (X := fun (n_19 : Nat) (H : Heap) (locs : List Loc) (ls : Array Slot) => ∃ (u_13 : Int32) (u_14 : Int32) (u_15 : Int32) (f_16 : Nat → Int32) (f_17 : Nat → Int32) (f_18 : Nat → Int32), (iv 0 4 u_13) ∧ (ivT tW f_18) ∧ (RW fz1) ∧ n_19 = (2147483647 - (u_13 : Int32).toInt).toNat ∧ va_P V.1 vwCl [(z 36, aI V 10 f_16), (z 37, aI V 4 fz37), (z 15, aI V 900 f_17), (z 16, aI V 6 f_18), (z 0, .inr (10, mo z 0 pz0_5 pz0_6 pz0_7 pz0_8 pz0_9 pz0_10 pz0_11 pz0_12 pz0_13 pz0_14 pz0_18 pz0_19 pz0_22 pz0_23 pz0_29)), (z 1, aI V 3075 fz1), (z 38, aI V 4 fz38), (z 39, aJ V 160 fz39)] H ∧ va_D A [(z 36, aI V 10 f_16), (z 37, aI V 4 fz37), (z 15, aI V 900 f_17), (z 16, aI V 6 f_18), (z 0, .inr (10, mo z 0 pz0_5 pz0_6 pz0_7 pz0_8 pz0_9 pz0_10 pz0_11 pz0_12 pz0_13 pz0_14 pz0_18 pz0_19 pz0_22 pz0_23 pz0_29)), (z 1, aI V 3075 fz1), (z 38, aI V 4 fz38), (z 39, aJ V 160 fz39)] ∧ va_S A s.heap H locs ∧ lv_has ls 9 [(7, .int u_13), (6, .int u_14), (5, .int u_15), (4, .int r_9), (3, .int r_1), (0, .ref (z 0)), (1, .int a1), (2, .int a2)]) (g := fun ls => F0 m 38 ls []) (fun n_19 H locs ls hX ihn_19 => ?_) _ ⟨0, 268435456, (-1), fz36, f_10, f_11, (iv_c (0 : Int32) (by decide)), tf_11, g_12, rfl, hP, hD, hS, lv_sub hl [0, 1, 2, 3, 4, 5, 6, 7] rfl⟩
    obtain ⟨u_13, u_14, u_15, f_16, f_17, f_18, bu_13, tf_18, inn_19_0, en_19, hP, hD, hS, hl⟩ := hX
    refine lv_aload_n hx hb dX10_attempt_38 rfl (lv_at hl 5 rfl) ?_
    refine lv_iload hx hb dX10_attempt_39 (lv_at hl 0 rfl) ?_
    refine lv_i2l hx hb dX10_attempt_41 rfl ?_
    refine lv_topl (fun j_20 ej_20 => ?_)
    have bj_20 : ivL 0 4 j_20 := by rw [ej_20]; exact ivL_of bu_13
    refine jnI (wr := [(z 36, aI V 10 f_16), (z 37, aI V 4 fz37), (z 15, aI V 900 f_17), (z 16, aI V 6 f_18), (z 38, aI V 4 fz38), (z 39, aJ V 160 fz39)]) (rnV (rest := []) ⟨hx, hb, hml, hown, hg⟩ (k_X10_isNight_0 l V z j_20 0 pz0_5 pz0_6 pz0_7 pz0_8 pz0_9 pz0_10 pz0_11 pz0_12 pz0_13 pz0_14 pz0_18 pz0_19 pz0_22 pz0_23 pz0_29 fz1 bpz0_5 bpz0_6 bpz0_7 bpz0_8 bpz0_10 bpz0_11 bpz0_12 bpz0_13 bpz0_14 bpz0_18 bpz0_22 bpz0_29 tfz1) mt_X10_isNight q_7_7 ⟨Nat.le_of_ble_eq_true rfl, Nat.le_of_ble_eq_true rfl⟩ hK hP hD hS hA hE [4, 5] rfl rfl 4 rfl rfl rfl rfl hl.1 rfl (Nat.le_of_ble_eq_true rfl) dX10_attempt_42 ⟨Nat.le_of_ble_eq_true rfl, Nat.le_of_ble_eq_true rfl⟩) hP hD hS hA [4, 5] [0, 1, 2, 3, 6, 7] rfl rfl rfl (by decide) (fun r_21 w H locs hw hP hD hS => ?_)
    obtain ⟨br_21, g_22, et_23, rfl⟩ := hw
    have hP : va_P V.1 vwCl [(z 36, aI V 10 f_16), (z 37, aI V 4 fz37), (z 15, aI V 900 f_17), (z 16, aI V 6 f_18), (z 38, aI V 4 fz38), (z 39, aJ V 160 fz39), (z 0, .inr (10, mo z 0 pz0_5 pz0_6 pz0_7 pz0_8 pz0_9 pz0_10 pz0_11 pz0_12 pz0_13 pz0_14 pz0_18 pz0_19 pz0_22 pz0_23 pz0_29)), (z 1, aI V 3075 fz1)] H := hP
    have hD := cpD hP hD
    refine lv_if_eq (tgt := 87) hx hb dX10_attempt_45 (by decide) (fun c_24 => ?_) (fun c_24 => ?_)
    · have b_25 : iv 0 0 r_21 := iv_q c_24 (iv_c (0 : Int32) (a := 0) (b := 0) (by decide))
      refine lv_iload hx hb dX10_attempt_87 (lv_at hl 2 rfl) ?_
      have hP := subP (ws' := [(z 0, .inr (10, mo z 0 pz0_5 pz0_6 pz0_7 pz0_8 pz0_9 pz0_10 pz0_11 pz0_12 pz0_13 pz0_14 pz0_18 pz0_19 pz0_22 pz0_23 pz0_29)), (z 1, aI V 3075 fz1), (z 15, aI V 900 f_17), (z 16, aI V 6 f_18), (z 36, aI V 10 f_16), (z 37, aI V 4 fz37), (z 38, aI V 4 fz38), (z 39, aJ V 160 fz39)]) hP [6, 7, 2, 3, 0, 1, 4, 5] rfl
      have hD := subD hP hD [6, 7, 2, 3, 0, 1, 4, 5] rfl rfl
      exact fiI hx hb hr hlk hK hP hD hS dX10_attempt_89 (Nat.le_of_ble_eq_true rfl) (Nat.le_of_ble_eq_true rfl) (⟨0, f_17, f_18, f_16, tf_18, inn_19_0, rfl⟩)
    · have b_26 : iv 1 1 r_21 := iv_n0 c_24 br_21 (iv_c (0 : Int32) (a := 0) (b := 0) (by decide)) (by decide)
      have b_27 : ivL 0 3 j_20 := ivL_cap (g_22 (iv_eqp b_26 (iv_c (1 : Int32) (by decide)))) bj_20 (by decide)
      have b_28 : iv 0 3 u_13 := iv_cap (ivL_i ej_20 b_27) bu_13 (by decide)
      refine lv_iload hx hb dX10_attempt_48 (lv_at hl 3 rfl) ?_
      refine lv_if_eq (tgt := 87) hx hb dX10_attempt_50 (by decide) (fun c_29 => ?_) (fun c_29 => ?_)
      · have b_30 : iv 0 0 r_9 := iv_q c_29 (iv_c (0 : Int32) (a := 0) (b := 0) (by decide))
        refine lv_iload hx hb dX10_attempt_87 (lv_at hl 2 rfl) ?_
        have hP := subP (ws' := [(z 0, .inr (10, mo z 0 pz0_5 pz0_6 pz0_7 pz0_8 pz0_9 pz0_10 pz0_11 pz0_12 pz0_13 pz0_14 pz0_18 pz0_19 pz0_22 pz0_23 pz0_29)), (z 1, aI V 3075 fz1), (z 15, aI V 900 f_17), (z 16, aI V 6 f_18), (z 36, aI V 10 f_16), (z 37, aI V 4 fz37), (z 38, aI V 4 fz38), (z 39, aJ V 160 fz39)]) hP [6, 7, 2, 3, 0, 1, 4, 5] rfl
        have hD := subD hP hD [6, 7, 2, 3, 0, 1, 4, 5] rfl rfl
        exact fiI hx hb hr hlk hK hP hD hS dX10_attempt_89 (Nat.le_of_ble_eq_true rfl) (Nat.le_of_ble_eq_true rfl) (⟨0, f_17, f_18, f_16, tf_18, inn_19_0, rfl⟩)
      · refine lv_aload_n hx hb dX10_attempt_53 rfl (lv_at hl 5 rfl) ?_
        refine lv_iload hx hb dX10_attempt_54 (lv_at hl 0 rfl) ?_
        refine lv_iload hx hb dX10_attempt_56 (lv_at hl 3 rfl) ?_
        refine jnI (wr := [(z 37, aI V 4 fz37), (z 38, aI V 4 fz38), (z 39, aJ V 160 fz39)]) (rnV (rest := []) ⟨hx, hb, hml, hown, hg⟩ (k_X10_mostAlike_0 l V z u_13 r_9 f_16 f_17 f_18 0 pz0_5 pz0_6 pz0_7 pz0_8 pz0_9 pz0_10 pz0_11 pz0_12 pz0_13 pz0_14 pz0_18 pz0_19 pz0_22 pz0_23 pz0_29 fz1 b_28 tf_18 bpz0_5 bpz0_6 bpz0_7 bpz0_8 bpz0_10 bpz0_11 bpz0_12 bpz0_13 bpz0_14 bpz0_18 bpz0_22 bpz0_29 tfz1 inn_19_0) mt_X10_mostAlike q_8_85 ⟨Nat.le_of_ble_eq_true rfl, Nat.le_of_ble_eq_true rfl⟩ hK hP hD hS hA hE [0, 2, 3, 6, 7] rfl rfl 6 rfl rfl rfl rfl hl.1 rfl (Nat.le_of_ble_eq_true rfl) dX10_attempt_58 ⟨Nat.le_of_ble_eq_true rfl, Nat.le_of_ble_eq_true rfl⟩) hP hD hS hA [0, 2, 3, 6, 7] [1, 4, 5] rfl rfl rfl (by decide) (fun r_31 w H locs hw hP hD hS => ?_)
        obtain ⟨f_32, f_33, f_34, tf_34, g_35, rfl⟩ := hw
        have hP : va_P V.1 vwCl [(z 37, aI V 4 fz37), (z 38, aI V 4 fz38), (z 39, aJ V 160 fz39), (z 36, aI V 10 f_32), (z 15, aI V 900 f_33), (z 16, aI V 6 f_34), (z 0, .inr (10, mo z 0 pz0_5 pz0_6 pz0_7 pz0_8 pz0_9 pz0_10 pz0_11 pz0_12 pz0_13 pz0_14 pz0_18 pz0_19 pz0_22 pz0_23 pz0_29)), (z 1, aI V 3075 fz1)] H := hP
        have hD := cpD hP hD
        refine lv_istore (lv' := [(8, .int r_31), (7, .int u_13), (6, .int u_14), (5, .int u_15), (4, .int r_9), (3, .int r_1), (0, .ref (z 0)), (1, .int a1), (2, .int a2)]) hx hb dX10_attempt_61 hl (by decide) rfl (fun ls hl => ?_)
        refine lv_iload hx hb dX10_attempt_63 (lv_at hl 0 rfl) ?_
        refine lv_iload hx hb dX10_attempt_65 (lv_at hl 2 rfl) ?_
        refine lv_icmp_lt (tgt := 73) hx hb dX10_attempt_67 (by decide) (fun c_36 => ?_) (fun c_36 => ?_)
        · have b_37 : iv (-2147483648) 2147483646 r_31 := iv_l1 c_36 (iv_top r_31) (iv_top u_14) (by decide)
          have b_38 : iv (-2147483647) 2147483647 u_14 := iv_l2 c_36 (iv_top r_31) (iv_top u_14) (by decide)
          refine lv_iload hx hb dX10_attempt_73 (lv_at hl 1 rfl) ?_
          refine lv_istore (lv' := [(5, .int u_13), (8, .int r_31), (7, .int u_13), (6, .int u_14), (4, .int r_9), (3, .int r_1), (0, .ref (z 0)), (1, .int a1), (2, .int a2)]) hx hb dX10_attempt_75 hl (by decide) rfl (fun ls hl => ?_)
          refine lv_iload hx hb dX10_attempt_77 (lv_at hl 1 rfl) ?_
          refine lv_istore (lv' := [(6, .int r_31), (5, .int u_13), (8, .int r_31), (7, .int u_13), (4, .int r_9), (3, .int r_1), (0, .ref (z 0)), (1, .int a1), (2, .int a2)]) hx hb dX10_attempt_79 hl (by decide) rfl (fun ls hl => ?_)
          obtain ⟨x_39, ex_39⟩ : ∃ z9 : Int32, z9 = u_13 + 1 := ⟨_, rfl⟩
          have bx_39 : iv 1 4 x_39 := by rw [ex_39]; exact iv_add b_28 (iv_c (1 : Int32) (a := 1) (b := 1) (by decide)) (by decide)
          refine lv_iinc (v := x_39) (lv' := [(7, .int x_39), (6, .int r_31), (5, .int u_13), (8, .int r_31), (4, .int r_9), (3, .int r_1), (0, .ref (z 0)), (1, .int a1), (2, .int a2)]) hx hb dX10_attempt_81 hl (k := 3) rfl (by rw [ex_39]; rfl) (by decide) rfl (fun ls hl => ?_)
          refine lv_goto (tgt := 38) hx hb dX10_attempt_84 (by decide) ?_
          have hP := subP (ws' := [(z 36, aI V 10 f_32), (z 37, aI V 4 fz37), (z 15, aI V 900 f_33), (z 16, aI V 6 f_34), (z 0, .inr (10, mo z 0 pz0_5 pz0_6 pz0_7 pz0_8 pz0_9 pz0_10 pz0_11 pz0_12 pz0_13 pz0_14 pz0_18 pz0_19 pz0_22 pz0_23 pz0_29)), (z 1, aI V 3075 fz1), (z 38, aI V 4 fz38), (z 39, aJ V 160 fz39)]) hP [3, 0, 4, 5, 6, 7, 1, 2] rfl
          have hD := subD hP hD [3, 0, 4, 5, 6, 7, 1, 2] rfl rfl
          exact ihn_19 _ _ _ _ (by rw [en_19, ex_39]; exact mu_up b_28 (by decide)) ⟨x_39, r_31, u_13, f_32, f_33, f_34, (iv_w bx_39 (by decide)), tf_34, g_35, rfl, hP, hD, hS, lv_sub hl [0, 1, 2, 4, 5, 6, 7, 8] rfl⟩
        · refine lv_goto (tgt := 81) hx hb dX10_attempt_70 (by decide) ?_
          obtain ⟨x_40, ex_40⟩ : ∃ z9 : Int32, z9 = u_13 + 1 := ⟨_, rfl⟩
          have bx_40 : iv 1 4 x_40 := by rw [ex_40]; exact iv_add b_28 (iv_c (1 : Int32) (a := 1) (b := 1) (by decide)) (by decide)
          refine lv_iinc (v := x_40) (lv' := [(7, .int x_40), (8, .int r_31), (6, .int u_14), (5, .int u_15), (4, .int r_9), (3, .int r_1), (0, .ref (z 0)), (1, .int a1), (2, .int a2)]) hx hb dX10_attempt_81 hl (k := 1) rfl (by rw [ex_40]; rfl) (by decide) rfl (fun ls hl => ?_)
          refine lv_goto (tgt := 38) hx hb dX10_attempt_84 (by decide) ?_
          have hP := subP (ws' := [(z 36, aI V 10 f_32), (z 37, aI V 4 fz37), (z 15, aI V 900 f_33), (z 16, aI V 6 f_34), (z 0, .inr (10, mo z 0 pz0_5 pz0_6 pz0_7 pz0_8 pz0_9 pz0_10 pz0_11 pz0_12 pz0_13 pz0_14 pz0_18 pz0_19 pz0_22 pz0_23 pz0_29)), (z 1, aI V 3075 fz1), (z 38, aI V 4 fz38), (z 39, aJ V 160 fz39)]) hP [3, 0, 4, 5, 6, 7, 1, 2] rfl
          have hD := subD hP hD [3, 0, 4, 5, 6, 7, 1, 2] rfl rfl
          exact ihn_19 _ _ _ _ (by rw [en_19, ex_40]; exact mu_up b_28 (by decide)) ⟨x_40, u_14, u_15, f_32, f_33, f_34, (iv_w bx_40 (by decide)), tf_34, g_35, rfl, hP, hD, hS, lv_sub hl [0, 2, 3, 4, 5, 6, 7, 8] rfl⟩
  · have b_41 : iv (-6) (-1) r_1 := iv_n1 c_5 br_1 (iv_c (0 : Int32) (a := 0) (b := 0) (by decide)) (by decide)
    refine lv_iload_n hx hb dX10_attempt_17 rfl (lv_at hl 0 rfl) ?_
    have hP := subP (ws' := [(z 0, .inr (10, mo z 0 pz0_5 pz0_6 pz0_7 pz0_8 pz0_9 pz0_10 pz0_11 pz0_12 pz0_13 pz0_14 pz0_18 pz0_19 pz0_22 pz0_23 pz0_29)), (z 1, aI V 3075 fz1), (z 15, aI V 900 fz15), (z 16, aI V 6 fz16), (z 36, aI V 10 fz36), (z 37, aI V 4 fz37), (z 38, aI V 4 fz38), (z 39, aJ V 160 fz39)]) hP [3, 4, 0, 1, 2, 5, 6, 7] rfl
    have hD := subD hP hD [3, 4, 0, 1, 2, 5, 6, 7] rfl rfl
    exact fiI hx hb hr hlk hK hP hD hS dX10_attempt_18 (Nat.le_of_ble_eq_true rfl) (Nat.le_of_ble_eq_true rfl) (⟨0, fz15, fz16, fz36, tfz16, hf0, rfl⟩)
theorem dX10_otherAt_0 : decode cX10_otherAt 0 = .ok (.iconst 0, 1) := by decide +kernel
theorem dX10_otherAt_1 : decode cX10_otherAt 1 = .ok (.istore_n 2, 1) := by decide +kernel
theorem dX10_otherAt_2 : decode cX10_otherAt 2 = .ok (.iconst 0, 1) := by decide +kernel
theorem dX10_otherAt_3 : decode cX10_otherAt 3 = .ok (.istore_n 3, 1) := by decide +kernel
theorem dX10_otherAt_4 : decode cX10_otherAt 4 = .ok (.iload_n 3, 1) := by decide +kernel
theorem dX10_otherAt_5 : decode cX10_otherAt 5 = .ok (.iconst 4, 1) := by decide +kernel
theorem dX10_otherAt_6 : decode cX10_otherAt 6 = .ok (.if_icmp .ge 74, 3) := by decide +kernel
theorem dX10_otherAt_80 : decode cX10_otherAt 80 = .ok (.iload_n 2, 1) := by decide +kernel
theorem dX10_otherAt_81 : decode cX10_otherAt 81 = .ok (.ireturn, 1) := by decide +kernel
theorem dX10_otherAt_9 : decode cX10_otherAt 9 = .ok (.aload_n 0, 1) := by decide +kernel
theorem dX10_otherAt_10 : decode cX10_otherAt 10 = .ok (.getfield 49, 3) := by decide +kernel
theorem dX10_otherAt_13 : decode cX10_otherAt 13 = .ok (.iconst 4, 1) := by decide +kernel
theorem dX10_otherAt_14 : decode cX10_otherAt 14 = .ok (.iload_n 1, 1) := by decide +kernel
theorem dX10_otherAt_15 : decode cX10_otherAt 15 = .ok (.imul, 1) := by decide +kernel
theorem dX10_otherAt_16 : decode cX10_otherAt 16 = .ok (.iload_n 3, 1) := by decide +kernel
theorem dX10_otherAt_17 : decode cX10_otherAt 17 = .ok (.iadd, 1) := by decide +kernel
theorem dX10_otherAt_18 : decode cX10_otherAt 18 = .ok (.iaload, 1) := by decide +kernel
theorem dX10_otherAt_19 : decode cX10_otherAt 19 = .ok (.istore 4, 2) := by decide +kernel
theorem dX10_otherAt_21 : decode cX10_otherAt 21 = .ok (.iload 4, 2) := by decide +kernel
theorem dX10_otherAt_23 : decode cX10_otherAt 23 = .ok (.iconst (-1), 1) := by decide +kernel
theorem dX10_otherAt_24 : decode cX10_otherAt 24 = .ok (.if_icmp .ne 6, 3) := by decide +kernel
theorem dX10_otherAt_30 : decode cX10_otherAt 30 = .ok (.aload_n 0, 1) := by decide +kernel
theorem dX10_otherAt_31 : decode cX10_otherAt 31 = .ok (.getfield 52, 3) := by decide +kernel
theorem dX10_otherAt_34 : decode cX10_otherAt 34 = .ok (.iload 4, 2) := by decide +kernel
theorem dX10_otherAt_36 : decode cX10_otherAt 36 = .ok (.iaload, 1) := by decide +kernel
theorem dX10_otherAt_37 : decode cX10_otherAt 37 = .ok (.ldc_w 361, 3) := by decide +kernel
theorem dX10_otherAt_40 : decode cX10_otherAt 40 = .ok (.if_icmp .ne 7, 3) := by decide +kernel
theorem dX10_otherAt_47 : decode cX10_otherAt 47 = .ok (.aload_n 0, 1) := by decide +kernel
theorem dX10_otherAt_48 : decode cX10_otherAt 48 = .ok (.getfield 52, 3) := by decide +kernel
theorem dX10_otherAt_51 : decode cX10_otherAt 51 = .ok (.iload 4, 2) := by decide +kernel
theorem dX10_otherAt_53 : decode cX10_otherAt 53 = .ok (.iaload, 1) := by decide +kernel
theorem dX10_otherAt_54 : decode cX10_otherAt 54 = .ok (.iconst 1, 1) := by decide +kernel
theorem dX10_otherAt_55 : decode cX10_otherAt 55 = .ok (.iadd, 1) := by decide +kernel
theorem dX10_otherAt_56 : decode cX10_otherAt 56 = .ok (.iload_n 2, 1) := by decide +kernel
theorem dX10_otherAt_57 : decode cX10_otherAt 57 = .ok (.if_icmp .le 15, 3) := by decide +kernel
theorem dX10_otherAt_72 : decode cX10_otherAt 72 = .ok (.iload_n 2, 1) := by decide +kernel
theorem dX10_otherAt_73 : decode cX10_otherAt 73 = .ok (.istore_n 2, 1) := by decide +kernel
theorem dX10_otherAt_74 : decode cX10_otherAt 74 = .ok (.iinc 3 1, 3) := by decide +kernel
theorem dX10_otherAt_77 : decode cX10_otherAt 77 = .ok (.goto (-73), 3) := by decide +kernel
theorem dX10_otherAt_60 : decode cX10_otherAt 60 = .ok (.aload_n 0, 1) := by decide +kernel
theorem dX10_otherAt_61 : decode cX10_otherAt 61 = .ok (.getfield 52, 3) := by decide +kernel
theorem dX10_otherAt_64 : decode cX10_otherAt 64 = .ok (.iload 4, 2) := by decide +kernel
theorem dX10_otherAt_66 : decode cX10_otherAt 66 = .ok (.iaload, 1) := by decide +kernel
theorem dX10_otherAt_67 : decode cX10_otherAt 67 = .ok (.iconst 1, 1) := by decide +kernel
theorem dX10_otherAt_68 : decode cX10_otherAt 68 = .ok (.iadd, 1) := by decide +kernel
theorem dX10_otherAt_69 : decode cX10_otherAt 69 = .ok (.goto 4, 3) := by decide +kernel
theorem dX10_otherAt_43 : decode cX10_otherAt 43 = .ok (.ldc_w 361, 3) := by decide +kernel
theorem dX10_otherAt_46 : decode cX10_otherAt 46 = .ok (.ireturn, 1) := by decide +kernel
theorem dX10_otherAt_27 : decode cX10_otherAt 27 = .ok (.goto 47, 3) := by decide +kernel
set_option maxHeartbeats 4000000 in
set_option maxRecDepth 100000 in
theorem k_X10_otherAt_0 (l : Launch) (V : GV) (z : Nat → Nat) (a1 : Int32) (fz26 : Nat → Int32) (fz25 : Nat → Int32) (pz0_0 : Int32) (pz0_5 : Int32) (pz0_6 : Int32) (pz0_7 : Int32) (pz0_8 : Int32) (pz0_9 : Int32) (pz0_10 : Int32) (pz0_11 : Int32) (pz0_12 : Int32) (pz0_13 : Int32) (pz0_14 : Int32) (pz0_18 : Int32) (pz0_19 : Int32) (pz0_22 : Int32) (pz0_23 : Int32) (pz0_29 : Int32) (ba1 : iv 0 9999 a1) (tfz26 : ∀ j, iv 0 268435456 (fz26 j)) (tfz25 : ∀ j, iv (-1) 9999 (fz25 j)) (bpz0_5 : iv 0 900 pz0_5) (bpz0_6 : iv 0 900 pz0_6) (bpz0_7 : iv 0 900 pz0_7) (bpz0_8 : iv 0 900 pz0_8) (bpz0_10 : iv 0 999 pz0_10) (bpz0_11 : iv 0 4 pz0_11) (bpz0_12 : iv 0 900 pz0_12) (bpz0_13 : iv 0 4 pz0_13) (bpz0_14 : iv (-1) 900 pz0_14) (bpz0_18 : iv 0 2 pz0_18) (bpz0_22 : iv 0 9999 pz0_22) (bpz0_29 : iv 0 10000 pz0_29) : Ct l V yX10_otherAt (.code yX10_otherAt cX10_otherAt 5 (some .int)) 1 [.ref (z 0), .int a1] [(z 26, aI V 10000 fz26), (z 25, aI V 40000 fz25), (z 0, .inr (10, mo z pz0_0 pz0_5 pz0_6 pz0_7 pz0_8 pz0_9 pz0_10 pz0_11 pz0_12 pz0_13 pz0_14 pz0_18 pz0_19 pz0_22 pz0_23 pz0_29))] 0 0 (QI V (fun (r : Int32) (w : va_W) => iv 0 268435456 r ∧ w = [(z 26, aI V 10000 fz26), (z 25, aI V 40000 fz25), (z 0, .inr (10, mo z pz0_0 pz0_5 pz0_6 pz0_7 pz0_8 pz0_9 pz0_10 pz0_11 pz0_12 pz0_13 pz0_14 pz0_18 pz0_19 pz0_22 pz0_23 pz0_29))])) := by
  refine Ct.of (by decide) (Nat.le_of_ble_eq_true rfl) (fun p e s m below meth c A ls hx hb hr hml hown hlk hnm hg hP hK hD hE hA hS hl => ?_)
  have hl : lv_has ls 5 [(0, .ref (z 0)), (1, .int a1)] := hl
  refine lv_iconst (v := 0) hx hb dX10_otherAt_0 (by decide) ?_
  refine lv_istore_n (lv' := [(2, .int 0), (0, .ref (z 0)), (1, .int a1)]) hx hb dX10_otherAt_1 rfl hl (by decide) rfl (fun ls hl => ?_)
  refine lv_iconst (v := 0) hx hb dX10_otherAt_2 (by decide) ?_
  refine lv_istore_n (lv' := [(3, .int 0), (2, .int 0), (0, .ref (z 0)), (1, .int a1)]) hx hb dX10_otherAt_3 rfl hl (by decide) rfl (fun ls hl => ?_)
  refine loopF (X := fun (n_3 : Nat) (H : Heap) (locs : List Loc) (ls : Array Slot) => ∃ (u_1 : Int32) (u_2 : Int32), (iv 0 4 u_1) ∧ (iv 0 268435456 u_2) ∧ n_3 = (2147483647 - (u_1 : Int32).toInt).toNat ∧ va_P V.1 vwCl [(z 26, aI V 10000 fz26), (z 25, aI V 40000 fz25), (z 0, .inr (10, mo z pz0_0 pz0_5 pz0_6 pz0_7 pz0_8 pz0_9 pz0_10 pz0_11 pz0_12 pz0_13 pz0_14 pz0_18 pz0_19 pz0_22 pz0_23 pz0_29))] H ∧ va_D A [(z 26, aI V 10000 fz26), (z 25, aI V 40000 fz25), (z 0, .inr (10, mo z pz0_0 pz0_5 pz0_6 pz0_7 pz0_8 pz0_9 pz0_10 pz0_11 pz0_12 pz0_13 pz0_14 pz0_18 pz0_19 pz0_22 pz0_23 pz0_29))] ∧ va_S A s.heap H locs ∧ lv_has ls 5 [(3, .int u_1), (2, .int u_2), (0, .ref (z 0)), (1, .int a1)]) (g := fun ls => F0 m 4 ls []) (fun n_3 H locs ls hX ihn_3 => ?_) _ ⟨0, 0, (iv_c (0 : Int32) (by decide)), (iv_c (0 : Int32) (by decide)), rfl, hP, hD, hS, lv_sub hl [0, 1, 2, 3] rfl⟩
  obtain ⟨u_1, u_2, bu_1, bu_2, en_3, hP, hD, hS, hl⟩ := hX
  refine lv_iload_n hx hb dX10_otherAt_4 rfl (lv_at hl 0 rfl) ?_
  refine lv_iconst (v := 4) hx hb dX10_otherAt_5 (by decide) ?_
  refine lv_icmp_ge (tgt := 80) hx hb dX10_otherAt_6 (by decide) (fun c_4 => ?_) (fun c_4 => ?_)
  · have b_5 : iv 4 4 u_1 := iv_e2 c_4 (iv_c (4 : Int32) (a := 4) (b := 4) (by decide)) bu_1 (by decide)
    refine lv_iload_n hx hb dX10_otherAt_80 rfl (lv_at hl 1 rfl) ?_
    exact fiI hx hb hr hlk hK hP hD hS dX10_otherAt_81 (Nat.le_of_ble_eq_true rfl) (Nat.le_of_ble_eq_true rfl) (⟨bu_2, rfl⟩)
  · have b_6 : iv 0 3 u_1 := iv_l1 (Int32.not_le.mp c_4) bu_1 (iv_c (4 : Int32) (a := 4) (b := 4) (by decide)) (by decide)
    refine lv_aload_n hx hb dX10_otherAt_9 rfl (lv_at hl 2 rfl) ?_
    refine va_get (ci := 10) (v := .ref (z 25)) (C := RX10) (T := TX10) (N := 40) hx hb hg inX10 hown hK hP 2 rfl rfl 25 (by decide) (hg _ q_6_9) (fun _ h9 => h9) rfl dX10_otherAt_10 ?_
    refine lv_iconst (v := 4) hx hb dX10_otherAt_13 (by decide) ?_
    refine lv_iload_n hx hb dX10_otherAt_14 rfl (lv_at hl 3 rfl) ?_
    refine lv_imul hx hb dX10_otherAt_15 ?_
    refine lv_topi (fun x_7 ex_7 => ?_)
    have bx_7 : iv 0 39996 x_7 := by rw [ex_7]; exact iv_cmul (iv_c (4 : Int32) (a := 4) (b := 4) (by decide)) ba1 (by decide)
    refine lv_iload_n hx hb dX10_otherAt_16 rfl (lv_at hl 0 rfl) ?_
    refine lv_iadd hx hb dX10_otherAt_17 ?_
    refine lv_topi (fun x_8 ex_8 => ?_)
    have bx_8 : iv 0 39999 x_8 := by rw [ex_8]; exact iv_add bx_7 b_6 (by decide)
    refine va_iald hx hb hK hP 1 0 rfl rfl (iv_in bx_8 (by decide)) dX10_otherAt_18 ?_
    refine lv_topi (fun x_9 ex_9 => ?_)
    have bx_9 : iv (-1) 9999 x_9 := by rw [ex_9]; exact tfz25 _
    refine lv_istore (lv' := [(4, .int x_9), (3, .int u_1), (2, .int u_2), (0, .ref (z 0)), (1, .int a1)]) hx hb dX10_otherAt_19 hl (by decide) rfl (fun ls hl => ?_)
    refine lv_iload hx hb dX10_otherAt_21 (lv_at hl 0 rfl) ?_
    refine lv_iconst (v := (-1)) hx hb dX10_otherAt_23 (by decide) ?_
    refine lv_icmp_ne (tgt := 30) hx hb dX10_otherAt_24 (by decide) (fun c_10 => ?_) (fun c_10 => ?_)
    · have b_11 : iv 0 9999 x_9 := iv_n0 c_10 bx_9 (iv_c ((-1) : Int32) (a := (-1)) (b := (-1)) (by decide)) (by decide)
      refine lv_aload_n hx hb dX10_otherAt_30 rfl (lv_at hl 3 rfl) ?_
      refine va_get (ci := 10) (v := .ref (z 26)) (C := RX10) (T := TX10) (N := 40) hx hb hg inX10 hown hK hP 2 rfl rfl 26 (by decide) (hg _ q_6_10) (fun _ h9 => h9) rfl dX10_otherAt_31 ?_
      refine lv_iload hx hb dX10_otherAt_34 (lv_at hl 0 rfl) ?_
      refine va_iald hx hb hK hP 0 0 rfl rfl (iv_in b_11 (by decide)) dX10_otherAt_36 ?_
      refine lv_topi (fun x_12 ex_12 => ?_)
      have bx_12 : iv 0 268435456 x_12 := by rw [ex_12]; exact tfz26 _
      refine lv_ldcw (v := 268435456) hx hb hown (hg _ q_7_202) dX10_otherAt_37 ?_
      refine lv_icmp_ne (tgt := 47) hx hb dX10_otherAt_40 (by decide) (fun c_13 => ?_) (fun c_13 => ?_)
      · have b_14 : iv 0 268435455 x_12 := iv_n1 c_13 bx_12 (iv_c (268435456 : Int32) (a := 268435456) (b := 268435456) (by decide)) (by decide)
        refine lv_aload_n hx hb dX10_otherAt_47 rfl (lv_at hl 3 rfl) ?_
        refine va_get (ci := 10) (v := .ref (z 26)) (C := RX10) (T := TX10) (N := 40) hx hb hg inX10 hown hK hP 2 rfl rfl 26 (by decide) (hg _ q_6_10) (fun _ h9 => h9) rfl dX10_otherAt_48 ?_
        refine lv_iload hx hb dX10_otherAt_51 (lv_at hl 0 rfl) ?_
        refine va_iald hx hb hK hP 0 0 rfl rfl (iv_in b_11 (by decide)) dX10_otherAt_53 ?_
        refine tpi (y := x_12) ex_12.symm ?_
        refine lv_iconst (v := 1) hx hb dX10_otherAt_54 (by decide) ?_
        refine lv_iadd hx hb dX10_otherAt_55 ?_
        refine lv_topi (fun x_15 ex_15 => ?_)
        have bx_15 : iv 1 268435456 x_15 := by rw [ex_15]; exact iv_add b_14 (iv_c (1 : Int32) (a := 1) (b := 1) (by decide)) (by decide)
        refine lv_iload_n hx hb dX10_otherAt_56 rfl (lv_at hl 2 rfl) ?_
        refine lv_icmp_le (tgt := 72) hx hb dX10_otherAt_57 (by decide) (fun c_16 => ?_) (fun c_16 => ?_)
        · have b_17 : iv 1 268435456 u_2 := iv_e2 c_16 bx_15 bu_2 (by decide)
          refine lv_iload_n hx hb dX10_otherAt_72 rfl (lv_at hl 2 rfl) ?_
          refine lv_istore_n (lv' := [(2, .int u_2), (4, .int x_9), (3, .int u_1), (0, .ref (z 0)), (1, .int a1)]) hx hb dX10_otherAt_73 rfl hl (by decide) rfl (fun ls hl => ?_)
          obtain ⟨x_18, ex_18⟩ : ∃ z9 : Int32, z9 = u_1 + 1 := ⟨_, rfl⟩
          have bx_18 : iv 1 4 x_18 := by rw [ex_18]; exact iv_add b_6 (iv_c (1 : Int32) (a := 1) (b := 1) (by decide)) (by decide)
          refine lv_iinc (v := x_18) (lv' := [(3, .int x_18), (2, .int u_2), (4, .int x_9), (0, .ref (z 0)), (1, .int a1)]) hx hb dX10_otherAt_74 hl (k := 2) rfl (by rw [ex_18]; rfl) (by decide) rfl (fun ls hl => ?_)
          refine lv_goto (tgt := 4) hx hb dX10_otherAt_77 (by decide) ?_
          exact ihn_3 _ _ _ _ (by rw [en_3, ex_18]; exact mu_up b_6 (by decide)) ⟨x_18, u_2, (iv_w bx_18 (by decide)), (iv_w b_17 (by decide)), rfl, hP, hD, hS, lv_sub hl [0, 1, 3, 4] rfl⟩
        · have b_19 : iv 0 268435455 u_2 := iv_l1 (Int32.not_le.mp c_16) bu_2 bx_15 (by decide)
          refine lv_aload_n hx hb dX10_otherAt_60 rfl (lv_at hl 3 rfl) ?_
          refine va_get (ci := 10) (v := .ref (z 26)) (C := RX10) (T := TX10) (N := 40) hx hb hg inX10 hown hK hP 2 rfl rfl 26 (by decide) (hg _ q_6_10) (fun _ h9 => h9) rfl dX10_otherAt_61 ?_
          refine lv_iload hx hb dX10_otherAt_64 (lv_at hl 0 rfl) ?_
          refine va_iald hx hb hK hP 0 0 rfl rfl (iv_in b_11 (by decide)) dX10_otherAt_66 ?_
          refine tpi (y := x_12) ex_12.symm ?_
          refine lv_iconst (v := 1) hx hb dX10_otherAt_67 (by decide) ?_
          refine lv_iadd hx hb dX10_otherAt_68 ?_
          refine tpi (y := x_15) ex_15.symm ?_
          refine lv_goto (tgt := 73) hx hb dX10_otherAt_69 (by decide) ?_
          refine lv_istore_n (lv' := [(2, .int x_15), (4, .int x_9), (3, .int u_1), (0, .ref (z 0)), (1, .int a1)]) hx hb dX10_otherAt_73 rfl hl (by decide) rfl (fun ls hl => ?_)
          obtain ⟨x_20, ex_20⟩ : ∃ z9 : Int32, z9 = u_1 + 1 := ⟨_, rfl⟩
          have bx_20 : iv 1 4 x_20 := by rw [ex_20]; exact iv_add b_6 (iv_c (1 : Int32) (a := 1) (b := 1) (by decide)) (by decide)
          refine lv_iinc (v := x_20) (lv' := [(3, .int x_20), (2, .int x_15), (4, .int x_9), (0, .ref (z 0)), (1, .int a1)]) hx hb dX10_otherAt_74 hl (k := 2) rfl (by rw [ex_20]; rfl) (by decide) rfl (fun ls hl => ?_)
          refine lv_goto (tgt := 4) hx hb dX10_otherAt_77 (by decide) ?_
          exact ihn_3 _ _ _ _ (by rw [en_3, ex_20]; exact mu_up b_6 (by decide)) ⟨x_20, x_15, (iv_w bx_20 (by decide)), (iv_w bx_15 (by decide)), rfl, hP, hD, hS, lv_sub hl [0, 1, 3, 4] rfl⟩
      · have b_21 : iv 268435456 268435456 x_12 := iv_q c_13 (iv_c (268435456 : Int32) (a := 268435456) (b := 268435456) (by decide))
        refine lv_ldcw (v := 268435456) hx hb hown (hg _ q_7_202) dX10_otherAt_43 ?_
        exact fiI hx hb hr hlk hK hP hD hS dX10_otherAt_46 (Nat.le_of_ble_eq_true rfl) (Nat.le_of_ble_eq_true rfl) (⟨(iv_c (268435456 : Int32) (by decide)), rfl⟩)
    · have b_22 : iv (-1) (-1) x_9 := iv_q c_10 (iv_c ((-1) : Int32) (a := (-1)) (b := (-1)) (by decide))
      refine lv_goto (tgt := 74) hx hb dX10_otherAt_27 (by decide) ?_
      obtain ⟨x_23, ex_23⟩ : ∃ z9 : Int32, z9 = u_1 + 1 := ⟨_, rfl⟩
      have bx_23 : iv 1 4 x_23 := by rw [ex_23]; exact iv_add b_6 (iv_c (1 : Int32) (a := 1) (b := 1) (by decide)) (by decide)
      refine lv_iinc (v := x_23) (lv' := [(3, .int x_23), (4, .int x_9), (2, .int u_2), (0, .ref (z 0)), (1, .int a1)]) hx hb dX10_otherAt_74 hl (k := 1) rfl (by rw [ex_23]; rfl) (by decide) rfl (fun ls hl => ?_)
      refine lv_goto (tgt := 4) hx hb dX10_otherAt_77 (by decide) ?_
      exact ihn_3 _ _ _ _ (by rw [en_3, ex_23]; exact mu_up b_6 (by decide)) ⟨x_23, u_2, (iv_w bx_23 (by decide)), bu_2, rfl, hP, hD, hS, lv_sub hl [0, 2, 3, 4] rfl⟩
theorem dX10_firstBy_0 : decode cX10_firstBy 0 = .ok (.aload_n 0, 1) := by decide +kernel
theorem dX10_firstBy_1 : decode cX10_firstBy 1 = .ok (.getfield 49, 3) := by decide +kernel
theorem dX10_firstBy_4 : decode cX10_firstBy 4 = .ok (.iconst 4, 1) := by decide +kernel
theorem dX10_firstBy_5 : decode cX10_firstBy 5 = .ok (.iload_n 1, 1) := by decide +kernel
theorem dX10_firstBy_6 : decode cX10_firstBy 6 = .ok (.imul, 1) := by decide +kernel
theorem dX10_firstBy_7 : decode cX10_firstBy 7 = .ok (.iload_n 2, 1) := by decide +kernel
theorem dX10_firstBy_8 : decode cX10_firstBy 8 = .ok (.iadd, 1) := by decide +kernel
theorem dX10_firstBy_9 : decode cX10_firstBy 9 = .ok (.iaload, 1) := by decide +kernel
theorem dX10_firstBy_10 : decode cX10_firstBy 10 = .ok (.istore_n 3, 1) := by decide +kernel
theorem dX10_firstBy_11 : decode cX10_firstBy 11 = .ok (.iload_n 3, 1) := by decide +kernel
theorem dX10_firstBy_12 : decode cX10_firstBy 12 = .ok (.iconst (-1), 1) := by decide +kernel
theorem dX10_firstBy_13 : decode cX10_firstBy 13 = .ok (.if_icmp .eq 15, 3) := by decide +kernel
theorem dX10_firstBy_28 : decode cX10_firstBy 28 = .ok (.ldc_w 361, 3) := by decide +kernel
theorem dX10_firstBy_31 : decode cX10_firstBy 31 = .ok (.goto 11, 3) := by decide +kernel
theorem dX10_firstBy_42 : decode cX10_firstBy 42 = .ok (.ireturn, 1) := by decide +kernel
theorem dX10_firstBy_16 : decode cX10_firstBy 16 = .ok (.aload_n 0, 1) := by decide +kernel
theorem q_6_11 : Cond.fieldLink "BeaconDelayModel" 55 "BeaconDelayModel" "farOther" "[I" ∈ gw := gw_6 (i := 11) (by decide +kernel) rfl
theorem dX10_firstBy_17 : decode cX10_firstBy 17 = .ok (.getfield 55, 3) := by decide +kernel
theorem dX10_firstBy_20 : decode cX10_firstBy 20 = .ok (.iload_n 3, 1) := by decide +kernel
theorem dX10_firstBy_21 : decode cX10_firstBy 21 = .ok (.iaload, 1) := by decide +kernel
theorem dX10_firstBy_22 : decode cX10_firstBy 22 = .ok (.ldc_w 361, 3) := by decide +kernel
theorem dX10_firstBy_25 : decode cX10_firstBy 25 = .ok (.if_icmp .ne 9, 3) := by decide +kernel
theorem dX10_firstBy_34 : decode cX10_firstBy 34 = .ok (.aload_n 0, 1) := by decide +kernel
theorem dX10_firstBy_35 : decode cX10_firstBy 35 = .ok (.getfield 55, 3) := by decide +kernel
theorem dX10_firstBy_38 : decode cX10_firstBy 38 = .ok (.iload_n 3, 1) := by decide +kernel
theorem dX10_firstBy_39 : decode cX10_firstBy 39 = .ok (.iaload, 1) := by decide +kernel
theorem dX10_firstBy_40 : decode cX10_firstBy 40 = .ok (.iconst 1, 1) := by decide +kernel
theorem dX10_firstBy_41 : decode cX10_firstBy 41 = .ok (.iadd, 1) := by decide +kernel
set_option maxHeartbeats 4000000 in
set_option maxRecDepth 100000 in
theorem k_X10_firstBy_0 (l : Launch) (V : GV) (z : Nat → Nat) (a1 : Int32) (a2 : Int32) (fz27 : Nat → Int32) (fz25 : Nat → Int32) (pz0_0 : Int32) (pz0_5 : Int32) (pz0_6 : Int32) (pz0_7 : Int32) (pz0_8 : Int32) (pz0_9 : Int32) (pz0_10 : Int32) (pz0_11 : Int32) (pz0_12 : Int32) (pz0_13 : Int32) (pz0_14 : Int32) (pz0_18 : Int32) (pz0_19 : Int32) (pz0_22 : Int32) (pz0_23 : Int32) (pz0_29 : Int32) (ba1 : iv 0 9999 a1) (ba2 : iv 0 3 a2) (tfz27 : ∀ j, iv 0 268435456 (fz27 j)) (tfz25 : ∀ j, iv (-1) 9999 (fz25 j)) (bpz0_5 : iv 0 900 pz0_5) (bpz0_6 : iv 0 900 pz0_6) (bpz0_7 : iv 0 900 pz0_7) (bpz0_8 : iv 0 900 pz0_8) (bpz0_10 : iv 0 999 pz0_10) (bpz0_11 : iv 0 4 pz0_11) (bpz0_12 : iv 0 900 pz0_12) (bpz0_13 : iv 0 4 pz0_13) (bpz0_14 : iv (-1) 900 pz0_14) (bpz0_18 : iv 0 2 pz0_18) (bpz0_22 : iv 0 9999 pz0_22) (bpz0_29 : iv 0 10000 pz0_29) : Ct l V yX10_firstBy (.code yX10_firstBy cX10_firstBy 4 (some .int)) 1 [.ref (z 0), .int a1, .int a2] [(z 27, aI V 10000 fz27), (z 25, aI V 40000 fz25), (z 0, .inr (10, mo z pz0_0 pz0_5 pz0_6 pz0_7 pz0_8 pz0_9 pz0_10 pz0_11 pz0_12 pz0_13 pz0_14 pz0_18 pz0_19 pz0_22 pz0_23 pz0_29))] 0 0 (QI V (fun (r : Int32) (w : va_W) => iv 1 268435456 r ∧ r = fN fz25 fz27 (a1 : Int32).toNatClampNeg (a2 : Int32).toNatClampNeg ∧ w = [(z 27, aI V 10000 fz27), (z 25, aI V 40000 fz25), (z 0, .inr (10, mo z pz0_0 pz0_5 pz0_6 pz0_7 pz0_8 pz0_9 pz0_10 pz0_11 pz0_12 pz0_13 pz0_14 pz0_18 pz0_19 pz0_22 pz0_23 pz0_29))])) := by
  refine Ct.of (by decide) (Nat.le_of_ble_eq_true rfl) (fun p e s m below meth c A ls hx hb hr hml hown hlk hnm hg hP hK hD hE hA hS hl => ?_)
  have hl : lv_has ls 4 [(0, .ref (z 0)), (1, .int a1), (2, .int a2)] := hl
  refine lv_aload_n hx hb dX10_firstBy_0 rfl (lv_at hl 0 rfl) ?_
  refine va_get (ci := 10) (v := .ref (z 25)) (C := RX10) (T := TX10) (N := 40) hx hb hg inX10 hown hK hP 2 rfl rfl 25 (by decide) (hg _ q_6_9) (fun _ h9 => h9) rfl dX10_firstBy_1 ?_
  refine lv_iconst (v := 4) hx hb dX10_firstBy_4 (by decide) ?_
  refine lv_iload_n hx hb dX10_firstBy_5 rfl (lv_at hl 1 rfl) ?_
  refine lv_imul hx hb dX10_firstBy_6 ?_
  refine lv_topi (fun x_1 ex_1 => ?_)
  have bx_1 : iv 0 39996 x_1 := by rw [ex_1]; exact iv_cmul (iv_c (4 : Int32) (a := 4) (b := 4) (by decide)) ba1 (by decide)
  refine lv_iload_n hx hb dX10_firstBy_7 rfl (lv_at hl 2 rfl) ?_
  refine lv_iadd hx hb dX10_firstBy_8 ?_
  refine lv_topi (fun x_2 ex_2 => ?_)
  have bx_2 : iv 0 39999 x_2 := by rw [ex_2]; exact iv_add bx_1 ba2 (by decide)
  refine va_iald hx hb hK hP 1 0 rfl rfl (iv_in bx_2 (by decide)) dX10_firstBy_9 ?_
  refine lv_topi (fun x_3 ex_3 => ?_)
  have bx_3 : iv (-1) 9999 x_3 := by rw [ex_3]; exact tfz25 _
  refine lv_istore_n (lv' := [(3, .int x_3), (0, .ref (z 0)), (1, .int a1), (2, .int a2)]) hx hb dX10_firstBy_10 rfl hl (by decide) rfl (fun ls hl => ?_)
  refine lv_iload_n hx hb dX10_firstBy_11 rfl (lv_at hl 0 rfl) ?_
  refine lv_iconst (v := (-1)) hx hb dX10_firstBy_12 (by decide) ?_
  refine lv_icmp_eq (tgt := 28) hx hb dX10_firstBy_13 (by decide) (fun c_4 => ?_) (fun c_4 => ?_)
  · have b_5 : iv (-1) (-1) x_3 := iv_q c_4 (iv_c ((-1) : Int32) (a := (-1)) (b := (-1)) (by decide))
    refine lv_ldcw (v := 268435456) hx hb hown (hg _ q_7_202) dX10_firstBy_28 ?_
    refine lv_goto (tgt := 42) hx hb dX10_firstBy_31 (by decide) ?_
    exact fiI hx hb hr hlk hK hP hD hS dX10_firstBy_42 (Nat.le_of_ble_eq_true rfl) (Nat.le_of_ble_eq_true rfl) (⟨(iv_c (268435456 : Int32) (by decide)), (fN_a ba1 ba2 (by decide) ex_1 ex_2 ex_3 c_4), rfl⟩)
  · have b_6 : iv 0 9999 x_3 := iv_n0 c_4 bx_3 (iv_c ((-1) : Int32) (a := (-1)) (b := (-1)) (by decide)) (by decide)
    refine lv_aload_n hx hb dX10_firstBy_16 rfl (lv_at hl 1 rfl) ?_
    refine va_get (ci := 10) (v := .ref (z 27)) (C := RX10) (T := TX10) (N := 40) hx hb hg inX10 hown hK hP 2 rfl rfl 27 (by decide) (hg _ q_6_11) (fun _ h9 => h9) rfl dX10_firstBy_17 ?_
    refine lv_iload_n hx hb dX10_firstBy_20 rfl (lv_at hl 0 rfl) ?_
    refine va_iald hx hb hK hP 0 0 rfl rfl (iv_in b_6 (by decide)) dX10_firstBy_21 ?_
    refine lv_topi (fun x_7 ex_7 => ?_)
    have bx_7 : iv 0 268435456 x_7 := by rw [ex_7]; exact tfz27 _
    refine lv_ldcw (v := 268435456) hx hb hown (hg _ q_7_202) dX10_firstBy_22 ?_
    refine lv_icmp_ne (tgt := 34) hx hb dX10_firstBy_25 (by decide) (fun c_8 => ?_) (fun c_8 => ?_)
    · have b_9 : iv 0 268435455 x_7 := iv_n1 c_8 bx_7 (iv_c (268435456 : Int32) (a := 268435456) (b := 268435456) (by decide)) (by decide)
      refine lv_aload_n hx hb dX10_firstBy_34 rfl (lv_at hl 1 rfl) ?_
      refine va_get (ci := 10) (v := .ref (z 27)) (C := RX10) (T := TX10) (N := 40) hx hb hg inX10 hown hK hP 2 rfl rfl 27 (by decide) (hg _ q_6_11) (fun _ h9 => h9) rfl dX10_firstBy_35 ?_
      refine lv_iload_n hx hb dX10_firstBy_38 rfl (lv_at hl 0 rfl) ?_
      refine va_iald hx hb hK hP 0 0 rfl rfl (iv_in b_6 (by decide)) dX10_firstBy_39 ?_
      refine tpi (y := x_7) ex_7.symm ?_
      refine lv_iconst (v := 1) hx hb dX10_firstBy_40 (by decide) ?_
      refine lv_iadd hx hb dX10_firstBy_41 ?_
      refine lv_topi (fun x_10 ex_10 => ?_)
      have bx_10 : iv 1 268435456 x_10 := by rw [ex_10]; exact iv_add b_9 (iv_c (1 : Int32) (a := 1) (b := 1) (by decide)) (by decide)
      exact fiI hx hb hr hlk hK hP hD hS dX10_firstBy_42 (Nat.le_of_ble_eq_true rfl) (Nat.le_of_ble_eq_true rfl) (⟨bx_10, (fN_c ba1 ba2 (by decide) ex_1 ex_2 ex_3 ex_7 c_4 c_8 ex_10), rfl⟩)
    · have b_11 : iv 268435456 268435456 x_7 := iv_q c_8 (iv_c (268435456 : Int32) (a := 268435456) (b := 268435456) (by decide))
      refine lv_ldcw (v := 268435456) hx hb hown (hg _ q_7_202) dX10_firstBy_28 ?_
      refine lv_goto (tgt := 42) hx hb dX10_firstBy_31 (by decide) ?_
      exact fiI hx hb hr hlk hK hP hD hS dX10_firstBy_42 (Nat.le_of_ble_eq_true rfl) (Nat.le_of_ble_eq_true rfl) (⟨(iv_c (268435456 : Int32) (by decide)), (fN_b ba1 ba2 (by decide) ex_1 ex_2 ex_3 ex_7 c_8), rfl⟩)
theorem dX10_laysForce_0 : decode cX10_laysForce 0 = .ok (.aload_n 0, 1) := by decide +kernel
theorem dX10_laysForce_1 : decode cX10_laysForce 1 = .ok (.invokevirtual 362, 3) := by decide +kernel
theorem dX10_laysForce_4 : decode cX10_laysForce 4 = .ok (.iconst 0, 1) := by decide +kernel
theorem dX10_laysForce_5 : decode cX10_laysForce 5 = .ok (.istore_n 3, 1) := by decide +kernel
theorem dX10_laysForce_6 : decode cX10_laysForce 6 = .ok (.iload_n 3, 1) := by decide +kernel
theorem dX10_laysForce_7 : decode cX10_laysForce 7 = .ok (.aload_n 0, 1) := by decide +kernel
theorem dX10_laysForce_8 : decode cX10_laysForce 8 = .ok (.getfield 355, 3) := by decide +kernel
theorem dX10_laysForce_11 : decode cX10_laysForce 11 = .ok (.if_icmp .ge 63, 3) := by decide +kernel
theorem dX10_laysForce_74 : decode cX10_laysForce 74 = .ok (.iconst 1, 1) := by decide +kernel
theorem dX10_laysForce_75 : decode cX10_laysForce 75 = .ok (.istore_n 3, 1) := by decide +kernel
theorem dX10_laysForce_76 : decode cX10_laysForce 76 = .ok (.iload_n 3, 1) := by decide +kernel
theorem dX10_laysForce_77 : decode cX10_laysForce 77 = .ok (.ifCond .eq 181, 3) := by decide +kernel
theorem dX10_laysForce_258 : decode cX10_laysForce 258 = .ok (.aload_n 0, 1) := by decide +kernel
theorem dX10_laysForce_259 : decode cX10_laysForce 259 = .ok (.getfield 52, 3) := by decide +kernel
theorem dX10_laysForce_262 : decode cX10_laysForce 262 = .ok (.aload_n 0, 1) := by decide +kernel
theorem dX10_laysForce_263 : decode cX10_laysForce 263 = .ok (.invokevirtual 269, 3) := by decide +kernel
theorem dX10_laysForce_266 : decode cX10_laysForce 266 = .ok (.iaload, 1) := by decide +kernel
theorem dX10_laysForce_267 : decode cX10_laysForce 267 = .ok (.ireturn, 1) := by decide +kernel
theorem dX10_laysForce_80 : decode cX10_laysForce 80 = .ok (.iconst 0, 1) := by decide +kernel
theorem dX10_laysForce_81 : decode cX10_laysForce 81 = .ok (.istore_n 3, 1) := by decide +kernel
theorem dX10_laysForce_82 : decode cX10_laysForce 82 = .ok (.aload_n 0, 1) := by decide +kernel
theorem dX10_laysForce_83 : decode cX10_laysForce 83 = .ok (.getfield 355, 3) := by decide +kernel
theorem dX10_laysForce_86 : decode cX10_laysForce 86 = .ok (.iconst 1, 1) := by decide +kernel
theorem dX10_laysForce_87 : decode cX10_laysForce 87 = .ok (.isub, 1) := by decide +kernel
theorem dX10_laysForce_88 : decode cX10_laysForce 88 = .ok (.istore 4, 2) := by decide +kernel
theorem dX10_laysForce_90 : decode cX10_laysForce 90 = .ok (.iload 4, 2) := by decide +kernel
theorem dX10_laysForce_92 : decode cX10_laysForce 92 = .ok (.ifCond .lt 163, 3) := by decide +kernel
theorem dX10_laysForce_255 : decode cX10_laysForce 255 = .ok (.goto (-179), 3) := by decide +kernel
theorem dX10_laysForce_95 : decode cX10_laysForce 95 = .ok (.aload_n 0, 1) := by decide +kernel
theorem dX10_laysForce_96 : decode cX10_laysForce 96 = .ok (.getfield 45, 3) := by decide +kernel
theorem dX10_laysForce_99 : decode cX10_laysForce 99 = .ok (.iload 4, 2) := by decide +kernel
theorem dX10_laysForce_101 : decode cX10_laysForce 101 = .ok (.iaload, 1) := by decide +kernel
theorem dX10_laysForce_102 : decode cX10_laysForce 102 = .ok (.istore 5, 2) := by decide +kernel
theorem dX10_laysForce_104 : decode cX10_laysForce 104 = .ok (.iload 5, 2) := by decide +kernel
theorem dX10_laysForce_106 : decode cX10_laysForce 106 = .ok (.iload_n 1, 1) := by decide +kernel
theorem dX10_laysForce_107 : decode cX10_laysForce 107 = .ok (.invokestatic 231, 3) := by decide +kernel
theorem dX10_laysForce_110 : decode cX10_laysForce 110 = .ok (.iload_n 2, 1) := by decide +kernel
theorem dX10_laysForce_111 : decode cX10_laysForce 111 = .ok (.if_icmp .ne 6, 3) := by decide +kernel
theorem dX10_laysForce_117 : decode cX10_laysForce 117 = .ok (.aload_n 0, 1) := by decide +kernel
theorem dX10_laysForce_118 : decode cX10_laysForce 118 = .ok (.getfield 52, 3) := by decide +kernel
theorem dX10_laysForce_121 : decode cX10_laysForce 121 = .ok (.iload 5, 2) := by decide +kernel
theorem dX10_laysForce_123 : decode cX10_laysForce 123 = .ok (.iaload, 1) := by decide +kernel
theorem dX10_laysForce_124 : decode cX10_laysForce 124 = .ok (.istore 6, 2) := by decide +kernel
theorem dX10_laysForce_126 : decode cX10_laysForce 126 = .ok (.iconst 0, 1) := by decide +kernel
theorem dX10_laysForce_127 : decode cX10_laysForce 127 = .ok (.istore 7, 2) := by decide +kernel
theorem dX10_laysForce_129 : decode cX10_laysForce 129 = .ok (.iload 7, 2) := by decide +kernel
theorem dX10_laysForce_131 : decode cX10_laysForce 131 = .ok (.iconst 4, 1) := by decide +kernel
theorem dX10_laysForce_132 : decode cX10_laysForce 132 = .ok (.if_icmp .ge 37, 3) := by decide +kernel
theorem dX10_laysForce_169 : decode cX10_laysForce 169 = .ok (.aload_n 0, 1) := by decide +kernel
theorem dX10_laysForce_170 : decode cX10_laysForce 170 = .ok (.iload 5, 2) := by decide +kernel
theorem q_8_104 : Cond.code yX10_otherAt prog_12_method_118_code 5 (some FieldType.int) ∈ gw := gw_8 (i := 104) (rfl) rfl
theorem q_8_103 : Cond.instanceMethod yX10_otherAt ∈ gw := gw_8 (i := 103) (by decide +kernel) rfl
theorem q_s_124 : Cond.selects "BeaconDelayModel" yX10_otherAt yX10_otherAt ∈ gw := gw_s (i := 124) (by decide +kernel) rfl
theorem mt_X10_otherAt : MtV yX10_otherAt cX10_otherAt 5 (some .int) 1 := ⟨⟨q_8_104, q_1_9, by decide +kernel, by decide +kernel, by decide +kernel⟩, q_8_103, q_s_124⟩
theorem q_8_101 : Cond.methodLink "BeaconDelayModel" 441 yX10_otherAt ∈ gw := gw_8 (i := 101) (by decide +kernel) rfl
theorem dX10_laysForce_172 : decode cX10_laysForce 172 = .ok (.invokevirtual 441, 3) := by decide +kernel
theorem dX10_laysForce_175 : decode cX10_laysForce 175 = .ok (.istore 7, 2) := by decide +kernel
theorem dX10_laysForce_177 : decode cX10_laysForce 177 = .ok (.iload_n 3, 1) := by decide +kernel
theorem dX10_laysForce_178 : decode cX10_laysForce 178 = .ok (.iload 6, 2) := by decide +kernel
theorem dX10_laysForce_180 : decode cX10_laysForce 180 = .ok (.aload_n 0, 1) := by decide +kernel
theorem dX10_laysForce_181 : decode cX10_laysForce 181 = .ok (.getfield 52, 3) := by decide +kernel
theorem dX10_laysForce_184 : decode cX10_laysForce 184 = .ok (.iload 5, 2) := by decide +kernel
theorem dX10_laysForce_186 : decode cX10_laysForce 186 = .ok (.iaload, 1) := by decide +kernel
theorem dX10_laysForce_187 : decode cX10_laysForce 187 = .ok (.if_icmp .lt 15, 3) := by decide +kernel
theorem dX10_laysForce_202 : decode cX10_laysForce 202 = .ok (.iconst 1, 1) := by decide +kernel
theorem dX10_laysForce_203 : decode cX10_laysForce 203 = .ok (.goto 4, 3) := by decide +kernel
theorem dX10_laysForce_207 : decode cX10_laysForce 207 = .ok (.ior, 1) := by decide +kernel
theorem dX10_laysForce_208 : decode cX10_laysForce 208 = .ok (.istore_n 3, 1) := by decide +kernel
theorem dX10_laysForce_209 : decode cX10_laysForce 209 = .ok (.aload_n 0, 1) := by decide +kernel
theorem dX10_laysForce_210 : decode cX10_laysForce 210 = .ok (.getfield 52, 3) := by decide +kernel
theorem dX10_laysForce_213 : decode cX10_laysForce 213 = .ok (.iload 5, 2) := by decide +kernel
theorem dX10_laysForce_215 : decode cX10_laysForce 215 = .ok (.iload 6, 2) := by decide +kernel
theorem dX10_laysForce_217 : decode cX10_laysForce 217 = .ok (.iastore, 1) := by decide +kernel
theorem dX10_laysForce_218 : decode cX10_laysForce 218 = .ok (.aload_n 0, 1) := by decide +kernel
theorem dX10_laysForce_219 : decode cX10_laysForce 219 = .ok (.getfield 55, 3) := by decide +kernel
theorem dX10_laysForce_222 : decode cX10_laysForce 222 = .ok (.iload 5, 2) := by decide +kernel
theorem dX10_laysForce_224 : decode cX10_laysForce 224 = .ok (.iload 7, 2) := by decide +kernel
theorem dX10_laysForce_226 : decode cX10_laysForce 226 = .ok (.aload_n 0, 1) := by decide +kernel
theorem dX10_laysForce_227 : decode cX10_laysForce 227 = .ok (.getfield 55, 3) := by decide +kernel
theorem dX10_laysForce_230 : decode cX10_laysForce 230 = .ok (.iload 5, 2) := by decide +kernel
theorem dX10_laysForce_232 : decode cX10_laysForce 232 = .ok (.iaload, 1) := by decide +kernel
theorem dX10_laysForce_233 : decode cX10_laysForce 233 = .ok (.if_icmp .ge 8, 3) := by decide +kernel
theorem dX10_laysForce_241 : decode cX10_laysForce 241 = .ok (.aload_n 0, 1) := by decide +kernel
theorem dX10_laysForce_242 : decode cX10_laysForce 242 = .ok (.getfield 55, 3) := by decide +kernel
theorem dX10_laysForce_245 : decode cX10_laysForce 245 = .ok (.iload 5, 2) := by decide +kernel
theorem dX10_laysForce_247 : decode cX10_laysForce 247 = .ok (.iaload, 1) := by decide +kernel
theorem dX10_laysForce_248 : decode cX10_laysForce 248 = .ok (.iastore, 1) := by decide +kernel
theorem dX10_laysForce_249 : decode cX10_laysForce 249 = .ok (.iinc 4 (-1), 3) := by decide +kernel
theorem dX10_laysForce_252 : decode cX10_laysForce 252 = .ok (.goto (-162), 3) := by decide +kernel
theorem dX10_laysForce_236 : decode cX10_laysForce 236 = .ok (.iload 7, 2) := by decide +kernel
theorem dX10_laysForce_238 : decode cX10_laysForce 238 = .ok (.goto 10, 3) := by decide +kernel
theorem dX10_laysForce_190 : decode cX10_laysForce 190 = .ok (.iload 7, 2) := by decide +kernel
theorem dX10_laysForce_192 : decode cX10_laysForce 192 = .ok (.aload_n 0, 1) := by decide +kernel
theorem dX10_laysForce_193 : decode cX10_laysForce 193 = .ok (.getfield 55, 3) := by decide +kernel
theorem dX10_laysForce_196 : decode cX10_laysForce 196 = .ok (.iload 5, 2) := by decide +kernel
theorem dX10_laysForce_198 : decode cX10_laysForce 198 = .ok (.iaload, 1) := by decide +kernel
theorem dX10_laysForce_199 : decode cX10_laysForce 199 = .ok (.if_icmp .ge 7, 3) := by decide +kernel
theorem dX10_laysForce_206 : decode cX10_laysForce 206 = .ok (.iconst 0, 1) := by decide +kernel
theorem dX10_laysForce_135 : decode cX10_laysForce 135 = .ok (.aload_n 0, 1) := by decide +kernel
theorem dX10_laysForce_136 : decode cX10_laysForce 136 = .ok (.iload 5, 2) := by decide +kernel
theorem dX10_laysForce_138 : decode cX10_laysForce 138 = .ok (.iload 7, 2) := by decide +kernel
theorem q_8_100 : Cond.code yX10_firstBy prog_12_method_117_code 4 (some FieldType.int) ∈ gw := gw_8 (i := 100) (rfl) rfl
theorem q_8_99 : Cond.instanceMethod yX10_firstBy ∈ gw := gw_8 (i := 99) (by decide +kernel) rfl
theorem q_s_123 : Cond.selects "BeaconDelayModel" yX10_firstBy yX10_firstBy ∈ gw := gw_s (i := 123) (by decide +kernel) rfl
theorem mt_X10_firstBy : MtV yX10_firstBy cX10_firstBy 4 (some .int) 2 := ⟨⟨q_8_100, q_1_9, by decide +kernel, by decide +kernel, by decide +kernel⟩, q_8_99, q_s_123⟩
theorem q_8_97 : Cond.methodLink "BeaconDelayModel" 438 yX10_firstBy ∈ gw := gw_8 (i := 97) (by decide +kernel) rfl
theorem dX10_laysForce_140 : decode cX10_laysForce 140 = .ok (.invokevirtual 438, 3) := by decide +kernel
theorem dX10_laysForce_143 : decode cX10_laysForce 143 = .ok (.iload 6, 2) := by decide +kernel
theorem dX10_laysForce_145 : decode cX10_laysForce 145 = .ok (.if_icmp .ge 14, 3) := by decide +kernel
theorem dX10_laysForce_159 : decode cX10_laysForce 159 = .ok (.iload 6, 2) := by decide +kernel
theorem dX10_laysForce_161 : decode cX10_laysForce 161 = .ok (.istore 6, 2) := by decide +kernel
theorem dX10_laysForce_163 : decode cX10_laysForce 163 = .ok (.iinc 7 1, 3) := by decide +kernel
theorem dX10_laysForce_166 : decode cX10_laysForce 166 = .ok (.goto (-37), 3) := by decide +kernel
theorem dX10_laysForce_148 : decode cX10_laysForce 148 = .ok (.aload_n 0, 1) := by decide +kernel
theorem dX10_laysForce_149 : decode cX10_laysForce 149 = .ok (.iload 5, 2) := by decide +kernel
theorem dX10_laysForce_151 : decode cX10_laysForce 151 = .ok (.iload 7, 2) := by decide +kernel
theorem dX10_laysForce_153 : decode cX10_laysForce 153 = .ok (.invokevirtual 438, 3) := by decide +kernel
theorem dX10_laysForce_156 : decode cX10_laysForce 156 = .ok (.goto 5, 3) := by decide +kernel
theorem dX10_laysForce_114 : decode cX10_laysForce 114 = .ok (.goto 135, 3) := by decide +kernel
theorem dX10_laysForce_14 : decode cX10_laysForce 14 = .ok (.aload_n 0, 1) := by decide +kernel
theorem dX10_laysForce_15 : decode cX10_laysForce 15 = .ok (.getfield 52, 3) := by decide +kernel
theorem dX10_laysForce_18 : decode cX10_laysForce 18 = .ok (.aload_n 0, 1) := by decide +kernel
theorem dX10_laysForce_19 : decode cX10_laysForce 19 = .ok (.getfield 45, 3) := by decide +kernel
theorem dX10_laysForce_22 : decode cX10_laysForce 22 = .ok (.iload_n 3, 1) := by decide +kernel
theorem dX10_laysForce_23 : decode cX10_laysForce 23 = .ok (.iaload, 1) := by decide +kernel
theorem dX10_laysForce_24 : decode cX10_laysForce 24 = .ok (.aload_n 0, 1) := by decide +kernel
theorem dX10_laysForce_25 : decode cX10_laysForce 25 = .ok (.getfield 45, 3) := by decide +kernel
theorem dX10_laysForce_28 : decode cX10_laysForce 28 = .ok (.iload_n 3, 1) := by decide +kernel
theorem dX10_laysForce_29 : decode cX10_laysForce 29 = .ok (.iaload, 1) := by decide +kernel
theorem dX10_laysForce_30 : decode cX10_laysForce 30 = .ok (.iload_n 1, 1) := by decide +kernel
theorem dX10_laysForce_31 : decode cX10_laysForce 31 = .ok (.invokestatic 231, 3) := by decide +kernel
theorem dX10_laysForce_34 : decode cX10_laysForce 34 = .ok (.iload_n 2, 1) := by decide +kernel
theorem dX10_laysForce_35 : decode cX10_laysForce 35 = .ok (.if_icmp .ne 7, 3) := by decide +kernel
theorem dX10_laysForce_42 : decode cX10_laysForce 42 = .ok (.ldc_w 361, 3) := by decide +kernel
theorem dX10_laysForce_45 : decode cX10_laysForce 45 = .ok (.iastore, 1) := by decide +kernel
theorem dX10_laysForce_46 : decode cX10_laysForce 46 = .ok (.aload_n 0, 1) := by decide +kernel
theorem dX10_laysForce_47 : decode cX10_laysForce 47 = .ok (.getfield 55, 3) := by decide +kernel
theorem dX10_laysForce_50 : decode cX10_laysForce 50 = .ok (.aload_n 0, 1) := by decide +kernel
theorem dX10_laysForce_51 : decode cX10_laysForce 51 = .ok (.getfield 45, 3) := by decide +kernel
theorem dX10_laysForce_54 : decode cX10_laysForce 54 = .ok (.iload_n 3, 1) := by decide +kernel
theorem dX10_laysForce_55 : decode cX10_laysForce 55 = .ok (.iaload, 1) := by decide +kernel
theorem dX10_laysForce_56 : decode cX10_laysForce 56 = .ok (.aload_n 0, 1) := by decide +kernel
theorem dX10_laysForce_57 : decode cX10_laysForce 57 = .ok (.getfield 52, 3) := by decide +kernel
theorem dX10_laysForce_60 : decode cX10_laysForce 60 = .ok (.aload_n 0, 1) := by decide +kernel
theorem dX10_laysForce_61 : decode cX10_laysForce 61 = .ok (.getfield 45, 3) := by decide +kernel
theorem dX10_laysForce_64 : decode cX10_laysForce 64 = .ok (.iload_n 3, 1) := by decide +kernel
theorem dX10_laysForce_65 : decode cX10_laysForce 65 = .ok (.iaload, 1) := by decide +kernel
theorem dX10_laysForce_66 : decode cX10_laysForce 66 = .ok (.iaload, 1) := by decide +kernel
theorem dX10_laysForce_67 : decode cX10_laysForce 67 = .ok (.iastore, 1) := by decide +kernel
theorem dX10_laysForce_68 : decode cX10_laysForce 68 = .ok (.iinc 3 1, 3) := by decide +kernel
theorem dX10_laysForce_71 : decode cX10_laysForce 71 = .ok (.goto (-65), 3) := by decide +kernel
theorem dX10_laysForce_38 : decode cX10_laysForce 38 = .ok (.iconst 0, 1) := by decide +kernel
theorem dX10_laysForce_39 : decode cX10_laysForce 39 = .ok (.goto 6, 3) := by decide +kernel
set_option maxHeartbeats 4000000 in
set_option maxRecDepth 100000 in
theorem k_X10_laysForce_0 (l : Launch) (V : GV) (z : Nat → Nat) (a1 : Int32) (a2 : Int32) (fz15 : Nat → Int32) (fz16 : Nat → Int32) (fz24 : Nat → Int32) (fz25 : Nat → Int32) (fz26 : Nat → Int32) (fz27 : Nat → Int32) (fz28 : Nat → Int32) (pz0_0 : Int32) (pz0_5 : Int32) (pz0_6 : Int32) (pz0_7 : Int32) (pz0_8 : Int32) (pz0_9 : Int32) (pz0_10 : Int32) (pz0_11 : Int32) (pz0_12 : Int32) (pz0_13 : Int32) (pz0_14 : Int32) (pz0_18 : Int32) (pz0_19 : Int32) (pz0_22 : Int32) (pz0_23 : Int32) (pz0_29 : Int32) (fz1 : Nat → Int32) (ba1 : iv 0 3 a1) (tfz16 : ivT tW fz16) (tfz24 : ∀ j, iv 0 9999 (fz24 j)) (tfz25 : ∀ j, iv (-1) 9999 (fz25 j)) (tfz26 : ∀ j, iv 0 268435456 (fz26 j)) (tfz27 : ∀ j, iv 0 268435456 (fz27 j)) (bpz0_5 : iv 0 900 pz0_5) (bpz0_6 : iv 0 900 pz0_6) (bpz0_7 : iv 0 900 pz0_7) (bpz0_8 : iv 0 900 pz0_8) (bpz0_10 : iv 0 999 pz0_10) (bpz0_11 : iv 0 4 pz0_11) (bpz0_12 : iv 0 900 pz0_12) (bpz0_13 : iv 0 4 pz0_13) (bpz0_14 : iv (-1) 900 pz0_14) (bpz0_18 : iv 0 2 pz0_18) (bpz0_22 : iv 0 9999 pz0_22) (bpz0_29 : iv 0 10000 pz0_29) (tfz1 : ivT tA fz1) (hf0 : RW fz1) : Ct l V yX10_laysForce (.code yX10_laysForce cX10_laysForce 8 (some .int)) 6 [.ref (z 0), .int a1, .int a2] [(z 15, aI V 900 fz15), (z 16, aI V 6 fz16), (z 24, aI V 10000 fz24), (z 25, aI V 40000 fz25), (z 26, aI V 10000 fz26), (z 27, aI V 10000 fz27), (z 28, aZ V 10000 fz28), (z 0, .inr (10, mo z pz0_0 pz0_5 pz0_6 pz0_7 pz0_8 pz0_9 pz0_10 pz0_11 pz0_12 pz0_13 pz0_14 pz0_18 pz0_19 pz0_22 pz0_23 pz0_29)), (z 1, aI V 3075 fz1)] 0 0 (QI V (fun (r : Int32) (w : va_W) => ∃ (g0 : Nat → Int32) (g1 : Nat → Int32) (g2 : Nat → Int32) (g3 : Nat → Int32) (g4 : Nat → Int32) (g5 : Nat → Int32) (g6 : Nat → Int32) (v7 : Int32), (ivT tW g1) ∧ (∀ j, iv 0 9999 (g2 j)) ∧ (∀ j, iv (-1) 9999 (g3 j)) ∧ (∀ j, iv 0 268435456 (g4 j)) ∧ (∀ j, iv 0 268435456 (g5 j)) ∧ iv 0 10000 v7 ∧ iv 0 268435456 r ∧ (RW fz1) ∧ w = [(z 15, aI V 900 g0), (z 16, aI V 6 g1), (z 24, aI V 10000 g2), (z 25, aI V 40000 g3), (z 26, aI V 10000 g4), (z 27, aI V 10000 g5), (z 28, aZ V 10000 g6), (z 0, .inr (10, mo z pz0_0 pz0_5 pz0_6 pz0_7 pz0_8 pz0_9 pz0_10 pz0_11 pz0_12 pz0_13 pz0_14 pz0_18 pz0_19 pz0_22 pz0_23 v7)), (z 1, aI V 3075 fz1)])) := by
  refine Ct.of (by decide) (Nat.le_of_ble_eq_true rfl) (fun p e s m below meth c A ls hx hb hr hml hown hlk hnm hg hP hK hD hE hA hS hl => ?_)
  have hl : lv_has ls 8 [(0, .ref (z 0)), (1, .int a1), (2, .int a2)] := hl
  refine lv_aload_n hx hb dX10_laysForce_0 rfl (lv_at hl 0 rfl) ?_
  refine jnV (wr := [(z 26, aI V 10000 fz26), (z 27, aI V 10000 fz27)]) (rnV (rest := []) ⟨hx, hb, hml, hown, hg⟩ (k_X10_laysStands_0 l V z fz15 fz16 fz24 fz25 fz28 pz0_0 pz0_5 pz0_6 pz0_7 pz0_8 pz0_9 pz0_10 pz0_11 pz0_12 pz0_13 pz0_14 pz0_18 pz0_19 pz0_22 pz0_23 pz0_29 fz1 tfz16 tfz24 tfz25 bpz0_5 bpz0_6 bpz0_7 bpz0_8 bpz0_10 bpz0_11 bpz0_12 bpz0_13 bpz0_14 bpz0_18 bpz0_22 bpz0_29 tfz1 hf0) mt_X10_laysStands q_7_194 ⟨Nat.le_of_ble_eq_true rfl, Nat.le_of_ble_eq_true rfl⟩ hK hP hD hS hA hE [0, 1, 2, 3, 6, 7, 8] rfl rfl 7 rfl rfl rfl rfl hl.1 rfl (Nat.le_of_ble_eq_true rfl) dX10_laysForce_1 ⟨Nat.le_of_ble_eq_true rfl, Nat.le_of_ble_eq_true rfl⟩) hP hD hS hA [0, 1, 2, 3, 6, 7, 8] [4, 5] rfl rfl rfl (by decide) (fun  w H locs hw hP hD hS => ?_)
  obtain ⟨f_1, f_2, f_3, f_4, f_5, v_6, tf_2, tf_3, tf_4, bv_6, g_7, g_8, g_9, rfl⟩ := hw
  have hP : va_P V.1 vwCl [(z 26, aI V 10000 fz26), (z 27, aI V 10000 fz27), (z 15, aI V 900 f_1), (z 16, aI V 6 f_2), (z 24, aI V 10000 f_3), (z 25, aI V 40000 f_4), (z 28, aZ V 10000 f_5), (z 0, .inr (10, mo z pz0_0 pz0_5 pz0_6 pz0_7 pz0_8 pz0_9 pz0_10 pz0_11 pz0_12 pz0_13 pz0_14 pz0_18 pz0_19 pz0_22 pz0_23 v_6)), (z 1, aI V 3075 fz1)] H := hP
  have hD := cpD hP hD
  refine lv_iconst (v := 0) hx hb dX10_laysForce_4 (by decide) ?_
  refine lv_istore_n (lv' := [(3, .int 0), (0, .ref (z 0)), (1, .int a1), (2, .int a2)]) hx hb dX10_laysForce_5 rfl hl (by decide) rfl (fun ls hl => ?_)
  refine loopF (X := fun (n_13 : Nat) (H : Heap) (locs : List Loc) (ls : Array Slot) => ∃ (u_10 : Int32) (f_11 : Nat → Int32) (f_12 : Nat → Int32), (iv 0 2147483647 u_10) ∧ (∀ j, iv 0 268435456 (f_11 j)) ∧ (∀ j, iv 0 268435456 (f_12 j)) ∧ (RW fz1) ∧ n_13 = (2147483647 - (u_10 : Int32).toInt).toNat ∧ va_P V.1 vwCl [(z 26, aI V 10000 f_11), (z 27, aI V 10000 f_12), (z 15, aI V 900 f_1), (z 16, aI V 6 f_2), (z 24, aI V 10000 f_3), (z 25, aI V 40000 f_4), (z 28, aZ V 10000 f_5), (z 0, .inr (10, mo z pz0_0 pz0_5 pz0_6 pz0_7 pz0_8 pz0_9 pz0_10 pz0_11 pz0_12 pz0_13 pz0_14 pz0_18 pz0_19 pz0_22 pz0_23 v_6)), (z 1, aI V 3075 fz1)] H ∧ va_D A [(z 26, aI V 10000 f_11), (z 27, aI V 10000 f_12), (z 15, aI V 900 f_1), (z 16, aI V 6 f_2), (z 24, aI V 10000 f_3), (z 25, aI V 40000 f_4), (z 28, aZ V 10000 f_5), (z 0, .inr (10, mo z pz0_0 pz0_5 pz0_6 pz0_7 pz0_8 pz0_9 pz0_10 pz0_11 pz0_12 pz0_13 pz0_14 pz0_18 pz0_19 pz0_22 pz0_23 v_6)), (z 1, aI V 3075 fz1)] ∧ va_S A s.heap H locs ∧ lv_has ls 8 [(3, .int u_10), (0, .ref (z 0)), (1, .int a1), (2, .int a2)]) (g := fun ls => F0 m 6 ls []) (fun n_13 H locs ls hX ihn_13 => ?_) _ ⟨0, fz26, fz27, (iv_c (0 : Int32) (by decide)), tfz26, tfz27, g_7, rfl, hP, hD, hS, lv_sub hl [0, 1, 2, 3] rfl⟩
  obtain ⟨u_10, f_11, f_12, bu_10, tf_11, tf_12, inn_13_0, en_13, hP, hD, hS, hl⟩ := hX
  refine lv_iload_n hx hb dX10_laysForce_6 rfl (lv_at hl 0 rfl) ?_
  refine lv_aload_n hx hb dX10_laysForce_7 rfl (lv_at hl 1 rfl) ?_
  refine va_get (ci := 10) (v := .int v_6) (C := RX10) (T := TX10) (N := 40) hx hb hg inX10 hown hK hP 7 rfl rfl 29 (by decide) (hg _ q_6_13) (fun _ h9 => h9) rfl dX10_laysForce_8 ?_
  refine lv_icmp_ge (tgt := 74) hx hb dX10_laysForce_11 (by decide) (fun c_14 => ?_) (fun c_14 => ?_)
  · refine lv_iconst (v := 1) hx hb dX10_laysForce_74 (by decide) ?_
    refine lv_istore_n (lv' := [(3, .int 1), (0, .ref (z 0)), (1, .int a1), (2, .int a2)]) hx hb dX10_laysForce_75 rfl hl (by decide) rfl (fun ls hl => ?_)
    refine loopF (X := fun (n_18 : Nat) (H : Heap) (locs : List Loc) (ls : Array Slot) => ∃ (u_15 : Int32) (f_16 : Nat → Int32) (f_17 : Nat → Int32), (iv 0 1 u_15) ∧ (∀ j, iv 0 268435456 (f_16 j)) ∧ (∀ j, iv 0 268435456 (f_17 j)) ∧ (RW fz1) ∧ n_18 = 2 * (sm f_16 10000 + sm f_17 10000) + (u_15).toNatClampNeg ∧ va_P V.1 vwCl [(z 26, aI V 10000 f_16), (z 27, aI V 10000 f_17), (z 15, aI V 900 f_1), (z 16, aI V 6 f_2), (z 24, aI V 10000 f_3), (z 25, aI V 40000 f_4), (z 28, aZ V 10000 f_5), (z 0, .inr (10, mo z pz0_0 pz0_5 pz0_6 pz0_7 pz0_8 pz0_9 pz0_10 pz0_11 pz0_12 pz0_13 pz0_14 pz0_18 pz0_19 pz0_22 pz0_23 v_6)), (z 1, aI V 3075 fz1)] H ∧ va_D A [(z 26, aI V 10000 f_16), (z 27, aI V 10000 f_17), (z 15, aI V 900 f_1), (z 16, aI V 6 f_2), (z 24, aI V 10000 f_3), (z 25, aI V 40000 f_4), (z 28, aZ V 10000 f_5), (z 0, .inr (10, mo z pz0_0 pz0_5 pz0_6 pz0_7 pz0_8 pz0_9 pz0_10 pz0_11 pz0_12 pz0_13 pz0_14 pz0_18 pz0_19 pz0_22 pz0_23 v_6)), (z 1, aI V 3075 fz1)] ∧ va_S A s.heap H locs ∧ lv_has ls 8 [(3, .int u_15), (0, .ref (z 0)), (1, .int a1), (2, .int a2)]) (g := fun ls => F0 m 76 ls []) (fun n_18 H locs ls hX ihn_18 => ?_) _ ⟨1, f_11, f_12, (iv_c (1 : Int32) (by decide)), tf_11, tf_12, inn_13_0, rfl, hP, hD, hS, lv_sub hl [0, 1, 2, 3] rfl⟩
    obtain ⟨u_15, f_16, f_17, bu_15, tf_16, tf_17, inn_18_0, en_18, hP, hD, hS, hl⟩ := hX
    refine lv_iload_n hx hb dX10_laysForce_76 rfl (lv_at hl 0 rfl) ?_
    refine lv_if_eq (tgt := 258) hx hb dX10_laysForce_77 (by decide) (fun c_19 => ?_) (fun c_19 => ?_)
    · have b_20 : iv 0 0 u_15 := iv_q c_19 (iv_c (0 : Int32) (a := 0) (b := 0) (by decide))
      refine lv_aload_n hx hb dX10_laysForce_258 rfl (lv_at hl 1 rfl) ?_
      refine va_get (ci := 10) (v := .ref (z 26)) (C := RX10) (T := TX10) (N := 40) hx hb hg inX10 hown hK hP 7 rfl rfl 26 (by decide) (hg _ q_6_10) (fun _ h9 => h9) rfl dX10_laysForce_259 ?_
      refine lv_aload_n hx hb dX10_laysForce_262 rfl (lv_at hl 1 rfl) ?_
      refine jnI (wr := [(z 26, aI V 10000 f_16), (z 27, aI V 10000 f_17), (z 15, aI V 900 f_1), (z 16, aI V 6 f_2), (z 24, aI V 10000 f_3), (z 25, aI V 40000 f_4), (z 28, aZ V 10000 f_5)]) (rnV (rest := [.ref (z 26)]) ⟨hx, hb, hml, hown, hg⟩ (k_X10_standNow_0 l V z pz0_0 pz0_5 pz0_6 pz0_7 pz0_8 pz0_9 pz0_10 pz0_11 pz0_12 pz0_13 pz0_14 pz0_18 pz0_19 pz0_22 pz0_23 v_6 fz1 bpz0_5 bpz0_6 bpz0_7 bpz0_8 bpz0_10 bpz0_11 bpz0_12 bpz0_13 bpz0_14 bpz0_18 bpz0_22 bv_6 tfz1) mt_X10_standNow q_7_11 ⟨Nat.le_of_ble_eq_true rfl, Nat.le_of_ble_eq_true rfl⟩ hK hP hD hS hA hE [7, 8] rfl rfl 7 rfl rfl rfl rfl hl.1 rfl (Nat.le_of_ble_eq_true rfl) dX10_laysForce_263 ⟨Nat.le_of_ble_eq_true rfl, Nat.le_of_ble_eq_true rfl⟩) hP hD hS hA [7, 8] [0, 1, 2, 3, 4, 5, 6] rfl rfl rfl (by decide) (fun r_21 w H locs hw hP hD hS => ?_)
      obtain ⟨br_21, er_21, et_22, rfl⟩ := hw
      have hP : va_P V.1 vwCl [(z 26, aI V 10000 f_16), (z 27, aI V 10000 f_17), (z 15, aI V 900 f_1), (z 16, aI V 6 f_2), (z 24, aI V 10000 f_3), (z 25, aI V 40000 f_4), (z 28, aZ V 10000 f_5), (z 0, .inr (10, mo z pz0_0 pz0_5 pz0_6 pz0_7 pz0_8 pz0_9 pz0_10 pz0_11 pz0_12 pz0_13 pz0_14 pz0_18 pz0_19 pz0_22 pz0_23 v_6)), (z 1, aI V 3075 fz1)] H := hP
      have hD := cpD hP hD
      refine va_iald hx hb hK hP 0 0 rfl rfl (iv_in br_21 (by decide)) dX10_laysForce_266 ?_
      refine lv_topi (fun x_23 ex_23 => ?_)
      have bx_23 : iv 0 268435456 x_23 := by rw [ex_23]; exact tf_16 _
      have hP := subP (ws' := [(z 15, aI V 900 f_1), (z 16, aI V 6 f_2), (z 24, aI V 10000 f_3), (z 25, aI V 40000 f_4), (z 26, aI V 10000 f_16), (z 27, aI V 10000 f_17), (z 28, aZ V 10000 f_5), (z 0, .inr (10, mo z pz0_0 pz0_5 pz0_6 pz0_7 pz0_8 pz0_9 pz0_10 pz0_11 pz0_12 pz0_13 pz0_14 pz0_18 pz0_19 pz0_22 pz0_23 v_6)), (z 1, aI V 3075 fz1)]) hP [2, 3, 4, 5, 0, 1, 6, 7, 8] rfl
      have hD := subD hP hD [2, 3, 4, 5, 0, 1, 6, 7, 8] rfl rfl
      exact fiI hx hb hr hlk hK hP hD hS dX10_laysForce_267 (Nat.le_of_ble_eq_true rfl) (Nat.le_of_ble_eq_true rfl) (⟨f_1, f_2, f_3, f_4, f_16, f_17, f_5, v_6, tf_2, tf_3, tf_4, tf_16, tf_17, bv_6, bx_23, inn_18_0, rfl⟩)
    · have b_24 : iv 1 1 u_15 := iv_n0 c_19 bu_15 (iv_c (0 : Int32) (a := 0) (b := 0) (by decide)) (by decide)
      refine lv_iconst (v := 0) hx hb dX10_laysForce_80 (by decide) ?_
      refine lv_istore_n (lv' := [(3, .int 0), (0, .ref (z 0)), (1, .int a1), (2, .int a2)]) hx hb dX10_laysForce_81 rfl hl (by decide) rfl (fun ls hl => ?_)
      refine lv_aload_n hx hb dX10_laysForce_82 rfl (lv_at hl 1 rfl) ?_
      refine va_get (ci := 10) (v := .int v_6) (C := RX10) (T := TX10) (N := 40) hx hb hg inX10 hown hK hP 7 rfl rfl 29 (by decide) (hg _ q_6_13) (fun _ h9 => h9) rfl dX10_laysForce_83 ?_
      refine lv_iconst (v := 1) hx hb dX10_laysForce_86 (by decide) ?_
      refine lv_isub hx hb dX10_laysForce_87 ?_
      refine lv_topi (fun x_25 ex_25 => ?_)
      have bx_25 : iv (-1) 9999 x_25 := by rw [ex_25]; exact iv_sub bv_6 (iv_c (1 : Int32) (a := 1) (b := 1) (by decide)) (by decide)
      refine lv_istore (lv' := [(4, .int x_25), (3, .int 0), (0, .ref (z 0)), (1, .int a1), (2, .int a2)]) hx hb dX10_laysForce_88 hl (by decide) rfl (fun ls hl => ?_)
      refine loopF (X := fun (n_30 : Nat) (H : Heap) (locs : List Loc) (ls : Array Slot) => ∃ (u_26 : Int32) (u_27 : Int32) (f_28 : Nat → Int32) (f_29 : Nat → Int32), (iv (-1) 9999 u_26) ∧ (iv 0 1 u_27) ∧ (∀ j, iv 0 268435456 (f_28 j)) ∧ (∀ j, iv 0 268435456 (f_29 j)) ∧ (SD (sm f_28 10000 + sm f_29 10000) (sm f_16 10000 + sm f_17 10000) u_27) ∧ (RW fz1) ∧ n_30 = ((u_26 : Int32).toInt + 2147483648).toNat ∧ va_P V.1 vwCl [(z 26, aI V 10000 f_28), (z 27, aI V 10000 f_29), (z 15, aI V 900 f_1), (z 16, aI V 6 f_2), (z 24, aI V 10000 f_3), (z 25, aI V 40000 f_4), (z 28, aZ V 10000 f_5), (z 0, .inr (10, mo z pz0_0 pz0_5 pz0_6 pz0_7 pz0_8 pz0_9 pz0_10 pz0_11 pz0_12 pz0_13 pz0_14 pz0_18 pz0_19 pz0_22 pz0_23 v_6)), (z 1, aI V 3075 fz1)] H ∧ va_D A [(z 26, aI V 10000 f_28), (z 27, aI V 10000 f_29), (z 15, aI V 900 f_1), (z 16, aI V 6 f_2), (z 24, aI V 10000 f_3), (z 25, aI V 40000 f_4), (z 28, aZ V 10000 f_5), (z 0, .inr (10, mo z pz0_0 pz0_5 pz0_6 pz0_7 pz0_8 pz0_9 pz0_10 pz0_11 pz0_12 pz0_13 pz0_14 pz0_18 pz0_19 pz0_22 pz0_23 v_6)), (z 1, aI V 3075 fz1)] ∧ va_S A s.heap H locs ∧ lv_has ls 8 [(4, .int u_26), (3, .int u_27), (0, .ref (z 0)), (1, .int a1), (2, .int a2)]) (g := fun ls => F0 m 90 ls []) (fun n_30 H locs ls hX ihn_30 => ?_) _ ⟨x_25, 0, f_16, f_17, bx_25, (iv_c (0 : Int32) (by decide)), tf_16, tf_17, (SD_0 rfl), inn_18_0, rfl, hP, hD, hS, lv_sub hl [0, 1, 2, 3, 4] rfl⟩
      obtain ⟨u_26, u_27, f_28, f_29, bu_26, bu_27, tf_28, tf_29, inn_30_0, inn_30_1, en_30, hP, hD, hS, hl⟩ := hX
      refine lv_iload hx hb dX10_laysForce_90 (lv_at hl 0 rfl) ?_
      refine lv_if_lt (tgt := 255) hx hb dX10_laysForce_92 (by decide) (fun c_31 => ?_) (fun c_31 => ?_)
      · have b_32 : iv (-1) (-1) u_26 := iv_l1 c_31 bu_26 (iv_c (0 : Int32) (a := 0) (b := 0) (by decide)) (by decide)
        refine lv_goto (tgt := 76) hx hb dX10_laysForce_255 (by decide) ?_
        exact ihn_18 _ _ _ _ (by rw [en_18]; exact mu_more b_24 (by decide) bu_27 (by decide) inn_30_0) ⟨u_27, f_28, f_29, bu_27, tf_28, tf_29, inn_30_1, rfl, hP, hD, hS, lv_sub hl [1, 2, 3, 4] rfl⟩
      · have b_33 : iv 0 9999 u_26 := iv_e2 (Int32.not_lt.mp c_31) (iv_c (0 : Int32) (a := 0) (b := 0) (by decide)) bu_26 (by decide)
        refine lv_aload_n hx hb dX10_laysForce_95 rfl (lv_at hl 2 rfl) ?_
        refine va_get (ci := 10) (v := .ref (z 24)) (C := RX10) (T := TX10) (N := 40) hx hb hg inX10 hown hK hP 7 rfl rfl 24 (by decide) (hg _ q_6_8) (fun _ h9 => h9) rfl dX10_laysForce_96 ?_
        refine lv_iload hx hb dX10_laysForce_99 (lv_at hl 0 rfl) ?_
        refine va_iald hx hb hK hP 4 0 rfl rfl (iv_in b_33 (by decide)) dX10_laysForce_101 ?_
        refine lv_topi (fun x_34 ex_34 => ?_)
        have bx_34 : iv 0 9999 x_34 := by rw [ex_34]; exact tf_3 _
        refine lv_istore (lv' := [(5, .int x_34), (4, .int u_26), (3, .int u_27), (0, .ref (z 0)), (1, .int a1), (2, .int a2)]) hx hb dX10_laysForce_102 hl (by decide) rfl (fun ls hl => ?_)
        refine lv_iload hx hb dX10_laysForce_104 (lv_at hl 0 rfl) ?_
        refine lv_iload_n hx hb dX10_laysForce_106 rfl (lv_at hl 4 rfl) ?_
        refine jnI (wr := [(z 26, aI V 10000 f_28), (z 27, aI V 10000 f_29), (z 15, aI V 900 f_1), (z 16, aI V 6 f_2), (z 24, aI V 10000 f_3), (z 25, aI V 40000 f_4), (z 28, aZ V 10000 f_5), (z 0, .inr (10, mo z pz0_0 pz0_5 pz0_6 pz0_7 pz0_8 pz0_9 pz0_10 pz0_11 pz0_12 pz0_13 pz0_14 pz0_18 pz0_19 pz0_22 pz0_23 v_6)), (z 1, aI V 3075 fz1)]) (rnS (rest := []) ⟨hx, hb, hml, hown, hg⟩ (k_X10_stackIn_0 l V x_34 a1 bx_34 ba1) mt_X10_stackIn q_7_26 ⟨Nat.le_of_ble_eq_true rfl, Nat.le_of_ble_eq_true rfl⟩ hK hP hD hS hA hE [] rfl rfl rfl hl.1 rfl (Nat.le_of_ble_eq_true rfl) dX10_laysForce_107 ⟨Nat.le_of_ble_eq_true rfl, Nat.le_of_ble_eq_true rfl⟩) hP hD hS hA [] [0, 1, 2, 3, 4, 5, 6, 7, 8] rfl rfl rfl (by decide) (fun r_35 w H locs hw hP hD hS => ?_)
        obtain ⟨br_35, er_35, et_36, rfl⟩ := hw
        have hP : va_P V.1 vwCl [(z 26, aI V 10000 f_28), (z 27, aI V 10000 f_29), (z 15, aI V 900 f_1), (z 16, aI V 6 f_2), (z 24, aI V 10000 f_3), (z 25, aI V 40000 f_4), (z 28, aZ V 10000 f_5), (z 0, .inr (10, mo z pz0_0 pz0_5 pz0_6 pz0_7 pz0_8 pz0_9 pz0_10 pz0_11 pz0_12 pz0_13 pz0_14 pz0_18 pz0_19 pz0_22 pz0_23 v_6)), (z 1, aI V 3075 fz1)] H := hP
        have hD := cpD hP hD
        refine lv_iload_n hx hb dX10_laysForce_110 rfl (lv_at hl 5 rfl) ?_
        refine lv_icmp_ne (tgt := 117) hx hb dX10_laysForce_111 (by decide) (fun c_37 => ?_) (fun c_37 => ?_)
        · refine lv_aload_n hx hb dX10_laysForce_117 rfl (lv_at hl 3 rfl) ?_
          refine va_get (ci := 10) (v := .ref (z 26)) (C := RX10) (T := TX10) (N := 40) hx hb hg inX10 hown hK hP 7 rfl rfl 26 (by decide) (hg _ q_6_10) (fun _ h9 => h9) rfl dX10_laysForce_118 ?_
          refine lv_iload hx hb dX10_laysForce_121 (lv_at hl 0 rfl) ?_
          refine va_iald hx hb hK hP 0 0 rfl rfl (iv_in bx_34 (by decide)) dX10_laysForce_123 ?_
          refine lv_topi (fun x_38 ex_38 => ?_)
          have bx_38 : iv 0 268435456 x_38 := by rw [ex_38]; exact tf_28 _
          refine lv_istore (lv' := [(6, .int x_38), (5, .int x_34), (4, .int u_26), (3, .int u_27), (0, .ref (z 0)), (1, .int a1), (2, .int a2)]) hx hb dX10_laysForce_124 hl (by decide) rfl (fun ls hl => ?_)
          refine lv_iconst (v := 0) hx hb dX10_laysForce_126 (by decide) ?_
          refine lv_istore (lv' := [(7, .int 0), (6, .int x_38), (5, .int x_34), (4, .int u_26), (3, .int u_27), (0, .ref (z 0)), (1, .int a1), (2, .int a2)]) hx hb dX10_laysForce_127 hl (by decide) rfl (fun ls hl => ?_)
          refine loopF (X := fun (n_41 : Nat) (H : Heap) (locs : List Loc) (ls : Array Slot) => ∃ (u_39 : Int32) (u_40 : Int32), (iv 0 4 u_39) ∧ (iv 0 268435456 u_40) ∧ ((u_40 : Int32).toInt ≤ (x_38 : Int32).toInt) ∧ (RW fz1) ∧ n_41 = (2147483647 - (u_39 : Int32).toInt).toNat ∧ va_P V.1 vwCl [(z 26, aI V 10000 f_28), (z 27, aI V 10000 f_29), (z 15, aI V 900 f_1), (z 16, aI V 6 f_2), (z 24, aI V 10000 f_3), (z 25, aI V 40000 f_4), (z 28, aZ V 10000 f_5), (z 0, .inr (10, mo z pz0_0 pz0_5 pz0_6 pz0_7 pz0_8 pz0_9 pz0_10 pz0_11 pz0_12 pz0_13 pz0_14 pz0_18 pz0_19 pz0_22 pz0_23 v_6)), (z 1, aI V 3075 fz1)] H ∧ va_D A [(z 26, aI V 10000 f_28), (z 27, aI V 10000 f_29), (z 15, aI V 900 f_1), (z 16, aI V 6 f_2), (z 24, aI V 10000 f_3), (z 25, aI V 40000 f_4), (z 28, aZ V 10000 f_5), (z 0, .inr (10, mo z pz0_0 pz0_5 pz0_6 pz0_7 pz0_8 pz0_9 pz0_10 pz0_11 pz0_12 pz0_13 pz0_14 pz0_18 pz0_19 pz0_22 pz0_23 v_6)), (z 1, aI V 3075 fz1)] ∧ va_S A s.heap H locs ∧ lv_has ls 8 [(7, .int u_39), (6, .int u_40), (5, .int x_34), (4, .int u_26), (3, .int u_27), (0, .ref (z 0)), (1, .int a1), (2, .int a2)]) (g := fun ls => F0 m 129 ls []) (fun n_41 H locs ls hX ihn_41 => ?_) _ ⟨0, x_38, (iv_c (0 : Int32) (by decide)), bx_38, (Int.le_refl _), inn_30_1, rfl, hP, hD, hS, lv_sub hl [0, 1, 2, 3, 4, 5, 6, 7] rfl⟩
          obtain ⟨u_39, u_40, bu_39, bu_40, inn_41_0, inn_41_1, en_41, hP, hD, hS, hl⟩ := hX
          refine lv_iload hx hb dX10_laysForce_129 (lv_at hl 0 rfl) ?_
          refine lv_iconst (v := 4) hx hb dX10_laysForce_131 (by decide) ?_
          refine lv_icmp_ge (tgt := 169) hx hb dX10_laysForce_132 (by decide) (fun c_42 => ?_) (fun c_42 => ?_)
          · have b_43 : iv 4 4 u_39 := iv_e2 c_42 (iv_c (4 : Int32) (a := 4) (b := 4) (by decide)) bu_39 (by decide)
            refine lv_aload_n hx hb dX10_laysForce_169 rfl (lv_at hl 5 rfl) ?_
            refine lv_iload hx hb dX10_laysForce_170 (lv_at hl 2 rfl) ?_
            refine jnI (wr := [(z 27, aI V 10000 f_29), (z 15, aI V 900 f_1), (z 16, aI V 6 f_2), (z 24, aI V 10000 f_3), (z 28, aZ V 10000 f_5), (z 1, aI V 3075 fz1)]) (rnV (rest := []) ⟨hx, hb, hml, hown, hg⟩ (k_X10_otherAt_0 l V z x_34 f_28 f_4 pz0_0 pz0_5 pz0_6 pz0_7 pz0_8 pz0_9 pz0_10 pz0_11 pz0_12 pz0_13 pz0_14 pz0_18 pz0_19 pz0_22 pz0_23 v_6 bx_34 tf_28 tf_4 bpz0_5 bpz0_6 bpz0_7 bpz0_8 bpz0_10 bpz0_11 bpz0_12 bpz0_13 bpz0_14 bpz0_18 bpz0_22 bv_6) mt_X10_otherAt q_8_101 ⟨Nat.le_of_ble_eq_true rfl, Nat.le_of_ble_eq_true rfl⟩ hK hP hD hS hA hE [0, 5, 7] rfl rfl 7 rfl rfl rfl rfl hl.1 rfl (Nat.le_of_ble_eq_true rfl) dX10_laysForce_172 ⟨Nat.le_of_ble_eq_true rfl, Nat.le_of_ble_eq_true rfl⟩) hP hD hS hA [0, 5, 7] [1, 2, 3, 4, 6, 8] rfl rfl rfl (by decide) (fun r_44 w H locs hw hP hD hS => ?_)
            obtain ⟨br_44, rfl⟩ := hw
            have hP : va_P V.1 vwCl [(z 27, aI V 10000 f_29), (z 15, aI V 900 f_1), (z 16, aI V 6 f_2), (z 24, aI V 10000 f_3), (z 28, aZ V 10000 f_5), (z 1, aI V 3075 fz1), (z 26, aI V 10000 f_28), (z 25, aI V 40000 f_4), (z 0, .inr (10, mo z pz0_0 pz0_5 pz0_6 pz0_7 pz0_8 pz0_9 pz0_10 pz0_11 pz0_12 pz0_13 pz0_14 pz0_18 pz0_19 pz0_22 pz0_23 v_6))] H := hP
            have hD := cpD hP hD
            refine lv_istore (lv' := [(7, .int r_44), (6, .int u_40), (5, .int x_34), (4, .int u_26), (3, .int u_27), (0, .ref (z 0)), (1, .int a1), (2, .int a2)]) hx hb dX10_laysForce_175 hl (by decide) rfl (fun ls hl => ?_)
            refine lv_iload_n hx hb dX10_laysForce_177 rfl (lv_at hl 4 rfl) ?_
            refine lv_iload hx hb dX10_laysForce_178 (lv_at hl 1 rfl) ?_
            refine lv_aload_n hx hb dX10_laysForce_180 rfl (lv_at hl 5 rfl) ?_
            refine va_get (ci := 10) (v := .ref (z 26)) (C := RX10) (T := TX10) (N := 40) hx hb hg inX10 hown hK hP 8 rfl rfl 26 (by decide) (hg _ q_6_10) (fun _ h9 => h9) rfl dX10_laysForce_181 ?_
            refine lv_iload hx hb dX10_laysForce_184 (lv_at hl 2 rfl) ?_
            refine va_iald hx hb hK hP 6 0 rfl rfl (iv_in bx_34 (by decide)) dX10_laysForce_186 ?_
            refine tpi (y := x_38) ex_38.symm ?_
            refine lv_icmp_lt (tgt := 202) hx hb dX10_laysForce_187 (by decide) (fun c_45 => ?_) (fun c_45 => ?_)
            · have b_46 : iv 0 268435455 u_40 := iv_l1 c_45 bu_40 bx_38 (by decide)
              have b_47 : iv 1 268435456 x_38 := iv_l2 c_45 bu_40 bx_38 (by decide)
              refine lv_iconst (v := 1) hx hb dX10_laysForce_202 (by decide) ?_
              refine lv_goto (tgt := 207) hx hb dX10_laysForce_203 (by decide) ?_
              refine lv_ior hx hb dX10_laysForce_207 ?_
              refine lv_topi (fun x_48 ex_48 => ?_)
              have bx_48 : iv 0 1 x_48 := by rw [ex_48]; exact iv_or1 bu_27 (iv_c (1 : Int32) (a := 1) (b := 1) (by decide)) (by decide)
              refine lv_istore_n (lv' := [(3, .int x_48), (7, .int r_44), (6, .int u_40), (5, .int x_34), (4, .int u_26), (0, .ref (z 0)), (1, .int a1), (2, .int a2)]) hx hb dX10_laysForce_208 rfl hl (by decide) rfl (fun ls hl => ?_)
              refine lv_aload_n hx hb dX10_laysForce_209 rfl (lv_at hl 5 rfl) ?_
              refine va_get (ci := 10) (v := .ref (z 26)) (C := RX10) (T := TX10) (N := 40) hx hb hg inX10 hown hK hP 8 rfl rfl 26 (by decide) (hg _ q_6_10) (fun _ h9 => h9) rfl dX10_laysForce_210 ?_
              refine lv_iload hx hb dX10_laysForce_213 (lv_at hl 3 rfl) ?_
              refine lv_iload hx hb dX10_laysForce_215 (lv_at hl 2 rfl) ?_
              refine va_iast hx hb hK hP hD hS 6 0 rfl rfl (iv_in bx_34 (by decide)) dX10_laysForce_217 (fun H locs hP hD hS => ?_)
              obtain ⟨f_49, ef_49, tf_49, hP, hD⟩ : ∃ f_49 : Nat → Int32, f_49 = (upd f_28 (x_34 : Int32).toNatClampNeg u_40) ∧ (∀ j, iv 0 268435456 (f_49 j)) ∧ va_P V.1 vwCl [(z 27, aI V 10000 f_29), (z 15, aI V 900 f_1), (z 16, aI V 6 f_2), (z 24, aI V 10000 f_3), (z 28, aZ V 10000 f_5), (z 1, aI V 3075 fz1), (z 26, aI V 10000 f_49), (z 25, aI V 40000 f_4), (z 0, .inr (10, mo z pz0_0 pz0_5 pz0_6 pz0_7 pz0_8 pz0_9 pz0_10 pz0_11 pz0_12 pz0_13 pz0_14 pz0_18 pz0_19 pz0_22 pz0_23 v_6))] H ∧ va_D A [(z 27, aI V 10000 f_29), (z 15, aI V 900 f_1), (z 16, aI V 6 f_2), (z 24, aI V 10000 f_3), (z 28, aZ V 10000 f_5), (z 1, aI V 3075 fz1), (z 26, aI V 10000 f_49), (z 25, aI V 40000 f_4), (z 0, .inr (10, mo z pz0_0 pz0_5 pz0_6 pz0_7 pz0_8 pz0_9 pz0_10 pz0_11 pz0_12 pz0_13 pz0_14 pz0_18 pz0_19 pz0_22 pz0_23 v_6))] := ⟨_, rfl, ivU tf_28 _ (iv_w b_46 (by decide)), hP, hD⟩
              refine lv_aload_n hx hb dX10_laysForce_218 rfl (lv_at hl 5 rfl) ?_
              refine va_get (ci := 10) (v := .ref (z 27)) (C := RX10) (T := TX10) (N := 40) hx hb hg inX10 hown hK hP 8 rfl rfl 27 (by decide) (hg _ q_6_11) (fun _ h9 => h9) rfl dX10_laysForce_219 ?_
              refine lv_iload hx hb dX10_laysForce_222 (lv_at hl 3 rfl) ?_
              refine lv_iload hx hb dX10_laysForce_224 (lv_at hl 1 rfl) ?_
              refine lv_aload_n hx hb dX10_laysForce_226 rfl (lv_at hl 5 rfl) ?_
              refine va_get (ci := 10) (v := .ref (z 27)) (C := RX10) (T := TX10) (N := 40) hx hb hg inX10 hown hK hP 8 rfl rfl 27 (by decide) (hg _ q_6_11) (fun _ h9 => h9) rfl dX10_laysForce_227 ?_
              refine lv_iload hx hb dX10_laysForce_230 (lv_at hl 3 rfl) ?_
              refine va_iald hx hb hK hP 0 0 rfl rfl (iv_in bx_34 (by decide)) dX10_laysForce_232 ?_
              refine lv_topi (fun x_50 ex_50 => ?_)
              have bx_50 : iv 0 268435456 x_50 := by rw [ex_50]; exact tf_29 _
              refine lv_icmp_ge (tgt := 241) hx hb dX10_laysForce_233 (by decide) (fun c_51 => ?_) (fun c_51 => ?_)
              · refine lv_aload_n hx hb dX10_laysForce_241 rfl (lv_at hl 5 rfl) ?_
                refine va_get (ci := 10) (v := .ref (z 27)) (C := RX10) (T := TX10) (N := 40) hx hb hg inX10 hown hK hP 8 rfl rfl 27 (by decide) (hg _ q_6_11) (fun _ h9 => h9) rfl dX10_laysForce_242 ?_
                refine lv_iload hx hb dX10_laysForce_245 (lv_at hl 3 rfl) ?_
                refine va_iald hx hb hK hP 0 0 rfl rfl (iv_in bx_34 (by decide)) dX10_laysForce_247 ?_
                refine tpi (y := x_50) ex_50.symm ?_
                refine va_iast hx hb hK hP hD hS 0 0 rfl rfl (iv_in bx_34 (by decide)) dX10_laysForce_248 (fun H locs hP hD hS => ?_)
                obtain ⟨f_52, ef_52, tf_52, hP, hD⟩ : ∃ f_52 : Nat → Int32, f_52 = (upd f_29 (x_34 : Int32).toNatClampNeg x_50) ∧ (∀ j, iv 0 268435456 (f_52 j)) ∧ va_P V.1 vwCl [(z 27, aI V 10000 f_52), (z 15, aI V 900 f_1), (z 16, aI V 6 f_2), (z 24, aI V 10000 f_3), (z 28, aZ V 10000 f_5), (z 1, aI V 3075 fz1), (z 26, aI V 10000 f_49), (z 25, aI V 40000 f_4), (z 0, .inr (10, mo z pz0_0 pz0_5 pz0_6 pz0_7 pz0_8 pz0_9 pz0_10 pz0_11 pz0_12 pz0_13 pz0_14 pz0_18 pz0_19 pz0_22 pz0_23 v_6))] H ∧ va_D A [(z 27, aI V 10000 f_52), (z 15, aI V 900 f_1), (z 16, aI V 6 f_2), (z 24, aI V 10000 f_3), (z 28, aZ V 10000 f_5), (z 1, aI V 3075 fz1), (z 26, aI V 10000 f_49), (z 25, aI V 40000 f_4), (z 0, .inr (10, mo z pz0_0 pz0_5 pz0_6 pz0_7 pz0_8 pz0_9 pz0_10 pz0_11 pz0_12 pz0_13 pz0_14 pz0_18 pz0_19 pz0_22 pz0_23 v_6))] := ⟨_, rfl, ivU tf_29 _ bx_50, hP, hD⟩
                obtain ⟨x_53, ex_53⟩ : ∃ z9 : Int32, z9 = u_26 + (-1) := ⟨_, rfl⟩
                have bx_53 : iv (-1) 9998 x_53 := by rw [ex_53]; exact iv_add b_33 (iv_c ((-1) : Int32) (a := (-1)) (b := (-1)) (by decide)) (by decide)
                refine lv_iinc (v := x_53) (lv' := [(4, .int x_53), (3, .int x_48), (7, .int r_44), (6, .int u_40), (5, .int x_34), (0, .ref (z 0)), (1, .int a1), (2, .int a2)]) hx hb dX10_laysForce_249 hl (k := 4) rfl (by rw [ex_53]; rfl) (by decide) rfl (fun ls hl => ?_)
                refine lv_goto (tgt := 90) hx hb dX10_laysForce_252 (by decide) ?_
                have hP := subP (ws' := [(z 26, aI V 10000 f_49), (z 27, aI V 10000 f_52), (z 15, aI V 900 f_1), (z 16, aI V 6 f_2), (z 24, aI V 10000 f_3), (z 25, aI V 40000 f_4), (z 28, aZ V 10000 f_5), (z 0, .inr (10, mo z pz0_0 pz0_5 pz0_6 pz0_7 pz0_8 pz0_9 pz0_10 pz0_11 pz0_12 pz0_13 pz0_14 pz0_18 pz0_19 pz0_22 pz0_23 v_6)), (z 1, aI V 3075 fz1)]) hP [6, 0, 1, 2, 3, 7, 4, 8, 5] rfl
                have hD := subD hP hD [6, 0, 1, 2, 3, 7, 4, 8, 5] rfl rfl
                exact ihn_30 _ _ _ _ (by rw [en_30, ex_53]; exact mu_dn b_33 (by decide)) ⟨x_53, x_48, f_49, f_52, (iv_w bx_53 (by decide)), bx_48, tf_49, tf_52, (SD_1 inn_30_0 (Nat.add_lt_add_of_lt_of_le (sm_lt ef_49 bx_34 (by decide) ex_38 b_47 b_46 (by decide) c_45) (sm_le ef_52 bx_34 (by decide) ex_50 bx_50 bx_50 (by decide) (Int.le_refl _)))), inn_41_1, rfl, hP, hD, hS, lv_sub hl [0, 1, 5, 6, 7] rfl⟩
              · have b_54 : iv 0 268435455 r_44 := iv_l1 (Int32.not_le.mp c_51) br_44 bx_50 (by decide)
                have b_55 : iv 1 268435456 x_50 := iv_l2 (Int32.not_le.mp c_51) br_44 bx_50 (by decide)
                refine lv_iload hx hb dX10_laysForce_236 (lv_at hl 1 rfl) ?_
                refine lv_goto (tgt := 248) hx hb dX10_laysForce_238 (by decide) ?_
                refine va_iast hx hb hK hP hD hS 0 0 rfl rfl (iv_in bx_34 (by decide)) dX10_laysForce_248 (fun H locs hP hD hS => ?_)
                obtain ⟨f_56, ef_56, tf_56, hP, hD⟩ : ∃ f_56 : Nat → Int32, f_56 = (upd f_29 (x_34 : Int32).toNatClampNeg r_44) ∧ (∀ j, iv 0 268435456 (f_56 j)) ∧ va_P V.1 vwCl [(z 27, aI V 10000 f_56), (z 15, aI V 900 f_1), (z 16, aI V 6 f_2), (z 24, aI V 10000 f_3), (z 28, aZ V 10000 f_5), (z 1, aI V 3075 fz1), (z 26, aI V 10000 f_49), (z 25, aI V 40000 f_4), (z 0, .inr (10, mo z pz0_0 pz0_5 pz0_6 pz0_7 pz0_8 pz0_9 pz0_10 pz0_11 pz0_12 pz0_13 pz0_14 pz0_18 pz0_19 pz0_22 pz0_23 v_6))] H ∧ va_D A [(z 27, aI V 10000 f_56), (z 15, aI V 900 f_1), (z 16, aI V 6 f_2), (z 24, aI V 10000 f_3), (z 28, aZ V 10000 f_5), (z 1, aI V 3075 fz1), (z 26, aI V 10000 f_49), (z 25, aI V 40000 f_4), (z 0, .inr (10, mo z pz0_0 pz0_5 pz0_6 pz0_7 pz0_8 pz0_9 pz0_10 pz0_11 pz0_12 pz0_13 pz0_14 pz0_18 pz0_19 pz0_22 pz0_23 v_6))] := ⟨_, rfl, ivU tf_29 _ (iv_w b_54 (by decide)), hP, hD⟩
                obtain ⟨x_57, ex_57⟩ : ∃ z9 : Int32, z9 = u_26 + (-1) := ⟨_, rfl⟩
                have bx_57 : iv (-1) 9998 x_57 := by rw [ex_57]; exact iv_add b_33 (iv_c ((-1) : Int32) (a := (-1)) (b := (-1)) (by decide)) (by decide)
                refine lv_iinc (v := x_57) (lv' := [(4, .int x_57), (3, .int x_48), (7, .int r_44), (6, .int u_40), (5, .int x_34), (0, .ref (z 0)), (1, .int a1), (2, .int a2)]) hx hb dX10_laysForce_249 hl (k := 4) rfl (by rw [ex_57]; rfl) (by decide) rfl (fun ls hl => ?_)
                refine lv_goto (tgt := 90) hx hb dX10_laysForce_252 (by decide) ?_
                have hP := subP (ws' := [(z 26, aI V 10000 f_49), (z 27, aI V 10000 f_56), (z 15, aI V 900 f_1), (z 16, aI V 6 f_2), (z 24, aI V 10000 f_3), (z 25, aI V 40000 f_4), (z 28, aZ V 10000 f_5), (z 0, .inr (10, mo z pz0_0 pz0_5 pz0_6 pz0_7 pz0_8 pz0_9 pz0_10 pz0_11 pz0_12 pz0_13 pz0_14 pz0_18 pz0_19 pz0_22 pz0_23 v_6)), (z 1, aI V 3075 fz1)]) hP [6, 0, 1, 2, 3, 7, 4, 8, 5] rfl
                have hD := subD hP hD [6, 0, 1, 2, 3, 7, 4, 8, 5] rfl rfl
                exact ihn_30 _ _ _ _ (by rw [en_30, ex_57]; exact mu_dn b_33 (by decide)) ⟨x_57, x_48, f_49, f_56, (iv_w bx_57 (by decide)), bx_48, tf_49, tf_56, (SD_1 inn_30_0 (Nat.add_lt_add_of_lt_of_le (sm_lt ef_49 bx_34 (by decide) ex_38 b_47 b_46 (by decide) c_45) (sm_le ef_56 bx_34 (by decide) ex_50 b_55 b_54 (by decide) (Int.le_of_lt (Int32.lt_iff_toInt_lt.mp (Int32.not_le.mp c_51)))))), inn_41_1, rfl, hP, hD, hS, lv_sub hl [0, 1, 5, 6, 7] rfl⟩
            · refine lv_iload hx hb dX10_laysForce_190 (lv_at hl 0 rfl) ?_
              refine lv_aload_n hx hb dX10_laysForce_192 rfl (lv_at hl 5 rfl) ?_
              refine va_get (ci := 10) (v := .ref (z 27)) (C := RX10) (T := TX10) (N := 40) hx hb hg inX10 hown hK hP 8 rfl rfl 27 (by decide) (hg _ q_6_11) (fun _ h9 => h9) rfl dX10_laysForce_193 ?_
              refine lv_iload hx hb dX10_laysForce_196 (lv_at hl 2 rfl) ?_
              refine va_iald hx hb hK hP 0 0 rfl rfl (iv_in bx_34 (by decide)) dX10_laysForce_198 ?_
              refine lv_topi (fun x_58 ex_58 => ?_)
              have bx_58 : iv 0 268435456 x_58 := by rw [ex_58]; exact tf_29 _
              refine lv_icmp_ge (tgt := 206) hx hb dX10_laysForce_199 (by decide) (fun c_59 => ?_) (fun c_59 => ?_)
              · refine lv_iconst (v := 0) hx hb dX10_laysForce_206 (by decide) ?_
                refine lv_ior hx hb dX10_laysForce_207 ?_
                refine lv_topi (fun x_60 ex_60 => ?_)
                have bx_60 : iv 0 1 x_60 := by rw [ex_60]; exact iv_or1 bu_27 (iv_c (0 : Int32) (a := 0) (b := 0) (by decide)) (by decide)
                refine lv_istore_n (lv' := [(3, .int x_60), (7, .int r_44), (6, .int u_40), (5, .int x_34), (4, .int u_26), (0, .ref (z 0)), (1, .int a1), (2, .int a2)]) hx hb dX10_laysForce_208 rfl hl (by decide) rfl (fun ls hl => ?_)
                refine lv_aload_n hx hb dX10_laysForce_209 rfl (lv_at hl 5 rfl) ?_
                refine va_get (ci := 10) (v := .ref (z 26)) (C := RX10) (T := TX10) (N := 40) hx hb hg inX10 hown hK hP 8 rfl rfl 26 (by decide) (hg _ q_6_10) (fun _ h9 => h9) rfl dX10_laysForce_210 ?_
                refine lv_iload hx hb dX10_laysForce_213 (lv_at hl 3 rfl) ?_
                refine lv_iload hx hb dX10_laysForce_215 (lv_at hl 2 rfl) ?_
                refine va_iast hx hb hK hP hD hS 6 0 rfl rfl (iv_in bx_34 (by decide)) dX10_laysForce_217 (fun H locs hP hD hS => ?_)
                obtain ⟨f_61, ef_61, tf_61, hP, hD⟩ : ∃ f_61 : Nat → Int32, f_61 = (upd f_28 (x_34 : Int32).toNatClampNeg u_40) ∧ (∀ j, iv 0 268435456 (f_61 j)) ∧ va_P V.1 vwCl [(z 27, aI V 10000 f_29), (z 15, aI V 900 f_1), (z 16, aI V 6 f_2), (z 24, aI V 10000 f_3), (z 28, aZ V 10000 f_5), (z 1, aI V 3075 fz1), (z 26, aI V 10000 f_61), (z 25, aI V 40000 f_4), (z 0, .inr (10, mo z pz0_0 pz0_5 pz0_6 pz0_7 pz0_8 pz0_9 pz0_10 pz0_11 pz0_12 pz0_13 pz0_14 pz0_18 pz0_19 pz0_22 pz0_23 v_6))] H ∧ va_D A [(z 27, aI V 10000 f_29), (z 15, aI V 900 f_1), (z 16, aI V 6 f_2), (z 24, aI V 10000 f_3), (z 28, aZ V 10000 f_5), (z 1, aI V 3075 fz1), (z 26, aI V 10000 f_61), (z 25, aI V 40000 f_4), (z 0, .inr (10, mo z pz0_0 pz0_5 pz0_6 pz0_7 pz0_8 pz0_9 pz0_10 pz0_11 pz0_12 pz0_13 pz0_14 pz0_18 pz0_19 pz0_22 pz0_23 v_6))] := ⟨_, rfl, ivU tf_28 _ bu_40, hP, hD⟩
                refine lv_aload_n hx hb dX10_laysForce_218 rfl (lv_at hl 5 rfl) ?_
                refine va_get (ci := 10) (v := .ref (z 27)) (C := RX10) (T := TX10) (N := 40) hx hb hg inX10 hown hK hP 8 rfl rfl 27 (by decide) (hg _ q_6_11) (fun _ h9 => h9) rfl dX10_laysForce_219 ?_
                refine lv_iload hx hb dX10_laysForce_222 (lv_at hl 3 rfl) ?_
                refine lv_iload hx hb dX10_laysForce_224 (lv_at hl 1 rfl) ?_
                refine lv_aload_n hx hb dX10_laysForce_226 rfl (lv_at hl 5 rfl) ?_
                refine va_get (ci := 10) (v := .ref (z 27)) (C := RX10) (T := TX10) (N := 40) hx hb hg inX10 hown hK hP 8 rfl rfl 27 (by decide) (hg _ q_6_11) (fun _ h9 => h9) rfl dX10_laysForce_227 ?_
                refine lv_iload hx hb dX10_laysForce_230 (lv_at hl 3 rfl) ?_
                refine va_iald hx hb hK hP 0 0 rfl rfl (iv_in bx_34 (by decide)) dX10_laysForce_232 ?_
                refine tpi (y := x_58) ex_58.symm ?_
                refine lv_icmp_ge (tgt := 241) hx hb dX10_laysForce_233 (by decide) (fun _ => ?_) (fun c_63 => absurd c_59 c_63)
                refine lv_aload_n hx hb dX10_laysForce_241 rfl (lv_at hl 5 rfl) ?_
                refine va_get (ci := 10) (v := .ref (z 27)) (C := RX10) (T := TX10) (N := 40) hx hb hg inX10 hown hK hP 8 rfl rfl 27 (by decide) (hg _ q_6_11) (fun _ h9 => h9) rfl dX10_laysForce_242 ?_
                refine lv_iload hx hb dX10_laysForce_245 (lv_at hl 3 rfl) ?_
                refine va_iald hx hb hK hP 0 0 rfl rfl (iv_in bx_34 (by decide)) dX10_laysForce_247 ?_
                refine tpi (y := x_58) ex_58.symm ?_
                refine va_iast hx hb hK hP hD hS 0 0 rfl rfl (iv_in bx_34 (by decide)) dX10_laysForce_248 (fun H locs hP hD hS => ?_)
                obtain ⟨f_64, ef_64, tf_64, hP, hD⟩ : ∃ f_64 : Nat → Int32, f_64 = (upd f_29 (x_34 : Int32).toNatClampNeg x_58) ∧ (∀ j, iv 0 268435456 (f_64 j)) ∧ va_P V.1 vwCl [(z 27, aI V 10000 f_64), (z 15, aI V 900 f_1), (z 16, aI V 6 f_2), (z 24, aI V 10000 f_3), (z 28, aZ V 10000 f_5), (z 1, aI V 3075 fz1), (z 26, aI V 10000 f_61), (z 25, aI V 40000 f_4), (z 0, .inr (10, mo z pz0_0 pz0_5 pz0_6 pz0_7 pz0_8 pz0_9 pz0_10 pz0_11 pz0_12 pz0_13 pz0_14 pz0_18 pz0_19 pz0_22 pz0_23 v_6))] H ∧ va_D A [(z 27, aI V 10000 f_64), (z 15, aI V 900 f_1), (z 16, aI V 6 f_2), (z 24, aI V 10000 f_3), (z 28, aZ V 10000 f_5), (z 1, aI V 3075 fz1), (z 26, aI V 10000 f_61), (z 25, aI V 40000 f_4), (z 0, .inr (10, mo z pz0_0 pz0_5 pz0_6 pz0_7 pz0_8 pz0_9 pz0_10 pz0_11 pz0_12 pz0_13 pz0_14 pz0_18 pz0_19 pz0_22 pz0_23 v_6))] := ⟨_, rfl, ivU tf_29 _ bx_58, hP, hD⟩
                obtain ⟨x_65, ex_65⟩ : ∃ z9 : Int32, z9 = u_26 + (-1) := ⟨_, rfl⟩
                have bx_65 : iv (-1) 9998 x_65 := by rw [ex_65]; exact iv_add b_33 (iv_c ((-1) : Int32) (a := (-1)) (b := (-1)) (by decide)) (by decide)
                refine lv_iinc (v := x_65) (lv' := [(4, .int x_65), (3, .int x_60), (7, .int r_44), (6, .int u_40), (5, .int x_34), (0, .ref (z 0)), (1, .int a1), (2, .int a2)]) hx hb dX10_laysForce_249 hl (k := 4) rfl (by rw [ex_65]; rfl) (by decide) rfl (fun ls hl => ?_)
                refine lv_goto (tgt := 90) hx hb dX10_laysForce_252 (by decide) ?_
                have hP := subP (ws' := [(z 26, aI V 10000 f_61), (z 27, aI V 10000 f_64), (z 15, aI V 900 f_1), (z 16, aI V 6 f_2), (z 24, aI V 10000 f_3), (z 25, aI V 40000 f_4), (z 28, aZ V 10000 f_5), (z 0, .inr (10, mo z pz0_0 pz0_5 pz0_6 pz0_7 pz0_8 pz0_9 pz0_10 pz0_11 pz0_12 pz0_13 pz0_14 pz0_18 pz0_19 pz0_22 pz0_23 v_6)), (z 1, aI V 3075 fz1)]) hP [6, 0, 1, 2, 3, 7, 4, 8, 5] rfl
                have hD := subD hP hD [6, 0, 1, 2, 3, 7, 4, 8, 5] rfl rfl
                exact ihn_30 _ _ _ _ (by rw [en_30, ex_65]; exact mu_dn b_33 (by decide)) ⟨x_65, x_60, f_61, f_64, (iv_w bx_65 (by decide)), bx_60, tf_61, tf_64, (SD_e inn_30_0 (Nat.add_le_add (sm_le ef_61 bx_34 (by decide) ex_38 bx_38 bu_40 (by decide) inn_41_0) (sm_le ef_64 bx_34 (by decide) ex_58 bx_58 bx_58 (by decide) (Int.le_refl _))) (or_z ex_60)), inn_41_1, rfl, hP, hD, hS, lv_sub hl [0, 1, 5, 6, 7] rfl⟩
              · have b_66 : iv 0 268435455 r_44 := iv_l1 (Int32.not_le.mp c_59) br_44 bx_58 (by decide)
                have b_67 : iv 1 268435456 x_58 := iv_l2 (Int32.not_le.mp c_59) br_44 bx_58 (by decide)
                refine lv_iconst (v := 1) hx hb dX10_laysForce_202 (by decide) ?_
                refine lv_goto (tgt := 207) hx hb dX10_laysForce_203 (by decide) ?_
                refine lv_ior hx hb dX10_laysForce_207 ?_
                refine lv_topi (fun x_68 ex_68 => ?_)
                have bx_68 : iv 0 1 x_68 := by rw [ex_68]; exact iv_or1 bu_27 (iv_c (1 : Int32) (a := 1) (b := 1) (by decide)) (by decide)
                refine lv_istore_n (lv' := [(3, .int x_68), (7, .int r_44), (6, .int u_40), (5, .int x_34), (4, .int u_26), (0, .ref (z 0)), (1, .int a1), (2, .int a2)]) hx hb dX10_laysForce_208 rfl hl (by decide) rfl (fun ls hl => ?_)
                refine lv_aload_n hx hb dX10_laysForce_209 rfl (lv_at hl 5 rfl) ?_
                refine va_get (ci := 10) (v := .ref (z 26)) (C := RX10) (T := TX10) (N := 40) hx hb hg inX10 hown hK hP 8 rfl rfl 26 (by decide) (hg _ q_6_10) (fun _ h9 => h9) rfl dX10_laysForce_210 ?_
                refine lv_iload hx hb dX10_laysForce_213 (lv_at hl 3 rfl) ?_
                refine lv_iload hx hb dX10_laysForce_215 (lv_at hl 2 rfl) ?_
                refine va_iast hx hb hK hP hD hS 6 0 rfl rfl (iv_in bx_34 (by decide)) dX10_laysForce_217 (fun H locs hP hD hS => ?_)
                obtain ⟨f_69, ef_69, tf_69, hP, hD⟩ : ∃ f_69 : Nat → Int32, f_69 = (upd f_28 (x_34 : Int32).toNatClampNeg u_40) ∧ (∀ j, iv 0 268435456 (f_69 j)) ∧ va_P V.1 vwCl [(z 27, aI V 10000 f_29), (z 15, aI V 900 f_1), (z 16, aI V 6 f_2), (z 24, aI V 10000 f_3), (z 28, aZ V 10000 f_5), (z 1, aI V 3075 fz1), (z 26, aI V 10000 f_69), (z 25, aI V 40000 f_4), (z 0, .inr (10, mo z pz0_0 pz0_5 pz0_6 pz0_7 pz0_8 pz0_9 pz0_10 pz0_11 pz0_12 pz0_13 pz0_14 pz0_18 pz0_19 pz0_22 pz0_23 v_6))] H ∧ va_D A [(z 27, aI V 10000 f_29), (z 15, aI V 900 f_1), (z 16, aI V 6 f_2), (z 24, aI V 10000 f_3), (z 28, aZ V 10000 f_5), (z 1, aI V 3075 fz1), (z 26, aI V 10000 f_69), (z 25, aI V 40000 f_4), (z 0, .inr (10, mo z pz0_0 pz0_5 pz0_6 pz0_7 pz0_8 pz0_9 pz0_10 pz0_11 pz0_12 pz0_13 pz0_14 pz0_18 pz0_19 pz0_22 pz0_23 v_6))] := ⟨_, rfl, ivU tf_28 _ bu_40, hP, hD⟩
                refine lv_aload_n hx hb dX10_laysForce_218 rfl (lv_at hl 5 rfl) ?_
                refine va_get (ci := 10) (v := .ref (z 27)) (C := RX10) (T := TX10) (N := 40) hx hb hg inX10 hown hK hP 8 rfl rfl 27 (by decide) (hg _ q_6_11) (fun _ h9 => h9) rfl dX10_laysForce_219 ?_
                refine lv_iload hx hb dX10_laysForce_222 (lv_at hl 3 rfl) ?_
                refine lv_iload hx hb dX10_laysForce_224 (lv_at hl 1 rfl) ?_
                refine lv_aload_n hx hb dX10_laysForce_226 rfl (lv_at hl 5 rfl) ?_
                refine va_get (ci := 10) (v := .ref (z 27)) (C := RX10) (T := TX10) (N := 40) hx hb hg inX10 hown hK hP 8 rfl rfl 27 (by decide) (hg _ q_6_11) (fun _ h9 => h9) rfl dX10_laysForce_227 ?_
                refine lv_iload hx hb dX10_laysForce_230 (lv_at hl 3 rfl) ?_
                refine va_iald hx hb hK hP 0 0 rfl rfl (iv_in bx_34 (by decide)) dX10_laysForce_232 ?_
                refine tpi (y := x_58) ex_58.symm ?_
                refine lv_icmp_ge (tgt := 241) hx hb dX10_laysForce_233 (by decide) (fun c_71 => absurd c_71 c_59) (fun _ => ?_)
                refine lv_iload hx hb dX10_laysForce_236 (lv_at hl 1 rfl) ?_
                refine lv_goto (tgt := 248) hx hb dX10_laysForce_238 (by decide) ?_
                refine va_iast hx hb hK hP hD hS 0 0 rfl rfl (iv_in bx_34 (by decide)) dX10_laysForce_248 (fun H locs hP hD hS => ?_)
                obtain ⟨f_72, ef_72, tf_72, hP, hD⟩ : ∃ f_72 : Nat → Int32, f_72 = (upd f_29 (x_34 : Int32).toNatClampNeg r_44) ∧ (∀ j, iv 0 268435456 (f_72 j)) ∧ va_P V.1 vwCl [(z 27, aI V 10000 f_72), (z 15, aI V 900 f_1), (z 16, aI V 6 f_2), (z 24, aI V 10000 f_3), (z 28, aZ V 10000 f_5), (z 1, aI V 3075 fz1), (z 26, aI V 10000 f_69), (z 25, aI V 40000 f_4), (z 0, .inr (10, mo z pz0_0 pz0_5 pz0_6 pz0_7 pz0_8 pz0_9 pz0_10 pz0_11 pz0_12 pz0_13 pz0_14 pz0_18 pz0_19 pz0_22 pz0_23 v_6))] H ∧ va_D A [(z 27, aI V 10000 f_72), (z 15, aI V 900 f_1), (z 16, aI V 6 f_2), (z 24, aI V 10000 f_3), (z 28, aZ V 10000 f_5), (z 1, aI V 3075 fz1), (z 26, aI V 10000 f_69), (z 25, aI V 40000 f_4), (z 0, .inr (10, mo z pz0_0 pz0_5 pz0_6 pz0_7 pz0_8 pz0_9 pz0_10 pz0_11 pz0_12 pz0_13 pz0_14 pz0_18 pz0_19 pz0_22 pz0_23 v_6))] := ⟨_, rfl, ivU tf_29 _ (iv_w b_66 (by decide)), hP, hD⟩
                obtain ⟨x_73, ex_73⟩ : ∃ z9 : Int32, z9 = u_26 + (-1) := ⟨_, rfl⟩
                have bx_73 : iv (-1) 9998 x_73 := by rw [ex_73]; exact iv_add b_33 (iv_c ((-1) : Int32) (a := (-1)) (b := (-1)) (by decide)) (by decide)
                refine lv_iinc (v := x_73) (lv' := [(4, .int x_73), (3, .int x_68), (7, .int r_44), (6, .int u_40), (5, .int x_34), (0, .ref (z 0)), (1, .int a1), (2, .int a2)]) hx hb dX10_laysForce_249 hl (k := 4) rfl (by rw [ex_73]; rfl) (by decide) rfl (fun ls hl => ?_)
                refine lv_goto (tgt := 90) hx hb dX10_laysForce_252 (by decide) ?_
                have hP := subP (ws' := [(z 26, aI V 10000 f_69), (z 27, aI V 10000 f_72), (z 15, aI V 900 f_1), (z 16, aI V 6 f_2), (z 24, aI V 10000 f_3), (z 25, aI V 40000 f_4), (z 28, aZ V 10000 f_5), (z 0, .inr (10, mo z pz0_0 pz0_5 pz0_6 pz0_7 pz0_8 pz0_9 pz0_10 pz0_11 pz0_12 pz0_13 pz0_14 pz0_18 pz0_19 pz0_22 pz0_23 v_6)), (z 1, aI V 3075 fz1)]) hP [6, 0, 1, 2, 3, 7, 4, 8, 5] rfl
                have hD := subD hP hD [6, 0, 1, 2, 3, 7, 4, 8, 5] rfl rfl
                exact ihn_30 _ _ _ _ (by rw [en_30, ex_73]; exact mu_dn b_33 (by decide)) ⟨x_73, x_68, f_69, f_72, (iv_w bx_73 (by decide)), bx_68, tf_69, tf_72, (SD_1 inn_30_0 (Nat.add_lt_add_of_le_of_lt (sm_le ef_69 bx_34 (by decide) ex_38 bx_38 bu_40 (by decide) inn_41_0) (sm_lt ef_72 bx_34 (by decide) ex_58 b_67 b_66 (by decide) (Int32.not_le.mp c_59)))), inn_41_1, rfl, hP, hD, hS, lv_sub hl [0, 1, 5, 6, 7] rfl⟩
          · have b_74 : iv 0 3 u_39 := iv_l1 (Int32.not_le.mp c_42) bu_39 (iv_c (4 : Int32) (a := 4) (b := 4) (by decide)) (by decide)
            refine lv_aload_n hx hb dX10_laysForce_135 rfl (lv_at hl 5 rfl) ?_
            refine lv_iload hx hb dX10_laysForce_136 (lv_at hl 2 rfl) ?_
            refine lv_iload hx hb dX10_laysForce_138 (lv_at hl 0 rfl) ?_
            refine jnI (wr := [(z 26, aI V 10000 f_28), (z 15, aI V 900 f_1), (z 16, aI V 6 f_2), (z 24, aI V 10000 f_3), (z 28, aZ V 10000 f_5), (z 1, aI V 3075 fz1)]) (rnV (rest := []) ⟨hx, hb, hml, hown, hg⟩ (k_X10_firstBy_0 l V z x_34 u_39 f_29 f_4 pz0_0 pz0_5 pz0_6 pz0_7 pz0_8 pz0_9 pz0_10 pz0_11 pz0_12 pz0_13 pz0_14 pz0_18 pz0_19 pz0_22 pz0_23 v_6 bx_34 b_74 tf_29 tf_4 bpz0_5 bpz0_6 bpz0_7 bpz0_8 bpz0_10 bpz0_11 bpz0_12 bpz0_13 bpz0_14 bpz0_18 bpz0_22 bv_6) mt_X10_firstBy q_8_97 ⟨Nat.le_of_ble_eq_true rfl, Nat.le_of_ble_eq_true rfl⟩ hK hP hD hS hA hE [1, 5, 7] rfl rfl 7 rfl rfl rfl rfl hl.1 rfl (Nat.le_of_ble_eq_true rfl) dX10_laysForce_140 ⟨Nat.le_of_ble_eq_true rfl, Nat.le_of_ble_eq_true rfl⟩) hP hD hS hA [1, 5, 7] [0, 2, 3, 4, 6, 8] rfl rfl rfl (by decide) (fun r_75 w H locs hw hP hD hS => ?_)
            obtain ⟨br_75, er_75, rfl⟩ := hw
            have hP : va_P V.1 vwCl [(z 26, aI V 10000 f_28), (z 15, aI V 900 f_1), (z 16, aI V 6 f_2), (z 24, aI V 10000 f_3), (z 28, aZ V 10000 f_5), (z 1, aI V 3075 fz1), (z 27, aI V 10000 f_29), (z 25, aI V 40000 f_4), (z 0, .inr (10, mo z pz0_0 pz0_5 pz0_6 pz0_7 pz0_8 pz0_9 pz0_10 pz0_11 pz0_12 pz0_13 pz0_14 pz0_18 pz0_19 pz0_22 pz0_23 v_6))] H := hP
            have hD := cpD hP hD
            refine lv_iload hx hb dX10_laysForce_143 (lv_at hl 1 rfl) ?_
            refine lv_icmp_ge (tgt := 159) hx hb dX10_laysForce_145 (by decide) (fun c_76 => ?_) (fun c_76 => ?_)
            · refine lv_iload hx hb dX10_laysForce_159 (lv_at hl 1 rfl) ?_
              refine lv_istore (lv' := [(6, .int u_40), (7, .int u_39), (5, .int x_34), (4, .int u_26), (3, .int u_27), (0, .ref (z 0)), (1, .int a1), (2, .int a2)]) hx hb dX10_laysForce_161 hl (by decide) rfl (fun ls hl => ?_)
              obtain ⟨x_77, ex_77⟩ : ∃ z9 : Int32, z9 = u_39 + 1 := ⟨_, rfl⟩
              have bx_77 : iv 1 4 x_77 := by rw [ex_77]; exact iv_add b_74 (iv_c (1 : Int32) (a := 1) (b := 1) (by decide)) (by decide)
              refine lv_iinc (v := x_77) (lv' := [(7, .int x_77), (6, .int u_40), (5, .int x_34), (4, .int u_26), (3, .int u_27), (0, .ref (z 0)), (1, .int a1), (2, .int a2)]) hx hb dX10_laysForce_163 hl (k := 1) rfl (by rw [ex_77]; rfl) (by decide) rfl (fun ls hl => ?_)
              refine lv_goto (tgt := 129) hx hb dX10_laysForce_166 (by decide) ?_
              have hP := subP (ws' := [(z 26, aI V 10000 f_28), (z 27, aI V 10000 f_29), (z 15, aI V 900 f_1), (z 16, aI V 6 f_2), (z 24, aI V 10000 f_3), (z 25, aI V 40000 f_4), (z 28, aZ V 10000 f_5), (z 0, .inr (10, mo z pz0_0 pz0_5 pz0_6 pz0_7 pz0_8 pz0_9 pz0_10 pz0_11 pz0_12 pz0_13 pz0_14 pz0_18 pz0_19 pz0_22 pz0_23 v_6)), (z 1, aI V 3075 fz1)]) hP [0, 6, 1, 2, 3, 7, 4, 8, 5] rfl
              have hD := subD hP hD [0, 6, 1, 2, 3, 7, 4, 8, 5] rfl rfl
              exact ihn_41 _ _ _ _ (by rw [en_41, ex_77]; exact mu_up b_74 (by decide)) ⟨x_77, u_40, (iv_w bx_77 (by decide)), bu_40, inn_41_0, inn_41_1, rfl, hP, hD, hS, lv_sub hl [0, 1, 2, 3, 4, 5, 6, 7] rfl⟩
            · have b_78 : iv 1 268435455 r_75 := iv_l1 (Int32.not_le.mp c_76) br_75 bu_40 (by decide)
              have b_79 : iv 2 268435456 u_40 := iv_l2 (Int32.not_le.mp c_76) br_75 bu_40 (by decide)
              refine lv_aload_n hx hb dX10_laysForce_148 rfl (lv_at hl 5 rfl) ?_
              refine lv_iload hx hb dX10_laysForce_149 (lv_at hl 2 rfl) ?_
              refine lv_iload hx hb dX10_laysForce_151 (lv_at hl 0 rfl) ?_
              refine jnI (wr := [(z 26, aI V 10000 f_28), (z 15, aI V 900 f_1), (z 16, aI V 6 f_2), (z 24, aI V 10000 f_3), (z 28, aZ V 10000 f_5), (z 1, aI V 3075 fz1)]) (rnV (rest := []) ⟨hx, hb, hml, hown, hg⟩ (k_X10_firstBy_0 l V z x_34 u_39 f_29 f_4 pz0_0 pz0_5 pz0_6 pz0_7 pz0_8 pz0_9 pz0_10 pz0_11 pz0_12 pz0_13 pz0_14 pz0_18 pz0_19 pz0_22 pz0_23 v_6 bx_34 b_74 tf_29 tf_4 bpz0_5 bpz0_6 bpz0_7 bpz0_8 bpz0_10 bpz0_11 bpz0_12 bpz0_13 bpz0_14 bpz0_18 bpz0_22 bv_6) mt_X10_firstBy q_8_97 ⟨Nat.le_of_ble_eq_true rfl, Nat.le_of_ble_eq_true rfl⟩ hK hP hD hS hA hE [6, 7, 8] rfl rfl 8 rfl rfl rfl rfl hl.1 rfl (Nat.le_of_ble_eq_true rfl) dX10_laysForce_153 ⟨Nat.le_of_ble_eq_true rfl, Nat.le_of_ble_eq_true rfl⟩) hP hD hS hA [6, 7, 8] [0, 1, 2, 3, 4, 5] rfl rfl rfl (by decide) (fun r_80 w H locs hw hP hD hS => ?_)
              obtain ⟨br_80, er_80, rfl⟩ := hw
              have e9_r_80 : r_80 = r_75 := er_80.trans er_75.symm
              rw [e9_r_80]
              have hP : va_P V.1 vwCl [(z 26, aI V 10000 f_28), (z 15, aI V 900 f_1), (z 16, aI V 6 f_2), (z 24, aI V 10000 f_3), (z 28, aZ V 10000 f_5), (z 1, aI V 3075 fz1), (z 27, aI V 10000 f_29), (z 25, aI V 40000 f_4), (z 0, .inr (10, mo z pz0_0 pz0_5 pz0_6 pz0_7 pz0_8 pz0_9 pz0_10 pz0_11 pz0_12 pz0_13 pz0_14 pz0_18 pz0_19 pz0_22 pz0_23 v_6))] H := hP
              have hD := cpD hP hD
              refine lv_goto (tgt := 161) hx hb dX10_laysForce_156 (by decide) ?_
              refine lv_istore (lv' := [(6, .int r_75), (7, .int u_39), (5, .int x_34), (4, .int u_26), (3, .int u_27), (0, .ref (z 0)), (1, .int a1), (2, .int a2)]) hx hb dX10_laysForce_161 hl (by decide) rfl (fun ls hl => ?_)
              obtain ⟨x_81, ex_81⟩ : ∃ z9 : Int32, z9 = u_39 + 1 := ⟨_, rfl⟩
              have bx_81 : iv 1 4 x_81 := by rw [ex_81]; exact iv_add b_74 (iv_c (1 : Int32) (a := 1) (b := 1) (by decide)) (by decide)
              refine lv_iinc (v := x_81) (lv' := [(7, .int x_81), (6, .int r_75), (5, .int x_34), (4, .int u_26), (3, .int u_27), (0, .ref (z 0)), (1, .int a1), (2, .int a2)]) hx hb dX10_laysForce_163 hl (k := 1) rfl (by rw [ex_81]; rfl) (by decide) rfl (fun ls hl => ?_)
              refine lv_goto (tgt := 129) hx hb dX10_laysForce_166 (by decide) ?_
              have hP := subP (ws' := [(z 26, aI V 10000 f_28), (z 27, aI V 10000 f_29), (z 15, aI V 900 f_1), (z 16, aI V 6 f_2), (z 24, aI V 10000 f_3), (z 25, aI V 40000 f_4), (z 28, aZ V 10000 f_5), (z 0, .inr (10, mo z pz0_0 pz0_5 pz0_6 pz0_7 pz0_8 pz0_9 pz0_10 pz0_11 pz0_12 pz0_13 pz0_14 pz0_18 pz0_19 pz0_22 pz0_23 v_6)), (z 1, aI V 3075 fz1)]) hP [0, 6, 1, 2, 3, 7, 4, 8, 5] rfl
              have hD := subD hP hD [0, 6, 1, 2, 3, 7, 4, 8, 5] rfl rfl
              exact ihn_41 _ _ _ _ (by rw [en_41, ex_81]; exact mu_up b_74 (by decide)) ⟨x_81, r_75, (iv_w bx_81 (by decide)), (iv_w b_78 (by decide)), (Int.le_trans (Int.le_of_lt (Int32.lt_iff_toInt_lt.mp (Int32.not_le.mp c_76))) inn_41_0), inn_41_1, rfl, hP, hD, hS, lv_sub hl [0, 1, 2, 3, 4, 5, 6, 7] rfl⟩
        · have b_82 : iv 0 4 a2 := iv_q c_37.symm br_35
          refine lv_goto (tgt := 249) hx hb dX10_laysForce_114 (by decide) ?_
          obtain ⟨x_83, ex_83⟩ : ∃ z9 : Int32, z9 = u_26 + (-1) := ⟨_, rfl⟩
          have bx_83 : iv (-1) 9998 x_83 := by rw [ex_83]; exact iv_add b_33 (iv_c ((-1) : Int32) (a := (-1)) (b := (-1)) (by decide)) (by decide)
          refine lv_iinc (v := x_83) (lv' := [(4, .int x_83), (5, .int x_34), (3, .int u_27), (0, .ref (z 0)), (1, .int a1), (2, .int a2)]) hx hb dX10_laysForce_249 hl (k := 1) rfl (by rw [ex_83]; rfl) (by decide) rfl (fun ls hl => ?_)
          refine lv_goto (tgt := 90) hx hb dX10_laysForce_252 (by decide) ?_
          exact ihn_30 _ _ _ _ (by rw [en_30, ex_83]; exact mu_dn b_33 (by decide)) ⟨x_83, u_27, f_28, f_29, (iv_w bx_83 (by decide)), bu_27, tf_28, tf_29, inn_30_0, inn_30_1, rfl, hP, hD, hS, lv_sub hl [0, 2, 3, 4, 5] rfl⟩
  · have b_84 : iv 0 9999 u_10 := iv_l1 (Int32.not_le.mp c_14) bu_10 bv_6 (by decide)
    have b_85 : iv 1 10000 v_6 := iv_l2 (Int32.not_le.mp c_14) bu_10 bv_6 (by decide)
    refine lv_aload_n hx hb dX10_laysForce_14 rfl (lv_at hl 1 rfl) ?_
    refine va_get (ci := 10) (v := .ref (z 26)) (C := RX10) (T := TX10) (N := 40) hx hb hg inX10 hown hK hP 7 rfl rfl 26 (by decide) (hg _ q_6_10) (fun _ h9 => h9) rfl dX10_laysForce_15 ?_
    refine lv_aload_n hx hb dX10_laysForce_18 rfl (lv_at hl 1 rfl) ?_
    refine va_get (ci := 10) (v := .ref (z 24)) (C := RX10) (T := TX10) (N := 40) hx hb hg inX10 hown hK hP 7 rfl rfl 24 (by decide) (hg _ q_6_8) (fun _ h9 => h9) rfl dX10_laysForce_19 ?_
    refine lv_iload_n hx hb dX10_laysForce_22 rfl (lv_at hl 0 rfl) ?_
    refine va_iald hx hb hK hP 4 0 rfl rfl (iv_in b_84 (by decide)) dX10_laysForce_23 ?_
    refine lv_topi (fun x_86 ex_86 => ?_)
    have bx_86 : iv 0 9999 x_86 := by rw [ex_86]; exact tf_3 _
    refine lv_aload_n hx hb dX10_laysForce_24 rfl (lv_at hl 1 rfl) ?_
    refine va_get (ci := 10) (v := .ref (z 24)) (C := RX10) (T := TX10) (N := 40) hx hb hg inX10 hown hK hP 7 rfl rfl 24 (by decide) (hg _ q_6_8) (fun _ h9 => h9) rfl dX10_laysForce_25 ?_
    refine lv_iload_n hx hb dX10_laysForce_28 rfl (lv_at hl 0 rfl) ?_
    refine va_iald hx hb hK hP 4 0 rfl rfl (iv_in b_84 (by decide)) dX10_laysForce_29 ?_
    refine tpi (y := x_86) ex_86.symm ?_
    refine lv_iload_n hx hb dX10_laysForce_30 rfl (lv_at hl 2 rfl) ?_
    refine jnI (wr := [(z 26, aI V 10000 f_11), (z 27, aI V 10000 f_12), (z 15, aI V 900 f_1), (z 16, aI V 6 f_2), (z 24, aI V 10000 f_3), (z 25, aI V 40000 f_4), (z 28, aZ V 10000 f_5), (z 0, .inr (10, mo z pz0_0 pz0_5 pz0_6 pz0_7 pz0_8 pz0_9 pz0_10 pz0_11 pz0_12 pz0_13 pz0_14 pz0_18 pz0_19 pz0_22 pz0_23 v_6)), (z 1, aI V 3075 fz1)]) (rnS (rest := [.int x_86, .ref (z 26)]) ⟨hx, hb, hml, hown, hg⟩ (k_X10_stackIn_0 l V x_86 a1 bx_86 ba1) mt_X10_stackIn q_7_26 ⟨Nat.le_of_ble_eq_true rfl, Nat.le_of_ble_eq_true rfl⟩ hK hP hD hS hA hE [] rfl rfl rfl hl.1 rfl (Nat.le_of_ble_eq_true rfl) dX10_laysForce_31 ⟨Nat.le_of_ble_eq_true rfl, Nat.le_of_ble_eq_true rfl⟩) hP hD hS hA [] [0, 1, 2, 3, 4, 5, 6, 7, 8] rfl rfl rfl (by decide) (fun r_87 w H locs hw hP hD hS => ?_)
    obtain ⟨br_87, er_87, et_88, rfl⟩ := hw
    have hP : va_P V.1 vwCl [(z 26, aI V 10000 f_11), (z 27, aI V 10000 f_12), (z 15, aI V 900 f_1), (z 16, aI V 6 f_2), (z 24, aI V 10000 f_3), (z 25, aI V 40000 f_4), (z 28, aZ V 10000 f_5), (z 0, .inr (10, mo z pz0_0 pz0_5 pz0_6 pz0_7 pz0_8 pz0_9 pz0_10 pz0_11 pz0_12 pz0_13 pz0_14 pz0_18 pz0_19 pz0_22 pz0_23 v_6)), (z 1, aI V 3075 fz1)] H := hP
    have hD := cpD hP hD
    refine lv_iload_n hx hb dX10_laysForce_34 rfl (lv_at hl 3 rfl) ?_
    refine lv_icmp_ne (tgt := 42) hx hb dX10_laysForce_35 (by decide) (fun c_89 => ?_) (fun c_89 => ?_)
    · refine lv_ldcw (v := 268435456) hx hb hown (hg _ q_7_202) dX10_laysForce_42 ?_
      refine va_iast hx hb hK hP hD hS 0 0 rfl rfl (iv_in bx_86 (by decide)) dX10_laysForce_45 (fun H locs hP hD hS => ?_)
      obtain ⟨f_90, ef_90, tf_90, hP, hD⟩ : ∃ f_90 : Nat → Int32, f_90 = (upd f_11 (x_86 : Int32).toNatClampNeg 268435456) ∧ (∀ j, iv 0 268435456 (f_90 j)) ∧ va_P V.1 vwCl [(z 26, aI V 10000 f_90), (z 27, aI V 10000 f_12), (z 15, aI V 900 f_1), (z 16, aI V 6 f_2), (z 24, aI V 10000 f_3), (z 25, aI V 40000 f_4), (z 28, aZ V 10000 f_5), (z 0, .inr (10, mo z pz0_0 pz0_5 pz0_6 pz0_7 pz0_8 pz0_9 pz0_10 pz0_11 pz0_12 pz0_13 pz0_14 pz0_18 pz0_19 pz0_22 pz0_23 v_6)), (z 1, aI V 3075 fz1)] H ∧ va_D A [(z 26, aI V 10000 f_90), (z 27, aI V 10000 f_12), (z 15, aI V 900 f_1), (z 16, aI V 6 f_2), (z 24, aI V 10000 f_3), (z 25, aI V 40000 f_4), (z 28, aZ V 10000 f_5), (z 0, .inr (10, mo z pz0_0 pz0_5 pz0_6 pz0_7 pz0_8 pz0_9 pz0_10 pz0_11 pz0_12 pz0_13 pz0_14 pz0_18 pz0_19 pz0_22 pz0_23 v_6)), (z 1, aI V 3075 fz1)] := ⟨_, rfl, ivU tf_11 _ (iv_c (268435456 : Int32) (by decide)), hP, hD⟩
      refine lv_aload_n hx hb dX10_laysForce_46 rfl (lv_at hl 1 rfl) ?_
      refine va_get (ci := 10) (v := .ref (z 27)) (C := RX10) (T := TX10) (N := 40) hx hb hg inX10 hown hK hP 7 rfl rfl 27 (by decide) (hg _ q_6_11) (fun _ h9 => h9) rfl dX10_laysForce_47 ?_
      refine lv_aload_n hx hb dX10_laysForce_50 rfl (lv_at hl 1 rfl) ?_
      refine va_get (ci := 10) (v := .ref (z 24)) (C := RX10) (T := TX10) (N := 40) hx hb hg inX10 hown hK hP 7 rfl rfl 24 (by decide) (hg _ q_6_8) (fun _ h9 => h9) rfl dX10_laysForce_51 ?_
      refine lv_iload_n hx hb dX10_laysForce_54 rfl (lv_at hl 0 rfl) ?_
      refine va_iald hx hb hK hP 4 0 rfl rfl (iv_in b_84 (by decide)) dX10_laysForce_55 ?_
      refine tpi (y := x_86) ex_86.symm ?_
      refine lv_aload_n hx hb dX10_laysForce_56 rfl (lv_at hl 1 rfl) ?_
      refine va_get (ci := 10) (v := .ref (z 26)) (C := RX10) (T := TX10) (N := 40) hx hb hg inX10 hown hK hP 7 rfl rfl 26 (by decide) (hg _ q_6_10) (fun _ h9 => h9) rfl dX10_laysForce_57 ?_
      refine lv_aload_n hx hb dX10_laysForce_60 rfl (lv_at hl 1 rfl) ?_
      refine va_get (ci := 10) (v := .ref (z 24)) (C := RX10) (T := TX10) (N := 40) hx hb hg inX10 hown hK hP 7 rfl rfl 24 (by decide) (hg _ q_6_8) (fun _ h9 => h9) rfl dX10_laysForce_61 ?_
      refine lv_iload_n hx hb dX10_laysForce_64 rfl (lv_at hl 0 rfl) ?_
      refine va_iald hx hb hK hP 4 0 rfl rfl (iv_in b_84 (by decide)) dX10_laysForce_65 ?_
      refine tpi (y := x_86) ex_86.symm ?_
      refine va_iald hx hb hK hP 0 0 rfl rfl (iv_in bx_86 (by decide)) dX10_laysForce_66 ?_
      refine tpi (y := 268435456) (show f_90 (x_86 : Int32).toNatClampNeg = 268435456 from by rw [ef_90]; exact upd_at) ?_
      refine va_iast hx hb hK hP hD hS 1 0 rfl rfl (iv_in bx_86 (by decide)) dX10_laysForce_67 (fun H locs hP hD hS => ?_)
      obtain ⟨f_91, ef_91, tf_91, hP, hD⟩ : ∃ f_91 : Nat → Int32, f_91 = (upd f_12 (x_86 : Int32).toNatClampNeg 268435456) ∧ (∀ j, iv 0 268435456 (f_91 j)) ∧ va_P V.1 vwCl [(z 26, aI V 10000 f_90), (z 27, aI V 10000 f_91), (z 15, aI V 900 f_1), (z 16, aI V 6 f_2), (z 24, aI V 10000 f_3), (z 25, aI V 40000 f_4), (z 28, aZ V 10000 f_5), (z 0, .inr (10, mo z pz0_0 pz0_5 pz0_6 pz0_7 pz0_8 pz0_9 pz0_10 pz0_11 pz0_12 pz0_13 pz0_14 pz0_18 pz0_19 pz0_22 pz0_23 v_6)), (z 1, aI V 3075 fz1)] H ∧ va_D A [(z 26, aI V 10000 f_90), (z 27, aI V 10000 f_91), (z 15, aI V 900 f_1), (z 16, aI V 6 f_2), (z 24, aI V 10000 f_3), (z 25, aI V 40000 f_4), (z 28, aZ V 10000 f_5), (z 0, .inr (10, mo z pz0_0 pz0_5 pz0_6 pz0_7 pz0_8 pz0_9 pz0_10 pz0_11 pz0_12 pz0_13 pz0_14 pz0_18 pz0_19 pz0_22 pz0_23 v_6)), (z 1, aI V 3075 fz1)] := ⟨_, rfl, ivU tf_12 _ (iv_c (268435456 : Int32) (by decide)), hP, hD⟩
      obtain ⟨x_92, ex_92⟩ : ∃ z9 : Int32, z9 = u_10 + 1 := ⟨_, rfl⟩
      have bx_92 : iv 1 10000 x_92 := by rw [ex_92]; exact iv_add b_84 (iv_c (1 : Int32) (a := 1) (b := 1) (by decide)) (by decide)
      refine lv_iinc (v := x_92) (lv' := [(3, .int x_92), (0, .ref (z 0)), (1, .int a1), (2, .int a2)]) hx hb dX10_laysForce_68 hl (k := 0) rfl (by rw [ex_92]; rfl) (by decide) rfl (fun ls hl => ?_)
      refine lv_goto (tgt := 6) hx hb dX10_laysForce_71 (by decide) ?_
      exact ihn_13 _ _ _ _ (by rw [en_13, ex_92]; exact mu_up b_84 (by decide)) ⟨x_92, f_90, f_91, (iv_w bx_92 (by decide)), tf_90, tf_91, inn_13_0, rfl, hP, hD, hS, lv_sub hl [0, 1, 2, 3] rfl⟩
    · have b_93 : iv 0 4 a2 := iv_q c_89.symm br_87
      refine lv_iconst (v := 0) hx hb dX10_laysForce_38 (by decide) ?_
      refine lv_goto (tgt := 45) hx hb dX10_laysForce_39 (by decide) ?_
      refine va_iast hx hb hK hP hD hS 0 0 rfl rfl (iv_in bx_86 (by decide)) dX10_laysForce_45 (fun H locs hP hD hS => ?_)
      obtain ⟨f_94, ef_94, tf_94, hP, hD⟩ : ∃ f_94 : Nat → Int32, f_94 = (upd f_11 (x_86 : Int32).toNatClampNeg 0) ∧ (∀ j, iv 0 268435456 (f_94 j)) ∧ va_P V.1 vwCl [(z 26, aI V 10000 f_94), (z 27, aI V 10000 f_12), (z 15, aI V 900 f_1), (z 16, aI V 6 f_2), (z 24, aI V 10000 f_3), (z 25, aI V 40000 f_4), (z 28, aZ V 10000 f_5), (z 0, .inr (10, mo z pz0_0 pz0_5 pz0_6 pz0_7 pz0_8 pz0_9 pz0_10 pz0_11 pz0_12 pz0_13 pz0_14 pz0_18 pz0_19 pz0_22 pz0_23 v_6)), (z 1, aI V 3075 fz1)] H ∧ va_D A [(z 26, aI V 10000 f_94), (z 27, aI V 10000 f_12), (z 15, aI V 900 f_1), (z 16, aI V 6 f_2), (z 24, aI V 10000 f_3), (z 25, aI V 40000 f_4), (z 28, aZ V 10000 f_5), (z 0, .inr (10, mo z pz0_0 pz0_5 pz0_6 pz0_7 pz0_8 pz0_9 pz0_10 pz0_11 pz0_12 pz0_13 pz0_14 pz0_18 pz0_19 pz0_22 pz0_23 v_6)), (z 1, aI V 3075 fz1)] := ⟨_, rfl, ivU tf_11 _ (iv_c (0 : Int32) (by decide)), hP, hD⟩
      refine lv_aload_n hx hb dX10_laysForce_46 rfl (lv_at hl 1 rfl) ?_
      refine va_get (ci := 10) (v := .ref (z 27)) (C := RX10) (T := TX10) (N := 40) hx hb hg inX10 hown hK hP 7 rfl rfl 27 (by decide) (hg _ q_6_11) (fun _ h9 => h9) rfl dX10_laysForce_47 ?_
      refine lv_aload_n hx hb dX10_laysForce_50 rfl (lv_at hl 1 rfl) ?_
      refine va_get (ci := 10) (v := .ref (z 24)) (C := RX10) (T := TX10) (N := 40) hx hb hg inX10 hown hK hP 7 rfl rfl 24 (by decide) (hg _ q_6_8) (fun _ h9 => h9) rfl dX10_laysForce_51 ?_
      refine lv_iload_n hx hb dX10_laysForce_54 rfl (lv_at hl 0 rfl) ?_
      refine va_iald hx hb hK hP 4 0 rfl rfl (iv_in b_84 (by decide)) dX10_laysForce_55 ?_
      refine tpi (y := x_86) ex_86.symm ?_
      refine lv_aload_n hx hb dX10_laysForce_56 rfl (lv_at hl 1 rfl) ?_
      refine va_get (ci := 10) (v := .ref (z 26)) (C := RX10) (T := TX10) (N := 40) hx hb hg inX10 hown hK hP 7 rfl rfl 26 (by decide) (hg _ q_6_10) (fun _ h9 => h9) rfl dX10_laysForce_57 ?_
      refine lv_aload_n hx hb dX10_laysForce_60 rfl (lv_at hl 1 rfl) ?_
      refine va_get (ci := 10) (v := .ref (z 24)) (C := RX10) (T := TX10) (N := 40) hx hb hg inX10 hown hK hP 7 rfl rfl 24 (by decide) (hg _ q_6_8) (fun _ h9 => h9) rfl dX10_laysForce_61 ?_
      refine lv_iload_n hx hb dX10_laysForce_64 rfl (lv_at hl 0 rfl) ?_
      refine va_iald hx hb hK hP 4 0 rfl rfl (iv_in b_84 (by decide)) dX10_laysForce_65 ?_
      refine tpi (y := x_86) ex_86.symm ?_
      refine va_iald hx hb hK hP 0 0 rfl rfl (iv_in bx_86 (by decide)) dX10_laysForce_66 ?_
      refine tpi (y := 0) (show f_94 (x_86 : Int32).toNatClampNeg = 0 from by rw [ef_94]; exact upd_at) ?_
      refine va_iast hx hb hK hP hD hS 1 0 rfl rfl (iv_in bx_86 (by decide)) dX10_laysForce_67 (fun H locs hP hD hS => ?_)
      obtain ⟨f_95, ef_95, tf_95, hP, hD⟩ : ∃ f_95 : Nat → Int32, f_95 = (upd f_12 (x_86 : Int32).toNatClampNeg 0) ∧ (∀ j, iv 0 268435456 (f_95 j)) ∧ va_P V.1 vwCl [(z 26, aI V 10000 f_94), (z 27, aI V 10000 f_95), (z 15, aI V 900 f_1), (z 16, aI V 6 f_2), (z 24, aI V 10000 f_3), (z 25, aI V 40000 f_4), (z 28, aZ V 10000 f_5), (z 0, .inr (10, mo z pz0_0 pz0_5 pz0_6 pz0_7 pz0_8 pz0_9 pz0_10 pz0_11 pz0_12 pz0_13 pz0_14 pz0_18 pz0_19 pz0_22 pz0_23 v_6)), (z 1, aI V 3075 fz1)] H ∧ va_D A [(z 26, aI V 10000 f_94), (z 27, aI V 10000 f_95), (z 15, aI V 900 f_1), (z 16, aI V 6 f_2), (z 24, aI V 10000 f_3), (z 25, aI V 40000 f_4), (z 28, aZ V 10000 f_5), (z 0, .inr (10, mo z pz0_0 pz0_5 pz0_6 pz0_7 pz0_8 pz0_9 pz0_10 pz0_11 pz0_12 pz0_13 pz0_14 pz0_18 pz0_19 pz0_22 pz0_23 v_6)), (z 1, aI V 3075 fz1)] := ⟨_, rfl, ivU tf_12 _ (iv_c (0 : Int32) (by decide)), hP, hD⟩
      obtain ⟨x_96, ex_96⟩ : ∃ z9 : Int32, z9 = u_10 + 1 := ⟨_, rfl⟩
      have bx_96 : iv 1 10000 x_96 := by rw [ex_96]; exact iv_add b_84 (iv_c (1 : Int32) (a := 1) (b := 1) (by decide)) (by decide)
      refine lv_iinc (v := x_96) (lv' := [(3, .int x_96), (0, .ref (z 0)), (1, .int a1), (2, .int a2)]) hx hb dX10_laysForce_68 hl (k := 0) rfl (by rw [ex_96]; rfl) (by decide) rfl (fun ls hl => ?_)
      refine lv_goto (tgt := 6) hx hb dX10_laysForce_71 (by decide) ?_
      exact ihn_13 _ _ _ _ (by rw [en_13, ex_96]; exact mu_up b_84 (by decide)) ⟨x_96, f_94, f_95, (iv_w bx_96 (by decide)), tf_94, tf_95, inn_13_0, rfl, hP, hD, hS, lv_sub hl [0, 1, 2, 3] rfl⟩
theorem dX10_forces_0 : decode cX10_forces 0 = .ok (.aload_n 0, 1) := by decide +kernel
theorem dX10_forces_1 : decode cX10_forces 1 = .ok (.iconst 0, 1) := by decide +kernel
theorem dX10_forces_2 : decode cX10_forces 2 = .ok (.putfield 1, 3) := by decide +kernel
theorem dX10_forces_5 : decode cX10_forces 5 = .ok (.aload_n 0, 1) := by decide +kernel
theorem dX10_forces_6 : decode cX10_forces 6 = .ok (.iload_n 1, 1) := by decide +kernel
theorem dX10_forces_7 : decode cX10_forces 7 = .ok (.iload_n 2, 1) := by decide +kernel
theorem dX10_forces_8 : decode cX10_forces 8 = .ok (.invokevirtual 373, 3) := by decide +kernel
theorem dX10_forces_11 : decode cX10_forces 11 = .ok (.istore_n 3, 1) := by decide +kernel
theorem dX10_forces_12 : decode cX10_forces 12 = .ok (.iload_n 3, 1) := by decide +kernel
theorem dX10_forces_13 : decode cX10_forces 13 = .ok (.ifCond .eq 7, 3) := by decide +kernel
theorem dX10_forces_20 : decode cX10_forces 20 = .ok (.aload_n 0, 1) := by decide +kernel
theorem dX10_forces_21 : decode cX10_forces 21 = .ok (.iload_n 1, 1) := by decide +kernel
theorem dX10_forces_22 : decode cX10_forces 22 = .ok (.iload_n 2, 1) := by decide +kernel
theorem q_8_96 : Cond.code yX10_laysForce prog_12_method_119_code 8 (some FieldType.int) ∈ gw := gw_8 (i := 96) (rfl) rfl
theorem q_8_95 : Cond.instanceMethod yX10_laysForce ∈ gw := gw_8 (i := 95) (by decide +kernel) rfl
theorem q_s_122 : Cond.selects "BeaconDelayModel" yX10_laysForce yX10_laysForce ∈ gw := gw_s (i := 122) (by decide +kernel) rfl
theorem mt_X10_laysForce : MtV yX10_laysForce cX10_laysForce 8 (some .int) 2 := ⟨⟨q_8_96, q_1_9, by decide +kernel, by decide +kernel, by decide +kernel⟩, q_8_95, q_s_122⟩
theorem q_8_93 : Cond.methodLink "BeaconDelayModel" 444 yX10_laysForce ∈ gw := gw_8 (i := 93) (by decide +kernel) rfl
theorem dX10_forces_23 : decode cX10_forces 23 = .ok (.invokevirtual 444, 3) := by decide +kernel
theorem dX10_forces_26 : decode cX10_forces 26 = .ok (.invokestatic 379, 3) := by decide +kernel
theorem dX10_forces_29 : decode cX10_forces 29 = .ok (.ireturn, 1) := by decide +kernel
theorem dX10_forces_16 : decode cX10_forces 16 = .ok (.iload_n 3, 1) := by decide +kernel
theorem dX10_forces_17 : decode cX10_forces 17 = .ok (.goto 12, 3) := by decide +kernel
set_option maxHeartbeats 4000000 in
set_option maxRecDepth 100000 in
theorem k_X10_forces_0 (l : Launch) (V : GV) (z : Nat → Nat) (a1 : Int32) (a2 : Int32) (pz0_0 : Int32) (pz0_5 : Int32) (pz0_6 : Int32) (pz0_7 : Int32) (pz0_8 : Int32) (pz0_9 : Int32) (pz0_10 : Int32) (pz0_11 : Int32) (pz0_12 : Int32) (pz0_13 : Int32) (pz0_14 : Int32) (pz0_18 : Int32) (pz0_19 : Int32) (pz0_22 : Int32) (pz0_23 : Int32) (pz0_29 : Int32) (fz1 : Nat → Int32) (fz15 : Nat → Int32) (fz16 : Nat → Int32) (fz24 : Nat → Int32) (fz25 : Nat → Int32) (fz26 : Nat → Int32) (fz27 : Nat → Int32) (fz28 : Nat → Int32) (bpz0_5 : iv 0 900 pz0_5) (bpz0_6 : iv 0 900 pz0_6) (bpz0_7 : iv 0 900 pz0_7) (bpz0_8 : iv 0 900 pz0_8) (bpz0_10 : iv 0 999 pz0_10) (bpz0_11 : iv 0 4 pz0_11) (bpz0_12 : iv 0 900 pz0_12) (bpz0_13 : iv 0 4 pz0_13) (bpz0_14 : iv (-1) 900 pz0_14) (bpz0_18 : iv 0 2 pz0_18) (bpz0_22 : iv 0 9999 pz0_22) (bpz0_29 : iv 0 10000 pz0_29) (tfz1 : ivT tA fz1) (tfz16 : ivT tW fz16) (tfz24 : ∀ j, iv 0 9999 (fz24 j)) (tfz25 : ∀ j, iv (-1) 9999 (fz25 j)) (tfz26 : ∀ j, iv 0 268435456 (fz26 j)) (tfz27 : ∀ j, iv 0 268435456 (fz27 j)) (hf0 : RW fz1) : Ct l V yX10_forces (.code yX10_forces cX10_forces 4 (some .int)) 7 [.ref (z 0), .int a1, .int a2] [(z 0, .inr (10, mo z pz0_0 pz0_5 pz0_6 pz0_7 pz0_8 pz0_9 pz0_10 pz0_11 pz0_12 pz0_13 pz0_14 pz0_18 pz0_19 pz0_22 pz0_23 pz0_29)), (z 1, aI V 3075 fz1), (z 15, aI V 900 fz15), (z 16, aI V 6 fz16), (z 24, aI V 10000 fz24), (z 25, aI V 40000 fz25), (z 26, aI V 10000 fz26), (z 27, aI V 10000 fz27), (z 28, aZ V 10000 fz28)] 0 0 (QI V (fun (r : Int32) (w : va_W) => ∃ (v0 : Int32) (v1 : Int32) (g2 : Nat → Int32) (g3 : Nat → Int32) (g4 : Nat → Int32) (g5 : Nat → Int32) (g6 : Nat → Int32) (g7 : Nat → Int32) (g8 : Nat → Int32), iv 0 10000 v1 ∧ (ivT tW g3) ∧ (∀ j, iv 0 9999 (g4 j)) ∧ (∀ j, iv (-1) 9999 (g5 j)) ∧ (∀ j, iv 0 268435456 (g6 j)) ∧ (∀ j, iv 0 268435456 (g7 j)) ∧ (RW fz1) ∧ w = [(z 0, .inr (10, mo z v0 pz0_5 pz0_6 pz0_7 pz0_8 pz0_9 pz0_10 pz0_11 pz0_12 pz0_13 pz0_14 pz0_18 pz0_19 pz0_22 pz0_23 v1)), (z 1, aI V 3075 fz1), (z 15, aI V 900 g2), (z 16, aI V 6 g3), (z 24, aI V 10000 g4), (z 25, aI V 40000 g5), (z 26, aI V 10000 g6), (z 27, aI V 10000 g7), (z 28, aZ V 10000 g8)])) := by
  refine Ct.of (by decide) (Nat.le_of_ble_eq_true rfl) (fun p e s m below meth c A ls hx hb hr hml hown hlk hnm hg hP hK hD hE hA hS hl => ?_)
  have hl : lv_has ls 4 [(0, .ref (z 0)), (1, .int a1), (2, .int a2)] := hl
  refine lv_aload_n hx hb dX10_forces_0 rfl (lv_at hl 0 rfl) ?_
  refine lv_iconst (v := 0) hx hb dX10_forces_1 (by decide) ?_
  refine va_put (ci := 10) (v := .int 0) (ty := .int) (C := RX10) (T := TX10) (N := 40) hx hb hg inX10 tyX10 tyX10_ok nmX10 hown hK hP hD hS 0 rfl rfl 0 (by decide) (hg _ q_5_224) (fun _ h9 => h9) rfl (by decide +kernel) rfl rfl (Nat.le_of_ble_eq_true rfl) dX10_forces_2 (fun H locs hP hD hS => ?_)
  have hP : va_P V.1 vwCl [(z 0, .inr (10, mo z 0 pz0_5 pz0_6 pz0_7 pz0_8 pz0_9 pz0_10 pz0_11 pz0_12 pz0_13 pz0_14 pz0_18 pz0_19 pz0_22 pz0_23 pz0_29)), (z 1, aI V 3075 fz1), (z 15, aI V 900 fz15), (z 16, aI V 6 fz16), (z 24, aI V 10000 fz24), (z 25, aI V 40000 fz25), (z 26, aI V 10000 fz26), (z 27, aI V 10000 fz27), (z 28, aZ V 10000 fz28)] H := hP
  have hD := cpD hP hD
  refine lv_aload_n hx hb dX10_forces_5 rfl (lv_at hl 0 rfl) ?_
  refine lv_iload_n hx hb dX10_forces_6 rfl (lv_at hl 1 rfl) ?_
  refine lv_iload_n hx hb dX10_forces_7 rfl (lv_at hl 2 rfl) ?_
  refine jnI (wr := [(z 15, aI V 900 fz15), (z 16, aI V 6 fz16), (z 24, aI V 10000 fz24), (z 25, aI V 40000 fz25), (z 26, aI V 10000 fz26), (z 27, aI V 10000 fz27), (z 28, aZ V 10000 fz28)]) (rnV (rest := []) ⟨hx, hb, hml, hown, hg⟩ (k_X10_noHigh_0 l V z a1 a2 0 pz0_5 pz0_6 pz0_7 pz0_8 pz0_9 pz0_10 pz0_11 pz0_12 pz0_13 pz0_14 pz0_18 pz0_19 pz0_22 pz0_23 pz0_29 fz1 bpz0_5 bpz0_6 bpz0_7 bpz0_8 bpz0_10 bpz0_11 bpz0_12 bpz0_13 bpz0_14 bpz0_18 bpz0_22 bpz0_29 tfz1) mt_X10_noHigh q_7_182 ⟨Nat.le_of_ble_eq_true rfl, Nat.le_of_ble_eq_true rfl⟩ hK hP hD hS hA hE [0, 1] rfl rfl 0 rfl rfl rfl rfl hl.1 rfl (Nat.le_of_ble_eq_true rfl) dX10_forces_8 ⟨Nat.le_of_ble_eq_true rfl, Nat.le_of_ble_eq_true rfl⟩) hP hD hS hA [0, 1] [2, 3, 4, 5, 6, 7, 8] rfl rfl rfl (by decide) (fun r_1 w H locs hw hP hD hS => ?_)
  obtain ⟨br_1, g_2, g_3, rfl⟩ := hw
  have hP : va_P V.1 vwCl [(z 15, aI V 900 fz15), (z 16, aI V 6 fz16), (z 24, aI V 10000 fz24), (z 25, aI V 40000 fz25), (z 26, aI V 10000 fz26), (z 27, aI V 10000 fz27), (z 28, aZ V 10000 fz28), (z 0, .inr (10, mo z 0 pz0_5 pz0_6 pz0_7 pz0_8 pz0_9 pz0_10 pz0_11 pz0_12 pz0_13 pz0_14 pz0_18 pz0_19 pz0_22 pz0_23 pz0_29)), (z 1, aI V 3075 fz1)] H := hP
  have hD := cpD hP hD
  refine lv_istore_n (lv' := [(3, .int r_1), (0, .ref (z 0)), (1, .int a1), (2, .int a2)]) hx hb dX10_forces_11 rfl hl (by decide) rfl (fun ls hl => ?_)
  refine lv_iload_n hx hb dX10_forces_12 rfl (lv_at hl 0 rfl) ?_
  refine lv_if_eq (tgt := 20) hx hb dX10_forces_13 (by decide) (fun c_4 => ?_) (fun c_4 => ?_)
  · have b_5 : iv 0 0 r_1 := iv_q c_4 (iv_c (0 : Int32) (a := 0) (b := 0) (by decide))
    have b_6 : iv 0 3 a1 := iv_cap (g_2 (iv_eqp b_5 (iv_c (0 : Int32) (by decide)))) (iv_top a1) (by decide)
    have b_7 : iv 0 4 a2 := iv_cap (g_3 (iv_eqp b_5 (iv_c (0 : Int32) (by decide)))) (iv_top a2) (by decide)
    refine lv_aload_n hx hb dX10_forces_20 rfl (lv_at hl 1 rfl) ?_
    refine lv_iload_n hx hb dX10_forces_21 rfl (lv_at hl 2 rfl) ?_
    refine lv_iload_n hx hb dX10_forces_22 rfl (lv_at hl 3 rfl) ?_
    refine jnI (wr := []) (rnV (rest := []) ⟨hx, hb, hml, hown, hg⟩ (k_X10_laysForce_0 l V z a1 a2 fz15 fz16 fz24 fz25 fz26 fz27 fz28 0 pz0_5 pz0_6 pz0_7 pz0_8 pz0_9 pz0_10 pz0_11 pz0_12 pz0_13 pz0_14 pz0_18 pz0_19 pz0_22 pz0_23 pz0_29 fz1 b_6 tfz16 tfz24 tfz25 tfz26 tfz27 bpz0_5 bpz0_6 bpz0_7 bpz0_8 bpz0_10 bpz0_11 bpz0_12 bpz0_13 bpz0_14 bpz0_18 bpz0_22 bpz0_29 tfz1 hf0) mt_X10_laysForce q_8_93 ⟨Nat.le_of_ble_eq_true rfl, Nat.le_of_ble_eq_true rfl⟩ hK hP hD hS hA hE [0, 1, 2, 3, 4, 5, 6, 7, 8] rfl rfl 7 rfl rfl rfl rfl hl.1 rfl (Nat.le_of_ble_eq_true rfl) dX10_forces_23 ⟨Nat.le_of_ble_eq_true rfl, Nat.le_of_ble_eq_true rfl⟩) hP hD hS hA [0, 1, 2, 3, 4, 5, 6, 7, 8] [] rfl rfl rfl (by decide) (fun r_8 w H locs hw hP hD hS => ?_)
    obtain ⟨f_9, f_10, f_11, f_12, f_13, f_14, f_15, v_16, tf_10, tf_11, tf_12, tf_13, tf_14, bv_16, br_8, g_17, rfl⟩ := hw
    have hP : va_P V.1 vwCl [(z 15, aI V 900 f_9), (z 16, aI V 6 f_10), (z 24, aI V 10000 f_11), (z 25, aI V 40000 f_12), (z 26, aI V 10000 f_13), (z 27, aI V 10000 f_14), (z 28, aZ V 10000 f_15), (z 0, .inr (10, mo z 0 pz0_5 pz0_6 pz0_7 pz0_8 pz0_9 pz0_10 pz0_11 pz0_12 pz0_13 pz0_14 pz0_18 pz0_19 pz0_22 pz0_23 v_16)), (z 1, aI V 3075 fz1)] H := hP
    have hD := cpD hP hD
    refine jnI (wr := [(z 15, aI V 900 f_9), (z 16, aI V 6 f_10), (z 24, aI V 10000 f_11), (z 25, aI V 40000 f_12), (z 26, aI V 10000 f_13), (z 27, aI V 10000 f_14), (z 28, aZ V 10000 f_15), (z 0, .inr (10, mo z 0 pz0_5 pz0_6 pz0_7 pz0_8 pz0_9 pz0_10 pz0_11 pz0_12 pz0_13 pz0_14 pz0_18 pz0_19 pz0_22 pz0_23 v_16)), (z 1, aI V 3075 fz1)]) (rnS (rest := []) ⟨hx, hb, hml, hown, hg⟩ (k_X10_toldFar_0 l V r_8) mt_X10_toldFar q_7_207 ⟨Nat.le_of_ble_eq_true rfl, Nat.le_of_ble_eq_true rfl⟩ hK hP hD hS hA hE [] rfl rfl rfl hl.1 rfl (Nat.le_of_ble_eq_true rfl) dX10_forces_26 ⟨Nat.le_of_ble_eq_true rfl, Nat.le_of_ble_eq_true rfl⟩) hP hD hS hA [] [0, 1, 2, 3, 4, 5, 6, 7, 8] rfl rfl rfl (by decide) (fun r_18 w H locs hw hP hD hS => ?_)
    subst hw
    have hP : va_P V.1 vwCl [(z 15, aI V 900 f_9), (z 16, aI V 6 f_10), (z 24, aI V 10000 f_11), (z 25, aI V 40000 f_12), (z 26, aI V 10000 f_13), (z 27, aI V 10000 f_14), (z 28, aZ V 10000 f_15), (z 0, .inr (10, mo z 0 pz0_5 pz0_6 pz0_7 pz0_8 pz0_9 pz0_10 pz0_11 pz0_12 pz0_13 pz0_14 pz0_18 pz0_19 pz0_22 pz0_23 v_16)), (z 1, aI V 3075 fz1)] H := hP
    have hD := cpD hP hD
    have hP := subP (ws' := [(z 0, .inr (10, mo z 0 pz0_5 pz0_6 pz0_7 pz0_8 pz0_9 pz0_10 pz0_11 pz0_12 pz0_13 pz0_14 pz0_18 pz0_19 pz0_22 pz0_23 v_16)), (z 1, aI V 3075 fz1), (z 15, aI V 900 f_9), (z 16, aI V 6 f_10), (z 24, aI V 10000 f_11), (z 25, aI V 40000 f_12), (z 26, aI V 10000 f_13), (z 27, aI V 10000 f_14), (z 28, aZ V 10000 f_15)]) hP [7, 8, 0, 1, 2, 3, 4, 5, 6] rfl
    have hD := subD hP hD [7, 8, 0, 1, 2, 3, 4, 5, 6] rfl rfl
    exact fiI hx hb hr hlk hK hP hD hS dX10_forces_29 (Nat.le_of_ble_eq_true rfl) (Nat.le_of_ble_eq_true rfl) (⟨0, v_16, f_9, f_10, f_11, f_12, f_13, f_14, f_15, bv_16, tf_10, tf_11, tf_12, tf_13, tf_14, g_17, rfl⟩)
  · have b_19 : iv (-3) (-1) r_1 := iv_n1 c_4 br_1 (iv_c (0 : Int32) (a := 0) (b := 0) (by decide)) (by decide)
    refine lv_iload_n hx hb dX10_forces_16 rfl (lv_at hl 0 rfl) ?_
    refine lv_goto (tgt := 29) hx hb dX10_forces_17 (by decide) ?_
    have hP := subP (ws' := [(z 0, .inr (10, mo z 0 pz0_5 pz0_6 pz0_7 pz0_8 pz0_9 pz0_10 pz0_11 pz0_12 pz0_13 pz0_14 pz0_18 pz0_19 pz0_22 pz0_23 pz0_29)), (z 1, aI V 3075 fz1), (z 15, aI V 900 fz15), (z 16, aI V 6 fz16), (z 24, aI V 10000 fz24), (z 25, aI V 40000 fz25), (z 26, aI V 10000 fz26), (z 27, aI V 10000 fz27), (z 28, aZ V 10000 fz28)]) hP [7, 8, 0, 1, 2, 3, 4, 5, 6] rfl
    have hD := subD hP hD [7, 8, 0, 1, 2, 3, 4, 5, 6] rfl rfl
    exact fiI hx hb hr hlk hK hP hD hS dX10_forces_29 (Nat.le_of_ble_eq_true rfl) (Nat.le_of_ble_eq_true rfl) (⟨0, pz0_29, fz15, fz16, fz24, fz25, fz26, fz27, fz28, bpz0_29, tfz16, tfz24, tfz25, tfz26, tfz27, hf0, rfl⟩)
theorem dX10_best_0 : decode cX10_best 0 = .ok (.aload_n 0, 1) := by decide +kernel
theorem dX10_best_1 : decode cX10_best 1 = .ok (.iconst 0, 1) := by decide +kernel
theorem dX10_best_2 : decode cX10_best 2 = .ok (.putfield 1, 3) := by decide +kernel
theorem dX10_best_5 : decode cX10_best 5 = .ok (.aload_n 0, 1) := by decide +kernel
theorem dX10_best_6 : decode cX10_best 6 = .ok (.iload_n 1, 1) := by decide +kernel
theorem dX10_best_7 : decode cX10_best 7 = .ok (.iload_n 2, 1) := by decide +kernel
theorem dX10_best_8 : decode cX10_best 8 = .ok (.invokevirtual 373, 3) := by decide +kernel
theorem dX10_best_11 : decode cX10_best 11 = .ok (.istore_n 3, 1) := by decide +kernel
theorem dX10_best_12 : decode cX10_best 12 = .ok (.iload_n 3, 1) := by decide +kernel
theorem dX10_best_13 : decode cX10_best 13 = .ok (.ifCond .eq 5, 3) := by decide +kernel
theorem dX10_best_18 : decode cX10_best 18 = .ok (.aload_n 0, 1) := by decide +kernel
theorem dX10_best_19 : decode cX10_best 19 = .ok (.iload_n 1, 1) := by decide +kernel
theorem dX10_best_20 : decode cX10_best 20 = .ok (.iload_n 2, 1) := by decide +kernel
theorem dX10_best_21 : decode cX10_best 21 = .ok (.invokevirtual 444, 3) := by decide +kernel
theorem dX10_best_24 : decode cX10_best 24 = .ok (.istore 4, 2) := by decide +kernel
theorem dX10_best_26 : decode cX10_best 26 = .ok (.iconst 0, 1) := by decide +kernel
theorem dX10_best_27 : decode cX10_best 27 = .ok (.istore 5, 2) := by decide +kernel
theorem dX10_best_29 : decode cX10_best 29 = .ok (.iload 5, 2) := by decide +kernel
theorem dX10_best_31 : decode cX10_best 31 = .ok (.iconst 4, 1) := by decide +kernel
theorem dX10_best_32 : decode cX10_best 32 = .ok (.if_icmp .ge 40, 3) := by decide +kernel
theorem dX10_best_72 : decode cX10_best 72 = .ok (.iconst (-1), 1) := by decide +kernel
theorem dX10_best_73 : decode cX10_best 73 = .ok (.ireturn, 1) := by decide +kernel
theorem dX10_best_35 : decode cX10_best 35 = .ok (.iload 4, 2) := by decide +kernel
theorem dX10_best_37 : decode cX10_best 37 = .ok (.ifCond .le 35, 3) := by decide +kernel
theorem dX10_best_40 : decode cX10_best 40 = .ok (.iload 4, 2) := by decide +kernel
theorem dX10_best_42 : decode cX10_best 42 = .ok (.ldc_w 361, 3) := by decide +kernel
theorem dX10_best_45 : decode cX10_best 45 = .ok (.if_icmp .ge 27, 3) := by decide +kernel
theorem dX10_best_48 : decode cX10_best 48 = .ok (.aload_n 0, 1) := by decide +kernel
theorem dX10_best_49 : decode cX10_best 49 = .ok (.aload_n 0, 1) := by decide +kernel
theorem dX10_best_50 : decode cX10_best 50 = .ok (.invokevirtual 269, 3) := by decide +kernel
theorem dX10_best_53 : decode cX10_best 53 = .ok (.iload 5, 2) := by decide +kernel
theorem dX10_best_55 : decode cX10_best 55 = .ok (.invokevirtual 438, 3) := by decide +kernel
theorem dX10_best_58 : decode cX10_best 58 = .ok (.iload 4, 2) := by decide +kernel
theorem dX10_best_60 : decode cX10_best 60 = .ok (.if_icmp .ne 6, 3) := by decide +kernel
theorem dX10_best_66 : decode cX10_best 66 = .ok (.iinc 5 1, 3) := by decide +kernel
theorem dX10_best_69 : decode cX10_best 69 = .ok (.goto (-40), 3) := by decide +kernel
theorem dX10_best_63 : decode cX10_best 63 = .ok (.iload 5, 2) := by decide +kernel
theorem dX10_best_65 : decode cX10_best 65 = .ok (.ireturn, 1) := by decide +kernel
theorem dX10_best_16 : decode cX10_best 16 = .ok (.iload_n 3, 1) := by decide +kernel
theorem dX10_best_17 : decode cX10_best 17 = .ok (.ireturn, 1) := by decide +kernel
set_option maxHeartbeats 4000000 in
set_option maxRecDepth 100000 in
theorem k_X10_best_0 (l : Launch) (V : GV) (z : Nat → Nat) (a1 : Int32) (a2 : Int32) (pz0_0 : Int32) (pz0_5 : Int32) (pz0_6 : Int32) (pz0_7 : Int32) (pz0_8 : Int32) (pz0_9 : Int32) (pz0_10 : Int32) (pz0_11 : Int32) (pz0_12 : Int32) (pz0_13 : Int32) (pz0_14 : Int32) (pz0_18 : Int32) (pz0_19 : Int32) (pz0_22 : Int32) (pz0_23 : Int32) (pz0_29 : Int32) (fz1 : Nat → Int32) (fz15 : Nat → Int32) (fz16 : Nat → Int32) (fz24 : Nat → Int32) (fz25 : Nat → Int32) (fz26 : Nat → Int32) (fz27 : Nat → Int32) (fz28 : Nat → Int32) (bpz0_5 : iv 0 900 pz0_5) (bpz0_6 : iv 0 900 pz0_6) (bpz0_7 : iv 0 900 pz0_7) (bpz0_8 : iv 0 900 pz0_8) (bpz0_10 : iv 0 999 pz0_10) (bpz0_11 : iv 0 4 pz0_11) (bpz0_12 : iv 0 900 pz0_12) (bpz0_13 : iv 0 4 pz0_13) (bpz0_14 : iv (-1) 900 pz0_14) (bpz0_18 : iv 0 2 pz0_18) (bpz0_22 : iv 0 9999 pz0_22) (bpz0_29 : iv 0 10000 pz0_29) (tfz1 : ivT tA fz1) (tfz16 : ivT tW fz16) (tfz24 : ∀ j, iv 0 9999 (fz24 j)) (tfz25 : ∀ j, iv (-1) 9999 (fz25 j)) (tfz26 : ∀ j, iv 0 268435456 (fz26 j)) (tfz27 : ∀ j, iv 0 268435456 (fz27 j)) (hf0 : RW fz1) : Ct l V yX10_best (.code yX10_best cX10_best 6 (some .int)) 7 [.ref (z 0), .int a1, .int a2] [(z 0, .inr (10, mo z pz0_0 pz0_5 pz0_6 pz0_7 pz0_8 pz0_9 pz0_10 pz0_11 pz0_12 pz0_13 pz0_14 pz0_18 pz0_19 pz0_22 pz0_23 pz0_29)), (z 1, aI V 3075 fz1), (z 15, aI V 900 fz15), (z 16, aI V 6 fz16), (z 24, aI V 10000 fz24), (z 25, aI V 40000 fz25), (z 26, aI V 10000 fz26), (z 27, aI V 10000 fz27), (z 28, aZ V 10000 fz28)] 0 0 (QI V (fun (r : Int32) (w : va_W) => ∃ (v0 : Int32) (v1 : Int32) (g2 : Nat → Int32) (g3 : Nat → Int32) (g4 : Nat → Int32) (g5 : Nat → Int32) (g6 : Nat → Int32) (g7 : Nat → Int32) (g8 : Nat → Int32), iv 0 10000 v1 ∧ (ivT tW g3) ∧ (∀ j, iv 0 9999 (g4 j)) ∧ (∀ j, iv (-1) 9999 (g5 j)) ∧ (∀ j, iv 0 268435456 (g6 j)) ∧ (∀ j, iv 0 268435456 (g7 j)) ∧ iv (-3) 3 r ∧ (RW fz1) ∧ w = [(z 0, .inr (10, mo z v0 pz0_5 pz0_6 pz0_7 pz0_8 pz0_9 pz0_10 pz0_11 pz0_12 pz0_13 pz0_14 pz0_18 pz0_19 pz0_22 pz0_23 v1)), (z 1, aI V 3075 fz1), (z 15, aI V 900 g2), (z 16, aI V 6 g3), (z 24, aI V 10000 g4), (z 25, aI V 40000 g5), (z 26, aI V 10000 g6), (z 27, aI V 10000 g7), (z 28, aZ V 10000 g8)])) := by
  refine Ct.of (by decide) (Nat.le_of_ble_eq_true rfl) (fun p e s m below meth c A ls hx hb hr hml hown hlk hnm hg hP hK hD hE hA hS hl => ?_)
  have hl : lv_has ls 6 [(0, .ref (z 0)), (1, .int a1), (2, .int a2)] := hl
  refine lv_aload_n hx hb dX10_best_0 rfl (lv_at hl 0 rfl) ?_
  refine lv_iconst (v := 0) hx hb dX10_best_1 (by decide) ?_
  refine va_put (ci := 10) (v := .int 0) (ty := .int) (C := RX10) (T := TX10) (N := 40) hx hb hg inX10 tyX10 tyX10_ok nmX10 hown hK hP hD hS 0 rfl rfl 0 (by decide) (hg _ q_5_224) (fun _ h9 => h9) rfl (by decide +kernel) rfl rfl (Nat.le_of_ble_eq_true rfl) dX10_best_2 (fun H locs hP hD hS => ?_)
  have hP : va_P V.1 vwCl [(z 0, .inr (10, mo z 0 pz0_5 pz0_6 pz0_7 pz0_8 pz0_9 pz0_10 pz0_11 pz0_12 pz0_13 pz0_14 pz0_18 pz0_19 pz0_22 pz0_23 pz0_29)), (z 1, aI V 3075 fz1), (z 15, aI V 900 fz15), (z 16, aI V 6 fz16), (z 24, aI V 10000 fz24), (z 25, aI V 40000 fz25), (z 26, aI V 10000 fz26), (z 27, aI V 10000 fz27), (z 28, aZ V 10000 fz28)] H := hP
  have hD := cpD hP hD
  refine lv_aload_n hx hb dX10_best_5 rfl (lv_at hl 0 rfl) ?_
  refine lv_iload_n hx hb dX10_best_6 rfl (lv_at hl 1 rfl) ?_
  refine lv_iload_n hx hb dX10_best_7 rfl (lv_at hl 2 rfl) ?_
  refine jnI (wr := [(z 15, aI V 900 fz15), (z 16, aI V 6 fz16), (z 24, aI V 10000 fz24), (z 25, aI V 40000 fz25), (z 26, aI V 10000 fz26), (z 27, aI V 10000 fz27), (z 28, aZ V 10000 fz28)]) (rnV (rest := []) ⟨hx, hb, hml, hown, hg⟩ (k_X10_noHigh_0 l V z a1 a2 0 pz0_5 pz0_6 pz0_7 pz0_8 pz0_9 pz0_10 pz0_11 pz0_12 pz0_13 pz0_14 pz0_18 pz0_19 pz0_22 pz0_23 pz0_29 fz1 bpz0_5 bpz0_6 bpz0_7 bpz0_8 bpz0_10 bpz0_11 bpz0_12 bpz0_13 bpz0_14 bpz0_18 bpz0_22 bpz0_29 tfz1) mt_X10_noHigh q_7_182 ⟨Nat.le_of_ble_eq_true rfl, Nat.le_of_ble_eq_true rfl⟩ hK hP hD hS hA hE [0, 1] rfl rfl 0 rfl rfl rfl rfl hl.1 rfl (Nat.le_of_ble_eq_true rfl) dX10_best_8 ⟨Nat.le_of_ble_eq_true rfl, Nat.le_of_ble_eq_true rfl⟩) hP hD hS hA [0, 1] [2, 3, 4, 5, 6, 7, 8] rfl rfl rfl (by decide) (fun r_1 w H locs hw hP hD hS => ?_)
  obtain ⟨br_1, g_2, g_3, rfl⟩ := hw
  have hP : va_P V.1 vwCl [(z 15, aI V 900 fz15), (z 16, aI V 6 fz16), (z 24, aI V 10000 fz24), (z 25, aI V 40000 fz25), (z 26, aI V 10000 fz26), (z 27, aI V 10000 fz27), (z 28, aZ V 10000 fz28), (z 0, .inr (10, mo z 0 pz0_5 pz0_6 pz0_7 pz0_8 pz0_9 pz0_10 pz0_11 pz0_12 pz0_13 pz0_14 pz0_18 pz0_19 pz0_22 pz0_23 pz0_29)), (z 1, aI V 3075 fz1)] H := hP
  have hD := cpD hP hD
  refine lv_istore_n (lv' := [(3, .int r_1), (0, .ref (z 0)), (1, .int a1), (2, .int a2)]) hx hb dX10_best_11 rfl hl (by decide) rfl (fun ls hl => ?_)
  refine lv_iload_n hx hb dX10_best_12 rfl (lv_at hl 0 rfl) ?_
  refine lv_if_eq (tgt := 18) hx hb dX10_best_13 (by decide) (fun c_4 => ?_) (fun c_4 => ?_)
  · have b_5 : iv 0 0 r_1 := iv_q c_4 (iv_c (0 : Int32) (a := 0) (b := 0) (by decide))
    have b_6 : iv 0 3 a1 := iv_cap (g_2 (iv_eqp b_5 (iv_c (0 : Int32) (by decide)))) (iv_top a1) (by decide)
    have b_7 : iv 0 4 a2 := iv_cap (g_3 (iv_eqp b_5 (iv_c (0 : Int32) (by decide)))) (iv_top a2) (by decide)
    refine lv_aload_n hx hb dX10_best_18 rfl (lv_at hl 1 rfl) ?_
    refine lv_iload_n hx hb dX10_best_19 rfl (lv_at hl 2 rfl) ?_
    refine lv_iload_n hx hb dX10_best_20 rfl (lv_at hl 3 rfl) ?_
    refine jnI (wr := []) (rnV (rest := []) ⟨hx, hb, hml, hown, hg⟩ (k_X10_laysForce_0 l V z a1 a2 fz15 fz16 fz24 fz25 fz26 fz27 fz28 0 pz0_5 pz0_6 pz0_7 pz0_8 pz0_9 pz0_10 pz0_11 pz0_12 pz0_13 pz0_14 pz0_18 pz0_19 pz0_22 pz0_23 pz0_29 fz1 b_6 tfz16 tfz24 tfz25 tfz26 tfz27 bpz0_5 bpz0_6 bpz0_7 bpz0_8 bpz0_10 bpz0_11 bpz0_12 bpz0_13 bpz0_14 bpz0_18 bpz0_22 bpz0_29 tfz1 hf0) mt_X10_laysForce q_8_93 ⟨Nat.le_of_ble_eq_true rfl, Nat.le_of_ble_eq_true rfl⟩ hK hP hD hS hA hE [0, 1, 2, 3, 4, 5, 6, 7, 8] rfl rfl 7 rfl rfl rfl rfl hl.1 rfl (Nat.le_of_ble_eq_true rfl) dX10_best_21 ⟨Nat.le_of_ble_eq_true rfl, Nat.le_of_ble_eq_true rfl⟩) hP hD hS hA [0, 1, 2, 3, 4, 5, 6, 7, 8] [] rfl rfl rfl (by decide) (fun r_8 w H locs hw hP hD hS => ?_)
    obtain ⟨f_9, f_10, f_11, f_12, f_13, f_14, f_15, v_16, tf_10, tf_11, tf_12, tf_13, tf_14, bv_16, br_8, g_17, rfl⟩ := hw
    have hP : va_P V.1 vwCl [(z 15, aI V 900 f_9), (z 16, aI V 6 f_10), (z 24, aI V 10000 f_11), (z 25, aI V 40000 f_12), (z 26, aI V 10000 f_13), (z 27, aI V 10000 f_14), (z 28, aZ V 10000 f_15), (z 0, .inr (10, mo z 0 pz0_5 pz0_6 pz0_7 pz0_8 pz0_9 pz0_10 pz0_11 pz0_12 pz0_13 pz0_14 pz0_18 pz0_19 pz0_22 pz0_23 v_16)), (z 1, aI V 3075 fz1)] H := hP
    have hD := cpD hP hD
    refine lv_istore (lv' := [(4, .int r_8), (3, .int r_1), (0, .ref (z 0)), (1, .int a1), (2, .int a2)]) hx hb dX10_best_24 hl (by decide) rfl (fun ls hl => ?_)
    refine lv_iconst (v := 0) hx hb dX10_best_26 (by decide) ?_
    refine lv_istore (lv' := [(5, .int 0), (4, .int r_8), (3, .int r_1), (0, .ref (z 0)), (1, .int a1), (2, .int a2)]) hx hb dX10_best_27 hl (by decide) rfl (fun ls hl => ?_)
    refine loopF (X := fun (n_19 : Nat) (H : Heap) (locs : List Loc) (ls : Array Slot) => ∃ (u_18 : Int32), (iv 0 4 u_18) ∧ (RW fz1) ∧ n_19 = (2147483647 - (u_18 : Int32).toInt).toNat ∧ va_P V.1 vwCl [(z 15, aI V 900 f_9), (z 16, aI V 6 f_10), (z 24, aI V 10000 f_11), (z 25, aI V 40000 f_12), (z 26, aI V 10000 f_13), (z 27, aI V 10000 f_14), (z 28, aZ V 10000 f_15), (z 0, .inr (10, mo z 0 pz0_5 pz0_6 pz0_7 pz0_8 pz0_9 pz0_10 pz0_11 pz0_12 pz0_13 pz0_14 pz0_18 pz0_19 pz0_22 pz0_23 v_16)), (z 1, aI V 3075 fz1)] H ∧ va_D A [(z 15, aI V 900 f_9), (z 16, aI V 6 f_10), (z 24, aI V 10000 f_11), (z 25, aI V 40000 f_12), (z 26, aI V 10000 f_13), (z 27, aI V 10000 f_14), (z 28, aZ V 10000 f_15), (z 0, .inr (10, mo z 0 pz0_5 pz0_6 pz0_7 pz0_8 pz0_9 pz0_10 pz0_11 pz0_12 pz0_13 pz0_14 pz0_18 pz0_19 pz0_22 pz0_23 v_16)), (z 1, aI V 3075 fz1)] ∧ va_S A s.heap H locs ∧ lv_has ls 6 [(5, .int u_18), (4, .int r_8), (3, .int r_1), (0, .ref (z 0)), (1, .int a1), (2, .int a2)]) (g := fun ls => F0 m 29 ls []) (fun n_19 H locs ls hX ihn_19 => ?_) _ ⟨0, (iv_c (0 : Int32) (by decide)), g_17, rfl, hP, hD, hS, lv_sub hl [0, 1, 2, 3, 4, 5] rfl⟩
    obtain ⟨u_18, bu_18, inn_19_0, en_19, hP, hD, hS, hl⟩ := hX
    refine lv_iload hx hb dX10_best_29 (lv_at hl 0 rfl) ?_
    refine lv_iconst (v := 4) hx hb dX10_best_31 (by decide) ?_
    refine lv_icmp_ge (tgt := 72) hx hb dX10_best_32 (by decide) (fun c_20 => ?_) (fun c_20 => ?_)
    · have b_21 : iv 4 4 u_18 := iv_e2 c_20 (iv_c (4 : Int32) (a := 4) (b := 4) (by decide)) bu_18 (by decide)
      refine lv_iconst (v := (-1)) hx hb dX10_best_72 (by decide) ?_
      have hP := subP (ws' := [(z 0, .inr (10, mo z 0 pz0_5 pz0_6 pz0_7 pz0_8 pz0_9 pz0_10 pz0_11 pz0_12 pz0_13 pz0_14 pz0_18 pz0_19 pz0_22 pz0_23 v_16)), (z 1, aI V 3075 fz1), (z 15, aI V 900 f_9), (z 16, aI V 6 f_10), (z 24, aI V 10000 f_11), (z 25, aI V 40000 f_12), (z 26, aI V 10000 f_13), (z 27, aI V 10000 f_14), (z 28, aZ V 10000 f_15)]) hP [7, 8, 0, 1, 2, 3, 4, 5, 6] rfl
      have hD := subD hP hD [7, 8, 0, 1, 2, 3, 4, 5, 6] rfl rfl
      exact fiI hx hb hr hlk hK hP hD hS dX10_best_73 (Nat.le_of_ble_eq_true rfl) (Nat.le_of_ble_eq_true rfl) (⟨0, v_16, f_9, f_10, f_11, f_12, f_13, f_14, f_15, bv_16, tf_10, tf_11, tf_12, tf_13, tf_14, (iv_c ((-1) : Int32) (by decide)), inn_19_0, rfl⟩)
    · have b_22 : iv 0 3 u_18 := iv_l1 (Int32.not_le.mp c_20) bu_18 (iv_c (4 : Int32) (a := 4) (b := 4) (by decide)) (by decide)
      refine lv_iload hx hb dX10_best_35 (lv_at hl 1 rfl) ?_
      refine lv_if_le (tgt := 72) hx hb dX10_best_37 (by decide) (fun c_23 => ?_) (fun c_23 => ?_)
      · have b_24 : iv 0 0 r_8 := iv_e1 c_23 br_8 (iv_c (0 : Int32) (a := 0) (b := 0) (by decide)) (by decide)
        refine lv_iconst (v := (-1)) hx hb dX10_best_72 (by decide) ?_
        have hP := subP (ws' := [(z 0, .inr (10, mo z 0 pz0_5 pz0_6 pz0_7 pz0_8 pz0_9 pz0_10 pz0_11 pz0_12 pz0_13 pz0_14 pz0_18 pz0_19 pz0_22 pz0_23 v_16)), (z 1, aI V 3075 fz1), (z 15, aI V 900 f_9), (z 16, aI V 6 f_10), (z 24, aI V 10000 f_11), (z 25, aI V 40000 f_12), (z 26, aI V 10000 f_13), (z 27, aI V 10000 f_14), (z 28, aZ V 10000 f_15)]) hP [7, 8, 0, 1, 2, 3, 4, 5, 6] rfl
        have hD := subD hP hD [7, 8, 0, 1, 2, 3, 4, 5, 6] rfl rfl
        exact fiI hx hb hr hlk hK hP hD hS dX10_best_73 (Nat.le_of_ble_eq_true rfl) (Nat.le_of_ble_eq_true rfl) (⟨0, v_16, f_9, f_10, f_11, f_12, f_13, f_14, f_15, bv_16, tf_10, tf_11, tf_12, tf_13, tf_14, (iv_c ((-1) : Int32) (by decide)), inn_19_0, rfl⟩)
      · have b_25 : iv 1 268435456 r_8 := iv_l2 (Int32.not_le.mp c_23) (iv_c (0 : Int32) (a := 0) (b := 0) (by decide)) br_8 (by decide)
        refine lv_iload hx hb dX10_best_40 (lv_at hl 1 rfl) ?_
        refine lv_ldcw (v := 268435456) hx hb hown (hg _ q_7_202) dX10_best_42 ?_
        refine lv_icmp_ge (tgt := 72) hx hb dX10_best_45 (by decide) (fun c_26 => ?_) (fun c_26 => ?_)
        · have b_27 : iv 268435456 268435456 r_8 := iv_e2 c_26 (iv_c (268435456 : Int32) (a := 268435456) (b := 268435456) (by decide)) b_25 (by decide)
          refine lv_iconst (v := (-1)) hx hb dX10_best_72 (by decide) ?_
          have hP := subP (ws' := [(z 0, .inr (10, mo z 0 pz0_5 pz0_6 pz0_7 pz0_8 pz0_9 pz0_10 pz0_11 pz0_12 pz0_13 pz0_14 pz0_18 pz0_19 pz0_22 pz0_23 v_16)), (z 1, aI V 3075 fz1), (z 15, aI V 900 f_9), (z 16, aI V 6 f_10), (z 24, aI V 10000 f_11), (z 25, aI V 40000 f_12), (z 26, aI V 10000 f_13), (z 27, aI V 10000 f_14), (z 28, aZ V 10000 f_15)]) hP [7, 8, 0, 1, 2, 3, 4, 5, 6] rfl
          have hD := subD hP hD [7, 8, 0, 1, 2, 3, 4, 5, 6] rfl rfl
          exact fiI hx hb hr hlk hK hP hD hS dX10_best_73 (Nat.le_of_ble_eq_true rfl) (Nat.le_of_ble_eq_true rfl) (⟨0, v_16, f_9, f_10, f_11, f_12, f_13, f_14, f_15, bv_16, tf_10, tf_11, tf_12, tf_13, tf_14, (iv_c ((-1) : Int32) (by decide)), inn_19_0, rfl⟩)
        · have b_28 : iv 1 268435455 r_8 := iv_l1 (Int32.not_le.mp c_26) b_25 (iv_c (268435456 : Int32) (a := 268435456) (b := 268435456) (by decide)) (by decide)
          refine lv_aload_n hx hb dX10_best_48 rfl (lv_at hl 3 rfl) ?_
          refine lv_aload_n hx hb dX10_best_49 rfl (lv_at hl 3 rfl) ?_
          refine jnI (wr := [(z 15, aI V 900 f_9), (z 16, aI V 6 f_10), (z 24, aI V 10000 f_11), (z 25, aI V 40000 f_12), (z 26, aI V 10000 f_13), (z 27, aI V 10000 f_14), (z 28, aZ V 10000 f_15)]) (rnV (rest := [.ref (z 0)]) ⟨hx, hb, hml, hown, hg⟩ (k_X10_standNow_0 l V z 0 pz0_5 pz0_6 pz0_7 pz0_8 pz0_9 pz0_10 pz0_11 pz0_12 pz0_13 pz0_14 pz0_18 pz0_19 pz0_22 pz0_23 v_16 fz1 bpz0_5 bpz0_6 bpz0_7 bpz0_8 bpz0_10 bpz0_11 bpz0_12 bpz0_13 bpz0_14 bpz0_18 bpz0_22 bv_16 tfz1) mt_X10_standNow q_7_11 ⟨Nat.le_of_ble_eq_true rfl, Nat.le_of_ble_eq_true rfl⟩ hK hP hD hS hA hE [7, 8] rfl rfl 7 rfl rfl rfl rfl hl.1 rfl (Nat.le_of_ble_eq_true rfl) dX10_best_50 ⟨Nat.le_of_ble_eq_true rfl, Nat.le_of_ble_eq_true rfl⟩) hP hD hS hA [7, 8] [0, 1, 2, 3, 4, 5, 6] rfl rfl rfl (by decide) (fun r_29 w H locs hw hP hD hS => ?_)
          obtain ⟨br_29, er_29, et_30, rfl⟩ := hw
          have hP : va_P V.1 vwCl [(z 15, aI V 900 f_9), (z 16, aI V 6 f_10), (z 24, aI V 10000 f_11), (z 25, aI V 40000 f_12), (z 26, aI V 10000 f_13), (z 27, aI V 10000 f_14), (z 28, aZ V 10000 f_15), (z 0, .inr (10, mo z 0 pz0_5 pz0_6 pz0_7 pz0_8 pz0_9 pz0_10 pz0_11 pz0_12 pz0_13 pz0_14 pz0_18 pz0_19 pz0_22 pz0_23 v_16)), (z 1, aI V 3075 fz1)] H := hP
          have hD := cpD hP hD
          refine lv_iload hx hb dX10_best_53 (lv_at hl 0 rfl) ?_
          refine jnI (wr := [(z 15, aI V 900 f_9), (z 16, aI V 6 f_10), (z 24, aI V 10000 f_11), (z 26, aI V 10000 f_13), (z 28, aZ V 10000 f_15), (z 1, aI V 3075 fz1)]) (rnV (rest := []) ⟨hx, hb, hml, hown, hg⟩ (k_X10_firstBy_0 l V z r_29 u_18 f_14 f_12 0 pz0_5 pz0_6 pz0_7 pz0_8 pz0_9 pz0_10 pz0_11 pz0_12 pz0_13 pz0_14 pz0_18 pz0_19 pz0_22 pz0_23 v_16 br_29 b_22 tf_14 tf_12 bpz0_5 bpz0_6 bpz0_7 bpz0_8 bpz0_10 bpz0_11 bpz0_12 bpz0_13 bpz0_14 bpz0_18 bpz0_22 bv_16) mt_X10_firstBy q_8_97 ⟨Nat.le_of_ble_eq_true rfl, Nat.le_of_ble_eq_true rfl⟩ hK hP hD hS hA hE [5, 3, 7] rfl rfl 7 rfl rfl rfl rfl hl.1 rfl (Nat.le_of_ble_eq_true rfl) dX10_best_55 ⟨Nat.le_of_ble_eq_true rfl, Nat.le_of_ble_eq_true rfl⟩) hP hD hS hA [5, 3, 7] [0, 1, 2, 4, 6, 8] rfl rfl rfl (by decide) (fun r_31 w H locs hw hP hD hS => ?_)
          obtain ⟨br_31, er_31, rfl⟩ := hw
          have hP : va_P V.1 vwCl [(z 15, aI V 900 f_9), (z 16, aI V 6 f_10), (z 24, aI V 10000 f_11), (z 26, aI V 10000 f_13), (z 28, aZ V 10000 f_15), (z 1, aI V 3075 fz1), (z 27, aI V 10000 f_14), (z 25, aI V 40000 f_12), (z 0, .inr (10, mo z 0 pz0_5 pz0_6 pz0_7 pz0_8 pz0_9 pz0_10 pz0_11 pz0_12 pz0_13 pz0_14 pz0_18 pz0_19 pz0_22 pz0_23 v_16))] H := hP
          have hD := cpD hP hD
          refine lv_iload hx hb dX10_best_58 (lv_at hl 1 rfl) ?_
          refine lv_icmp_ne (tgt := 66) hx hb dX10_best_60 (by decide) (fun c_32 => ?_) (fun c_32 => ?_)
          · obtain ⟨x_33, ex_33⟩ : ∃ z9 : Int32, z9 = u_18 + 1 := ⟨_, rfl⟩
            have bx_33 : iv 1 4 x_33 := by rw [ex_33]; exact iv_add b_22 (iv_c (1 : Int32) (a := 1) (b := 1) (by decide)) (by decide)
            refine lv_iinc (v := x_33) (lv' := [(5, .int x_33), (4, .int r_8), (3, .int r_1), (0, .ref (z 0)), (1, .int a1), (2, .int a2)]) hx hb dX10_best_66 hl (k := 0) rfl (by rw [ex_33]; rfl) (by decide) rfl (fun ls hl => ?_)
            refine lv_goto (tgt := 29) hx hb dX10_best_69 (by decide) ?_
            have hP := subP (ws' := [(z 15, aI V 900 f_9), (z 16, aI V 6 f_10), (z 24, aI V 10000 f_11), (z 25, aI V 40000 f_12), (z 26, aI V 10000 f_13), (z 27, aI V 10000 f_14), (z 28, aZ V 10000 f_15), (z 0, .inr (10, mo z 0 pz0_5 pz0_6 pz0_7 pz0_8 pz0_9 pz0_10 pz0_11 pz0_12 pz0_13 pz0_14 pz0_18 pz0_19 pz0_22 pz0_23 v_16)), (z 1, aI V 3075 fz1)]) hP [0, 1, 2, 7, 3, 6, 4, 8, 5] rfl
            have hD := subD hP hD [0, 1, 2, 7, 3, 6, 4, 8, 5] rfl rfl
            exact ihn_19 _ _ _ _ (by rw [en_19, ex_33]; exact mu_up b_22 (by decide)) ⟨x_33, (iv_w bx_33 (by decide)), inn_19_0, rfl, hP, hD, hS, lv_sub hl [0, 1, 2, 3, 4, 5] rfl⟩
          · have b_34 : iv 1 268435455 r_31 := iv_q c_32 b_28
            refine lv_iload hx hb dX10_best_63 (lv_at hl 0 rfl) ?_
            have hP := subP (ws' := [(z 0, .inr (10, mo z 0 pz0_5 pz0_6 pz0_7 pz0_8 pz0_9 pz0_10 pz0_11 pz0_12 pz0_13 pz0_14 pz0_18 pz0_19 pz0_22 pz0_23 v_16)), (z 1, aI V 3075 fz1), (z 15, aI V 900 f_9), (z 16, aI V 6 f_10), (z 24, aI V 10000 f_11), (z 25, aI V 40000 f_12), (z 26, aI V 10000 f_13), (z 27, aI V 10000 f_14), (z 28, aZ V 10000 f_15)]) hP [8, 5, 0, 1, 2, 7, 3, 6, 4] rfl
            have hD := subD hP hD [8, 5, 0, 1, 2, 7, 3, 6, 4] rfl rfl
            exact fiI hx hb hr hlk hK hP hD hS dX10_best_65 (Nat.le_of_ble_eq_true rfl) (Nat.le_of_ble_eq_true rfl) (⟨0, v_16, f_9, f_10, f_11, f_12, f_13, f_14, f_15, bv_16, tf_10, tf_11, tf_12, tf_13, tf_14, (iv_w b_22 (by decide)), inn_19_0, rfl⟩)
  · have b_35 : iv (-3) (-1) r_1 := iv_n1 c_4 br_1 (iv_c (0 : Int32) (a := 0) (b := 0) (by decide)) (by decide)
    refine lv_iload_n hx hb dX10_best_16 rfl (lv_at hl 0 rfl) ?_
    have hP := subP (ws' := [(z 0, .inr (10, mo z 0 pz0_5 pz0_6 pz0_7 pz0_8 pz0_9 pz0_10 pz0_11 pz0_12 pz0_13 pz0_14 pz0_18 pz0_19 pz0_22 pz0_23 pz0_29)), (z 1, aI V 3075 fz1), (z 15, aI V 900 fz15), (z 16, aI V 6 fz16), (z 24, aI V 10000 fz24), (z 25, aI V 40000 fz25), (z 26, aI V 10000 fz26), (z 27, aI V 10000 fz27), (z 28, aZ V 10000 fz28)]) hP [7, 8, 0, 1, 2, 3, 4, 5, 6] rfl
    have hD := subD hP hD [7, 8, 0, 1, 2, 3, 4, 5, 6] rfl rfl
    exact fiI hx hb hr hlk hK hP hD hS dX10_best_17 (Nat.le_of_ble_eq_true rfl) (Nat.le_of_ble_eq_true rfl) (⟨0, pz0_29, fz15, fz16, fz24, fz25, fz26, fz27, fz28, bpz0_29, tfz16, tfz24, tfz25, tfz26, tfz27, (iv_w b_35 (by decide)), hf0, rfl⟩)
