theorem dX10_lit_0 : decode cX10_lit 0 = .ok (.aload_n 0, 1) := by decide +kernel
theorem dX10_lit_1 : decode cX10_lit 1 = .ok (.iconst 0, 1) := by decide +kernel
theorem dX10_lit_2 : decode cX10_lit 2 = .ok (.putfield 1, 3) := by decide +kernel
theorem dX10_lit_5 : decode cX10_lit 5 = .ok (.aload_n 0, 1) := by decide +kernel
theorem dX10_lit_6 : decode cX10_lit 6 = .ok (.iload_n 1, 1) := by decide +kernel
theorem dX10_lit_7 : decode cX10_lit 7 = .ok (.i2l, 1) := by decide +kernel
theorem dX10_lit_8 : decode cX10_lit 8 = .ok (.invokevirtual 262, 3) := by decide +kernel
theorem dX10_lit_11 : decode cX10_lit 11 = .ok (.ifCond .eq 11, 3) := by decide +kernel
theorem dX10_lit_22 : decode cX10_lit 22 = .ok (.bipush (-2), 2) := by decide +kernel
theorem dX10_lit_24 : decode cX10_lit 24 = .ok (.ireturn, 1) := by decide +kernel
theorem dX10_lit_14 : decode cX10_lit 14 = .ok (.aload_n 0, 1) := by decide +kernel
theorem dX10_lit_15 : decode cX10_lit 15 = .ok (.iload_n 1, 1) := by decide +kernel
theorem q_8_19 : Cond.code yX10_litBy prog_12_method_99_code 7 (some FieldType.int) ∈ gw := gw_8 (i := 19) (rfl) rfl
theorem q_8_18 : Cond.instanceMethod yX10_litBy ∈ gw := gw_8 (i := 18) (by decide +kernel) rfl
theorem q_s_113 : Cond.selects "BeaconDelayModel" yX10_litBy yX10_litBy ∈ gw := gw_s (i := 113) (by decide +kernel) rfl
theorem mt_X10_litBy : MtV yX10_litBy cX10_litBy 7 (some .int) 1 := ⟨⟨q_8_19, q_1_9, by decide +kernel, by decide +kernel, by decide +kernel⟩, q_8_18, q_s_113⟩
theorem q_8_16 : Cond.methodLink "BeaconDelayModel" 402 yX10_litBy ∈ gw := gw_8 (i := 16) (by decide +kernel) rfl
theorem dX10_lit_16 : decode cX10_lit 16 = .ok (.invokevirtual 402, 3) := by decide +kernel
theorem dX10_lit_19 : decode cX10_lit 19 = .ok (.goto 5, 3) := by decide +kernel
set_option maxHeartbeats 4000000 in
set_option maxRecDepth 100000 in
theorem k_X10_lit_0 (l : Launch) (V : GV) (z : Nat → Nat) (a1 : Int32) (pz0_0 : Int32) (pz0_5 : Int32) (pz0_6 : Int32) (pz0_7 : Int32) (pz0_8 : Int32) (pz0_9 : Int32) (pz0_10 : Int32) (pz0_11 : Int32) (pz0_12 : Int32) (pz0_13 : Int32) (pz0_14 : Int32) (pz0_18 : Int32) (pz0_19 : Int32) (pz0_22 : Int32) (pz0_23 : Int32) (pz0_29 : Int32) (fz1 : Nat → Int32) (bpz0_5 : iv 0 900 pz0_5) (bpz0_6 : iv 0 900 pz0_6) (bpz0_7 : iv 0 900 pz0_7) (bpz0_8 : iv 0 900 pz0_8) (bpz0_10 : iv 0 999 pz0_10) (bpz0_11 : iv 0 4 pz0_11) (bpz0_12 : iv 0 900 pz0_12) (bpz0_13 : iv 0 4 pz0_13) (bpz0_14 : iv (-1) 900 pz0_14) (bpz0_18 : iv 0 2 pz0_18) (bpz0_22 : iv 0 9999 pz0_22) (bpz0_29 : iv 0 10000 pz0_29) (tfz1 : ivT tA fz1) : Ct l V yX10_lit (.code yX10_lit cX10_lit 2 (some .int)) 3 [.ref (z 0), .int a1] [(z 0, .inr (10, mo z pz0_0 pz0_5 pz0_6 pz0_7 pz0_8 pz0_9 pz0_10 pz0_11 pz0_12 pz0_13 pz0_14 pz0_18 pz0_19 pz0_22 pz0_23 pz0_29)), (z 1, aI V 3075 fz1)] 0 0 (QI V (fun (r : Int32) (w : va_W) => ∃ (v0 : Int32), iv (-2) 15 r ∧ w = [(z 0, .inr (10, mo z v0 pz0_5 pz0_6 pz0_7 pz0_8 pz0_9 pz0_10 pz0_11 pz0_12 pz0_13 pz0_14 pz0_18 pz0_19 pz0_22 pz0_23 pz0_29)), (z 1, aI V 3075 fz1)])) := by
  refine Ct.of (by decide) (Nat.le_of_ble_eq_true rfl) (fun p e s m below meth c A ls hx hb hr hml hown hlk hnm hg hP hK hD hE hA hS hl => ?_)
  have hl : lv_has ls 2 [(0, .ref (z 0)), (1, .int a1)] := hl
  refine lv_aload_n hx hb dX10_lit_0 rfl (lv_at hl 0 rfl) ?_
  refine lv_iconst (v := 0) hx hb dX10_lit_1 (by decide) ?_
  refine va_put (ci := 10) (v := .int 0) (ty := .int) (C := RX10) (T := TX10) (N := 40) hx hb hg inX10 tyX10 tyX10_ok nmX10 hown hK hP hD hS 0 rfl rfl 0 (by decide) (hg _ q_5_224) (fun _ h9 => h9) rfl (by decide +kernel) rfl rfl (Nat.le_of_ble_eq_true rfl) dX10_lit_2 (fun H locs hP hD hS => ?_)
  have hP : va_P V.1 vwCl [(z 0, .inr (10, mo z 0 pz0_5 pz0_6 pz0_7 pz0_8 pz0_9 pz0_10 pz0_11 pz0_12 pz0_13 pz0_14 pz0_18 pz0_19 pz0_22 pz0_23 pz0_29)), (z 1, aI V 3075 fz1)] H := hP
  have hD : va_D A [(z 0, .inr (10, mo z 0 pz0_5 pz0_6 pz0_7 pz0_8 pz0_9 pz0_10 pz0_11 pz0_12 pz0_13 pz0_14 pz0_18 pz0_19 pz0_22 pz0_23 pz0_29)), (z 1, aI V 3075 fz1)] := hD
  refine lv_aload_n hx hb dX10_lit_5 rfl (lv_at hl 0 rfl) ?_
  refine lv_iload_n hx hb dX10_lit_6 rfl (lv_at hl 1 rfl) ?_
  refine lv_i2l hx hb dX10_lit_7 rfl ?_
  refine lv_topl (fun j_1 ej_1 => ?_)
  refine jnI (wr := []) (rnV (rest := []) ⟨hx, hb, hml, hown, hg⟩ (k_X10_isHill_0 l V z j_1 0 pz0_5 pz0_6 pz0_7 pz0_8 pz0_9 pz0_10 pz0_11 pz0_12 pz0_13 pz0_14 pz0_18 pz0_19 pz0_22 pz0_23 pz0_29 fz1 bpz0_5 bpz0_6 bpz0_7 bpz0_8 bpz0_10 bpz0_11 bpz0_12 bpz0_13 bpz0_14 bpz0_18 bpz0_22 bpz0_29 tfz1) mt_X10_isHill q_6_235 ⟨Nat.le_of_ble_eq_true rfl, Nat.le_of_ble_eq_true rfl⟩ hK hP hD hS hA hE [0, 1] rfl rfl 0 rfl rfl rfl rfl hl.1 rfl (Nat.le_of_ble_eq_true rfl) dX10_lit_8 ⟨Nat.le_of_ble_eq_true rfl, Nat.le_of_ble_eq_true rfl⟩) hP hD hS hA [0, 1] [] rfl rfl rfl (by decide) (fun r_2 w H locs hw hP hD hS => ?_)
  obtain ⟨br_2, g_3, rfl⟩ := hw
  have hP : va_P V.1 vwCl [(z 0, .inr (10, mo z 0 pz0_5 pz0_6 pz0_7 pz0_8 pz0_9 pz0_10 pz0_11 pz0_12 pz0_13 pz0_14 pz0_18 pz0_19 pz0_22 pz0_23 pz0_29)), (z 1, aI V 3075 fz1)] H := hP
  have hD : va_D A [(z 0, .inr (10, mo z 0 pz0_5 pz0_6 pz0_7 pz0_8 pz0_9 pz0_10 pz0_11 pz0_12 pz0_13 pz0_14 pz0_18 pz0_19 pz0_22 pz0_23 pz0_29)), (z 1, aI V 3075 fz1)] := hD
  refine lv_if_eq (tgt := 22) hx hb dX10_lit_11 (by decide) (fun c_4 => ?_) (fun c_4 => ?_)
  · have b_5 : iv 0 0 r_2 := iv_q c_4 (iv_c (0 : Int32) (a := 0) (b := 0) (by decide))
    refine lv_bipush (v := (-2)) hx hb dX10_lit_22 (by decide) ?_
    exact fiI hx hb hr hlk hK hP hD hS dX10_lit_24 (Nat.le_of_ble_eq_true rfl) (Nat.le_of_ble_eq_true rfl) (⟨0, (iv_c ((-2) : Int32) (by decide)), rfl⟩)
  · have b_6 : iv 1 1 r_2 := iv_n0 c_4 br_2 (iv_c (0 : Int32) (a := 0) (b := 0) (by decide)) (by decide)
    have b_7 : ivL 0 3 j_1 := ivL_cap (g_3 (iv_eqp b_6 (iv_c (1 : Int32) (by decide)))) (ivL_top j_1) (by decide)
    have b_8 : iv 0 3 a1 := iv_cap (ivL_i ej_1 b_7) (iv_top a1) (by decide)
    refine lv_aload_n hx hb dX10_lit_14 rfl (lv_at hl 0 rfl) ?_
    refine lv_iload_n hx hb dX10_lit_15 rfl (lv_at hl 1 rfl) ?_
    refine jnI (wr := []) (rnV (rest := []) ⟨hx, hb, hml, hown, hg⟩ (k_X10_litBy_0 l V z a1 0 pz0_5 pz0_6 pz0_7 pz0_8 pz0_9 pz0_10 pz0_11 pz0_12 pz0_13 pz0_14 pz0_18 pz0_19 pz0_22 pz0_23 pz0_29 fz1 b_8 bpz0_5 bpz0_6 bpz0_7 bpz0_8 bpz0_10 bpz0_11 bpz0_12 bpz0_13 bpz0_14 bpz0_18 bpz0_22 bpz0_29 tfz1) mt_X10_litBy q_8_16 ⟨Nat.le_of_ble_eq_true rfl, Nat.le_of_ble_eq_true rfl⟩ hK hP hD hS hA hE [0, 1] rfl rfl 0 rfl rfl rfl rfl hl.1 rfl (Nat.le_of_ble_eq_true rfl) dX10_lit_16 ⟨Nat.le_of_ble_eq_true rfl, Nat.le_of_ble_eq_true rfl⟩) hP hD hS hA [0, 1] [] rfl rfl rfl (by decide) (fun r_9 w H locs hw hP hD hS => ?_)
    obtain ⟨br_9, rfl⟩ := hw
    have hP : va_P V.1 vwCl [(z 0, .inr (10, mo z 0 pz0_5 pz0_6 pz0_7 pz0_8 pz0_9 pz0_10 pz0_11 pz0_12 pz0_13 pz0_14 pz0_18 pz0_19 pz0_22 pz0_23 pz0_29)), (z 1, aI V 3075 fz1)] H := hP
    have hD : va_D A [(z 0, .inr (10, mo z 0 pz0_5 pz0_6 pz0_7 pz0_8 pz0_9 pz0_10 pz0_11 pz0_12 pz0_13 pz0_14 pz0_18 pz0_19 pz0_22 pz0_23 pz0_29)), (z 1, aI V 3075 fz1)] := hD
    refine lv_goto (tgt := 24) hx hb dX10_lit_19 (by decide) ?_
    exact fiI hx hb hr hlk hK hP hD hS dX10_lit_24 (Nat.le_of_ble_eq_true rfl) (Nat.le_of_ble_eq_true rfl) (⟨0, (iv_w br_9 (by decide)), rfl⟩)
theorem dX10_bitsOf_0 : decode cX10_bitsOf 0 = .ok (.iconst 0, 1) := by decide +kernel
theorem dX10_bitsOf_1 : decode cX10_bitsOf 1 = .ok (.istore_n 1, 1) := by decide +kernel
theorem dX10_bitsOf_2 : decode cX10_bitsOf 2 = .ok (.iconst 0, 1) := by decide +kernel
theorem dX10_bitsOf_3 : decode cX10_bitsOf 3 = .ok (.istore_n 2, 1) := by decide +kernel
theorem dX10_bitsOf_4 : decode cX10_bitsOf 4 = .ok (.iload_n 2, 1) := by decide +kernel
theorem dX10_bitsOf_5 : decode cX10_bitsOf 5 = .ok (.bipush 8, 2) := by decide +kernel
theorem dX10_bitsOf_7 : decode cX10_bitsOf 7 = .ok (.if_icmp .ge 17, 3) := by decide +kernel
theorem dX10_bitsOf_24 : decode cX10_bitsOf 24 = .ok (.iload_n 1, 1) := by decide +kernel
theorem dX10_bitsOf_25 : decode cX10_bitsOf 25 = .ok (.ireturn, 1) := by decide +kernel
theorem dX10_bitsOf_10 : decode cX10_bitsOf 10 = .ok (.iload_n 1, 1) := by decide +kernel
theorem dX10_bitsOf_11 : decode cX10_bitsOf 11 = .ok (.iload_n 0, 1) := by decide +kernel
theorem dX10_bitsOf_12 : decode cX10_bitsOf 12 = .ok (.iload_n 2, 1) := by decide +kernel
theorem dX10_bitsOf_13 : decode cX10_bitsOf 13 = .ok (.ishr, 1) := by decide +kernel
theorem dX10_bitsOf_14 : decode cX10_bitsOf 14 = .ok (.iconst 1, 1) := by decide +kernel
theorem dX10_bitsOf_15 : decode cX10_bitsOf 15 = .ok (.iand, 1) := by decide +kernel
theorem dX10_bitsOf_16 : decode cX10_bitsOf 16 = .ok (.iadd, 1) := by decide +kernel
theorem dX10_bitsOf_17 : decode cX10_bitsOf 17 = .ok (.istore_n 1, 1) := by decide +kernel
theorem dX10_bitsOf_18 : decode cX10_bitsOf 18 = .ok (.iinc 2 1, 3) := by decide +kernel
theorem dX10_bitsOf_21 : decode cX10_bitsOf 21 = .ok (.goto (-17), 3) := by decide +kernel
set_option maxHeartbeats 4000000 in
set_option maxRecDepth 100000 in
theorem k_X10_bitsOf_0 (l : Launch) (V : GV) (a0 : Int32) : Ct l V yX10_bitsOf (.code yX10_bitsOf cX10_bitsOf 3 (some .int)) 1 [.int a0] [] 0 0 (QI V (fun (r : Int32) (w : va_W) => w = [])) := by
  refine Ct.of (by decide) (Nat.le_of_ble_eq_true rfl) (fun p e s m below meth c A ls hx hb hr hml hown hlk hnm hg hP hK hD hE hA hS hl => ?_)
  have hl : lv_has ls 3 [(0, .int a0)] := hl
  refine lv_iconst (v := 0) hx hb dX10_bitsOf_0 (by decide) ?_
  refine lv_istore_n (lv' := [(1, .int 0), (0, .int a0)]) hx hb dX10_bitsOf_1 rfl hl (by decide) rfl (fun ls hl => ?_)
  refine lv_iconst (v := 0) hx hb dX10_bitsOf_2 (by decide) ?_
  refine lv_istore_n (lv' := [(2, .int 0), (1, .int 0), (0, .int a0)]) hx hb dX10_bitsOf_3 rfl hl (by decide) rfl (fun ls hl => ?_)
  refine loopF (X := fun (n_3 : Nat) (H : Heap) (locs : List Loc) (ls : Array Slot) => ∃ (u_1 : Int32) (u_2 : Int32), (iv 0 2147483647 u_1) ∧ n_3 = (2147483647 - (u_1 : Int32).toInt).toNat ∧ va_P V.1 vwCl [] H ∧ va_D A [] ∧ va_S A s.heap H locs ∧ lv_has ls 3 [(2, .int u_1), (1, .int u_2), (0, .int a0)]) (g := fun ls => F0 m 4 ls []) (fun n_3 H locs ls hX ihn_3 => ?_) _ ⟨0, 0, (iv_c (0 : Int32) (by decide)), rfl, hP, hD, hS, lv_sub hl [0, 1, 2] rfl⟩
  obtain ⟨u_1, u_2, bu_1, en_3, hP, hD, hS, hl⟩ := hX
  refine lv_iload_n hx hb dX10_bitsOf_4 rfl (lv_at hl 0 rfl) ?_
  refine lv_bipush (v := 8) hx hb dX10_bitsOf_5 (by decide) ?_
  refine lv_icmp_ge (tgt := 24) hx hb dX10_bitsOf_7 (by decide) (fun c_4 => ?_) (fun c_4 => ?_)
  · have b_5 : iv 8 2147483647 u_1 := iv_e2 c_4 (iv_c (8 : Int32) (a := 8) (b := 8) (by decide)) bu_1 (by decide)
    refine lv_iload_n hx hb dX10_bitsOf_24 rfl (lv_at hl 1 rfl) ?_
    exact fiI hx hb hr hlk hK hP hD hS dX10_bitsOf_25 (Nat.le_of_ble_eq_true rfl) (Nat.le_of_ble_eq_true rfl) (rfl)
  · have b_6 : iv 0 7 u_1 := iv_l1 (Int32.not_le.mp c_4) bu_1 (iv_c (8 : Int32) (a := 8) (b := 8) (by decide)) (by decide)
    refine lv_iload_n hx hb dX10_bitsOf_10 rfl (lv_at hl 1 rfl) ?_
    refine lv_iload_n hx hb dX10_bitsOf_11 rfl (lv_at hl 2 rfl) ?_
    refine lv_iload_n hx hb dX10_bitsOf_12 rfl (lv_at hl 0 rfl) ?_
    refine lv_ishr hx hb dX10_bitsOf_13 ?_
    refine lv_topi (fun x_7 ex_7 => ?_)
    refine lv_iconst (v := 1) hx hb dX10_bitsOf_14 (by decide) ?_
    refine lv_iand hx hb dX10_bitsOf_15 ?_
    refine lv_topi (fun x_8 ex_8 => ?_)
    have bx_8 : iv 0 1 x_8 := by rw [ex_8]; exact iv_and1 _
    refine lv_iadd hx hb dX10_bitsOf_16 ?_
    refine lv_topi (fun x_9 ex_9 => ?_)
    refine lv_istore_n (lv' := [(1, .int x_9), (2, .int u_1), (0, .int a0)]) hx hb dX10_bitsOf_17 rfl hl (by decide) rfl (fun ls hl => ?_)
    obtain ⟨x_10, ex_10⟩ : ∃ z9 : Int32, z9 = u_1 + 1 := ⟨_, rfl⟩
    have bx_10 : iv 1 8 x_10 := by rw [ex_10]; exact iv_add b_6 (iv_c (1 : Int32) (a := 1) (b := 1) (by decide)) (by decide)
    refine lv_iinc (v := x_10) (lv' := [(2, .int x_10), (1, .int x_9), (0, .int a0)]) hx hb dX10_bitsOf_18 hl (k := 1) rfl (by rw [ex_10]; rfl) (by decide) rfl (fun ls hl => ?_)
    refine lv_goto (tgt := 4) hx hb dX10_bitsOf_21 (by decide) ?_
    exact ihn_3 _ _ _ _ (by rw [en_3, ex_10]; exact mu_up b_6 (by decide)) ⟨x_10, x_9, (iv_w bx_10 (by decide)), rfl, hP, hD, hS, lv_sub hl [0, 1, 2] rfl⟩
theorem dX10_brightest_0 : decode cX10_brightest 0 = .ok (.aload_n 0, 1) := by decide +kernel
theorem dX10_brightest_1 : decode cX10_brightest 1 = .ok (.iconst 0, 1) := by decide +kernel
theorem dX10_brightest_2 : decode cX10_brightest 2 = .ok (.putfield 1, 3) := by decide +kernel
theorem dX10_brightest_5 : decode cX10_brightest 5 = .ok (.iconst (-1), 1) := by decide +kernel
theorem dX10_brightest_6 : decode cX10_brightest 6 = .ok (.istore_n 1, 1) := by decide +kernel
theorem dX10_brightest_7 : decode cX10_brightest 7 = .ok (.iconst (-1), 1) := by decide +kernel
theorem dX10_brightest_8 : decode cX10_brightest 8 = .ok (.istore_n 2, 1) := by decide +kernel
theorem dX10_brightest_9 : decode cX10_brightest 9 = .ok (.iconst 0, 1) := by decide +kernel
theorem dX10_brightest_10 : decode cX10_brightest 10 = .ok (.istore_n 3, 1) := by decide +kernel
theorem dX10_brightest_11 : decode cX10_brightest 11 = .ok (.iload_n 3, 1) := by decide +kernel
theorem dX10_brightest_12 : decode cX10_brightest 12 = .ok (.aload_n 0, 1) := by decide +kernel
theorem dX10_brightest_13 : decode cX10_brightest 13 = .ok (.getfield 13, 3) := by decide +kernel
theorem dX10_brightest_16 : decode cX10_brightest 16 = .ok (.iconst 1, 1) := by decide +kernel
theorem dX10_brightest_17 : decode cX10_brightest 17 = .ok (.iaload, 1) := by decide +kernel
theorem dX10_brightest_18 : decode cX10_brightest 18 = .ok (.if_icmp .ge 35, 3) := by decide +kernel
theorem dX10_brightest_53 : decode cX10_brightest 53 = .ok (.iload_n 1, 1) := by decide +kernel
theorem dX10_brightest_54 : decode cX10_brightest 54 = .ok (.ireturn, 1) := by decide +kernel
theorem dX10_brightest_21 : decode cX10_brightest 21 = .ok (.aload_n 0, 1) := by decide +kernel
theorem dX10_brightest_22 : decode cX10_brightest 22 = .ok (.iload_n 3, 1) := by decide +kernel
theorem dX10_brightest_23 : decode cX10_brightest 23 = .ok (.invokevirtual 402, 3) := by decide +kernel
theorem q_8_26 : Cond.code yX10_bitsOf prog_12_method_44_code 3 (some FieldType.int) ∈ gw := gw_8 (i := 26) (rfl) rfl
theorem q_8_25 : Cond.static yX10_bitsOf ∈ gw := gw_8 (i := 25) (by decide +kernel) rfl
theorem mt_X10_bitsOf : MtS yX10_bitsOf cX10_bitsOf 3 (some .int) 1 := ⟨⟨q_8_26, q_1_9, by decide +kernel, by decide +kernel, by decide +kernel⟩, q_8_25⟩
theorem q_8_24 : Cond.methodLink "BeaconDelayModel" 405 yX10_bitsOf ∈ gw := gw_8 (i := 24) (by decide +kernel) rfl
theorem dX10_brightest_26 : decode cX10_brightest 26 = .ok (.invokestatic 405, 3) := by decide +kernel
theorem dX10_brightest_29 : decode cX10_brightest 29 = .ok (.iload_n 2, 1) := by decide +kernel
theorem dX10_brightest_30 : decode cX10_brightest 30 = .ok (.if_icmp .gt 6, 3) := by decide +kernel
theorem dX10_brightest_36 : decode cX10_brightest 36 = .ok (.iload_n 3, 1) := by decide +kernel
theorem dX10_brightest_37 : decode cX10_brightest 37 = .ok (.istore_n 1, 1) := by decide +kernel
theorem dX10_brightest_38 : decode cX10_brightest 38 = .ok (.aload_n 0, 1) := by decide +kernel
theorem dX10_brightest_39 : decode cX10_brightest 39 = .ok (.iload_n 3, 1) := by decide +kernel
theorem dX10_brightest_40 : decode cX10_brightest 40 = .ok (.invokevirtual 402, 3) := by decide +kernel
theorem dX10_brightest_43 : decode cX10_brightest 43 = .ok (.invokestatic 405, 3) := by decide +kernel
theorem dX10_brightest_46 : decode cX10_brightest 46 = .ok (.istore_n 2, 1) := by decide +kernel
theorem dX10_brightest_47 : decode cX10_brightest 47 = .ok (.iinc 3 1, 3) := by decide +kernel
theorem dX10_brightest_50 : decode cX10_brightest 50 = .ok (.goto (-39), 3) := by decide +kernel
theorem dX10_brightest_33 : decode cX10_brightest 33 = .ok (.goto 14, 3) := by decide +kernel
set_option maxHeartbeats 4000000 in
set_option maxRecDepth 100000 in
theorem k_X10_brightest_0 (l : Launch) (V : GV) (z : Nat → Nat) (pz0_0 : Int32) (pz0_5 : Int32) (pz0_6 : Int32) (pz0_7 : Int32) (pz0_8 : Int32) (pz0_9 : Int32) (pz0_10 : Int32) (pz0_11 : Int32) (pz0_12 : Int32) (pz0_13 : Int32) (pz0_14 : Int32) (pz0_18 : Int32) (pz0_19 : Int32) (pz0_22 : Int32) (pz0_23 : Int32) (pz0_29 : Int32) (fz1 : Nat → Int32) (bpz0_5 : iv 0 900 pz0_5) (bpz0_6 : iv 0 900 pz0_6) (bpz0_7 : iv 0 900 pz0_7) (bpz0_8 : iv 0 900 pz0_8) (bpz0_10 : iv 0 999 pz0_10) (bpz0_11 : iv 0 4 pz0_11) (bpz0_12 : iv 0 900 pz0_12) (bpz0_13 : iv 0 4 pz0_13) (bpz0_14 : iv (-1) 900 pz0_14) (bpz0_18 : iv 0 2 pz0_18) (bpz0_22 : iv 0 9999 pz0_22) (bpz0_29 : iv 0 10000 pz0_29) (tfz1 : ivT tA fz1) : Ct l V yX10_brightest (.code yX10_brightest cX10_brightest 4 (some .int)) 3 [.ref (z 0)] [(z 0, .inr (10, mo z pz0_0 pz0_5 pz0_6 pz0_7 pz0_8 pz0_9 pz0_10 pz0_11 pz0_12 pz0_13 pz0_14 pz0_18 pz0_19 pz0_22 pz0_23 pz0_29)), (z 1, aI V 3075 fz1)] 0 0 (QI V (fun (r : Int32) (w : va_W) => ∃ (v0 : Int32), w = [(z 0, .inr (10, mo z v0 pz0_5 pz0_6 pz0_7 pz0_8 pz0_9 pz0_10 pz0_11 pz0_12 pz0_13 pz0_14 pz0_18 pz0_19 pz0_22 pz0_23 pz0_29)), (z 1, aI V 3075 fz1)])) := by
  refine Ct.of (by decide) (Nat.le_of_ble_eq_true rfl) (fun p e s m below meth c A ls hx hb hr hml hown hlk hnm hg hP hK hD hE hA hS hl => ?_)
  have hl : lv_has ls 4 [(0, .ref (z 0))] := hl
  refine lv_aload_n hx hb dX10_brightest_0 rfl (lv_at hl 0 rfl) ?_
  refine lv_iconst (v := 0) hx hb dX10_brightest_1 (by decide) ?_
  refine va_put (ci := 10) (v := .int 0) (ty := .int) (C := RX10) (T := TX10) (N := 40) hx hb hg inX10 tyX10 tyX10_ok nmX10 hown hK hP hD hS 0 rfl rfl 0 (by decide) (hg _ q_5_224) (fun _ h9 => h9) rfl (by decide +kernel) rfl rfl (Nat.le_of_ble_eq_true rfl) dX10_brightest_2 (fun H locs hP hD hS => ?_)
  have hP : va_P V.1 vwCl [(z 0, .inr (10, mo z 0 pz0_5 pz0_6 pz0_7 pz0_8 pz0_9 pz0_10 pz0_11 pz0_12 pz0_13 pz0_14 pz0_18 pz0_19 pz0_22 pz0_23 pz0_29)), (z 1, aI V 3075 fz1)] H := hP
  have hD : va_D A [(z 0, .inr (10, mo z 0 pz0_5 pz0_6 pz0_7 pz0_8 pz0_9 pz0_10 pz0_11 pz0_12 pz0_13 pz0_14 pz0_18 pz0_19 pz0_22 pz0_23 pz0_29)), (z 1, aI V 3075 fz1)] := hD
  refine lv_iconst (v := (-1)) hx hb dX10_brightest_5 (by decide) ?_
  refine lv_istore_n (lv' := [(1, .int (-1)), (0, .ref (z 0))]) hx hb dX10_brightest_6 rfl hl (by decide) rfl (fun ls hl => ?_)
  refine lv_iconst (v := (-1)) hx hb dX10_brightest_7 (by decide) ?_
  refine lv_istore_n (lv' := [(2, .int (-1)), (1, .int (-1)), (0, .ref (z 0))]) hx hb dX10_brightest_8 rfl hl (by decide) rfl (fun ls hl => ?_)
  refine lv_iconst (v := 0) hx hb dX10_brightest_9 (by decide) ?_
  refine lv_istore_n (lv' := [(3, .int 0), (2, .int (-1)), (1, .int (-1)), (0, .ref (z 0))]) hx hb dX10_brightest_10 rfl hl (by decide) rfl (fun ls hl => ?_)
  refine loopF (X := fun (n_4 : Nat) (H : Heap) (locs : List Loc) (ls : Array Slot) => ∃ (u_1 : Int32) (u_2 : Int32) (u_3 : Int32), (iv 0 2147483647 u_1) ∧ n_4 = (2147483647 - (u_1 : Int32).toInt).toNat ∧ va_P V.1 vwCl [(z 0, .inr (10, mo z 0 pz0_5 pz0_6 pz0_7 pz0_8 pz0_9 pz0_10 pz0_11 pz0_12 pz0_13 pz0_14 pz0_18 pz0_19 pz0_22 pz0_23 pz0_29)), (z 1, aI V 3075 fz1)] H ∧ va_D A [(z 0, .inr (10, mo z 0 pz0_5 pz0_6 pz0_7 pz0_8 pz0_9 pz0_10 pz0_11 pz0_12 pz0_13 pz0_14 pz0_18 pz0_19 pz0_22 pz0_23 pz0_29)), (z 1, aI V 3075 fz1)] ∧ va_S A s.heap H locs ∧ lv_has ls 4 [(3, .int u_1), (2, .int u_2), (1, .int u_3), (0, .ref (z 0))]) (g := fun ls => F0 m 11 ls []) (fun n_4 H locs ls hX ihn_4 => ?_) _ ⟨0, (-1), (-1), (iv_c (0 : Int32) (by decide)), rfl, hP, hD, hS, lv_sub hl [0, 1, 2, 3] rfl⟩
  obtain ⟨u_1, u_2, u_3, bu_1, en_4, hP, hD, hS, hl⟩ := hX
  refine lv_iload_n hx hb dX10_brightest_11 rfl (lv_at hl 0 rfl) ?_
  refine lv_aload_n hx hb dX10_brightest_12 rfl (lv_at hl 3 rfl) ?_
  refine va_get (ci := 10) (v := .ref (z 1)) (C := RX10) (T := TX10) (N := 40) hx hb hg inX10 hown hK hP 0 rfl rfl 1 (by decide) (hg _ q_5_225) (fun _ h9 => h9) rfl dX10_brightest_13 ?_
  refine lv_iconst (v := 1) hx hb dX10_brightest_16 (by decide) ?_
  refine va_iald hx hb hK hP 1 0 rfl rfl (vin (by decide +kernel)) dX10_brightest_17 ?_
  refine lv_topi (fun x_5 ex_5 => ?_)
  have bx_5 : iv 0 4 x_5 := by rw [ex_5]; exact rdT (a := 1) (n := 1) tfz1 (iv_c (1 : Int32) (a := 1) (b := 1) (by decide)) (by decide) (by decide +kernel)
  refine lv_icmp_ge (tgt := 53) hx hb dX10_brightest_18 (by decide) (fun c_6 => ?_) (fun c_6 => ?_)
  · refine lv_iload_n hx hb dX10_brightest_53 rfl (lv_at hl 2 rfl) ?_
    exact fiI hx hb hr hlk hK hP hD hS dX10_brightest_54 (Nat.le_of_ble_eq_true rfl) (Nat.le_of_ble_eq_true rfl) (⟨0, rfl⟩)
  · have b_7 : iv 0 3 u_1 := iv_l1 (Int32.not_le.mp c_6) bu_1 bx_5 (by decide)
    have b_8 : iv 1 4 x_5 := iv_l2 (Int32.not_le.mp c_6) bu_1 bx_5 (by decide)
    refine lv_aload_n hx hb dX10_brightest_21 rfl (lv_at hl 3 rfl) ?_
    refine lv_iload_n hx hb dX10_brightest_22 rfl (lv_at hl 0 rfl) ?_
    refine jnI (wr := []) (rnV (rest := []) ⟨hx, hb, hml, hown, hg⟩ (k_X10_litBy_0 l V z u_1 0 pz0_5 pz0_6 pz0_7 pz0_8 pz0_9 pz0_10 pz0_11 pz0_12 pz0_13 pz0_14 pz0_18 pz0_19 pz0_22 pz0_23 pz0_29 fz1 b_7 bpz0_5 bpz0_6 bpz0_7 bpz0_8 bpz0_10 bpz0_11 bpz0_12 bpz0_13 bpz0_14 bpz0_18 bpz0_22 bpz0_29 tfz1) mt_X10_litBy q_8_16 ⟨Nat.le_of_ble_eq_true rfl, Nat.le_of_ble_eq_true rfl⟩ hK hP hD hS hA hE [0, 1] rfl rfl 0 rfl rfl rfl rfl hl.1 rfl (Nat.le_of_ble_eq_true rfl) dX10_brightest_23 ⟨Nat.le_of_ble_eq_true rfl, Nat.le_of_ble_eq_true rfl⟩) hP hD hS hA [0, 1] [] rfl rfl rfl (by decide) (fun r_9 w H locs hw hP hD hS => ?_)
    obtain ⟨br_9, rfl⟩ := hw
    have hP : va_P V.1 vwCl [(z 0, .inr (10, mo z 0 pz0_5 pz0_6 pz0_7 pz0_8 pz0_9 pz0_10 pz0_11 pz0_12 pz0_13 pz0_14 pz0_18 pz0_19 pz0_22 pz0_23 pz0_29)), (z 1, aI V 3075 fz1)] H := hP
    have hD : va_D A [(z 0, .inr (10, mo z 0 pz0_5 pz0_6 pz0_7 pz0_8 pz0_9 pz0_10 pz0_11 pz0_12 pz0_13 pz0_14 pz0_18 pz0_19 pz0_22 pz0_23 pz0_29)), (z 1, aI V 3075 fz1)] := hD
    refine jnI (wr := [(z 0, .inr (10, mo z 0 pz0_5 pz0_6 pz0_7 pz0_8 pz0_9 pz0_10 pz0_11 pz0_12 pz0_13 pz0_14 pz0_18 pz0_19 pz0_22 pz0_23 pz0_29)), (z 1, aI V 3075 fz1)]) (rnS (rest := []) ⟨hx, hb, hml, hown, hg⟩ (k_X10_bitsOf_0 l V r_9) mt_X10_bitsOf q_8_24 ⟨Nat.le_of_ble_eq_true rfl, Nat.le_of_ble_eq_true rfl⟩ hK hP hD hS hA hE [] rfl rfl rfl hl.1 rfl (Nat.le_of_ble_eq_true rfl) dX10_brightest_26 ⟨Nat.le_of_ble_eq_true rfl, Nat.le_of_ble_eq_true rfl⟩) hP hD hS hA [] [0, 1] rfl rfl rfl (by decide) (fun r_10 w H locs hw hP hD hS => ?_)
    subst hw
    have hP : va_P V.1 vwCl [(z 0, .inr (10, mo z 0 pz0_5 pz0_6 pz0_7 pz0_8 pz0_9 pz0_10 pz0_11 pz0_12 pz0_13 pz0_14 pz0_18 pz0_19 pz0_22 pz0_23 pz0_29)), (z 1, aI V 3075 fz1)] H := hP
    have hD : va_D A [(z 0, .inr (10, mo z 0 pz0_5 pz0_6 pz0_7 pz0_8 pz0_9 pz0_10 pz0_11 pz0_12 pz0_13 pz0_14 pz0_18 pz0_19 pz0_22 pz0_23 pz0_29)), (z 1, aI V 3075 fz1)] := hD
    refine lv_iload_n hx hb dX10_brightest_29 rfl (lv_at hl 1 rfl) ?_
    refine lv_icmp_gt (tgt := 36) hx hb dX10_brightest_30 (by decide) (fun c_11 => ?_) (fun c_11 => ?_)
    · have b_12 : iv (-2147483648) 2147483646 u_2 := iv_l1 c_11 (iv_top u_2) (iv_top r_10) (by decide)
      have b_13 : iv (-2147483647) 2147483647 r_10 := iv_l2 c_11 (iv_top u_2) (iv_top r_10) (by decide)
      refine lv_iload_n hx hb dX10_brightest_36 rfl (lv_at hl 0 rfl) ?_
      refine lv_istore_n (lv' := [(1, .int u_1), (3, .int u_1), (2, .int u_2), (0, .ref (z 0))]) hx hb dX10_brightest_37 rfl hl (by decide) rfl (fun ls hl => ?_)
      refine lv_aload_n hx hb dX10_brightest_38 rfl (lv_at hl 3 rfl) ?_
      refine lv_iload_n hx hb dX10_brightest_39 rfl (lv_at hl 1 rfl) ?_
      refine jnI (wr := []) (rnV (rest := []) ⟨hx, hb, hml, hown, hg⟩ (k_X10_litBy_0 l V z u_1 0 pz0_5 pz0_6 pz0_7 pz0_8 pz0_9 pz0_10 pz0_11 pz0_12 pz0_13 pz0_14 pz0_18 pz0_19 pz0_22 pz0_23 pz0_29 fz1 b_7 bpz0_5 bpz0_6 bpz0_7 bpz0_8 bpz0_10 bpz0_11 bpz0_12 bpz0_13 bpz0_14 bpz0_18 bpz0_22 bpz0_29 tfz1) mt_X10_litBy q_8_16 ⟨Nat.le_of_ble_eq_true rfl, Nat.le_of_ble_eq_true rfl⟩ hK hP hD hS hA hE [0, 1] rfl rfl 0 rfl rfl rfl rfl hl.1 rfl (Nat.le_of_ble_eq_true rfl) dX10_brightest_40 ⟨Nat.le_of_ble_eq_true rfl, Nat.le_of_ble_eq_true rfl⟩) hP hD hS hA [0, 1] [] rfl rfl rfl (by decide) (fun r_14 w H locs hw hP hD hS => ?_)
      obtain ⟨br_14, rfl⟩ := hw
      have hP : va_P V.1 vwCl [(z 0, .inr (10, mo z 0 pz0_5 pz0_6 pz0_7 pz0_8 pz0_9 pz0_10 pz0_11 pz0_12 pz0_13 pz0_14 pz0_18 pz0_19 pz0_22 pz0_23 pz0_29)), (z 1, aI V 3075 fz1)] H := hP
      have hD : va_D A [(z 0, .inr (10, mo z 0 pz0_5 pz0_6 pz0_7 pz0_8 pz0_9 pz0_10 pz0_11 pz0_12 pz0_13 pz0_14 pz0_18 pz0_19 pz0_22 pz0_23 pz0_29)), (z 1, aI V 3075 fz1)] := hD
      refine jnI (wr := [(z 0, .inr (10, mo z 0 pz0_5 pz0_6 pz0_7 pz0_8 pz0_9 pz0_10 pz0_11 pz0_12 pz0_13 pz0_14 pz0_18 pz0_19 pz0_22 pz0_23 pz0_29)), (z 1, aI V 3075 fz1)]) (rnS (rest := []) ⟨hx, hb, hml, hown, hg⟩ (k_X10_bitsOf_0 l V r_14) mt_X10_bitsOf q_8_24 ⟨Nat.le_of_ble_eq_true rfl, Nat.le_of_ble_eq_true rfl⟩ hK hP hD hS hA hE [] rfl rfl rfl hl.1 rfl (Nat.le_of_ble_eq_true rfl) dX10_brightest_43 ⟨Nat.le_of_ble_eq_true rfl, Nat.le_of_ble_eq_true rfl⟩) hP hD hS hA [] [0, 1] rfl rfl rfl (by decide) (fun r_15 w H locs hw hP hD hS => ?_)
      subst hw
      have hP : va_P V.1 vwCl [(z 0, .inr (10, mo z 0 pz0_5 pz0_6 pz0_7 pz0_8 pz0_9 pz0_10 pz0_11 pz0_12 pz0_13 pz0_14 pz0_18 pz0_19 pz0_22 pz0_23 pz0_29)), (z 1, aI V 3075 fz1)] H := hP
      have hD : va_D A [(z 0, .inr (10, mo z 0 pz0_5 pz0_6 pz0_7 pz0_8 pz0_9 pz0_10 pz0_11 pz0_12 pz0_13 pz0_14 pz0_18 pz0_19 pz0_22 pz0_23 pz0_29)), (z 1, aI V 3075 fz1)] := hD
      refine lv_istore_n (lv' := [(2, .int r_15), (1, .int u_1), (3, .int u_1), (0, .ref (z 0))]) hx hb dX10_brightest_46 rfl hl (by decide) rfl (fun ls hl => ?_)
      obtain ⟨x_16, ex_16⟩ : ∃ z9 : Int32, z9 = u_1 + 1 := ⟨_, rfl⟩
      have bx_16 : iv 1 4 x_16 := by rw [ex_16]; exact iv_add b_7 (iv_c (1 : Int32) (a := 1) (b := 1) (by decide)) (by decide)
      refine lv_iinc (v := x_16) (lv' := [(3, .int x_16), (2, .int r_15), (1, .int u_1), (0, .ref (z 0))]) hx hb dX10_brightest_47 hl (k := 2) rfl (by rw [ex_16]; rfl) (by decide) rfl (fun ls hl => ?_)
      refine lv_goto (tgt := 11) hx hb dX10_brightest_50 (by decide) ?_
      exact ihn_4 _ _ _ _ (by rw [en_4, ex_16]; exact mu_up b_7 (by decide)) ⟨x_16, r_15, u_1, (iv_w bx_16 (by decide)), rfl, hP, hD, hS, lv_sub hl [0, 1, 2, 3] rfl⟩
    · refine lv_goto (tgt := 47) hx hb dX10_brightest_33 (by decide) ?_
      obtain ⟨x_17, ex_17⟩ : ∃ z9 : Int32, z9 = u_1 + 1 := ⟨_, rfl⟩
      have bx_17 : iv 1 4 x_17 := by rw [ex_17]; exact iv_add b_7 (iv_c (1 : Int32) (a := 1) (b := 1) (by decide)) (by decide)
      refine lv_iinc (v := x_17) (lv' := [(3, .int x_17), (2, .int u_2), (1, .int u_3), (0, .ref (z 0))]) hx hb dX10_brightest_47 hl (k := 0) rfl (by rw [ex_17]; rfl) (by decide) rfl (fun ls hl => ?_)
      refine lv_goto (tgt := 11) hx hb dX10_brightest_50 (by decide) ?_
      exact ihn_4 _ _ _ _ (by rw [en_4, ex_17]; exact mu_up b_7 (by decide)) ⟨x_17, u_2, u_3, (iv_w bx_17 (by decide)), rfl, hP, hD, hS, lv_sub hl [0, 1, 2, 3] rfl⟩
theorem dX10_laysRoom_0 : decode cX10_laysRoom 0 = .ok (.iconst 0, 1) := by decide +kernel
theorem dX10_laysRoom_1 : decode cX10_laysRoom 1 = .ok (.istore_n 2, 1) := by decide +kernel
theorem dX10_laysRoom_2 : decode cX10_laysRoom 2 = .ok (.iload_n 2, 1) := by decide +kernel
theorem dX10_laysRoom_3 : decode cX10_laysRoom 3 = .ok (.bipush 100, 2) := by decide +kernel
theorem dX10_laysRoom_5 : decode cX10_laysRoom 5 = .ok (.if_icmp .ge 16, 3) := by decide +kernel
theorem dX10_laysRoom_21 : decode cX10_laysRoom 21 = .ok (.iconst 0, 1) := by decide +kernel
theorem dX10_laysRoom_22 : decode cX10_laysRoom 22 = .ok (.istore_n 2, 1) := by decide +kernel
theorem dX10_laysRoom_23 : decode cX10_laysRoom 23 = .ok (.iload_n 2, 1) := by decide +kernel
theorem dX10_laysRoom_24 : decode cX10_laysRoom 24 = .ok (.aload_n 0, 1) := by decide +kernel
theorem dX10_laysRoom_25 : decode cX10_laysRoom 25 = .ok (.getfield 13, 3) := by decide +kernel
theorem dX10_laysRoom_28 : decode cX10_laysRoom 28 = .ok (.iconst 1, 1) := by decide +kernel
theorem dX10_laysRoom_29 : decode cX10_laysRoom 29 = .ok (.iaload, 1) := by decide +kernel
theorem dX10_laysRoom_30 : decode cX10_laysRoom 30 = .ok (.if_icmp .ge 26, 3) := by decide +kernel
theorem dX10_laysRoom_56 : decode cX10_laysRoom 56 = .ok (.iconst 0, 1) := by decide +kernel
theorem dX10_laysRoom_57 : decode cX10_laysRoom 57 = .ok (.istore_n 2, 1) := by decide +kernel
theorem dX10_laysRoom_58 : decode cX10_laysRoom 58 = .ok (.iload_n 2, 1) := by decide +kernel
theorem dX10_laysRoom_59 : decode cX10_laysRoom 59 = .ok (.aload_n 0, 1) := by decide +kernel
theorem dX10_laysRoom_60 : decode cX10_laysRoom 60 = .ok (.getfield 13, 3) := by decide +kernel
theorem dX10_laysRoom_63 : decode cX10_laysRoom 63 = .ok (.iconst 2, 1) := by decide +kernel
theorem dX10_laysRoom_64 : decode cX10_laysRoom 64 = .ok (.iaload, 1) := by decide +kernel
theorem dX10_laysRoom_65 : decode cX10_laysRoom 65 = .ok (.if_icmp .ge 32, 3) := by decide +kernel
theorem dX10_laysRoom_97 : decode cX10_laysRoom 97 = .ok (.iconst 0, 1) := by decide +kernel
theorem dX10_laysRoom_98 : decode cX10_laysRoom 98 = .ok (.istore_n 2, 1) := by decide +kernel
theorem dX10_laysRoom_99 : decode cX10_laysRoom 99 = .ok (.iload_n 2, 1) := by decide +kernel
theorem dX10_laysRoom_100 : decode cX10_laysRoom 100 = .ok (.aload_n 0, 1) := by decide +kernel
theorem dX10_laysRoom_101 : decode cX10_laysRoom 101 = .ok (.getfield 13, 3) := by decide +kernel
theorem dX10_laysRoom_104 : decode cX10_laysRoom 104 = .ok (.iconst 3, 1) := by decide +kernel
theorem dX10_laysRoom_105 : decode cX10_laysRoom 105 = .ok (.iaload, 1) := by decide +kernel
theorem dX10_laysRoom_106 : decode cX10_laysRoom 106 = .ok (.if_icmp .ge 67, 3) := by decide +kernel
theorem dX10_laysRoom_173 : decode cX10_laysRoom 173 = .ok (.return_, 1) := by decide +kernel
theorem dX10_laysRoom_109 : decode cX10_laysRoom 109 = .ok (.iload_n 2, 1) := by decide +kernel
theorem dX10_laysRoom_110 : decode cX10_laysRoom 110 = .ok (.iload_n 1, 1) := by decide +kernel
theorem dX10_laysRoom_111 : decode cX10_laysRoom 111 = .ok (.if_icmp .eq 56, 3) := by decide +kernel
theorem dX10_laysRoom_167 : decode cX10_laysRoom 167 = .ok (.iinc 2 1, 3) := by decide +kernel
theorem dX10_laysRoom_170 : decode cX10_laysRoom 170 = .ok (.goto (-71), 3) := by decide +kernel
theorem dX10_laysRoom_114 : decode cX10_laysRoom 114 = .ok (.aload_n 0, 1) := by decide +kernel
theorem q_6_16 : Cond.fieldLink "BeaconDelayModel" 68 "BeaconDelayModel" "room" "[I" ∈ gw := gw_6 (i := 16) (by decide +kernel) rfl
theorem dX10_laysRoom_115 : decode cX10_laysRoom 115 = .ok (.getfield 68, 3) := by decide +kernel
theorem dX10_laysRoom_118 : decode cX10_laysRoom 118 = .ok (.bipush 10, 2) := by decide +kernel
theorem dX10_laysRoom_120 : decode cX10_laysRoom 120 = .ok (.iconst 1, 1) := by decide +kernel
theorem dX10_laysRoom_121 : decode cX10_laysRoom 121 = .ok (.aload_n 0, 1) := by decide +kernel
theorem dX10_laysRoom_122 : decode cX10_laysRoom 122 = .ok (.getfield 13, 3) := by decide +kernel
theorem dX10_laysRoom_125 : decode cX10_laysRoom 125 = .ok (.bipush 22, 2) := by decide +kernel
theorem dX10_laysRoom_127 : decode cX10_laysRoom 127 = .ok (.iconst 3, 1) := by decide +kernel
theorem dX10_laysRoom_128 : decode cX10_laysRoom 128 = .ok (.iload_n 2, 1) := by decide +kernel
theorem dX10_laysRoom_129 : decode cX10_laysRoom 129 = .ok (.imul, 1) := by decide +kernel
theorem dX10_laysRoom_130 : decode cX10_laysRoom 130 = .ok (.iadd, 1) := by decide +kernel
theorem dX10_laysRoom_131 : decode cX10_laysRoom 131 = .ok (.iaload, 1) := by decide +kernel
theorem dX10_laysRoom_132 : decode cX10_laysRoom 132 = .ok (.iadd, 1) := by decide +kernel
theorem dX10_laysRoom_133 : decode cX10_laysRoom 133 = .ok (.imul, 1) := by decide +kernel
theorem dX10_laysRoom_134 : decode cX10_laysRoom 134 = .ok (.iconst 5, 1) := by decide +kernel
theorem dX10_laysRoom_135 : decode cX10_laysRoom 135 = .ok (.iadd, 1) := by decide +kernel
theorem dX10_laysRoom_136 : decode cX10_laysRoom 136 = .ok (.aload_n 0, 1) := by decide +kernel
theorem dX10_laysRoom_137 : decode cX10_laysRoom 137 = .ok (.getfield 13, 3) := by decide +kernel
theorem dX10_laysRoom_140 : decode cX10_laysRoom 140 = .ok (.bipush 22, 2) := by decide +kernel
theorem dX10_laysRoom_142 : decode cX10_laysRoom 142 = .ok (.iconst 3, 1) := by decide +kernel
theorem dX10_laysRoom_143 : decode cX10_laysRoom 143 = .ok (.iload_n 2, 1) := by decide +kernel
theorem dX10_laysRoom_144 : decode cX10_laysRoom 144 = .ok (.imul, 1) := by decide +kernel
theorem dX10_laysRoom_145 : decode cX10_laysRoom 145 = .ok (.iadd, 1) := by decide +kernel
theorem dX10_laysRoom_146 : decode cX10_laysRoom 146 = .ok (.iconst 1, 1) := by decide +kernel
theorem dX10_laysRoom_147 : decode cX10_laysRoom 147 = .ok (.iadd, 1) := by decide +kernel
theorem dX10_laysRoom_148 : decode cX10_laysRoom 148 = .ok (.iaload, 1) := by decide +kernel
theorem dX10_laysRoom_149 : decode cX10_laysRoom 149 = .ok (.iadd, 1) := by decide +kernel
theorem dX10_laysRoom_150 : decode cX10_laysRoom 150 = .ok (.dup2, 1) := by decide +kernel
theorem dX10_laysRoom_151 : decode cX10_laysRoom 151 = .ok (.iaload, 1) := by decide +kernel
theorem dX10_laysRoom_152 : decode cX10_laysRoom 152 = .ok (.aload_n 0, 1) := by decide +kernel
theorem dX10_laysRoom_153 : decode cX10_laysRoom 153 = .ok (.getfield 13, 3) := by decide +kernel
theorem dX10_laysRoom_156 : decode cX10_laysRoom 156 = .ok (.bipush 22, 2) := by decide +kernel
theorem dX10_laysRoom_158 : decode cX10_laysRoom 158 = .ok (.iconst 3, 1) := by decide +kernel
theorem dX10_laysRoom_159 : decode cX10_laysRoom 159 = .ok (.iload_n 2, 1) := by decide +kernel
theorem dX10_laysRoom_160 : decode cX10_laysRoom 160 = .ok (.imul, 1) := by decide +kernel
theorem dX10_laysRoom_161 : decode cX10_laysRoom 161 = .ok (.iadd, 1) := by decide +kernel
theorem dX10_laysRoom_162 : decode cX10_laysRoom 162 = .ok (.iconst 2, 1) := by decide +kernel
theorem dX10_laysRoom_163 : decode cX10_laysRoom 163 = .ok (.iadd, 1) := by decide +kernel
theorem dX10_laysRoom_164 : decode cX10_laysRoom 164 = .ok (.iaload, 1) := by decide +kernel
theorem dX10_laysRoom_165 : decode cX10_laysRoom 165 = .ok (.iadd, 1) := by decide +kernel
theorem dX10_laysRoom_166 : decode cX10_laysRoom 166 = .ok (.iastore, 1) := by decide +kernel
theorem dX10_laysRoom_68 : decode cX10_laysRoom 68 = .ok (.aload_n 0, 1) := by decide +kernel
theorem dX10_laysRoom_69 : decode cX10_laysRoom 69 = .ok (.getfield 68, 3) := by decide +kernel
theorem dX10_laysRoom_72 : decode cX10_laysRoom 72 = .ok (.bipush 10, 2) := by decide +kernel
theorem dX10_laysRoom_74 : decode cX10_laysRoom 74 = .ok (.iconst 5, 1) := by decide +kernel
theorem dX10_laysRoom_75 : decode cX10_laysRoom 75 = .ok (.iload_n 2, 1) := by decide +kernel
theorem dX10_laysRoom_76 : decode cX10_laysRoom 76 = .ok (.iadd, 1) := by decide +kernel
theorem dX10_laysRoom_77 : decode cX10_laysRoom 77 = .ok (.imul, 1) := by decide +kernel
theorem dX10_laysRoom_78 : decode cX10_laysRoom 78 = .ok (.bipush 9, 2) := by decide +kernel
theorem dX10_laysRoom_80 : decode cX10_laysRoom 80 = .ok (.iadd, 1) := by decide +kernel
theorem dX10_laysRoom_81 : decode cX10_laysRoom 81 = .ok (.aload_n 0, 1) := by decide +kernel
theorem dX10_laysRoom_82 : decode cX10_laysRoom 82 = .ok (.getfield 13, 3) := by decide +kernel
theorem dX10_laysRoom_85 : decode cX10_laysRoom 85 = .ok (.bipush 18, 2) := by decide +kernel
theorem dX10_laysRoom_87 : decode cX10_laysRoom 87 = .ok (.iload_n 2, 1) := by decide +kernel
theorem dX10_laysRoom_88 : decode cX10_laysRoom 88 = .ok (.iadd, 1) := by decide +kernel
theorem dX10_laysRoom_89 : decode cX10_laysRoom 89 = .ok (.iaload, 1) := by decide +kernel
theorem dX10_laysRoom_90 : decode cX10_laysRoom 90 = .ok (.iastore, 1) := by decide +kernel
theorem dX10_laysRoom_91 : decode cX10_laysRoom 91 = .ok (.iinc 2 1, 3) := by decide +kernel
theorem dX10_laysRoom_94 : decode cX10_laysRoom 94 = .ok (.goto (-36), 3) := by decide +kernel
theorem dX10_laysRoom_33 : decode cX10_laysRoom 33 = .ok (.aload_n 0, 1) := by decide +kernel
theorem dX10_laysRoom_34 : decode cX10_laysRoom 34 = .ok (.getfield 68, 3) := by decide +kernel
theorem dX10_laysRoom_37 : decode cX10_laysRoom 37 = .ok (.iconst 1, 1) := by decide +kernel
theorem dX10_laysRoom_38 : decode cX10_laysRoom 38 = .ok (.iload_n 2, 1) := by decide +kernel
theorem dX10_laysRoom_39 : decode cX10_laysRoom 39 = .ok (.iadd, 1) := by decide +kernel
theorem dX10_laysRoom_40 : decode cX10_laysRoom 40 = .ok (.aload_n 0, 1) := by decide +kernel
theorem dX10_laysRoom_41 : decode cX10_laysRoom 41 = .ok (.getfield 13, 3) := by decide +kernel
theorem dX10_laysRoom_44 : decode cX10_laysRoom 44 = .ok (.bipush 46, 2) := by decide +kernel
theorem dX10_laysRoom_46 : decode cX10_laysRoom 46 = .ok (.iload_n 2, 1) := by decide +kernel
theorem dX10_laysRoom_47 : decode cX10_laysRoom 47 = .ok (.iadd, 1) := by decide +kernel
theorem dX10_laysRoom_48 : decode cX10_laysRoom 48 = .ok (.iaload, 1) := by decide +kernel
theorem dX10_laysRoom_49 : decode cX10_laysRoom 49 = .ok (.iastore, 1) := by decide +kernel
theorem dX10_laysRoom_50 : decode cX10_laysRoom 50 = .ok (.iinc 2 1, 3) := by decide +kernel
theorem dX10_laysRoom_53 : decode cX10_laysRoom 53 = .ok (.goto (-30), 3) := by decide +kernel
theorem dX10_laysRoom_8 : decode cX10_laysRoom 8 = .ok (.aload_n 0, 1) := by decide +kernel
theorem dX10_laysRoom_9 : decode cX10_laysRoom 9 = .ok (.getfield 68, 3) := by decide +kernel
theorem dX10_laysRoom_12 : decode cX10_laysRoom 12 = .ok (.iload_n 2, 1) := by decide +kernel
theorem dX10_laysRoom_13 : decode cX10_laysRoom 13 = .ok (.iconst 0, 1) := by decide +kernel
theorem dX10_laysRoom_14 : decode cX10_laysRoom 14 = .ok (.iastore, 1) := by decide +kernel
theorem dX10_laysRoom_15 : decode cX10_laysRoom 15 = .ok (.iinc 2 1, 3) := by decide +kernel
theorem dX10_laysRoom_18 : decode cX10_laysRoom 18 = .ok (.goto (-16), 3) := by decide +kernel
set_option maxHeartbeats 4000000 in
set_option maxRecDepth 100000 in
theorem k_X10_laysRoom_0 (l : Launch) (V : GV) (z : Nat → Nat) (a1 : Int32) (pz0_0 : Int32) (pz0_5 : Int32) (pz0_6 : Int32) (pz0_7 : Int32) (pz0_8 : Int32) (pz0_9 : Int32) (pz0_10 : Int32) (pz0_11 : Int32) (pz0_12 : Int32) (pz0_13 : Int32) (pz0_14 : Int32) (pz0_18 : Int32) (pz0_19 : Int32) (pz0_22 : Int32) (pz0_23 : Int32) (pz0_29 : Int32) (fz1 : Nat → Int32) (fz32 : Nat → Int32) (bpz0_5 : iv 0 900 pz0_5) (bpz0_6 : iv 0 900 pz0_6) (bpz0_7 : iv 0 900 pz0_7) (bpz0_8 : iv 0 900 pz0_8) (bpz0_10 : iv 0 999 pz0_10) (bpz0_11 : iv 0 4 pz0_11) (bpz0_12 : iv 0 900 pz0_12) (bpz0_13 : iv 0 4 pz0_13) (bpz0_14 : iv (-1) 900 pz0_14) (bpz0_18 : iv 0 2 pz0_18) (bpz0_22 : iv 0 9999 pz0_22) (bpz0_29 : iv 0 10000 pz0_29) (tfz1 : ivT tA fz1) : Ct l V yX10_laysRoom (.code yX10_laysRoom cX10_laysRoom 3 none) 1 [.ref (z 0), .int a1] [(z 0, .inr (10, mo z pz0_0 pz0_5 pz0_6 pz0_7 pz0_8 pz0_9 pz0_10 pz0_11 pz0_12 pz0_13 pz0_14 pz0_18 pz0_19 pz0_22 pz0_23 pz0_29)), (z 1, aI V 3075 fz1), (z 32, aI V 100 fz32)] 0 0 (QV V (fun (w : va_W) => ∃ (g0 : Nat → Int32), (RR g0) ∧ w = [(z 0, .inr (10, mo z pz0_0 pz0_5 pz0_6 pz0_7 pz0_8 pz0_9 pz0_10 pz0_11 pz0_12 pz0_13 pz0_14 pz0_18 pz0_19 pz0_22 pz0_23 pz0_29)), (z 1, aI V 3075 fz1), (z 32, aI V 100 g0)])) := by
  refine Ct.of (by decide) (Nat.le_of_ble_eq_true rfl) (fun p e s m below meth c A ls hx hb hr hml hown hlk hnm hg hP hK hD hE hA hS hl => ?_)
  have hl : lv_has ls 3 [(0, .ref (z 0)), (1, .int a1)] := hl
  refine lv_iconst (v := 0) hx hb dX10_laysRoom_0 (by decide) ?_
  refine lv_istore_n (lv' := [(2, .int 0), (0, .ref (z 0)), (1, .int a1)]) hx hb dX10_laysRoom_1 rfl hl (by decide) rfl (fun ls hl => ?_)
  refine loopF (X := fun (n_3 : Nat) (H : Heap) (locs : List Loc) (ls : Array Slot) => ∃ (u_1 : Int32) (f_2 : Nat → Int32), (iv 0 100 u_1) ∧ (RRk u_1 f_2) ∧ n_3 = (2147483647 - (u_1 : Int32).toInt).toNat ∧ va_P V.1 vwCl [(z 0, .inr (10, mo z pz0_0 pz0_5 pz0_6 pz0_7 pz0_8 pz0_9 pz0_10 pz0_11 pz0_12 pz0_13 pz0_14 pz0_18 pz0_19 pz0_22 pz0_23 pz0_29)), (z 1, aI V 3075 fz1), (z 32, aI V 100 f_2)] H ∧ va_D A [(z 0, .inr (10, mo z pz0_0 pz0_5 pz0_6 pz0_7 pz0_8 pz0_9 pz0_10 pz0_11 pz0_12 pz0_13 pz0_14 pz0_18 pz0_19 pz0_22 pz0_23 pz0_29)), (z 1, aI V 3075 fz1), (z 32, aI V 100 f_2)] ∧ va_S A s.heap H locs ∧ lv_has ls 3 [(2, .int u_1), (0, .ref (z 0)), (1, .int a1)]) (g := fun ls => F0 m 2 ls []) (fun n_3 H locs ls hX ihn_3 => ?_) _ ⟨0, fz32, (iv_c (0 : Int32) (by decide)), (RRk_0 (by decide)), rfl, hP, hD, hS, lv_sub hl [0, 1, 2] rfl⟩
  obtain ⟨u_1, f_2, bu_1, inn_3_0, en_3, hP, hD, hS, hl⟩ := hX
  refine lv_iload_n hx hb dX10_laysRoom_2 rfl (lv_at hl 0 rfl) ?_
  refine lv_bipush (v := 100) hx hb dX10_laysRoom_3 (by decide) ?_
  refine lv_icmp_ge (tgt := 21) hx hb dX10_laysRoom_5 (by decide) (fun c_4 => ?_) (fun c_4 => ?_)
  · have b_5 : iv 100 100 u_1 := iv_e2 c_4 (iv_c (100 : Int32) (a := 100) (b := 100) (by decide)) bu_1 (by decide)
    refine lv_iconst (v := 0) hx hb dX10_laysRoom_21 (by decide) ?_
    refine lv_istore_n (lv' := [(2, .int 0), (0, .ref (z 0)), (1, .int a1)]) hx hb dX10_laysRoom_22 rfl hl (by decide) rfl (fun ls hl => ?_)
    refine loopF (X := fun (n_8 : Nat) (H : Heap) (locs : List Loc) (ls : Array Slot) => ∃ (u_6 : Int32) (f_7 : Nat → Int32), (iv 0 2147483647 u_6) ∧ (RR f_7) ∧ n_8 = (2147483647 - (u_6 : Int32).toInt).toNat ∧ va_P V.1 vwCl [(z 0, .inr (10, mo z pz0_0 pz0_5 pz0_6 pz0_7 pz0_8 pz0_9 pz0_10 pz0_11 pz0_12 pz0_13 pz0_14 pz0_18 pz0_19 pz0_22 pz0_23 pz0_29)), (z 1, aI V 3075 fz1), (z 32, aI V 100 f_7)] H ∧ va_D A [(z 0, .inr (10, mo z pz0_0 pz0_5 pz0_6 pz0_7 pz0_8 pz0_9 pz0_10 pz0_11 pz0_12 pz0_13 pz0_14 pz0_18 pz0_19 pz0_22 pz0_23 pz0_29)), (z 1, aI V 3075 fz1), (z 32, aI V 100 f_7)] ∧ va_S A s.heap H locs ∧ lv_has ls 3 [(2, .int u_6), (0, .ref (z 0)), (1, .int a1)]) (g := fun ls => F0 m 23 ls []) (fun n_8 H locs ls hX ihn_8 => ?_) _ ⟨0, f_2, (iv_c (0 : Int32) (by decide)), (RR_of inn_3_0 (Int32.not_lt.mpr c_4)), rfl, hP, hD, hS, lv_sub hl [0, 1, 2] rfl⟩
    obtain ⟨u_6, f_7, bu_6, inn_8_0, en_8, hP, hD, hS, hl⟩ := hX
    refine lv_iload_n hx hb dX10_laysRoom_23 rfl (lv_at hl 0 rfl) ?_
    refine lv_aload_n hx hb dX10_laysRoom_24 rfl (lv_at hl 1 rfl) ?_
    refine va_get (ci := 10) (v := .ref (z 1)) (C := RX10) (T := TX10) (N := 40) hx hb hg inX10 hown hK hP 0 rfl rfl 1 (by decide) (hg _ q_5_225) (fun _ h9 => h9) rfl dX10_laysRoom_25 ?_
    refine lv_iconst (v := 1) hx hb dX10_laysRoom_28 (by decide) ?_
    refine va_iald hx hb hK hP 1 0 rfl rfl (vin (by decide +kernel)) dX10_laysRoom_29 ?_
    refine lv_topi (fun x_9 ex_9 => ?_)
    have bx_9 : iv 0 4 x_9 := by rw [ex_9]; exact rdT (a := 1) (n := 1) tfz1 (iv_c (1 : Int32) (a := 1) (b := 1) (by decide)) (by decide) (by decide +kernel)
    refine lv_icmp_ge (tgt := 56) hx hb dX10_laysRoom_30 (by decide) (fun c_10 => ?_) (fun c_10 => ?_)
    · refine lv_iconst (v := 0) hx hb dX10_laysRoom_56 (by decide) ?_
      refine lv_istore_n (lv' := [(2, .int 0), (0, .ref (z 0)), (1, .int a1)]) hx hb dX10_laysRoom_57 rfl hl (by decide) rfl (fun ls hl => ?_)
      refine loopF (X := fun (n_13 : Nat) (H : Heap) (locs : List Loc) (ls : Array Slot) => ∃ (u_11 : Int32) (f_12 : Nat → Int32), (iv 0 2147483647 u_11) ∧ (RR f_12) ∧ n_13 = (2147483647 - (u_11 : Int32).toInt).toNat ∧ va_P V.1 vwCl [(z 0, .inr (10, mo z pz0_0 pz0_5 pz0_6 pz0_7 pz0_8 pz0_9 pz0_10 pz0_11 pz0_12 pz0_13 pz0_14 pz0_18 pz0_19 pz0_22 pz0_23 pz0_29)), (z 1, aI V 3075 fz1), (z 32, aI V 100 f_12)] H ∧ va_D A [(z 0, .inr (10, mo z pz0_0 pz0_5 pz0_6 pz0_7 pz0_8 pz0_9 pz0_10 pz0_11 pz0_12 pz0_13 pz0_14 pz0_18 pz0_19 pz0_22 pz0_23 pz0_29)), (z 1, aI V 3075 fz1), (z 32, aI V 100 f_12)] ∧ va_S A s.heap H locs ∧ lv_has ls 3 [(2, .int u_11), (0, .ref (z 0)), (1, .int a1)]) (g := fun ls => F0 m 58 ls []) (fun n_13 H locs ls hX ihn_13 => ?_) _ ⟨0, f_7, (iv_c (0 : Int32) (by decide)), inn_8_0, rfl, hP, hD, hS, lv_sub hl [0, 1, 2] rfl⟩
      obtain ⟨u_11, f_12, bu_11, inn_13_0, en_13, hP, hD, hS, hl⟩ := hX
      refine lv_iload_n hx hb dX10_laysRoom_58 rfl (lv_at hl 0 rfl) ?_
      refine lv_aload_n hx hb dX10_laysRoom_59 rfl (lv_at hl 1 rfl) ?_
      refine va_get (ci := 10) (v := .ref (z 1)) (C := RX10) (T := TX10) (N := 40) hx hb hg inX10 hown hK hP 0 rfl rfl 1 (by decide) (hg _ q_5_225) (fun _ h9 => h9) rfl dX10_laysRoom_60 ?_
      refine lv_iconst (v := 2) hx hb dX10_laysRoom_63 (by decide) ?_
      refine va_iald hx hb hK hP 1 0 rfl rfl (vin (by decide +kernel)) dX10_laysRoom_64 ?_
      refine lv_topi (fun x_14 ex_14 => ?_)
      have bx_14 : iv 0 4 x_14 := by rw [ex_14]; exact rdT (a := 2) (n := 1) tfz1 (iv_c (2 : Int32) (a := 2) (b := 2) (by decide)) (by decide) (by decide +kernel)
      refine lv_icmp_ge (tgt := 97) hx hb dX10_laysRoom_65 (by decide) (fun c_15 => ?_) (fun c_15 => ?_)
      · refine lv_iconst (v := 0) hx hb dX10_laysRoom_97 (by decide) ?_
        refine lv_istore_n (lv' := [(2, .int 0), (0, .ref (z 0)), (1, .int a1)]) hx hb dX10_laysRoom_98 rfl hl (by decide) rfl (fun ls hl => ?_)
        refine loopF (X := fun (n_18 : Nat) (H : Heap) (locs : List Loc) (ls : Array Slot) => ∃ (u_16 : Int32) (f_17 : Nat → Int32), (iv 0 2147483647 u_16) ∧ (RR f_17) ∧ n_18 = (2147483647 - (u_16 : Int32).toInt).toNat ∧ va_P V.1 vwCl [(z 0, .inr (10, mo z pz0_0 pz0_5 pz0_6 pz0_7 pz0_8 pz0_9 pz0_10 pz0_11 pz0_12 pz0_13 pz0_14 pz0_18 pz0_19 pz0_22 pz0_23 pz0_29)), (z 1, aI V 3075 fz1), (z 32, aI V 100 f_17)] H ∧ va_D A [(z 0, .inr (10, mo z pz0_0 pz0_5 pz0_6 pz0_7 pz0_8 pz0_9 pz0_10 pz0_11 pz0_12 pz0_13 pz0_14 pz0_18 pz0_19 pz0_22 pz0_23 pz0_29)), (z 1, aI V 3075 fz1), (z 32, aI V 100 f_17)] ∧ va_S A s.heap H locs ∧ lv_has ls 3 [(2, .int u_16), (0, .ref (z 0)), (1, .int a1)]) (g := fun ls => F0 m 99 ls []) (fun n_18 H locs ls hX ihn_18 => ?_) _ ⟨0, f_12, (iv_c (0 : Int32) (by decide)), inn_13_0, rfl, hP, hD, hS, lv_sub hl [0, 1, 2] rfl⟩
        obtain ⟨u_16, f_17, bu_16, inn_18_0, en_18, hP, hD, hS, hl⟩ := hX
        refine lv_iload_n hx hb dX10_laysRoom_99 rfl (lv_at hl 0 rfl) ?_
        refine lv_aload_n hx hb dX10_laysRoom_100 rfl (lv_at hl 1 rfl) ?_
        refine va_get (ci := 10) (v := .ref (z 1)) (C := RX10) (T := TX10) (N := 40) hx hb hg inX10 hown hK hP 0 rfl rfl 1 (by decide) (hg _ q_5_225) (fun _ h9 => h9) rfl dX10_laysRoom_101 ?_
        refine lv_iconst (v := 3) hx hb dX10_laysRoom_104 (by decide) ?_
        refine va_iald hx hb hK hP 1 0 rfl rfl (vin (by decide +kernel)) dX10_laysRoom_105 ?_
        refine lv_topi (fun x_19 ex_19 => ?_)
        have bx_19 : iv 0 8 x_19 := by rw [ex_19]; exact rdT (a := 3) (n := 1) tfz1 (iv_c (3 : Int32) (a := 3) (b := 3) (by decide)) (by decide) (by decide +kernel)
        refine lv_icmp_ge (tgt := 173) hx hb dX10_laysRoom_106 (by decide) (fun c_20 => ?_) (fun c_20 => ?_)
        · exact fiV hx hb hr hlk hK hP hD hS dX10_laysRoom_173 (Nat.le_of_ble_eq_true rfl) (Nat.le_of_ble_eq_true rfl) (⟨f_17, inn_18_0, rfl⟩)
        · have b_21 : iv 0 7 u_16 := iv_l1 (Int32.not_le.mp c_20) bu_16 bx_19 (by decide)
          have b_22 : iv 1 8 x_19 := iv_l2 (Int32.not_le.mp c_20) bu_16 bx_19 (by decide)
          refine lv_iload_n hx hb dX10_laysRoom_109 rfl (lv_at hl 0 rfl) ?_
          refine lv_iload_n hx hb dX10_laysRoom_110 rfl (lv_at hl 2 rfl) ?_
          refine lv_icmp_eq (tgt := 167) hx hb dX10_laysRoom_111 (by decide) (fun c_23 => ?_) (fun c_23 => ?_)
          · have b_24 : iv 0 7 a1 := iv_q c_23.symm b_21
            obtain ⟨x_25, ex_25⟩ : ∃ z9 : Int32, z9 = u_16 + 1 := ⟨_, rfl⟩
            have bx_25 : iv 1 8 x_25 := by rw [ex_25]; exact iv_add b_21 (iv_c (1 : Int32) (a := 1) (b := 1) (by decide)) (by decide)
            refine lv_iinc (v := x_25) (lv' := [(2, .int x_25), (0, .ref (z 0)), (1, .int a1)]) hx hb dX10_laysRoom_167 hl (k := 0) rfl (by rw [ex_25]; rfl) (by decide) rfl (fun ls hl => ?_)
            refine lv_goto (tgt := 99) hx hb dX10_laysRoom_170 (by decide) ?_
            exact ihn_18 _ _ _ _ (by rw [en_18, ex_25]; exact mu_up b_21 (by decide)) ⟨x_25, f_17, (iv_w bx_25 (by decide)), inn_18_0, rfl, hP, hD, hS, lv_sub hl [0, 1, 2] rfl⟩
          · refine lv_aload_n hx hb dX10_laysRoom_114 rfl (lv_at hl 1 rfl) ?_
            refine va_get (ci := 10) (v := .ref (z 32)) (C := RX10) (T := TX10) (N := 40) hx hb hg inX10 hown hK hP 0 rfl rfl 32 (by decide) (hg _ q_6_16) (fun _ h9 => h9) rfl dX10_laysRoom_115 ?_
            refine lv_bipush (v := 10) hx hb dX10_laysRoom_118 (by decide) ?_
            refine lv_iconst (v := 1) hx hb dX10_laysRoom_120 (by decide) ?_
            refine lv_aload_n hx hb dX10_laysRoom_121 rfl (lv_at hl 1 rfl) ?_
            refine va_get (ci := 10) (v := .ref (z 1)) (C := RX10) (T := TX10) (N := 40) hx hb hg inX10 hown hK hP 0 rfl rfl 1 (by decide) (hg _ q_5_225) (fun _ h9 => h9) rfl dX10_laysRoom_122 ?_
            refine lv_bipush (v := 22) hx hb dX10_laysRoom_125 (by decide) ?_
            refine lv_iconst (v := 3) hx hb dX10_laysRoom_127 (by decide) ?_
            refine lv_iload_n hx hb dX10_laysRoom_128 rfl (lv_at hl 0 rfl) ?_
            refine lv_imul hx hb dX10_laysRoom_129 ?_
            refine lv_topi (fun x_26 ex_26 => ?_)
            have bx_26 : iv 0 21 x_26 := by rw [ex_26]; exact iv_cmul (iv_c (3 : Int32) (a := 3) (b := 3) (by decide)) b_21 (by decide)
            refine lv_iadd hx hb dX10_laysRoom_130 ?_
            refine lv_topi (fun x_27 ex_27 => ?_)
            have bx_27 : iv 22 43 x_27 := by rw [ex_27]; exact iv_add (iv_c (22 : Int32) (a := 22) (b := 22) (by decide)) bx_26 (by decide)
            refine va_iald hx hb hK hP 1 0 rfl rfl (iv_in bx_27 (by decide)) dX10_laysRoom_131 ?_
            refine lv_topi (fun x_28 ex_28 => ?_)
            have bx_28 : iv 0 3 x_28 := by rw [ex_28]; exact (by have q_x_26 := toInt_mulC (k := 3) ex_26 b_21 (by decide) (by decide); have q_x_27 := toInt_add ex_27 (iv_c (22 : Int32) (a := 22) (b := 22) (by decide)) bx_26 (by decide); have k_x_27 : (22 : Int32).toInt = 22 := (by decide); exact rdS (c := 22) (k := 3) (a := 0) (n := 8) tfz1 (show _ = 22 + 3 * (u_16 : Int32).toInt by omega) b_21 (by decide) (by decide +kernel))
            refine lv_iadd hx hb dX10_laysRoom_132 ?_
            refine lv_topi (fun x_29 ex_29 => ?_)
            have bx_29 : iv 1 4 x_29 := by rw [ex_29]; exact iv_add (iv_c (1 : Int32) (a := 1) (b := 1) (by decide)) bx_28 (by decide)
            refine lv_imul hx hb dX10_laysRoom_133 ?_
            refine lv_topi (fun x_30 ex_30 => ?_)
            have bx_30 : iv 10 40 x_30 := by rw [ex_30]; exact iv_cmul (iv_c (10 : Int32) (a := 10) (b := 10) (by decide)) bx_29 (by decide)
            refine lv_iconst (v := 5) hx hb dX10_laysRoom_134 (by decide) ?_
            refine lv_iadd hx hb dX10_laysRoom_135 ?_
            refine lv_topi (fun x_31 ex_31 => ?_)
            have bx_31 : iv 15 45 x_31 := by rw [ex_31]; exact iv_add bx_30 (iv_c (5 : Int32) (a := 5) (b := 5) (by decide)) (by decide)
            refine lv_aload_n hx hb dX10_laysRoom_136 rfl (lv_at hl 1 rfl) ?_
            refine va_get (ci := 10) (v := .ref (z 1)) (C := RX10) (T := TX10) (N := 40) hx hb hg inX10 hown hK hP 0 rfl rfl 1 (by decide) (hg _ q_5_225) (fun _ h9 => h9) rfl dX10_laysRoom_137 ?_
            refine lv_bipush (v := 22) hx hb dX10_laysRoom_140 (by decide) ?_
            refine lv_iconst (v := 3) hx hb dX10_laysRoom_142 (by decide) ?_
            refine lv_iload_n hx hb dX10_laysRoom_143 rfl (lv_at hl 0 rfl) ?_
            refine lv_imul hx hb dX10_laysRoom_144 ?_
            refine tpi (y := x_26) ex_26.symm ?_
            refine lv_iadd hx hb dX10_laysRoom_145 ?_
            refine tpi (y := x_27) ex_27.symm ?_
            refine lv_iconst (v := 1) hx hb dX10_laysRoom_146 (by decide) ?_
            refine lv_iadd hx hb dX10_laysRoom_147 ?_
            refine lv_topi (fun x_32 ex_32 => ?_)
            have bx_32 : iv 23 44 x_32 := by rw [ex_32]; exact iv_add bx_27 (iv_c (1 : Int32) (a := 1) (b := 1) (by decide)) (by decide)
            refine va_iald hx hb hK hP 1 0 rfl rfl (iv_in bx_32 (by decide)) dX10_laysRoom_148 ?_
            refine lv_topi (fun x_33 ex_33 => ?_)
            have bx_33 : iv 0 3 x_33 := by rw [ex_33]; exact (by have q_x_26 := toInt_mulC (k := 3) ex_26 b_21 (by decide) (by decide); have q_x_27 := toInt_add ex_27 (iv_c (22 : Int32) (a := 22) (b := 22) (by decide)) bx_26 (by decide); have k_x_27 : (22 : Int32).toInt = 22 := (by decide); have q_x_32 := toInt_add ex_32 bx_27 (iv_c (1 : Int32) (a := 1) (b := 1) (by decide)) (by decide); have k_x_32 : (1 : Int32).toInt = 1 := (by decide); exact rdS (c := 23) (k := 3) (a := 0) (n := 8) tfz1 (show _ = 23 + 3 * (u_16 : Int32).toInt by omega) b_21 (by decide) (by decide +kernel))
            refine lv_iadd hx hb dX10_laysRoom_149 ?_
            refine lv_topi (fun x_34 ex_34 => ?_)
            have bx_34 : iv 15 48 x_34 := by rw [ex_34]; exact iv_add bx_31 bx_33 (by decide)
            refine lv_dup2_11 hx hb dX10_laysRoom_150 rfl rfl ?_
            refine va_iald hx hb hK hP 2 0 rfl rfl (iv_in bx_34 (by decide)) dX10_laysRoom_151 ?_
            refine lv_topi (fun x_35 ex_35 => ?_)
            refine lv_aload_n hx hb dX10_laysRoom_152 rfl (lv_at hl 1 rfl) ?_
            refine va_get (ci := 10) (v := .ref (z 1)) (C := RX10) (T := TX10) (N := 40) hx hb hg inX10 hown hK hP 0 rfl rfl 1 (by decide) (hg _ q_5_225) (fun _ h9 => h9) rfl dX10_laysRoom_153 ?_
            refine lv_bipush (v := 22) hx hb dX10_laysRoom_156 (by decide) ?_
            refine lv_iconst (v := 3) hx hb dX10_laysRoom_158 (by decide) ?_
            refine lv_iload_n hx hb dX10_laysRoom_159 rfl (lv_at hl 0 rfl) ?_
            refine lv_imul hx hb dX10_laysRoom_160 ?_
            refine tpi (y := x_26) ex_26.symm ?_
            refine lv_iadd hx hb dX10_laysRoom_161 ?_
            refine tpi (y := x_27) ex_27.symm ?_
            refine lv_iconst (v := 2) hx hb dX10_laysRoom_162 (by decide) ?_
            refine lv_iadd hx hb dX10_laysRoom_163 ?_
            refine lv_topi (fun x_36 ex_36 => ?_)
            have bx_36 : iv 24 45 x_36 := by rw [ex_36]; exact iv_add bx_27 (iv_c (2 : Int32) (a := 2) (b := 2) (by decide)) (by decide)
            refine va_iald hx hb hK hP 1 0 rfl rfl (iv_in bx_36 (by decide)) dX10_laysRoom_164 ?_
            refine lv_topi (fun x_37 ex_37 => ?_)
            have bx_37 : iv 0 9 x_37 := by rw [ex_37]; exact rdT (a := 24) (n := 22) tfz1 bx_36 (by decide) (by decide +kernel)
            refine lv_iadd hx hb dX10_laysRoom_165 ?_
            refine lv_topi (fun x_38 ex_38 => ?_)
            refine va_iast hx hb hK hP hD hS 2 0 rfl rfl (iv_in bx_34 (by decide)) dX10_laysRoom_166 (fun H locs hP hD hS => ?_)
            obtain ⟨f_39, ef_39, hP, hD⟩ : ∃ f_39 : Nat → Int32, f_39 = (upd f_17 (x_34 : Int32).toNatClampNeg x_38) ∧ va_P V.1 vwCl [(z 0, .inr (10, mo z pz0_0 pz0_5 pz0_6 pz0_7 pz0_8 pz0_9 pz0_10 pz0_11 pz0_12 pz0_13 pz0_14 pz0_18 pz0_19 pz0_22 pz0_23 pz0_29)), (z 1, aI V 3075 fz1), (z 32, aI V 100 f_39)] H ∧ va_D A [(z 0, .inr (10, mo z pz0_0 pz0_5 pz0_6 pz0_7 pz0_8 pz0_9 pz0_10 pz0_11 pz0_12 pz0_13 pz0_14 pz0_18 pz0_19 pz0_22 pz0_23 pz0_29)), (z 1, aI V 3075 fz1), (z 32, aI V 100 f_39)] := ⟨_, rfl, hP, hD⟩
            obtain ⟨x_40, ex_40⟩ : ∃ z9 : Int32, z9 = u_16 + 1 := ⟨_, rfl⟩
            have bx_40 : iv 1 8 x_40 := by rw [ex_40]; exact iv_add b_21 (iv_c (1 : Int32) (a := 1) (b := 1) (by decide)) (by decide)
            refine lv_iinc (v := x_40) (lv' := [(2, .int x_40), (0, .ref (z 0)), (1, .int a1)]) hx hb dX10_laysRoom_167 hl (k := 0) rfl (by rw [ex_40]; rfl) (by decide) rfl (fun ls hl => ?_)
            refine lv_goto (tgt := 99) hx hb dX10_laysRoom_170 (by decide) ?_
            exact ihn_18 _ _ _ _ (by rw [en_18, ex_40]; exact mu_up b_21 (by decide)) ⟨x_40, f_39, (iv_w bx_40 (by decide)), (RR_o inn_18_0 bx_34 (by decide) ef_39), rfl, hP, hD, hS, lv_sub hl [0, 1, 2] rfl⟩
      · have b_41 : iv 0 3 u_11 := iv_l1 (Int32.not_le.mp c_15) bu_11 bx_14 (by decide)
        have b_42 : iv 1 4 x_14 := iv_l2 (Int32.not_le.mp c_15) bu_11 bx_14 (by decide)
        refine lv_aload_n hx hb dX10_laysRoom_68 rfl (lv_at hl 1 rfl) ?_
        refine va_get (ci := 10) (v := .ref (z 32)) (C := RX10) (T := TX10) (N := 40) hx hb hg inX10 hown hK hP 0 rfl rfl 32 (by decide) (hg _ q_6_16) (fun _ h9 => h9) rfl dX10_laysRoom_69 ?_
        refine lv_bipush (v := 10) hx hb dX10_laysRoom_72 (by decide) ?_
        refine lv_iconst (v := 5) hx hb dX10_laysRoom_74 (by decide) ?_
        refine lv_iload_n hx hb dX10_laysRoom_75 rfl (lv_at hl 0 rfl) ?_
        refine lv_iadd hx hb dX10_laysRoom_76 ?_
        refine lv_topi (fun x_43 ex_43 => ?_)
        have bx_43 : iv 5 8 x_43 := by rw [ex_43]; exact iv_add (iv_c (5 : Int32) (a := 5) (b := 5) (by decide)) b_41 (by decide)
        refine lv_imul hx hb dX10_laysRoom_77 ?_
        refine lv_topi (fun x_44 ex_44 => ?_)
        have bx_44 : iv 50 80 x_44 := by rw [ex_44]; exact iv_cmul (iv_c (10 : Int32) (a := 10) (b := 10) (by decide)) bx_43 (by decide)
        refine lv_bipush (v := 9) hx hb dX10_laysRoom_78 (by decide) ?_
        refine lv_iadd hx hb dX10_laysRoom_80 ?_
        refine lv_topi (fun x_45 ex_45 => ?_)
        have bx_45 : iv 59 89 x_45 := by rw [ex_45]; exact iv_add bx_44 (iv_c (9 : Int32) (a := 9) (b := 9) (by decide)) (by decide)
        refine lv_aload_n hx hb dX10_laysRoom_81 rfl (lv_at hl 1 rfl) ?_
        refine va_get (ci := 10) (v := .ref (z 1)) (C := RX10) (T := TX10) (N := 40) hx hb hg inX10 hown hK hP 0 rfl rfl 1 (by decide) (hg _ q_5_225) (fun _ h9 => h9) rfl dX10_laysRoom_82 ?_
        refine lv_bipush (v := 18) hx hb dX10_laysRoom_85 (by decide) ?_
        refine lv_iload_n hx hb dX10_laysRoom_87 rfl (lv_at hl 0 rfl) ?_
        refine lv_iadd hx hb dX10_laysRoom_88 ?_
        refine lv_topi (fun x_46 ex_46 => ?_)
        have bx_46 : iv 18 21 x_46 := by rw [ex_46]; exact iv_add (iv_c (18 : Int32) (a := 18) (b := 18) (by decide)) b_41 (by decide)
        refine va_iald hx hb hK hP 1 0 rfl rfl (iv_in bx_46 (by decide)) dX10_laysRoom_89 ?_
        refine lv_topi (fun x_47 ex_47 => ?_)
        have bx_47 : iv 0 9 x_47 := by rw [ex_47]; exact rdT (a := 18) (n := 4) tfz1 bx_46 (by decide) (by decide +kernel)
        refine va_iast hx hb hK hP hD hS 2 0 rfl rfl (iv_in bx_45 (by decide)) dX10_laysRoom_90 (fun H locs hP hD hS => ?_)
        obtain ⟨f_48, ef_48, hP, hD⟩ : ∃ f_48 : Nat → Int32, f_48 = (upd f_12 (x_45 : Int32).toNatClampNeg x_47) ∧ va_P V.1 vwCl [(z 0, .inr (10, mo z pz0_0 pz0_5 pz0_6 pz0_7 pz0_8 pz0_9 pz0_10 pz0_11 pz0_12 pz0_13 pz0_14 pz0_18 pz0_19 pz0_22 pz0_23 pz0_29)), (z 1, aI V 3075 fz1), (z 32, aI V 100 f_48)] H ∧ va_D A [(z 0, .inr (10, mo z pz0_0 pz0_5 pz0_6 pz0_7 pz0_8 pz0_9 pz0_10 pz0_11 pz0_12 pz0_13 pz0_14 pz0_18 pz0_19 pz0_22 pz0_23 pz0_29)), (z 1, aI V 3075 fz1), (z 32, aI V 100 f_48)] := ⟨_, rfl, hP, hD⟩
        obtain ⟨x_49, ex_49⟩ : ∃ z9 : Int32, z9 = u_11 + 1 := ⟨_, rfl⟩
        have bx_49 : iv 1 4 x_49 := by rw [ex_49]; exact iv_add b_41 (iv_c (1 : Int32) (a := 1) (b := 1) (by decide)) (by decide)
        refine lv_iinc (v := x_49) (lv' := [(2, .int x_49), (0, .ref (z 0)), (1, .int a1)]) hx hb dX10_laysRoom_91 hl (k := 0) rfl (by rw [ex_49]; rfl) (by decide) rfl (fun ls hl => ?_)
        refine lv_goto (tgt := 58) hx hb dX10_laysRoom_94 (by decide) ?_
        exact ihn_13 _ _ _ _ (by rw [en_13, ex_49]; exact mu_up b_41 (by decide)) ⟨x_49, f_48, (iv_w bx_49 (by decide)), (RR_o inn_13_0 bx_45 (by decide) ef_48), rfl, hP, hD, hS, lv_sub hl [0, 1, 2] rfl⟩
    · have b_50 : iv 0 3 u_6 := iv_l1 (Int32.not_le.mp c_10) bu_6 bx_9 (by decide)
      have b_51 : iv 1 4 x_9 := iv_l2 (Int32.not_le.mp c_10) bu_6 bx_9 (by decide)
      refine lv_aload_n hx hb dX10_laysRoom_33 rfl (lv_at hl 1 rfl) ?_
      refine va_get (ci := 10) (v := .ref (z 32)) (C := RX10) (T := TX10) (N := 40) hx hb hg inX10 hown hK hP 0 rfl rfl 32 (by decide) (hg _ q_6_16) (fun _ h9 => h9) rfl dX10_laysRoom_34 ?_
      refine lv_iconst (v := 1) hx hb dX10_laysRoom_37 (by decide) ?_
      refine lv_iload_n hx hb dX10_laysRoom_38 rfl (lv_at hl 0 rfl) ?_
      refine lv_iadd hx hb dX10_laysRoom_39 ?_
      refine lv_topi (fun x_52 ex_52 => ?_)
      have bx_52 : iv 1 4 x_52 := by rw [ex_52]; exact iv_add (iv_c (1 : Int32) (a := 1) (b := 1) (by decide)) b_50 (by decide)
      refine lv_aload_n hx hb dX10_laysRoom_40 rfl (lv_at hl 1 rfl) ?_
      refine va_get (ci := 10) (v := .ref (z 1)) (C := RX10) (T := TX10) (N := 40) hx hb hg inX10 hown hK hP 0 rfl rfl 1 (by decide) (hg _ q_5_225) (fun _ h9 => h9) rfl dX10_laysRoom_41 ?_
      refine lv_bipush (v := 46) hx hb dX10_laysRoom_44 (by decide) ?_
      refine lv_iload_n hx hb dX10_laysRoom_46 rfl (lv_at hl 0 rfl) ?_
      refine lv_iadd hx hb dX10_laysRoom_47 ?_
      refine lv_topi (fun x_53 ex_53 => ?_)
      have bx_53 : iv 46 49 x_53 := by rw [ex_53]; exact iv_add (iv_c (46 : Int32) (a := 46) (b := 46) (by decide)) b_50 (by decide)
      refine va_iald hx hb hK hP 1 0 rfl rfl (iv_in bx_53 (by decide)) dX10_laysRoom_48 ?_
      refine lv_topi (fun x_54 ex_54 => ?_)
      have bx_54 : iv 0 4 x_54 := by rw [ex_54]; exact rdT (a := 46) (n := 4) tfz1 bx_53 (by decide) (by decide +kernel)
      refine va_iast hx hb hK hP hD hS 2 0 rfl rfl (iv_in bx_52 (by decide)) dX10_laysRoom_49 (fun H locs hP hD hS => ?_)
      obtain ⟨f_55, ef_55, hP, hD⟩ : ∃ f_55 : Nat → Int32, f_55 = (upd f_7 (x_52 : Int32).toNatClampNeg x_54) ∧ va_P V.1 vwCl [(z 0, .inr (10, mo z pz0_0 pz0_5 pz0_6 pz0_7 pz0_8 pz0_9 pz0_10 pz0_11 pz0_12 pz0_13 pz0_14 pz0_18 pz0_19 pz0_22 pz0_23 pz0_29)), (z 1, aI V 3075 fz1), (z 32, aI V 100 f_55)] H ∧ va_D A [(z 0, .inr (10, mo z pz0_0 pz0_5 pz0_6 pz0_7 pz0_8 pz0_9 pz0_10 pz0_11 pz0_12 pz0_13 pz0_14 pz0_18 pz0_19 pz0_22 pz0_23 pz0_29)), (z 1, aI V 3075 fz1), (z 32, aI V 100 f_55)] := ⟨_, rfl, hP, hD⟩
      obtain ⟨x_56, ex_56⟩ : ∃ z9 : Int32, z9 = u_6 + 1 := ⟨_, rfl⟩
      have bx_56 : iv 1 4 x_56 := by rw [ex_56]; exact iv_add b_50 (iv_c (1 : Int32) (a := 1) (b := 1) (by decide)) (by decide)
      refine lv_iinc (v := x_56) (lv' := [(2, .int x_56), (0, .ref (z 0)), (1, .int a1)]) hx hb dX10_laysRoom_50 hl (k := 0) rfl (by rw [ex_56]; rfl) (by decide) rfl (fun ls hl => ?_)
      refine lv_goto (tgt := 23) hx hb dX10_laysRoom_53 (by decide) ?_
      exact ihn_8 _ _ _ _ (by rw [en_8, ex_56]; exact mu_up b_50 (by decide)) ⟨x_56, f_55, (iv_w bx_56 (by decide)), (RR_p inn_8_0 bx_54 (by decide) ef_55), rfl, hP, hD, hS, lv_sub hl [0, 1, 2] rfl⟩
  · have b_57 : iv 0 99 u_1 := iv_l1 (Int32.not_le.mp c_4) bu_1 (iv_c (100 : Int32) (a := 100) (b := 100) (by decide)) (by decide)
    refine lv_aload_n hx hb dX10_laysRoom_8 rfl (lv_at hl 1 rfl) ?_
    refine va_get (ci := 10) (v := .ref (z 32)) (C := RX10) (T := TX10) (N := 40) hx hb hg inX10 hown hK hP 0 rfl rfl 32 (by decide) (hg _ q_6_16) (fun _ h9 => h9) rfl dX10_laysRoom_9 ?_
    refine lv_iload_n hx hb dX10_laysRoom_12 rfl (lv_at hl 0 rfl) ?_
    refine lv_iconst (v := 0) hx hb dX10_laysRoom_13 (by decide) ?_
    refine va_iast hx hb hK hP hD hS 2 0 rfl rfl (iv_in b_57 (by decide)) dX10_laysRoom_14 (fun H locs hP hD hS => ?_)
    obtain ⟨f_58, ef_58, hP, hD⟩ : ∃ f_58 : Nat → Int32, f_58 = (upd f_2 (u_1 : Int32).toNatClampNeg 0) ∧ va_P V.1 vwCl [(z 0, .inr (10, mo z pz0_0 pz0_5 pz0_6 pz0_7 pz0_8 pz0_9 pz0_10 pz0_11 pz0_12 pz0_13 pz0_14 pz0_18 pz0_19 pz0_22 pz0_23 pz0_29)), (z 1, aI V 3075 fz1), (z 32, aI V 100 f_58)] H ∧ va_D A [(z 0, .inr (10, mo z pz0_0 pz0_5 pz0_6 pz0_7 pz0_8 pz0_9 pz0_10 pz0_11 pz0_12 pz0_13 pz0_14 pz0_18 pz0_19 pz0_22 pz0_23 pz0_29)), (z 1, aI V 3075 fz1), (z 32, aI V 100 f_58)] := ⟨_, rfl, hP, hD⟩
    obtain ⟨x_59, ex_59⟩ : ∃ z9 : Int32, z9 = u_1 + 1 := ⟨_, rfl⟩
    have bx_59 : iv 1 100 x_59 := by rw [ex_59]; exact iv_add b_57 (iv_c (1 : Int32) (a := 1) (b := 1) (by decide)) (by decide)
    refine lv_iinc (v := x_59) (lv' := [(2, .int x_59), (0, .ref (z 0)), (1, .int a1)]) hx hb dX10_laysRoom_15 hl (k := 0) rfl (by rw [ex_59]; rfl) (by decide) rfl (fun ls hl => ?_)
    refine lv_goto (tgt := 2) hx hb dX10_laysRoom_18 (by decide) ?_
    exact ihn_3 _ _ _ _ (by rw [en_3, ex_59]; exact mu_up b_57 (by decide)) ⟨x_59, f_58, (iv_w bx_59 (by decide)), (RRk_s inn_3_0 b_57 (by decide) ef_58 ex_59), rfl, hP, hD, hS, lv_sub hl [0, 1, 2] rfl⟩
theorem dX10_isCome_0 : decode cX10_isCome 0 = .ok (.iconst 0, 1) := by decide +kernel
theorem dX10_isCome_1 : decode cX10_isCome 1 = .ok (.istore_n 1, 1) := by decide +kernel
theorem dX10_isCome_2 : decode cX10_isCome 2 = .ok (.iload_n 1, 1) := by decide +kernel
theorem dX10_isCome_3 : decode cX10_isCome 3 = .ok (.bipush 10, 2) := by decide +kernel
theorem dX10_isCome_5 : decode cX10_isCome 5 = .ok (.if_icmp .ge 16, 3) := by decide +kernel
theorem dX10_isCome_21 : decode cX10_isCome 21 = .ok (.aload_n 0, 1) := by decide +kernel
theorem q_6_17 : Cond.fieldLink "BeaconDelayModel" 71 "BeaconDelayModel" "comeBy" "[I" ∈ gw := gw_6 (i := 17) (by decide +kernel) rfl
theorem dX10_isCome_22 : decode cX10_isCome 22 = .ok (.getfield 71, 3) := by decide +kernel
theorem dX10_isCome_25 : decode cX10_isCome 25 = .ok (.iconst 0, 1) := by decide +kernel
theorem dX10_isCome_26 : decode cX10_isCome 26 = .ok (.iconst 0, 1) := by decide +kernel
theorem dX10_isCome_27 : decode cX10_isCome 27 = .ok (.iastore, 1) := by decide +kernel
theorem dX10_isCome_28 : decode cX10_isCome 28 = .ok (.aload_n 0, 1) := by decide +kernel
theorem q_6_18 : Cond.fieldLink "BeaconDelayModel" 74 "BeaconDelayModel" "queue" "[I" ∈ gw := gw_6 (i := 18) (by decide +kernel) rfl
theorem dX10_isCome_29 : decode cX10_isCome 29 = .ok (.getfield 74, 3) := by decide +kernel
theorem dX10_isCome_32 : decode cX10_isCome 32 = .ok (.iconst 0, 1) := by decide +kernel
theorem dX10_isCome_33 : decode cX10_isCome 33 = .ok (.iconst 0, 1) := by decide +kernel
theorem dX10_isCome_34 : decode cX10_isCome 34 = .ok (.iastore, 1) := by decide +kernel
theorem dX10_isCome_35 : decode cX10_isCome 35 = .ok (.iconst 1, 1) := by decide +kernel
theorem dX10_isCome_36 : decode cX10_isCome 36 = .ok (.istore_n 1, 1) := by decide +kernel
theorem dX10_isCome_37 : decode cX10_isCome 37 = .ok (.iconst 0, 1) := by decide +kernel
theorem dX10_isCome_38 : decode cX10_isCome 38 = .ok (.istore_n 2, 1) := by decide +kernel
theorem dX10_isCome_39 : decode cX10_isCome 39 = .ok (.iload_n 2, 1) := by decide +kernel
theorem dX10_isCome_40 : decode cX10_isCome 40 = .ok (.iload_n 1, 1) := by decide +kernel
theorem dX10_isCome_41 : decode cX10_isCome 41 = .ok (.if_icmp .ge 77, 3) := by decide +kernel
theorem dX10_isCome_118 : decode cX10_isCome 118 = .ok (.aload_n 0, 1) := by decide +kernel
theorem dX10_isCome_119 : decode cX10_isCome 119 = .ok (.getfield 71, 3) := by decide +kernel
theorem dX10_isCome_122 : decode cX10_isCome 122 = .ok (.bipush 9, 2) := by decide +kernel
theorem dX10_isCome_124 : decode cX10_isCome 124 = .ok (.iaload, 1) := by decide +kernel
theorem dX10_isCome_125 : decode cX10_isCome 125 = .ok (.iconst (-1), 1) := by decide +kernel
theorem dX10_isCome_126 : decode cX10_isCome 126 = .ok (.if_icmp .eq 7, 3) := by decide +kernel
theorem dX10_isCome_133 : decode cX10_isCome 133 = .ok (.iconst 0, 1) := by decide +kernel
theorem dX10_isCome_134 : decode cX10_isCome 134 = .ok (.ireturn, 1) := by decide +kernel
theorem dX10_isCome_129 : decode cX10_isCome 129 = .ok (.iconst 1, 1) := by decide +kernel
theorem dX10_isCome_130 : decode cX10_isCome 130 = .ok (.goto 4, 3) := by decide +kernel
theorem dX10_isCome_44 : decode cX10_isCome 44 = .ok (.iconst 0, 1) := by decide +kernel
theorem dX10_isCome_45 : decode cX10_isCome 45 = .ok (.istore_n 3, 1) := by decide +kernel
theorem dX10_isCome_46 : decode cX10_isCome 46 = .ok (.iload_n 3, 1) := by decide +kernel
theorem dX10_isCome_47 : decode cX10_isCome 47 = .ok (.bipush 10, 2) := by decide +kernel
theorem dX10_isCome_49 : decode cX10_isCome 49 = .ok (.if_icmp .ge 63, 3) := by decide +kernel
theorem dX10_isCome_112 : decode cX10_isCome 112 = .ok (.iinc 2 1, 3) := by decide +kernel
theorem dX10_isCome_115 : decode cX10_isCome 115 = .ok (.goto (-76), 3) := by decide +kernel
theorem dX10_isCome_52 : decode cX10_isCome 52 = .ok (.aload_n 0, 1) := by decide +kernel
theorem dX10_isCome_53 : decode cX10_isCome 53 = .ok (.getfield 71, 3) := by decide +kernel
theorem dX10_isCome_56 : decode cX10_isCome 56 = .ok (.iload_n 3, 1) := by decide +kernel
theorem dX10_isCome_57 : decode cX10_isCome 57 = .ok (.iaload, 1) := by decide +kernel
theorem dX10_isCome_58 : decode cX10_isCome 58 = .ok (.iconst (-1), 1) := by decide +kernel
theorem dX10_isCome_59 : decode cX10_isCome 59 = .ok (.if_icmp .ne 47, 3) := by decide +kernel
theorem dX10_isCome_106 : decode cX10_isCome 106 = .ok (.iinc 3 1, 3) := by decide +kernel
theorem dX10_isCome_109 : decode cX10_isCome 109 = .ok (.goto (-63), 3) := by decide +kernel
theorem dX10_isCome_62 : decode cX10_isCome 62 = .ok (.aload_n 0, 1) := by decide +kernel
theorem dX10_isCome_63 : decode cX10_isCome 63 = .ok (.getfield 68, 3) := by decide +kernel
theorem dX10_isCome_66 : decode cX10_isCome 66 = .ok (.bipush 10, 2) := by decide +kernel
theorem dX10_isCome_68 : decode cX10_isCome 68 = .ok (.aload_n 0, 1) := by decide +kernel
theorem dX10_isCome_69 : decode cX10_isCome 69 = .ok (.getfield 74, 3) := by decide +kernel
theorem dX10_isCome_72 : decode cX10_isCome 72 = .ok (.iload_n 2, 1) := by decide +kernel
theorem dX10_isCome_73 : decode cX10_isCome 73 = .ok (.iaload, 1) := by decide +kernel
theorem dX10_isCome_74 : decode cX10_isCome 74 = .ok (.imul, 1) := by decide +kernel
theorem dX10_isCome_75 : decode cX10_isCome 75 = .ok (.iload_n 3, 1) := by decide +kernel
theorem dX10_isCome_76 : decode cX10_isCome 76 = .ok (.iadd, 1) := by decide +kernel
theorem dX10_isCome_77 : decode cX10_isCome 77 = .ok (.iaload, 1) := by decide +kernel
theorem dX10_isCome_78 : decode cX10_isCome 78 = .ok (.ifCond .ne 6, 3) := by decide +kernel
theorem dX10_isCome_84 : decode cX10_isCome 84 = .ok (.aload_n 0, 1) := by decide +kernel
theorem dX10_isCome_85 : decode cX10_isCome 85 = .ok (.getfield 71, 3) := by decide +kernel
theorem dX10_isCome_88 : decode cX10_isCome 88 = .ok (.iload_n 3, 1) := by decide +kernel
theorem dX10_isCome_89 : decode cX10_isCome 89 = .ok (.aload_n 0, 1) := by decide +kernel
theorem dX10_isCome_90 : decode cX10_isCome 90 = .ok (.getfield 74, 3) := by decide +kernel
theorem dX10_isCome_93 : decode cX10_isCome 93 = .ok (.iload_n 2, 1) := by decide +kernel
theorem dX10_isCome_94 : decode cX10_isCome 94 = .ok (.iaload, 1) := by decide +kernel
theorem dX10_isCome_95 : decode cX10_isCome 95 = .ok (.iastore, 1) := by decide +kernel
theorem dX10_isCome_96 : decode cX10_isCome 96 = .ok (.aload_n 0, 1) := by decide +kernel
theorem dX10_isCome_97 : decode cX10_isCome 97 = .ok (.getfield 74, 3) := by decide +kernel
theorem dX10_isCome_100 : decode cX10_isCome 100 = .ok (.iload_n 1, 1) := by decide +kernel
theorem dX10_isCome_101 : decode cX10_isCome 101 = .ok (.iload_n 3, 1) := by decide +kernel
theorem dX10_isCome_102 : decode cX10_isCome 102 = .ok (.iastore, 1) := by decide +kernel
theorem dX10_isCome_103 : decode cX10_isCome 103 = .ok (.iinc 1 1, 3) := by decide +kernel
theorem dX10_isCome_81 : decode cX10_isCome 81 = .ok (.goto 25, 3) := by decide +kernel
theorem dX10_isCome_8 : decode cX10_isCome 8 = .ok (.aload_n 0, 1) := by decide +kernel
theorem dX10_isCome_9 : decode cX10_isCome 9 = .ok (.getfield 71, 3) := by decide +kernel
theorem dX10_isCome_12 : decode cX10_isCome 12 = .ok (.iload_n 1, 1) := by decide +kernel
theorem dX10_isCome_13 : decode cX10_isCome 13 = .ok (.iconst (-1), 1) := by decide +kernel
theorem dX10_isCome_14 : decode cX10_isCome 14 = .ok (.iastore, 1) := by decide +kernel
theorem dX10_isCome_15 : decode cX10_isCome 15 = .ok (.iinc 1 1, 3) := by decide +kernel
theorem dX10_isCome_18 : decode cX10_isCome 18 = .ok (.goto (-16), 3) := by decide +kernel
set_option maxHeartbeats 4000000 in
set_option maxRecDepth 100000 in
theorem k_X10_isCome_0 (l : Launch) (V : GV) (z : Nat → Nat) (fz33 : Nat → Int32) (fz34 : Nat → Int32) (pz0_0 : Int32) (pz0_5 : Int32) (pz0_6 : Int32) (pz0_7 : Int32) (pz0_8 : Int32) (pz0_9 : Int32) (pz0_10 : Int32) (pz0_11 : Int32) (pz0_12 : Int32) (pz0_13 : Int32) (pz0_14 : Int32) (pz0_18 : Int32) (pz0_19 : Int32) (pz0_22 : Int32) (pz0_23 : Int32) (pz0_29 : Int32) (fz32 : Nat → Int32) (tfz33 : ∀ j, iv (-1) 9 (fz33 j)) (tfz34 : ∀ j, iv 0 9 (fz34 j)) (bpz0_5 : iv 0 900 pz0_5) (bpz0_6 : iv 0 900 pz0_6) (bpz0_7 : iv 0 900 pz0_7) (bpz0_8 : iv 0 900 pz0_8) (bpz0_10 : iv 0 999 pz0_10) (bpz0_11 : iv 0 4 pz0_11) (bpz0_12 : iv 0 900 pz0_12) (bpz0_13 : iv 0 4 pz0_13) (bpz0_14 : iv (-1) 900 pz0_14) (bpz0_18 : iv 0 2 pz0_18) (bpz0_22 : iv 0 9999 pz0_22) (bpz0_29 : iv 0 10000 pz0_29) : Ct l V yX10_isCome (.code yX10_isCome cX10_isCome 4 (some .boolean)) 1 [.ref (z 0)] [(z 33, aI V 10 fz33), (z 34, aI V 10 fz34), (z 0, .inr (10, mo z pz0_0 pz0_5 pz0_6 pz0_7 pz0_8 pz0_9 pz0_10 pz0_11 pz0_12 pz0_13 pz0_14 pz0_18 pz0_19 pz0_22 pz0_23 pz0_29)), (z 32, aI V 100 fz32)] 0 0 (QI V (fun (r : Int32) (w : va_W) => ∃ (g0 : Nat → Int32) (g1 : Nat → Int32), (∀ j, iv (-1) 9 (g0 j)) ∧ (∀ j, iv 0 9 (g1 j)) ∧ iv 0 1 r ∧ (∃ rk : Nat → Nat, IC1 g0 fz32 rk) ∧ (r = 1 → 0 ≤ (g0 (9 : Int32).toNatClampNeg).toInt) ∧ w = [(z 33, aI V 10 g0), (z 34, aI V 10 g1), (z 0, .inr (10, mo z pz0_0 pz0_5 pz0_6 pz0_7 pz0_8 pz0_9 pz0_10 pz0_11 pz0_12 pz0_13 pz0_14 pz0_18 pz0_19 pz0_22 pz0_23 pz0_29)), (z 32, aI V 100 fz32)])) := by
  refine Ct.of (by decide) (Nat.le_of_ble_eq_true rfl) (fun p e s m below meth c A ls hx hb hr hml hown hlk hnm hg hP hK hD hE hA hS hl => ?_)
  have hl : lv_has ls 4 [(0, .ref (z 0))] := hl
  refine lv_iconst (v := 0) hx hb dX10_isCome_0 (by decide) ?_
  refine lv_istore_n (lv' := [(1, .int 0), (0, .ref (z 0))]) hx hb dX10_isCome_1 rfl hl (by decide) rfl (fun ls hl => ?_)
  refine loopF (X := fun (n_3 : Nat) (H : Heap) (locs : List Loc) (ls : Array Slot) => ∃ (u_1 : Int32) (f_2 : Nat → Int32), (iv 0 10 u_1) ∧ (∀ j, iv (-1) 9 (f_2 j)) ∧ (∀ j : Nat, (j : Int) < (u_1 : Int32).toInt → f_2 j = -1) ∧ n_3 = (2147483647 - (u_1 : Int32).toInt).toNat ∧ va_P V.1 vwCl [(z 33, aI V 10 f_2), (z 34, aI V 10 fz34), (z 0, .inr (10, mo z pz0_0 pz0_5 pz0_6 pz0_7 pz0_8 pz0_9 pz0_10 pz0_11 pz0_12 pz0_13 pz0_14 pz0_18 pz0_19 pz0_22 pz0_23 pz0_29)), (z 32, aI V 100 fz32)] H ∧ va_D A [(z 33, aI V 10 f_2), (z 34, aI V 10 fz34), (z 0, .inr (10, mo z pz0_0 pz0_5 pz0_6 pz0_7 pz0_8 pz0_9 pz0_10 pz0_11 pz0_12 pz0_13 pz0_14 pz0_18 pz0_19 pz0_22 pz0_23 pz0_29)), (z 32, aI V 100 fz32)] ∧ va_S A s.heap H locs ∧ lv_has ls 4 [(1, .int u_1), (0, .ref (z 0))]) (g := fun ls => F0 m 2 ls []) (fun n_3 H locs ls hX ihn_3 => ?_) _ ⟨0, fz33, (iv_c (0 : Int32) (by decide)), tfz33, (fun j hj => absurd hj (by have h9 : (0 : Int32).toInt = 0 := (by decide); omega)), rfl, hP, hD, hS, lv_sub hl [0, 1] rfl⟩
  obtain ⟨u_1, f_2, bu_1, tf_2, inn_3_0, en_3, hP, hD, hS, hl⟩ := hX
  refine lv_iload_n hx hb dX10_isCome_2 rfl (lv_at hl 0 rfl) ?_
  refine lv_bipush (v := 10) hx hb dX10_isCome_3 (by decide) ?_
  refine lv_icmp_ge (tgt := 21) hx hb dX10_isCome_5 (by decide) (fun c_4 => ?_) (fun c_4 => ?_)
  · have b_5 : iv 10 10 u_1 := iv_e2 c_4 (iv_c (10 : Int32) (a := 10) (b := 10) (by decide)) bu_1 (by decide)
    refine lv_aload_n hx hb dX10_isCome_21 rfl (lv_at hl 1 rfl) ?_
    refine va_get (ci := 10) (v := .ref (z 33)) (C := RX10) (T := TX10) (N := 40) hx hb hg inX10 hown hK hP 2 rfl rfl 33 (by decide) (hg _ q_6_17) (fun _ h9 => h9) rfl dX10_isCome_22 ?_
    refine lv_iconst (v := 0) hx hb dX10_isCome_25 (by decide) ?_
    refine lv_iconst (v := 0) hx hb dX10_isCome_26 (by decide) ?_
    refine va_iast hx hb hK hP hD hS 0 0 rfl rfl (vin (by decide +kernel)) dX10_isCome_27 (fun H locs hP hD hS => ?_)
    obtain ⟨f_6, ef_6, tf_6, hP, hD⟩ : ∃ f_6 : Nat → Int32, f_6 = (upd f_2 (0 : Int32).toNatClampNeg 0) ∧ (∀ j, iv (-1) 9 (f_6 j)) ∧ va_P V.1 vwCl [(z 33, aI V 10 f_6), (z 34, aI V 10 fz34), (z 0, .inr (10, mo z pz0_0 pz0_5 pz0_6 pz0_7 pz0_8 pz0_9 pz0_10 pz0_11 pz0_12 pz0_13 pz0_14 pz0_18 pz0_19 pz0_22 pz0_23 pz0_29)), (z 32, aI V 100 fz32)] H ∧ va_D A [(z 33, aI V 10 f_6), (z 34, aI V 10 fz34), (z 0, .inr (10, mo z pz0_0 pz0_5 pz0_6 pz0_7 pz0_8 pz0_9 pz0_10 pz0_11 pz0_12 pz0_13 pz0_14 pz0_18 pz0_19 pz0_22 pz0_23 pz0_29)), (z 32, aI V 100 fz32)] := ⟨_, rfl, ivU tf_2 _ (iv_c (0 : Int32) (by decide)), hP, hD⟩
    refine lv_aload_n hx hb dX10_isCome_28 rfl (lv_at hl 1 rfl) ?_
    refine va_get (ci := 10) (v := .ref (z 34)) (C := RX10) (T := TX10) (N := 40) hx hb hg inX10 hown hK hP 2 rfl rfl 34 (by decide) (hg _ q_6_18) (fun _ h9 => h9) rfl dX10_isCome_29 ?_
    refine lv_iconst (v := 0) hx hb dX10_isCome_32 (by decide) ?_
    refine lv_iconst (v := 0) hx hb dX10_isCome_33 (by decide) ?_
    refine va_iast hx hb hK hP hD hS 1 0 rfl rfl (vin (by decide +kernel)) dX10_isCome_34 (fun H locs hP hD hS => ?_)
    obtain ⟨f_7, ef_7, tf_7, hP, hD⟩ : ∃ f_7 : Nat → Int32, f_7 = (upd fz34 (0 : Int32).toNatClampNeg 0) ∧ (∀ j, iv 0 9 (f_7 j)) ∧ va_P V.1 vwCl [(z 33, aI V 10 f_6), (z 34, aI V 10 f_7), (z 0, .inr (10, mo z pz0_0 pz0_5 pz0_6 pz0_7 pz0_8 pz0_9 pz0_10 pz0_11 pz0_12 pz0_13 pz0_14 pz0_18 pz0_19 pz0_22 pz0_23 pz0_29)), (z 32, aI V 100 fz32)] H ∧ va_D A [(z 33, aI V 10 f_6), (z 34, aI V 10 f_7), (z 0, .inr (10, mo z pz0_0 pz0_5 pz0_6 pz0_7 pz0_8 pz0_9 pz0_10 pz0_11 pz0_12 pz0_13 pz0_14 pz0_18 pz0_19 pz0_22 pz0_23 pz0_29)), (z 32, aI V 100 fz32)] := ⟨_, rfl, ivU tfz34 _ (iv_c (0 : Int32) (by decide)), hP, hD⟩
    refine lv_iconst (v := 1) hx hb dX10_isCome_35 (by decide) ?_
    refine lv_istore_n (lv' := [(1, .int 1), (0, .ref (z 0))]) hx hb dX10_isCome_36 rfl hl (by decide) rfl (fun ls hl => ?_)
    refine lv_iconst (v := 0) hx hb dX10_isCome_37 (by decide) ?_
    refine lv_istore_n (lv' := [(2, .int 0), (1, .int 1), (0, .ref (z 0))]) hx hb dX10_isCome_38 rfl hl (by decide) rfl (fun ls hl => ?_)
    refine loopF (X := fun (n_12 : Nat) (H : Heap) (locs : List Loc) (ls : Array Slot) => ∃ (u_8 : Int32) (u_9 : Int32) (f_10 : Nat → Int32) (f_11 : Nat → Int32), (iv 0 10 u_8) ∧ (iv 1 10 u_9) ∧ (∀ j, iv (-1) 9 (f_10 j)) ∧ (∀ j, iv 0 9 (f_11 j)) ∧ (FN u_9 f_10 10 10) ∧ (IC u_9 f_10 f_11 fz32) ∧ n_12 = (2147483647 - (u_8 : Int32).toInt).toNat ∧ va_P V.1 vwCl [(z 33, aI V 10 f_10), (z 34, aI V 10 f_11), (z 0, .inr (10, mo z pz0_0 pz0_5 pz0_6 pz0_7 pz0_8 pz0_9 pz0_10 pz0_11 pz0_12 pz0_13 pz0_14 pz0_18 pz0_19 pz0_22 pz0_23 pz0_29)), (z 32, aI V 100 fz32)] H ∧ va_D A [(z 33, aI V 10 f_10), (z 34, aI V 10 f_11), (z 0, .inr (10, mo z pz0_0 pz0_5 pz0_6 pz0_7 pz0_8 pz0_9 pz0_10 pz0_11 pz0_12 pz0_13 pz0_14 pz0_18 pz0_19 pz0_22 pz0_23 pz0_29)), (z 32, aI V 100 fz32)] ∧ va_S A s.heap H locs ∧ lv_has ls 4 [(2, .int u_8), (1, .int u_9), (0, .ref (z 0))]) (g := fun ls => F0 m 39 ls []) (fun n_12 H locs ls hX ihn_12 => ?_) _ ⟨0, 1, f_6, f_7, (iv_c (0 : Int32) (by decide)), (iv_c (1 : Int32) (by decide)), tf_6, tf_7, (FN_1i inn_3_0 (Int32.not_lt.mpr c_4) ef_6 (by decide)), (IC_0 inn_3_0 (Int32.not_lt.mpr c_4) ef_6 ef_7 (by decide)), rfl, hP, hD, hS, lv_sub hl [0, 1, 2] rfl⟩
    obtain ⟨u_8, u_9, f_10, f_11, bu_8, bu_9, tf_10, tf_11, inn_12_0, inn_12_1, en_12, hP, hD, hS, hl⟩ := hX
    refine lv_iload_n hx hb dX10_isCome_39 rfl (lv_at hl 0 rfl) ?_
    refine lv_iload_n hx hb dX10_isCome_40 rfl (lv_at hl 1 rfl) ?_
    refine lv_icmp_ge (tgt := 118) hx hb dX10_isCome_41 (by decide) (fun c_13 => ?_) (fun c_13 => ?_)
    · have b_14 : iv 1 10 u_8 := iv_e2 c_13 bu_9 bu_8 (by decide)
      refine lv_aload_n hx hb dX10_isCome_118 rfl (lv_at hl 2 rfl) ?_
      refine va_get (ci := 10) (v := .ref (z 33)) (C := RX10) (T := TX10) (N := 40) hx hb hg inX10 hown hK hP 2 rfl rfl 33 (by decide) (hg _ q_6_17) (fun _ h9 => h9) rfl dX10_isCome_119 ?_
      refine lv_bipush (v := 9) hx hb dX10_isCome_122 (by decide) ?_
      refine va_iald hx hb hK hP 0 0 rfl rfl (vin (by decide +kernel)) dX10_isCome_124 ?_
      refine lv_topi (fun x_15 ex_15 => ?_)
      have bx_15 : iv (-1) 9 x_15 := by rw [ex_15]; exact tf_10 _
      refine lv_iconst (v := (-1)) hx hb dX10_isCome_125 (by decide) ?_
      refine lv_icmp_eq (tgt := 133) hx hb dX10_isCome_126 (by decide) (fun c_16 => ?_) (fun c_16 => ?_)
      · have b_17 : iv (-1) (-1) x_15 := iv_q c_16 (iv_c ((-1) : Int32) (a := (-1)) (b := (-1)) (by decide))
        refine lv_iconst (v := 0) hx hb dX10_isCome_133 (by decide) ?_
        exact fiZ rfl hx hb hr hlk hK hP hD hS dX10_isCome_134 (Nat.le_of_ble_eq_true rfl) (Nat.le_of_ble_eq_true rfl) (⟨f_10, f_11, tf_10, tf_11, (iv_c (0 : Int32) (by decide)), (IC1_of inn_12_1), (fun q9 => absurd q9 (by decide)), rfl⟩)
      · have b_18 : iv 0 9 x_15 := iv_n0 c_16 bx_15 (iv_c ((-1) : Int32) (a := (-1)) (b := (-1)) (by decide)) (by decide)
        refine lv_iconst (v := 1) hx hb dX10_isCome_129 (by decide) ?_
        refine lv_goto (tgt := 134) hx hb dX10_isCome_130 (by decide) ?_
        exact fiZ rfl hx hb hr hlk hK hP hD hS dX10_isCome_134 (Nat.le_of_ble_eq_true rfl) (Nat.le_of_ble_eq_true rfl) (⟨f_10, f_11, tf_10, tf_11, (iv_c (1 : Int32) (by decide)), (IC1_of inn_12_1), (fun _ => by have q9 : iv 0 9 x_15 := iv_n0 c_16 bx_15 (iv_c (-1 : Int32) (a := -1) (b := -1) (by decide)) (by decide); rw [← ex_15]; exact q9.1), rfl⟩)
    · have b_19 : iv 0 9 u_8 := iv_l1 (Int32.not_le.mp c_13) bu_8 bu_9 (by decide)
      refine lv_iconst (v := 0) hx hb dX10_isCome_44 (by decide) ?_
      refine lv_istore_n (lv' := [(3, .int 0), (2, .int u_8), (1, .int u_9), (0, .ref (z 0))]) hx hb dX10_isCome_45 rfl hl (by decide) rfl (fun ls hl => ?_)
      refine loopF (X := fun (n_24 : Nat) (H : Heap) (locs : List Loc) (ls : Array Slot) => ∃ (u_20 : Int32) (u_21 : Int32) (f_22 : Nat → Int32) (f_23 : Nat → Int32), (iv 0 10 u_20) ∧ (iv 1 10 u_21) ∧ (∀ j, iv (-1) 9 (f_22 j)) ∧ (∀ j, iv 0 9 (f_23 j)) ∧ (FN u_21 f_22 10 10) ∧ (IC u_21 f_22 f_23 fz32) ∧ ((u_8 : Int32).toInt < (u_21 : Int32).toInt) ∧ n_24 = (2147483647 - (u_20 : Int32).toInt).toNat ∧ va_P V.1 vwCl [(z 33, aI V 10 f_22), (z 34, aI V 10 f_23), (z 0, .inr (10, mo z pz0_0 pz0_5 pz0_6 pz0_7 pz0_8 pz0_9 pz0_10 pz0_11 pz0_12 pz0_13 pz0_14 pz0_18 pz0_19 pz0_22 pz0_23 pz0_29)), (z 32, aI V 100 fz32)] H ∧ va_D A [(z 33, aI V 10 f_22), (z 34, aI V 10 f_23), (z 0, .inr (10, mo z pz0_0 pz0_5 pz0_6 pz0_7 pz0_8 pz0_9 pz0_10 pz0_11 pz0_12 pz0_13 pz0_14 pz0_18 pz0_19 pz0_22 pz0_23 pz0_29)), (z 32, aI V 100 fz32)] ∧ va_S A s.heap H locs ∧ lv_has ls 4 [(3, .int u_20), (2, .int u_8), (1, .int u_21), (0, .ref (z 0))]) (g := fun ls => F0 m 46 ls []) (fun n_24 H locs ls hX ihn_24 => ?_) _ ⟨0, u_9, f_10, f_11, (iv_c (0 : Int32) (by decide)), bu_9, tf_10, tf_11, inn_12_0, inn_12_1, (Int32.lt_iff_toInt_lt.mp (Int32.not_le.mp c_13)), rfl, hP, hD, hS, lv_sub hl [0, 1, 2, 3] rfl⟩
      obtain ⟨u_20, u_21, f_22, f_23, bu_20, bu_21, tf_22, tf_23, inn_24_0, inn_24_1, inn_24_2, en_24, hP, hD, hS, hl⟩ := hX
      refine lv_iload_n hx hb dX10_isCome_46 rfl (lv_at hl 0 rfl) ?_
      refine lv_bipush (v := 10) hx hb dX10_isCome_47 (by decide) ?_
      refine lv_icmp_ge (tgt := 112) hx hb dX10_isCome_49 (by decide) (fun c_25 => ?_) (fun c_25 => ?_)
      · have b_26 : iv 10 10 u_20 := iv_e2 c_25 (iv_c (10 : Int32) (a := 10) (b := 10) (by decide)) bu_20 (by decide)
        obtain ⟨x_27, ex_27⟩ : ∃ z9 : Int32, z9 = u_8 + 1 := ⟨_, rfl⟩
        have bx_27 : iv 1 10 x_27 := by rw [ex_27]; exact iv_add b_19 (iv_c (1 : Int32) (a := 1) (b := 1) (by decide)) (by decide)
        refine lv_iinc (v := x_27) (lv' := [(2, .int x_27), (3, .int u_20), (1, .int u_21), (0, .ref (z 0))]) hx hb dX10_isCome_112 hl (k := 1) rfl (by rw [ex_27]; rfl) (by decide) rfl (fun ls hl => ?_)
        refine lv_goto (tgt := 39) hx hb dX10_isCome_115 (by decide) ?_
        exact ihn_12 _ _ _ _ (by rw [en_12, ex_27]; exact mu_up b_19 (by decide)) ⟨x_27, u_21, f_22, f_23, (iv_w bx_27 (by decide)), bu_21, tf_22, tf_23, inn_24_0, inn_24_1, rfl, hP, hD, hS, lv_sub hl [0, 2, 3] rfl⟩
      · have b_28 : iv 0 9 u_20 := iv_l1 (Int32.not_le.mp c_25) bu_20 (iv_c (10 : Int32) (a := 10) (b := 10) (by decide)) (by decide)
        have c_29 : u_8 < u_21 := Int32.lt_iff_toInt_lt.mpr inn_24_2
        have b_30 : iv 0 9 u_8 := by have q9 := inn_24_2; have q8 := b_19; have q7 := bu_21; unfold iv at *; omega
        refine lv_aload_n hx hb dX10_isCome_52 rfl (lv_at hl 3 rfl) ?_
        refine va_get (ci := 10) (v := .ref (z 33)) (C := RX10) (T := TX10) (N := 40) hx hb hg inX10 hown hK hP 2 rfl rfl 33 (by decide) (hg _ q_6_17) (fun _ h9 => h9) rfl dX10_isCome_53 ?_
        refine lv_iload_n hx hb dX10_isCome_56 rfl (lv_at hl 0 rfl) ?_
        refine va_iald hx hb hK hP 0 0 rfl rfl (iv_in b_28 (by decide)) dX10_isCome_57 ?_
        refine lv_topi (fun x_31 ex_31 => ?_)
        have bx_31 : iv (-1) 9 x_31 := by rw [ex_31]; exact tf_22 _
        refine lv_iconst (v := (-1)) hx hb dX10_isCome_58 (by decide) ?_
        refine lv_icmp_ne (tgt := 106) hx hb dX10_isCome_59 (by decide) (fun c_32 => ?_) (fun c_32 => ?_)
        · have b_33 : iv 0 9 x_31 := iv_n0 c_32 bx_31 (iv_c ((-1) : Int32) (a := (-1)) (b := (-1)) (by decide)) (by decide)
          obtain ⟨x_34, ex_34⟩ : ∃ z9 : Int32, z9 = u_20 + 1 := ⟨_, rfl⟩
          have bx_34 : iv 1 10 x_34 := by rw [ex_34]; exact iv_add b_28 (iv_c (1 : Int32) (a := 1) (b := 1) (by decide)) (by decide)
          refine lv_iinc (v := x_34) (lv' := [(3, .int x_34), (2, .int u_8), (1, .int u_21), (0, .ref (z 0))]) hx hb dX10_isCome_106 hl (k := 0) rfl (by rw [ex_34]; rfl) (by decide) rfl (fun ls hl => ?_)
          refine lv_goto (tgt := 46) hx hb dX10_isCome_109 (by decide) ?_
          exact ihn_24 _ _ _ _ (by rw [en_24, ex_34]; exact mu_up b_28 (by decide)) ⟨x_34, u_21, f_22, f_23, (iv_w bx_34 (by decide)), bu_21, tf_22, tf_23, inn_24_0, inn_24_1, inn_24_2, rfl, hP, hD, hS, lv_sub hl [0, 1, 2, 3] rfl⟩
        · have b_35 : iv (-1) (-1) x_31 := iv_q c_32 (iv_c ((-1) : Int32) (a := (-1)) (b := (-1)) (by decide))
          refine lv_aload_n hx hb dX10_isCome_62 rfl (lv_at hl 3 rfl) ?_
          refine va_get (ci := 10) (v := .ref (z 32)) (C := RX10) (T := TX10) (N := 40) hx hb hg inX10 hown hK hP 2 rfl rfl 32 (by decide) (hg _ q_6_16) (fun _ h9 => h9) rfl dX10_isCome_63 ?_
          refine lv_bipush (v := 10) hx hb dX10_isCome_66 (by decide) ?_
          refine lv_aload_n hx hb dX10_isCome_68 rfl (lv_at hl 3 rfl) ?_
          refine va_get (ci := 10) (v := .ref (z 34)) (C := RX10) (T := TX10) (N := 40) hx hb hg inX10 hown hK hP 2 rfl rfl 34 (by decide) (hg _ q_6_18) (fun _ h9 => h9) rfl dX10_isCome_69 ?_
          refine lv_iload_n hx hb dX10_isCome_72 rfl (lv_at hl 1 rfl) ?_
          refine va_iald hx hb hK hP 1 0 rfl rfl (iv_in b_30 (by decide)) dX10_isCome_73 ?_
          refine lv_topi (fun x_36 ex_36 => ?_)
          have bx_36 : iv 0 9 x_36 := by rw [ex_36]; exact tf_23 _
          refine lv_imul hx hb dX10_isCome_74 ?_
          refine lv_topi (fun x_37 ex_37 => ?_)
          have bx_37 : iv 0 90 x_37 := by rw [ex_37]; exact iv_cmul (iv_c (10 : Int32) (a := 10) (b := 10) (by decide)) bx_36 (by decide)
          refine lv_iload_n hx hb dX10_isCome_75 rfl (lv_at hl 0 rfl) ?_
          refine lv_iadd hx hb dX10_isCome_76 ?_
          refine lv_topi (fun x_38 ex_38 => ?_)
          have bx_38 : iv 0 99 x_38 := by rw [ex_38]; exact iv_add bx_37 b_28 (by decide)
          refine va_iald hx hb hK hP 3 0 rfl rfl (iv_in bx_38 (by decide)) dX10_isCome_77 ?_
          refine lv_topi (fun x_39 ex_39 => ?_)
          refine lv_if_ne (tgt := 84) hx hb dX10_isCome_78 (by decide) (fun c_40 => ?_) (fun c_40 => ?_)
          · have b_41 : iv 1 9 u_21 := by have q9 := FN_lt inn_24_0 (ex_31.symm.trans c_32) (by have q9 := b_28; have q8 := clampNat q9.1; unfold iv at q9; omega); have q8 := bu_21; unfold iv at *; omega
            refine lv_aload_n hx hb dX10_isCome_84 rfl (lv_at hl 3 rfl) ?_
            refine va_get (ci := 10) (v := .ref (z 33)) (C := RX10) (T := TX10) (N := 40) hx hb hg inX10 hown hK hP 2 rfl rfl 33 (by decide) (hg _ q_6_17) (fun _ h9 => h9) rfl dX10_isCome_85 ?_
            refine lv_iload_n hx hb dX10_isCome_88 rfl (lv_at hl 0 rfl) ?_
            refine lv_aload_n hx hb dX10_isCome_89 rfl (lv_at hl 3 rfl) ?_
            refine va_get (ci := 10) (v := .ref (z 34)) (C := RX10) (T := TX10) (N := 40) hx hb hg inX10 hown hK hP 2 rfl rfl 34 (by decide) (hg _ q_6_18) (fun _ h9 => h9) rfl dX10_isCome_90 ?_
            refine lv_iload_n hx hb dX10_isCome_93 rfl (lv_at hl 1 rfl) ?_
            refine va_iald hx hb hK hP 1 0 rfl rfl (iv_in b_30 (by decide)) dX10_isCome_94 ?_
            refine tpi (y := x_36) ex_36.symm ?_
            refine va_iast hx hb hK hP hD hS 0 0 rfl rfl (iv_in b_28 (by decide)) dX10_isCome_95 (fun H locs hP hD hS => ?_)
            obtain ⟨f_42, ef_42, tf_42, hP, hD⟩ : ∃ f_42 : Nat → Int32, f_42 = (upd f_22 (u_20 : Int32).toNatClampNeg x_36) ∧ (∀ j, iv (-1) 9 (f_42 j)) ∧ va_P V.1 vwCl [(z 33, aI V 10 f_42), (z 34, aI V 10 f_23), (z 0, .inr (10, mo z pz0_0 pz0_5 pz0_6 pz0_7 pz0_8 pz0_9 pz0_10 pz0_11 pz0_12 pz0_13 pz0_14 pz0_18 pz0_19 pz0_22 pz0_23 pz0_29)), (z 32, aI V 100 fz32)] H ∧ va_D A [(z 33, aI V 10 f_42), (z 34, aI V 10 f_23), (z 0, .inr (10, mo z pz0_0 pz0_5 pz0_6 pz0_7 pz0_8 pz0_9 pz0_10 pz0_11 pz0_12 pz0_13 pz0_14 pz0_18 pz0_19 pz0_22 pz0_23 pz0_29)), (z 32, aI V 100 fz32)] := ⟨_, rfl, ivU tf_22 _ (iv_w bx_36 (by decide)), hP, hD⟩
            refine lv_aload_n hx hb dX10_isCome_96 rfl (lv_at hl 3 rfl) ?_
            refine va_get (ci := 10) (v := .ref (z 34)) (C := RX10) (T := TX10) (N := 40) hx hb hg inX10 hown hK hP 2 rfl rfl 34 (by decide) (hg _ q_6_18) (fun _ h9 => h9) rfl dX10_isCome_97 ?_
            refine lv_iload_n hx hb dX10_isCome_100 rfl (lv_at hl 2 rfl) ?_
            refine lv_iload_n hx hb dX10_isCome_101 rfl (lv_at hl 0 rfl) ?_
            refine va_iast hx hb hK hP hD hS 1 0 rfl rfl (iv_in b_41 (by decide)) dX10_isCome_102 (fun H locs hP hD hS => ?_)
            obtain ⟨f_43, ef_43, tf_43, hP, hD⟩ : ∃ f_43 : Nat → Int32, f_43 = (upd f_23 (u_21 : Int32).toNatClampNeg u_20) ∧ (∀ j, iv 0 9 (f_43 j)) ∧ va_P V.1 vwCl [(z 33, aI V 10 f_42), (z 34, aI V 10 f_43), (z 0, .inr (10, mo z pz0_0 pz0_5 pz0_6 pz0_7 pz0_8 pz0_9 pz0_10 pz0_11 pz0_12 pz0_13 pz0_14 pz0_18 pz0_19 pz0_22 pz0_23 pz0_29)), (z 32, aI V 100 fz32)] H ∧ va_D A [(z 33, aI V 10 f_42), (z 34, aI V 10 f_43), (z 0, .inr (10, mo z pz0_0 pz0_5 pz0_6 pz0_7 pz0_8 pz0_9 pz0_10 pz0_11 pz0_12 pz0_13 pz0_14 pz0_18 pz0_19 pz0_22 pz0_23 pz0_29)), (z 32, aI V 100 fz32)] := ⟨_, rfl, ivU tf_23 _ b_28, hP, hD⟩
            obtain ⟨x_44, ex_44⟩ : ∃ z9 : Int32, z9 = u_21 + 1 := ⟨_, rfl⟩
            have bx_44 : iv 2 10 x_44 := by rw [ex_44]; exact iv_add b_41 (iv_c (1 : Int32) (a := 1) (b := 1) (by decide)) (by decide)
            refine lv_iinc (v := x_44) (lv' := [(1, .int x_44), (3, .int u_20), (2, .int u_8), (0, .ref (z 0))]) hx hb dX10_isCome_103 hl (k := 2) rfl (by rw [ex_44]; rfl) (by decide) rfl (fun ls hl => ?_)
            obtain ⟨x_45, ex_45⟩ : ∃ z9 : Int32, z9 = u_20 + 1 := ⟨_, rfl⟩
            have bx_45 : iv 1 10 x_45 := by rw [ex_45]; exact iv_add b_28 (iv_c (1 : Int32) (a := 1) (b := 1) (by decide)) (by decide)
            refine lv_iinc (v := x_45) (lv' := [(3, .int x_45), (1, .int x_44), (2, .int u_8), (0, .ref (z 0))]) hx hb dX10_isCome_106 hl (k := 1) rfl (by rw [ex_45]; rfl) (by decide) rfl (fun ls hl => ?_)
            refine lv_goto (tgt := 46) hx hb dX10_isCome_109 (by decide) ?_
            exact ihn_24 _ _ _ _ (by rw [en_24, ex_45]; exact mu_up b_28 (by decide)) ⟨x_45, x_44, f_42, f_43, (iv_w bx_45 (by decide)), (iv_w bx_44 (by decide)), tf_42, tf_43, (by rw [ef_42]; exact FN_s inn_24_0 (inc_toInt ex_44 b_41 (by decide)) (ex_31.symm.trans c_32) (by have q9 := b_28; have q8 := clampNat q9.1; unfold iv at q9; omega) (ne_m1 bx_36.1)), (IC_s inn_24_1 b_41 (by decide) (inc_toInt ex_44 b_41 (by decide)) b_28 (by decide) b_30 (by decide) c_29 ex_36 bx_36 (ex_31.symm.trans c_32) (by have q1 := toInt_mulC (k := 10) ex_37 bx_36 (by decide) (by decide); have q2 := toInt_add ex_38 bx_37 b_28 (by decide); have q3 := clampNat (x := x_38) (by have q9 := bx_38; unfold iv at q9; omega); have q4 := clampNat (x := x_36) (by have q9 := bx_36; unfold iv at q9; omega); have q5 := clampNat (x := u_20) (by have q9 := b_28; unfold iv at q9; omega); rw [show 10 * (x_36 : Int32).toNatClampNeg + (u_20 : Int32).toNatClampNeg = (x_38 : Int32).toNatClampNeg by omega, ← ex_39]; exact c_40) ef_42 ef_43), (by have q9 := inc_toInt ex_44 b_41 (by decide); have q8 := inn_24_2; omega), rfl, hP, hD, hS, lv_sub hl [0, 2, 1, 3] rfl⟩
          · have b_46 : iv 0 0 x_39 := iv_q c_40 (iv_c (0 : Int32) (a := 0) (b := 0) (by decide))
            refine lv_goto (tgt := 106) hx hb dX10_isCome_81 (by decide) ?_
            obtain ⟨x_47, ex_47⟩ : ∃ z9 : Int32, z9 = u_20 + 1 := ⟨_, rfl⟩
            have bx_47 : iv 1 10 x_47 := by rw [ex_47]; exact iv_add b_28 (iv_c (1 : Int32) (a := 1) (b := 1) (by decide)) (by decide)
            refine lv_iinc (v := x_47) (lv' := [(3, .int x_47), (2, .int u_8), (1, .int u_21), (0, .ref (z 0))]) hx hb dX10_isCome_106 hl (k := 0) rfl (by rw [ex_47]; rfl) (by decide) rfl (fun ls hl => ?_)
            refine lv_goto (tgt := 46) hx hb dX10_isCome_109 (by decide) ?_
            exact ihn_24 _ _ _ _ (by rw [en_24, ex_47]; exact mu_up b_28 (by decide)) ⟨x_47, u_21, f_22, f_23, (iv_w bx_47 (by decide)), bu_21, tf_22, tf_23, inn_24_0, inn_24_1, inn_24_2, rfl, hP, hD, hS, lv_sub hl [0, 1, 2, 3] rfl⟩
  · have b_48 : iv 0 9 u_1 := iv_l1 (Int32.not_le.mp c_4) bu_1 (iv_c (10 : Int32) (a := 10) (b := 10) (by decide)) (by decide)
    refine lv_aload_n hx hb dX10_isCome_8 rfl (lv_at hl 1 rfl) ?_
    refine va_get (ci := 10) (v := .ref (z 33)) (C := RX10) (T := TX10) (N := 40) hx hb hg inX10 hown hK hP 2 rfl rfl 33 (by decide) (hg _ q_6_17) (fun _ h9 => h9) rfl dX10_isCome_9 ?_
    refine lv_iload_n hx hb dX10_isCome_12 rfl (lv_at hl 0 rfl) ?_
    refine lv_iconst (v := (-1)) hx hb dX10_isCome_13 (by decide) ?_
    refine va_iast hx hb hK hP hD hS 0 0 rfl rfl (iv_in b_48 (by decide)) dX10_isCome_14 (fun H locs hP hD hS => ?_)
    obtain ⟨f_49, ef_49, tf_49, hP, hD⟩ : ∃ f_49 : Nat → Int32, f_49 = (upd f_2 (u_1 : Int32).toNatClampNeg (-1)) ∧ (∀ j, iv (-1) 9 (f_49 j)) ∧ va_P V.1 vwCl [(z 33, aI V 10 f_49), (z 34, aI V 10 fz34), (z 0, .inr (10, mo z pz0_0 pz0_5 pz0_6 pz0_7 pz0_8 pz0_9 pz0_10 pz0_11 pz0_12 pz0_13 pz0_14 pz0_18 pz0_19 pz0_22 pz0_23 pz0_29)), (z 32, aI V 100 fz32)] H ∧ va_D A [(z 33, aI V 10 f_49), (z 34, aI V 10 fz34), (z 0, .inr (10, mo z pz0_0 pz0_5 pz0_6 pz0_7 pz0_8 pz0_9 pz0_10 pz0_11 pz0_12 pz0_13 pz0_14 pz0_18 pz0_19 pz0_22 pz0_23 pz0_29)), (z 32, aI V 100 fz32)] := ⟨_, rfl, ivU tf_2 _ (iv_c ((-1) : Int32) (by decide)), hP, hD⟩
    obtain ⟨x_50, ex_50⟩ : ∃ z9 : Int32, z9 = u_1 + 1 := ⟨_, rfl⟩
    have bx_50 : iv 1 10 x_50 := by rw [ex_50]; exact iv_add b_48 (iv_c (1 : Int32) (a := 1) (b := 1) (by decide)) (by decide)
    refine lv_iinc (v := x_50) (lv' := [(1, .int x_50), (0, .ref (z 0))]) hx hb dX10_isCome_15 hl (k := 0) rfl (by rw [ex_50]; rfl) (by decide) rfl (fun ls hl => ?_)
    refine lv_goto (tgt := 2) hx hb dX10_isCome_18 (by decide) ?_
    exact ihn_3 _ _ _ _ (by rw [en_3, ex_50]; exact mu_up b_48 (by decide)) ⟨x_50, f_49, (iv_w bx_50 (by decide)), tf_49, (FL_s inn_3_0 b_48 (by decide) ef_49 ex_50), rfl, hP, hD, hS, lv_sub hl [0, 1] rfl⟩
theorem dX10_woodBut_0 : decode cX10_woodBut 0 = .ok (.aload_n 0, 1) := by decide +kernel
theorem dX10_woodBut_1 : decode cX10_woodBut 1 = .ok (.iload_n 1, 1) := by decide +kernel
theorem q_8_38 : Cond.code yX10_laysRoom prog_12_method_102_code 3 none ∈ gw := gw_8 (i := 38) (rfl) rfl
theorem q_8_37 : Cond.instanceMethod yX10_laysRoom ∈ gw := gw_8 (i := 37) (by decide +kernel) rfl
theorem q_s_115 : Cond.selects "BeaconDelayModel" yX10_laysRoom yX10_laysRoom ∈ gw := gw_s (i := 115) (by decide +kernel) rfl
theorem mt_X10_laysRoom : MtV yX10_laysRoom cX10_laysRoom 3 none 1 := ⟨⟨q_8_38, q_1_9, by decide +kernel, by decide +kernel, by decide +kernel⟩, q_8_37, q_s_115⟩
theorem q_8_35 : Cond.methodLink "BeaconDelayModel" 408 yX10_laysRoom ∈ gw := gw_8 (i := 35) (by decide +kernel) rfl
theorem dX10_woodBut_2 : decode cX10_woodBut 2 = .ok (.invokevirtual 408, 3) := by decide +kernel
theorem dX10_woodBut_5 : decode cX10_woodBut 5 = .ok (.iconst 0, 1) := by decide +kernel
theorem dX10_woodBut_6 : decode cX10_woodBut 6 = .ok (.istore_n 2, 1) := by decide +kernel
theorem dX10_woodBut_7 : decode cX10_woodBut 7 = .ok (.aload_n 0, 1) := by decide +kernel
theorem q_8_42 : Cond.code yX10_isCome prog_12_method_103_code 4 (some FieldType.boolean) ∈ gw := gw_8 (i := 42) (rfl) rfl
theorem q_8_41 : Cond.instanceMethod yX10_isCome ∈ gw := gw_8 (i := 41) (by decide +kernel) rfl
theorem q_s_116 : Cond.selects "BeaconDelayModel" yX10_isCome yX10_isCome ∈ gw := gw_s (i := 116) (by decide +kernel) rfl
theorem mt_X10_isCome : MtV yX10_isCome cX10_isCome 4 (some .boolean) 0 := ⟨⟨q_8_42, q_1_9, by decide +kernel, by decide +kernel, by decide +kernel⟩, q_8_41, q_s_116⟩
theorem q_8_39 : Cond.methodLink "BeaconDelayModel" 411 yX10_isCome ∈ gw := gw_8 (i := 39) (by decide +kernel) rfl
theorem dX10_woodBut_8 : decode cX10_woodBut 8 = .ok (.invokevirtual 411, 3) := by decide +kernel
theorem dX10_woodBut_11 : decode cX10_woodBut 11 = .ok (.ifCond .eq 66, 3) := by decide +kernel
theorem dX10_woodBut_77 : decode cX10_woodBut 77 = .ok (.iload_n 2, 1) := by decide +kernel
theorem dX10_woodBut_78 : decode cX10_woodBut 78 = .ok (.ireturn, 1) := by decide +kernel
theorem dX10_woodBut_14 : decode cX10_woodBut 14 = .ok (.bipush 9, 2) := by decide +kernel
theorem dX10_woodBut_16 : decode cX10_woodBut 16 = .ok (.istore_n 3, 1) := by decide +kernel
theorem dX10_woodBut_17 : decode cX10_woodBut 17 = .ok (.iload_n 3, 1) := by decide +kernel
theorem dX10_woodBut_18 : decode cX10_woodBut 18 = .ok (.ifCond .eq 53, 3) := by decide +kernel
theorem dX10_woodBut_71 : decode cX10_woodBut 71 = .ok (.iinc 2 1, 3) := by decide +kernel
theorem dX10_woodBut_74 : decode cX10_woodBut 74 = .ok (.goto (-67), 3) := by decide +kernel
theorem dX10_woodBut_21 : decode cX10_woodBut 21 = .ok (.aload_n 0, 1) := by decide +kernel
theorem dX10_woodBut_22 : decode cX10_woodBut 22 = .ok (.getfield 68, 3) := by decide +kernel
theorem dX10_woodBut_25 : decode cX10_woodBut 25 = .ok (.bipush 10, 2) := by decide +kernel
theorem dX10_woodBut_27 : decode cX10_woodBut 27 = .ok (.aload_n 0, 1) := by decide +kernel
theorem dX10_woodBut_28 : decode cX10_woodBut 28 = .ok (.getfield 71, 3) := by decide +kernel
theorem dX10_woodBut_31 : decode cX10_woodBut 31 = .ok (.iload_n 3, 1) := by decide +kernel
theorem dX10_woodBut_32 : decode cX10_woodBut 32 = .ok (.iaload, 1) := by decide +kernel
theorem dX10_woodBut_33 : decode cX10_woodBut 33 = .ok (.imul, 1) := by decide +kernel
theorem dX10_woodBut_34 : decode cX10_woodBut 34 = .ok (.iload_n 3, 1) := by decide +kernel
theorem dX10_woodBut_35 : decode cX10_woodBut 35 = .ok (.iadd, 1) := by decide +kernel
theorem dX10_woodBut_36 : decode cX10_woodBut 36 = .ok (.dup2, 1) := by decide +kernel
theorem dX10_woodBut_37 : decode cX10_woodBut 37 = .ok (.iaload, 1) := by decide +kernel
theorem dX10_woodBut_38 : decode cX10_woodBut 38 = .ok (.iconst 1, 1) := by decide +kernel
theorem dX10_woodBut_39 : decode cX10_woodBut 39 = .ok (.isub, 1) := by decide +kernel
theorem dX10_woodBut_40 : decode cX10_woodBut 40 = .ok (.iastore, 1) := by decide +kernel
theorem dX10_woodBut_41 : decode cX10_woodBut 41 = .ok (.aload_n 0, 1) := by decide +kernel
theorem dX10_woodBut_42 : decode cX10_woodBut 42 = .ok (.getfield 68, 3) := by decide +kernel
theorem dX10_woodBut_45 : decode cX10_woodBut 45 = .ok (.bipush 10, 2) := by decide +kernel
theorem dX10_woodBut_47 : decode cX10_woodBut 47 = .ok (.iload_n 3, 1) := by decide +kernel
theorem dX10_woodBut_48 : decode cX10_woodBut 48 = .ok (.imul, 1) := by decide +kernel
theorem dX10_woodBut_49 : decode cX10_woodBut 49 = .ok (.aload_n 0, 1) := by decide +kernel
theorem dX10_woodBut_50 : decode cX10_woodBut 50 = .ok (.getfield 71, 3) := by decide +kernel
theorem dX10_woodBut_53 : decode cX10_woodBut 53 = .ok (.iload_n 3, 1) := by decide +kernel
theorem dX10_woodBut_54 : decode cX10_woodBut 54 = .ok (.iaload, 1) := by decide +kernel
theorem dX10_woodBut_55 : decode cX10_woodBut 55 = .ok (.iadd, 1) := by decide +kernel
theorem dX10_woodBut_56 : decode cX10_woodBut 56 = .ok (.dup2, 1) := by decide +kernel
theorem dX10_woodBut_57 : decode cX10_woodBut 57 = .ok (.iaload, 1) := by decide +kernel
theorem dX10_woodBut_58 : decode cX10_woodBut 58 = .ok (.iconst 1, 1) := by decide +kernel
theorem dX10_woodBut_59 : decode cX10_woodBut 59 = .ok (.iadd, 1) := by decide +kernel
theorem dX10_woodBut_60 : decode cX10_woodBut 60 = .ok (.iastore, 1) := by decide +kernel
theorem dX10_woodBut_61 : decode cX10_woodBut 61 = .ok (.aload_n 0, 1) := by decide +kernel
theorem dX10_woodBut_62 : decode cX10_woodBut 62 = .ok (.getfield 71, 3) := by decide +kernel
theorem dX10_woodBut_65 : decode cX10_woodBut 65 = .ok (.iload_n 3, 1) := by decide +kernel
theorem dX10_woodBut_66 : decode cX10_woodBut 66 = .ok (.iaload, 1) := by decide +kernel
theorem dX10_woodBut_67 : decode cX10_woodBut 67 = .ok (.istore_n 3, 1) := by decide +kernel
theorem dX10_woodBut_68 : decode cX10_woodBut 68 = .ok (.goto (-51), 3) := by decide +kernel
set_option maxHeartbeats 4000000 in
set_option maxRecDepth 100000 in
theorem k_X10_woodBut_0 (l : Launch) (V : GV) (z : Nat → Nat) (a1 : Int32) (pz0_0 : Int32) (pz0_5 : Int32) (pz0_6 : Int32) (pz0_7 : Int32) (pz0_8 : Int32) (pz0_9 : Int32) (pz0_10 : Int32) (pz0_11 : Int32) (pz0_12 : Int32) (pz0_13 : Int32) (pz0_14 : Int32) (pz0_18 : Int32) (pz0_19 : Int32) (pz0_22 : Int32) (pz0_23 : Int32) (pz0_29 : Int32) (fz1 : Nat → Int32) (fz32 : Nat → Int32) (fz33 : Nat → Int32) (fz34 : Nat → Int32) (bpz0_5 : iv 0 900 pz0_5) (bpz0_6 : iv 0 900 pz0_6) (bpz0_7 : iv 0 900 pz0_7) (bpz0_8 : iv 0 900 pz0_8) (bpz0_10 : iv 0 999 pz0_10) (bpz0_11 : iv 0 4 pz0_11) (bpz0_12 : iv 0 900 pz0_12) (bpz0_13 : iv 0 4 pz0_13) (bpz0_14 : iv (-1) 900 pz0_14) (bpz0_18 : iv 0 2 pz0_18) (bpz0_22 : iv 0 9999 pz0_22) (bpz0_29 : iv 0 10000 pz0_29) (tfz1 : ivT tA fz1) (tfz33 : ∀ j, iv (-1) 9 (fz33 j)) (tfz34 : ∀ j, iv 0 9 (fz34 j)) : Ct l V yX10_woodBut (.code yX10_woodBut cX10_woodBut 4 (some .int)) 2 [.ref (z 0), .int a1] [(z 0, .inr (10, mo z pz0_0 pz0_5 pz0_6 pz0_7 pz0_8 pz0_9 pz0_10 pz0_11 pz0_12 pz0_13 pz0_14 pz0_18 pz0_19 pz0_22 pz0_23 pz0_29)), (z 1, aI V 3075 fz1), (z 32, aI V 100 fz32), (z 33, aI V 10 fz33), (z 34, aI V 10 fz34)] 0 0 (QI V (fun (r : Int32) (w : va_W) => ∃ (g0 : Nat → Int32) (g1 : Nat → Int32) (g2 : Nat → Int32), (∀ j, iv (-1) 9 (g1 j)) ∧ (∀ j, iv 0 9 (g2 j)) ∧ w = [(z 0, .inr (10, mo z pz0_0 pz0_5 pz0_6 pz0_7 pz0_8 pz0_9 pz0_10 pz0_11 pz0_12 pz0_13 pz0_14 pz0_18 pz0_19 pz0_22 pz0_23 pz0_29)), (z 1, aI V 3075 fz1), (z 32, aI V 100 g0), (z 33, aI V 10 g1), (z 34, aI V 10 g2)])) := by
  refine Ct.of (by decide) (Nat.le_of_ble_eq_true rfl) (fun p e s m below meth c A ls hx hb hr hml hown hlk hnm hg hP hK hD hE hA hS hl => ?_)
  have hl : lv_has ls 4 [(0, .ref (z 0)), (1, .int a1)] := hl
  refine lv_aload_n hx hb dX10_woodBut_0 rfl (lv_at hl 0 rfl) ?_
  refine lv_iload_n hx hb dX10_woodBut_1 rfl (lv_at hl 1 rfl) ?_
  refine jnV (wr := [(z 33, aI V 10 fz33), (z 34, aI V 10 fz34)]) (rnV (rest := []) ⟨hx, hb, hml, hown, hg⟩ (k_X10_laysRoom_0 l V z a1 pz0_0 pz0_5 pz0_6 pz0_7 pz0_8 pz0_9 pz0_10 pz0_11 pz0_12 pz0_13 pz0_14 pz0_18 pz0_19 pz0_22 pz0_23 pz0_29 fz1 fz32 bpz0_5 bpz0_6 bpz0_7 bpz0_8 bpz0_10 bpz0_11 bpz0_12 bpz0_13 bpz0_14 bpz0_18 bpz0_22 bpz0_29 tfz1) mt_X10_laysRoom q_8_35 ⟨Nat.le_of_ble_eq_true rfl, Nat.le_of_ble_eq_true rfl⟩ hK hP hD hS hA hE [0, 1, 2] rfl rfl 0 rfl rfl rfl rfl hl.1 rfl (Nat.le_of_ble_eq_true rfl) dX10_woodBut_2 ⟨Nat.le_of_ble_eq_true rfl, Nat.le_of_ble_eq_true rfl⟩) hP hD hS hA [0, 1, 2] [3, 4] rfl rfl rfl (by decide) (fun  w H locs hw hP hD hS => ?_)
  obtain ⟨f_1, g_2, rfl⟩ := hw
  have hP : va_P V.1 vwCl [(z 33, aI V 10 fz33), (z 34, aI V 10 fz34), (z 0, .inr (10, mo z pz0_0 pz0_5 pz0_6 pz0_7 pz0_8 pz0_9 pz0_10 pz0_11 pz0_12 pz0_13 pz0_14 pz0_18 pz0_19 pz0_22 pz0_23 pz0_29)), (z 1, aI V 3075 fz1), (z 32, aI V 100 f_1)] H := hP
  have hD : va_D A [(z 33, aI V 10 fz33), (z 34, aI V 10 fz34), (z 0, .inr (10, mo z pz0_0 pz0_5 pz0_6 pz0_7 pz0_8 pz0_9 pz0_10 pz0_11 pz0_12 pz0_13 pz0_14 pz0_18 pz0_19 pz0_22 pz0_23 pz0_29)), (z 1, aI V 3075 fz1), (z 32, aI V 100 f_1)] := hD
  refine lv_iconst (v := 0) hx hb dX10_woodBut_5 (by decide) ?_
  refine lv_istore_n (lv' := [(2, .int 0), (0, .ref (z 0)), (1, .int a1)]) hx hb dX10_woodBut_6 rfl hl (by decide) rfl (fun ls hl => ?_)
  refine loopF (X := fun (n_7 : Nat) (H : Heap) (locs : List Loc) (ls : Array Slot) => ∃ (u_3 : Int32) (f_4 : Nat → Int32) (f_5 : Nat → Int32) (f_6 : Nat → Int32), (∀ j, iv (-1) 9 (f_4 j)) ∧ (∀ j, iv 0 9 (f_5 j)) ∧ (RR f_6) ∧ n_7 = sm f_6 10 ∧ va_P V.1 vwCl [(z 33, aI V 10 f_4), (z 34, aI V 10 f_5), (z 0, .inr (10, mo z pz0_0 pz0_5 pz0_6 pz0_7 pz0_8 pz0_9 pz0_10 pz0_11 pz0_12 pz0_13 pz0_14 pz0_18 pz0_19 pz0_22 pz0_23 pz0_29)), (z 1, aI V 3075 fz1), (z 32, aI V 100 f_6)] H ∧ va_D A [(z 33, aI V 10 f_4), (z 34, aI V 10 f_5), (z 0, .inr (10, mo z pz0_0 pz0_5 pz0_6 pz0_7 pz0_8 pz0_9 pz0_10 pz0_11 pz0_12 pz0_13 pz0_14 pz0_18 pz0_19 pz0_22 pz0_23 pz0_29)), (z 1, aI V 3075 fz1), (z 32, aI V 100 f_6)] ∧ va_S A s.heap H locs ∧ lv_has ls 4 [(2, .int u_3), (0, .ref (z 0)), (1, .int a1)]) (g := fun ls => F0 m 7 ls []) (fun n_7 H locs ls hX ihn_7 => ?_) _ ⟨0, fz33, fz34, f_1, tfz33, tfz34, g_2, rfl, hP, hD, hS, lv_sub hl [0, 1, 2] rfl⟩
  obtain ⟨u_3, f_4, f_5, f_6, tf_4, tf_5, inn_7_0, en_7, hP, hD, hS, hl⟩ := hX
  refine lv_aload_n hx hb dX10_woodBut_7 rfl (lv_at hl 1 rfl) ?_
  refine jnI (wr := [(z 1, aI V 3075 fz1)]) (rnV (rest := []) ⟨hx, hb, hml, hown, hg⟩ (k_X10_isCome_0 l V z f_4 f_5 pz0_0 pz0_5 pz0_6 pz0_7 pz0_8 pz0_9 pz0_10 pz0_11 pz0_12 pz0_13 pz0_14 pz0_18 pz0_19 pz0_22 pz0_23 pz0_29 f_6 tf_4 tf_5 bpz0_5 bpz0_6 bpz0_7 bpz0_8 bpz0_10 bpz0_11 bpz0_12 bpz0_13 bpz0_14 bpz0_18 bpz0_22 bpz0_29) mt_X10_isCome q_8_39 ⟨Nat.le_of_ble_eq_true rfl, Nat.le_of_ble_eq_true rfl⟩ hK hP hD hS hA hE [0, 1, 2, 4] rfl rfl 2 rfl rfl rfl rfl hl.1 rfl (Nat.le_of_ble_eq_true rfl) dX10_woodBut_8 ⟨Nat.le_of_ble_eq_true rfl, Nat.le_of_ble_eq_true rfl⟩) hP hD hS hA [0, 1, 2, 4] [3] rfl rfl rfl (by decide) (fun r_8 w H locs hw hP hD hS => ?_)
  obtain ⟨f_9, f_10, tf_9, tf_10, br_8, g_11, g_12, rfl⟩ := hw
  have hP : va_P V.1 vwCl [(z 1, aI V 3075 fz1), (z 33, aI V 10 f_9), (z 34, aI V 10 f_10), (z 0, .inr (10, mo z pz0_0 pz0_5 pz0_6 pz0_7 pz0_8 pz0_9 pz0_10 pz0_11 pz0_12 pz0_13 pz0_14 pz0_18 pz0_19 pz0_22 pz0_23 pz0_29)), (z 32, aI V 100 f_6)] H := hP
  have hD : va_D A [(z 1, aI V 3075 fz1), (z 33, aI V 10 f_9), (z 34, aI V 10 f_10), (z 0, .inr (10, mo z pz0_0 pz0_5 pz0_6 pz0_7 pz0_8 pz0_9 pz0_10 pz0_11 pz0_12 pz0_13 pz0_14 pz0_18 pz0_19 pz0_22 pz0_23 pz0_29)), (z 32, aI V 100 f_6)] := hD
  obtain ⟨rk_13, hrk_13⟩ := g_11
  refine lv_if_eq (tgt := 77) hx hb dX10_woodBut_11 (by decide) (fun c_14 => ?_) (fun c_14 => ?_)
  · have b_15 : iv 0 0 r_8 := iv_q c_14 (iv_c (0 : Int32) (a := 0) (b := 0) (by decide))
    refine lv_iload_n hx hb dX10_woodBut_77 rfl (lv_at hl 0 rfl) ?_
    have hP := subP (ws' := [(z 0, .inr (10, mo z pz0_0 pz0_5 pz0_6 pz0_7 pz0_8 pz0_9 pz0_10 pz0_11 pz0_12 pz0_13 pz0_14 pz0_18 pz0_19 pz0_22 pz0_23 pz0_29)), (z 1, aI V 3075 fz1), (z 32, aI V 100 f_6), (z 33, aI V 10 f_9), (z 34, aI V 10 f_10)]) hP [3, 0, 4, 1, 2] rfl
    have hD := hD.sub (ws' := [(z 0, .inr (10, mo z pz0_0 pz0_5 pz0_6 pz0_7 pz0_8 pz0_9 pz0_10 pz0_11 pz0_12 pz0_13 pz0_14 pz0_18 pz0_19 pz0_22 pz0_23 pz0_29)), (z 1, aI V 3075 fz1), (z 32, aI V 100 f_6), (z 33, aI V 10 f_9), (z 34, aI V 10 f_10)]) [3, 0, 4, 1, 2] rfl rfl
    exact fiI hx hb hr hlk hK hP hD hS dX10_woodBut_78 (Nat.le_of_ble_eq_true rfl) (Nat.le_of_ble_eq_true rfl) (⟨f_6, f_9, f_10, tf_9, tf_10, rfl⟩)
  · have b_16 : iv 1 1 r_8 := iv_n0 c_14 br_8 (iv_c (0 : Int32) (a := 0) (b := 0) (by decide)) (by decide)
    refine lv_bipush (v := 9) hx hb dX10_woodBut_14 (by decide) ?_
    refine lv_istore_n (lv' := [(3, .int 9), (2, .int u_3), (0, .ref (z 0)), (1, .int a1)]) hx hb dX10_woodBut_16 rfl hl (by decide) rfl (fun ls hl => ?_)
    refine loopF (X := fun (n_19 : Nat) (H : Heap) (locs : List Loc) (ls : Array Slot) => ∃ (u_17 : Int32) (f_18 : Nat → Int32), (iv 0 9 u_17) ∧ (WI u_17 f_18 f_6) ∧ (0 ≤ (f_9 (u_17 : Int32).toNatClampNeg).toInt) ∧ n_19 = rk_13 (u_17 : Int32).toNatClampNeg ∧ va_P V.1 vwCl [(z 1, aI V 3075 fz1), (z 33, aI V 10 f_9), (z 34, aI V 10 f_10), (z 0, .inr (10, mo z pz0_0 pz0_5 pz0_6 pz0_7 pz0_8 pz0_9 pz0_10 pz0_11 pz0_12 pz0_13 pz0_14 pz0_18 pz0_19 pz0_22 pz0_23 pz0_29)), (z 32, aI V 100 f_18)] H ∧ va_D A [(z 1, aI V 3075 fz1), (z 33, aI V 10 f_9), (z 34, aI V 10 f_10), (z 0, .inr (10, mo z pz0_0 pz0_5 pz0_6 pz0_7 pz0_8 pz0_9 pz0_10 pz0_11 pz0_12 pz0_13 pz0_14 pz0_18 pz0_19 pz0_22 pz0_23 pz0_29)), (z 32, aI V 100 f_18)] ∧ va_S A s.heap H locs ∧ lv_has ls 4 [(3, .int u_17), (2, .int u_3), (0, .ref (z 0)), (1, .int a1)]) (g := fun ls => F0 m 17 ls []) (fun n_19 H locs ls hX ihn_19 => ?_) _ ⟨9, f_6, (iv_c (9 : Int32) (by decide)), (WI_0 (by decide)), (g_12 (iv_eqp b_16 (iv_c (1 : Int32) (by decide)))), rfl, hP, hD, hS, lv_sub hl [0, 1, 2, 3] rfl⟩
    obtain ⟨u_17, f_18, bu_17, inn_19_0, inn_19_1, en_19, hP, hD, hS, hl⟩ := hX
    refine lv_iload_n hx hb dX10_woodBut_17 rfl (lv_at hl 0 rfl) ?_
    refine lv_if_eq (tgt := 71) hx hb dX10_woodBut_18 (by decide) (fun c_20 => ?_) (fun c_20 => ?_)
    · have b_21 : iv 0 0 u_17 := iv_q c_20 (iv_c (0 : Int32) (a := 0) (b := 0) (by decide))
      obtain ⟨x_22, ex_22⟩ : ∃ z9 : Int32, z9 = u_3 + 1 := ⟨_, rfl⟩
      refine lv_iinc (v := x_22) (lv' := [(2, .int x_22), (3, .int u_17), (0, .ref (z 0)), (1, .int a1)]) hx hb dX10_woodBut_71 hl (k := 1) rfl (by rw [ex_22]; rfl) (by decide) rfl (fun ls hl => ?_)
      refine lv_goto (tgt := 7) hx hb dX10_woodBut_74 (by decide) ?_
      have hP := subP (ws' := [(z 33, aI V 10 f_9), (z 34, aI V 10 f_10), (z 0, .inr (10, mo z pz0_0 pz0_5 pz0_6 pz0_7 pz0_8 pz0_9 pz0_10 pz0_11 pz0_12 pz0_13 pz0_14 pz0_18 pz0_19 pz0_22 pz0_23 pz0_29)), (z 1, aI V 3075 fz1), (z 32, aI V 100 f_18)]) hP [1, 2, 3, 0, 4] rfl
      have hD := hD.sub (ws' := [(z 33, aI V 10 f_9), (z 34, aI V 10 f_10), (z 0, .inr (10, mo z pz0_0 pz0_5 pz0_6 pz0_7 pz0_8 pz0_9 pz0_10 pz0_11 pz0_12 pz0_13 pz0_14 pz0_18 pz0_19 pz0_22 pz0_23 pz0_29)), (z 1, aI V 3075 fz1), (z 32, aI V 100 f_18)]) [1, 2, 3, 0, 4] rfl rfl
      exact ihn_7 _ _ _ _ (by rw [en_7]; exact (WI_e inn_19_0 c_20).2) ⟨x_22, f_9, f_10, f_18, tf_9, tf_10, (WI_e inn_19_0 c_20).1, rfl, hP, hD, hS, lv_sub hl [0, 2, 3] rfl⟩
    · have b_23 : iv 1 9 u_17 := iv_n0 c_20 bu_17 (iv_c (0 : Int32) (a := 0) (b := 0) (by decide)) (by decide)
      refine lv_aload_n hx hb dX10_woodBut_21 rfl (lv_at hl 2 rfl) ?_
      refine va_get (ci := 10) (v := .ref (z 32)) (C := RX10) (T := TX10) (N := 40) hx hb hg inX10 hown hK hP 3 rfl rfl 32 (by decide) (hg _ q_6_16) (fun _ h9 => h9) rfl dX10_woodBut_22 ?_
      refine lv_bipush (v := 10) hx hb dX10_woodBut_25 (by decide) ?_
      refine lv_aload_n hx hb dX10_woodBut_27 rfl (lv_at hl 2 rfl) ?_
      refine va_get (ci := 10) (v := .ref (z 33)) (C := RX10) (T := TX10) (N := 40) hx hb hg inX10 hown hK hP 3 rfl rfl 33 (by decide) (hg _ q_6_17) (fun _ h9 => h9) rfl dX10_woodBut_28 ?_
      refine lv_iload_n hx hb dX10_woodBut_31 rfl (lv_at hl 0 rfl) ?_
      refine va_iald hx hb hK hP 1 0 rfl rfl (iv_in b_23 (by decide)) dX10_woodBut_32 ?_
      refine lv_topi (fun x_24 ex_24 => ?_)
      have bx_24 : iv (-1) 9 x_24 := by rw [ex_24]; exact tf_9 _
      have b_25 : iv 0 9 x_24 := by have q9 := inn_19_1; have q8 := bx_24; rw [← ex_24] at q9; unfold iv at *; omega
      refine lv_imul hx hb dX10_woodBut_33 ?_
      refine lv_topi (fun x_26 ex_26 => ?_)
      have bx_26 : iv 0 90 x_26 := by rw [ex_26]; exact iv_cmul (iv_c (10 : Int32) (a := 10) (b := 10) (by decide)) b_25 (by decide)
      refine lv_iload_n hx hb dX10_woodBut_34 rfl (lv_at hl 0 rfl) ?_
      refine lv_iadd hx hb dX10_woodBut_35 ?_
      refine lv_topi (fun x_27 ex_27 => ?_)
      have bx_27 : iv 1 99 x_27 := by rw [ex_27]; exact iv_add bx_26 b_23 (by decide)
      refine lv_dup2_11 hx hb dX10_woodBut_36 rfl rfl ?_
      refine va_iald hx hb hK hP 4 0 rfl rfl (iv_in bx_27 (by decide)) dX10_woodBut_37 ?_
      refine lv_topi (fun x_28 ex_28 => ?_)
      refine lv_iconst (v := 1) hx hb dX10_woodBut_38 (by decide) ?_
      refine lv_isub hx hb dX10_woodBut_39 ?_
      refine lv_topi (fun x_29 ex_29 => ?_)
      refine va_iast hx hb hK hP hD hS 4 0 rfl rfl (iv_in bx_27 (by decide)) dX10_woodBut_40 (fun H locs hP hD hS => ?_)
      obtain ⟨f_30, ef_30, hP, hD⟩ : ∃ f_30 : Nat → Int32, f_30 = (upd f_18 (x_27 : Int32).toNatClampNeg x_29) ∧ va_P V.1 vwCl [(z 1, aI V 3075 fz1), (z 33, aI V 10 f_9), (z 34, aI V 10 f_10), (z 0, .inr (10, mo z pz0_0 pz0_5 pz0_6 pz0_7 pz0_8 pz0_9 pz0_10 pz0_11 pz0_12 pz0_13 pz0_14 pz0_18 pz0_19 pz0_22 pz0_23 pz0_29)), (z 32, aI V 100 f_30)] H ∧ va_D A [(z 1, aI V 3075 fz1), (z 33, aI V 10 f_9), (z 34, aI V 10 f_10), (z 0, .inr (10, mo z pz0_0 pz0_5 pz0_6 pz0_7 pz0_8 pz0_9 pz0_10 pz0_11 pz0_12 pz0_13 pz0_14 pz0_18 pz0_19 pz0_22 pz0_23 pz0_29)), (z 32, aI V 100 f_30)] := ⟨_, rfl, hP, hD⟩
      refine lv_aload_n hx hb dX10_woodBut_41 rfl (lv_at hl 2 rfl) ?_
      refine va_get (ci := 10) (v := .ref (z 32)) (C := RX10) (T := TX10) (N := 40) hx hb hg inX10 hown hK hP 3 rfl rfl 32 (by decide) (hg _ q_6_16) (fun _ h9 => h9) rfl dX10_woodBut_42 ?_
      refine lv_bipush (v := 10) hx hb dX10_woodBut_45 (by decide) ?_
      refine lv_iload_n hx hb dX10_woodBut_47 rfl (lv_at hl 0 rfl) ?_
      refine lv_imul hx hb dX10_woodBut_48 ?_
      refine lv_topi (fun x_31 ex_31 => ?_)
      have bx_31 : iv 10 90 x_31 := by rw [ex_31]; exact iv_cmul (iv_c (10 : Int32) (a := 10) (b := 10) (by decide)) b_23 (by decide)
      refine lv_aload_n hx hb dX10_woodBut_49 rfl (lv_at hl 2 rfl) ?_
      refine va_get (ci := 10) (v := .ref (z 33)) (C := RX10) (T := TX10) (N := 40) hx hb hg inX10 hown hK hP 3 rfl rfl 33 (by decide) (hg _ q_6_17) (fun _ h9 => h9) rfl dX10_woodBut_50 ?_
      refine lv_iload_n hx hb dX10_woodBut_53 rfl (lv_at hl 0 rfl) ?_
      refine va_iald hx hb hK hP 1 0 rfl rfl (iv_in b_23 (by decide)) dX10_woodBut_54 ?_
      refine tpi (y := x_24) ex_24.symm ?_
      refine lv_iadd hx hb dX10_woodBut_55 ?_
      refine lv_topi (fun x_32 ex_32 => ?_)
      have bx_32 : iv 10 99 x_32 := by rw [ex_32]; exact iv_add bx_31 b_25 (by decide)
      refine lv_dup2_11 hx hb dX10_woodBut_56 rfl rfl ?_
      refine va_iald hx hb hK hP 4 0 rfl rfl (iv_in bx_32 (by decide)) dX10_woodBut_57 ?_
      refine lv_topi (fun x_33 ex_33 => ?_)
      refine lv_iconst (v := 1) hx hb dX10_woodBut_58 (by decide) ?_
      refine lv_iadd hx hb dX10_woodBut_59 ?_
      refine lv_topi (fun x_34 ex_34 => ?_)
      refine va_iast hx hb hK hP hD hS 4 0 rfl rfl (iv_in bx_32 (by decide)) dX10_woodBut_60 (fun H locs hP hD hS => ?_)
      obtain ⟨f_35, ef_35, hP, hD⟩ : ∃ f_35 : Nat → Int32, f_35 = (upd f_30 (x_32 : Int32).toNatClampNeg x_34) ∧ va_P V.1 vwCl [(z 1, aI V 3075 fz1), (z 33, aI V 10 f_9), (z 34, aI V 10 f_10), (z 0, .inr (10, mo z pz0_0 pz0_5 pz0_6 pz0_7 pz0_8 pz0_9 pz0_10 pz0_11 pz0_12 pz0_13 pz0_14 pz0_18 pz0_19 pz0_22 pz0_23 pz0_29)), (z 32, aI V 100 f_35)] H ∧ va_D A [(z 1, aI V 3075 fz1), (z 33, aI V 10 f_9), (z 34, aI V 10 f_10), (z 0, .inr (10, mo z pz0_0 pz0_5 pz0_6 pz0_7 pz0_8 pz0_9 pz0_10 pz0_11 pz0_12 pz0_13 pz0_14 pz0_18 pz0_19 pz0_22 pz0_23 pz0_29)), (z 32, aI V 100 f_35)] := ⟨_, rfl, hP, hD⟩
      refine lv_aload_n hx hb dX10_woodBut_61 rfl (lv_at hl 2 rfl) ?_
      refine va_get (ci := 10) (v := .ref (z 33)) (C := RX10) (T := TX10) (N := 40) hx hb hg inX10 hown hK hP 3 rfl rfl 33 (by decide) (hg _ q_6_17) (fun _ h9 => h9) rfl dX10_woodBut_62 ?_
      refine lv_iload_n hx hb dX10_woodBut_65 rfl (lv_at hl 0 rfl) ?_
      refine va_iald hx hb hK hP 1 0 rfl rfl (iv_in b_23 (by decide)) dX10_woodBut_66 ?_
      refine tpi (y := x_24) ex_24.symm ?_
      refine lv_istore_n (lv' := [(3, .int x_24), (2, .int u_3), (0, .ref (z 0)), (1, .int a1)]) hx hb dX10_woodBut_67 rfl hl (by decide) rfl (fun ls hl => ?_)
      refine lv_goto (tgt := 17) hx hb dX10_woodBut_68 (by decide) ?_
      exact ihn_19 _ _ _ _ (by rw [en_19]; have q9 := (hrk_13 (u_17 : Int32).toNatClampNeg (by have q9 := b_23; have q8 := clampNat (x := u_17) (by unfold iv at q9; omega); unfold iv at q9; omega) inn_19_1 (by have q9 := b_23; have q8 := clampNat (x := u_17) (by unfold iv at q9; omega); unfold iv at q9; omega)).1; rw [← ex_24] at q9; exact q9) ⟨x_24, f_35, b_25, (WI_s (rk := rk_13) inn_19_0 inn_7_0 (iv_w b_23 (by decide)) hrk_13 inn_19_1 ex_24 (iv_w b_25 (by decide)) ex_26 ex_27 ex_28 ex_29 ef_30 ex_31 ex_32 ef_35), (by have q9 := (hrk_13 (u_17 : Int32).toNatClampNeg (by have q9 := b_23; have q8 := clampNat (x := u_17) (by unfold iv at q9; omega); unfold iv at q9; omega) inn_19_1 (by have q9 := b_23; have q8 := clampNat (x := u_17) (by unfold iv at q9; omega); unfold iv at q9; omega)).2.2.1; rw [← ex_24] at q9; exact q9), rfl, hP, hD, hS, lv_sub hl [0, 1, 2, 3] rfl⟩
theorem dX10_wood_0 : decode cX10_wood 0 = .ok (.aload_n 0, 1) := by decide +kernel
theorem dX10_wood_1 : decode cX10_wood 1 = .ok (.iconst 0, 1) := by decide +kernel
theorem dX10_wood_2 : decode cX10_wood 2 = .ok (.putfield 1, 3) := by decide +kernel
theorem dX10_wood_5 : decode cX10_wood 5 = .ok (.aload_n 0, 1) := by decide +kernel
theorem dX10_wood_6 : decode cX10_wood 6 = .ok (.iconst (-1), 1) := by decide +kernel
theorem q_8_34 : Cond.code yX10_woodBut prog_12_method_104_code 4 (some FieldType.int) ∈ gw := gw_8 (i := 34) (rfl) rfl
theorem q_8_33 : Cond.instanceMethod yX10_woodBut ∈ gw := gw_8 (i := 33) (by decide +kernel) rfl
theorem q_s_114 : Cond.selects "BeaconDelayModel" yX10_woodBut yX10_woodBut ∈ gw := gw_s (i := 114) (by decide +kernel) rfl
theorem mt_X10_woodBut : MtV yX10_woodBut cX10_woodBut 4 (some .int) 1 := ⟨⟨q_8_34, q_1_9, by decide +kernel, by decide +kernel, by decide +kernel⟩, q_8_33, q_s_114⟩
theorem q_8_31 : Cond.methodLink "BeaconDelayModel" 414 yX10_woodBut ∈ gw := gw_8 (i := 31) (by decide +kernel) rfl
theorem dX10_wood_7 : decode cX10_wood 7 = .ok (.invokevirtual 414, 3) := by decide +kernel
theorem dX10_wood_10 : decode cX10_wood 10 = .ok (.ireturn, 1) := by decide +kernel
set_option maxHeartbeats 4000000 in
set_option maxRecDepth 100000 in
theorem k_X10_wood_0 (l : Launch) (V : GV) (z : Nat → Nat) (pz0_0 : Int32) (pz0_5 : Int32) (pz0_6 : Int32) (pz0_7 : Int32) (pz0_8 : Int32) (pz0_9 : Int32) (pz0_10 : Int32) (pz0_11 : Int32) (pz0_12 : Int32) (pz0_13 : Int32) (pz0_14 : Int32) (pz0_18 : Int32) (pz0_19 : Int32) (pz0_22 : Int32) (pz0_23 : Int32) (pz0_29 : Int32) (fz1 : Nat → Int32) (fz32 : Nat → Int32) (fz33 : Nat → Int32) (fz34 : Nat → Int32) (bpz0_5 : iv 0 900 pz0_5) (bpz0_6 : iv 0 900 pz0_6) (bpz0_7 : iv 0 900 pz0_7) (bpz0_8 : iv 0 900 pz0_8) (bpz0_10 : iv 0 999 pz0_10) (bpz0_11 : iv 0 4 pz0_11) (bpz0_12 : iv 0 900 pz0_12) (bpz0_13 : iv 0 4 pz0_13) (bpz0_14 : iv (-1) 900 pz0_14) (bpz0_18 : iv 0 2 pz0_18) (bpz0_22 : iv 0 9999 pz0_22) (bpz0_29 : iv 0 10000 pz0_29) (tfz1 : ivT tA fz1) (tfz33 : ∀ j, iv (-1) 9 (fz33 j)) (tfz34 : ∀ j, iv 0 9 (fz34 j)) : Ct l V yX10_wood (.code yX10_wood cX10_wood 1 (some .int)) 3 [.ref (z 0)] [(z 0, .inr (10, mo z pz0_0 pz0_5 pz0_6 pz0_7 pz0_8 pz0_9 pz0_10 pz0_11 pz0_12 pz0_13 pz0_14 pz0_18 pz0_19 pz0_22 pz0_23 pz0_29)), (z 1, aI V 3075 fz1), (z 32, aI V 100 fz32), (z 33, aI V 10 fz33), (z 34, aI V 10 fz34)] 0 0 (QI V (fun (r : Int32) (w : va_W) => ∃ (v0 : Int32) (g1 : Nat → Int32) (g2 : Nat → Int32) (g3 : Nat → Int32), (∀ j, iv (-1) 9 (g2 j)) ∧ (∀ j, iv 0 9 (g3 j)) ∧ w = [(z 0, .inr (10, mo z v0 pz0_5 pz0_6 pz0_7 pz0_8 pz0_9 pz0_10 pz0_11 pz0_12 pz0_13 pz0_14 pz0_18 pz0_19 pz0_22 pz0_23 pz0_29)), (z 1, aI V 3075 fz1), (z 32, aI V 100 g1), (z 33, aI V 10 g2), (z 34, aI V 10 g3)])) := by
  refine Ct.of (by decide) (Nat.le_of_ble_eq_true rfl) (fun p e s m below meth c A ls hx hb hr hml hown hlk hnm hg hP hK hD hE hA hS hl => ?_)
  have hl : lv_has ls 1 [(0, .ref (z 0))] := hl
  refine lv_aload_n hx hb dX10_wood_0 rfl (lv_at hl 0 rfl) ?_
  refine lv_iconst (v := 0) hx hb dX10_wood_1 (by decide) ?_
  refine va_put (ci := 10) (v := .int 0) (ty := .int) (C := RX10) (T := TX10) (N := 40) hx hb hg inX10 tyX10 tyX10_ok nmX10 hown hK hP hD hS 0 rfl rfl 0 (by decide) (hg _ q_5_224) (fun _ h9 => h9) rfl (by decide +kernel) rfl rfl (Nat.le_of_ble_eq_true rfl) dX10_wood_2 (fun H locs hP hD hS => ?_)
  have hP : va_P V.1 vwCl [(z 0, .inr (10, mo z 0 pz0_5 pz0_6 pz0_7 pz0_8 pz0_9 pz0_10 pz0_11 pz0_12 pz0_13 pz0_14 pz0_18 pz0_19 pz0_22 pz0_23 pz0_29)), (z 1, aI V 3075 fz1), (z 32, aI V 100 fz32), (z 33, aI V 10 fz33), (z 34, aI V 10 fz34)] H := hP
  have hD : va_D A [(z 0, .inr (10, mo z 0 pz0_5 pz0_6 pz0_7 pz0_8 pz0_9 pz0_10 pz0_11 pz0_12 pz0_13 pz0_14 pz0_18 pz0_19 pz0_22 pz0_23 pz0_29)), (z 1, aI V 3075 fz1), (z 32, aI V 100 fz32), (z 33, aI V 10 fz33), (z 34, aI V 10 fz34)] := hD
  refine lv_aload_n hx hb dX10_wood_5 rfl (lv_at hl 0 rfl) ?_
  refine lv_iconst (v := (-1)) hx hb dX10_wood_6 (by decide) ?_
  refine jnI (wr := []) (rnV (rest := []) ⟨hx, hb, hml, hown, hg⟩ (k_X10_woodBut_0 l V z (-1) 0 pz0_5 pz0_6 pz0_7 pz0_8 pz0_9 pz0_10 pz0_11 pz0_12 pz0_13 pz0_14 pz0_18 pz0_19 pz0_22 pz0_23 pz0_29 fz1 fz32 fz33 fz34 bpz0_5 bpz0_6 bpz0_7 bpz0_8 bpz0_10 bpz0_11 bpz0_12 bpz0_13 bpz0_14 bpz0_18 bpz0_22 bpz0_29 tfz1 tfz33 tfz34) mt_X10_woodBut q_8_31 ⟨Nat.le_of_ble_eq_true rfl, Nat.le_of_ble_eq_true rfl⟩ hK hP hD hS hA hE [0, 1, 2, 3, 4] rfl rfl 0 rfl rfl rfl rfl hl.1 rfl (Nat.le_of_ble_eq_true rfl) dX10_wood_7 ⟨Nat.le_of_ble_eq_true rfl, Nat.le_of_ble_eq_true rfl⟩) hP hD hS hA [0, 1, 2, 3, 4] [] rfl rfl rfl (by decide) (fun r_1 w H locs hw hP hD hS => ?_)
  obtain ⟨f_2, f_3, f_4, tf_3, tf_4, rfl⟩ := hw
  have hP : va_P V.1 vwCl [(z 0, .inr (10, mo z 0 pz0_5 pz0_6 pz0_7 pz0_8 pz0_9 pz0_10 pz0_11 pz0_12 pz0_13 pz0_14 pz0_18 pz0_19 pz0_22 pz0_23 pz0_29)), (z 1, aI V 3075 fz1), (z 32, aI V 100 f_2), (z 33, aI V 10 f_3), (z 34, aI V 10 f_4)] H := hP
  have hD : va_D A [(z 0, .inr (10, mo z 0 pz0_5 pz0_6 pz0_7 pz0_8 pz0_9 pz0_10 pz0_11 pz0_12 pz0_13 pz0_14 pz0_18 pz0_19 pz0_22 pz0_23 pz0_29)), (z 1, aI V 3075 fz1), (z 32, aI V 100 f_2), (z 33, aI V 10 f_3), (z 34, aI V 10 f_4)] := hD
  exact fiI hx hb hr hlk hK hP hD hS dX10_wood_10 (Nat.le_of_ble_eq_true rfl) (Nat.le_of_ble_eq_true rfl) (⟨0, f_2, f_3, f_4, tf_3, tf_4, rfl⟩)
theorem dX10_needed_0 : decode cX10_needed 0 = .ok (.aload_n 0, 1) := by decide +kernel
theorem dX10_needed_1 : decode cX10_needed 1 = .ok (.iconst 0, 1) := by decide +kernel
theorem dX10_needed_2 : decode cX10_needed 2 = .ok (.putfield 1, 3) := by decide +kernel
theorem dX10_needed_5 : decode cX10_needed 5 = .ok (.aload_n 0, 1) := by decide +kernel
theorem dX10_needed_6 : decode cX10_needed 6 = .ok (.iconst (-1), 1) := by decide +kernel
theorem dX10_needed_7 : decode cX10_needed 7 = .ok (.invokevirtual 414, 3) := by decide +kernel
theorem dX10_needed_10 : decode cX10_needed 10 = .ok (.istore_n 1, 1) := by decide +kernel
theorem dX10_needed_11 : decode cX10_needed 11 = .ok (.iconst 0, 1) := by decide +kernel
theorem dX10_needed_12 : decode cX10_needed 12 = .ok (.istore_n 2, 1) := by decide +kernel
theorem dX10_needed_13 : decode cX10_needed 13 = .ok (.iconst 0, 1) := by decide +kernel
theorem dX10_needed_14 : decode cX10_needed 14 = .ok (.istore_n 3, 1) := by decide +kernel
theorem dX10_needed_15 : decode cX10_needed 15 = .ok (.iload_n 3, 1) := by decide +kernel
theorem dX10_needed_16 : decode cX10_needed 16 = .ok (.aload_n 0, 1) := by decide +kernel
theorem dX10_needed_17 : decode cX10_needed 17 = .ok (.getfield 13, 3) := by decide +kernel
theorem dX10_needed_20 : decode cX10_needed 20 = .ok (.iconst 3, 1) := by decide +kernel
theorem dX10_needed_21 : decode cX10_needed 21 = .ok (.iaload, 1) := by decide +kernel
theorem dX10_needed_22 : decode cX10_needed 22 = .ok (.if_icmp .ge 28, 3) := by decide +kernel
theorem dX10_needed_50 : decode cX10_needed 50 = .ok (.iload_n 2, 1) := by decide +kernel
theorem dX10_needed_51 : decode cX10_needed 51 = .ok (.ireturn, 1) := by decide +kernel
theorem dX10_needed_25 : decode cX10_needed 25 = .ok (.iload_n 2, 1) := by decide +kernel
theorem dX10_needed_26 : decode cX10_needed 26 = .ok (.aload_n 0, 1) := by decide +kernel
theorem dX10_needed_27 : decode cX10_needed 27 = .ok (.iload_n 3, 1) := by decide +kernel
theorem dX10_needed_28 : decode cX10_needed 28 = .ok (.invokevirtual 414, 3) := by decide +kernel
theorem dX10_needed_31 : decode cX10_needed 31 = .ok (.iload_n 1, 1) := by decide +kernel
theorem dX10_needed_32 : decode cX10_needed 32 = .ok (.if_icmp .ge 9, 3) := by decide +kernel
theorem dX10_needed_41 : decode cX10_needed 41 = .ok (.iconst 0, 1) := by decide +kernel
theorem dX10_needed_42 : decode cX10_needed 42 = .ok (.ior, 1) := by decide +kernel
theorem dX10_needed_43 : decode cX10_needed 43 = .ok (.istore_n 2, 1) := by decide +kernel
theorem dX10_needed_44 : decode cX10_needed 44 = .ok (.iinc 3 1, 3) := by decide +kernel
theorem dX10_needed_47 : decode cX10_needed 47 = .ok (.goto (-32), 3) := by decide +kernel
theorem dX10_needed_35 : decode cX10_needed 35 = .ok (.iconst 1, 1) := by decide +kernel
theorem dX10_needed_36 : decode cX10_needed 36 = .ok (.iload_n 3, 1) := by decide +kernel
theorem dX10_needed_37 : decode cX10_needed 37 = .ok (.ishl, 1) := by decide +kernel
theorem dX10_needed_38 : decode cX10_needed 38 = .ok (.goto 4, 3) := by decide +kernel
set_option maxHeartbeats 4000000 in
set_option maxRecDepth 100000 in
theorem k_X10_needed_0 (l : Launch) (V : GV) (z : Nat → Nat) (pz0_0 : Int32) (pz0_5 : Int32) (pz0_6 : Int32) (pz0_7 : Int32) (pz0_8 : Int32) (pz0_9 : Int32) (pz0_10 : Int32) (pz0_11 : Int32) (pz0_12 : Int32) (pz0_13 : Int32) (pz0_14 : Int32) (pz0_18 : Int32) (pz0_19 : Int32) (pz0_22 : Int32) (pz0_23 : Int32) (pz0_29 : Int32) (fz1 : Nat → Int32) (fz32 : Nat → Int32) (fz33 : Nat → Int32) (fz34 : Nat → Int32) (bpz0_5 : iv 0 900 pz0_5) (bpz0_6 : iv 0 900 pz0_6) (bpz0_7 : iv 0 900 pz0_7) (bpz0_8 : iv 0 900 pz0_8) (bpz0_10 : iv 0 999 pz0_10) (bpz0_11 : iv 0 4 pz0_11) (bpz0_12 : iv 0 900 pz0_12) (bpz0_13 : iv 0 4 pz0_13) (bpz0_14 : iv (-1) 900 pz0_14) (bpz0_18 : iv 0 2 pz0_18) (bpz0_22 : iv 0 9999 pz0_22) (bpz0_29 : iv 0 10000 pz0_29) (tfz1 : ivT tA fz1) (tfz33 : ∀ j, iv (-1) 9 (fz33 j)) (tfz34 : ∀ j, iv 0 9 (fz34 j)) : Ct l V yX10_needed (.code yX10_needed cX10_needed 4 (some .int)) 3 [.ref (z 0)] [(z 0, .inr (10, mo z pz0_0 pz0_5 pz0_6 pz0_7 pz0_8 pz0_9 pz0_10 pz0_11 pz0_12 pz0_13 pz0_14 pz0_18 pz0_19 pz0_22 pz0_23 pz0_29)), (z 1, aI V 3075 fz1), (z 32, aI V 100 fz32), (z 33, aI V 10 fz33), (z 34, aI V 10 fz34)] 0 0 (QI V (fun (r : Int32) (w : va_W) => ∃ (v0 : Int32) (g1 : Nat → Int32) (g2 : Nat → Int32) (g3 : Nat → Int32), (∀ j, iv (-1) 9 (g2 j)) ∧ (∀ j, iv 0 9 (g3 j)) ∧ w = [(z 0, .inr (10, mo z v0 pz0_5 pz0_6 pz0_7 pz0_8 pz0_9 pz0_10 pz0_11 pz0_12 pz0_13 pz0_14 pz0_18 pz0_19 pz0_22 pz0_23 pz0_29)), (z 1, aI V 3075 fz1), (z 32, aI V 100 g1), (z 33, aI V 10 g2), (z 34, aI V 10 g3)])) := by
  refine Ct.of (by decide) (Nat.le_of_ble_eq_true rfl) (fun p e s m below meth c A ls hx hb hr hml hown hlk hnm hg hP hK hD hE hA hS hl => ?_)
  have hl : lv_has ls 4 [(0, .ref (z 0))] := hl
  refine lv_aload_n hx hb dX10_needed_0 rfl (lv_at hl 0 rfl) ?_
  refine lv_iconst (v := 0) hx hb dX10_needed_1 (by decide) ?_
  refine va_put (ci := 10) (v := .int 0) (ty := .int) (C := RX10) (T := TX10) (N := 40) hx hb hg inX10 tyX10 tyX10_ok nmX10 hown hK hP hD hS 0 rfl rfl 0 (by decide) (hg _ q_5_224) (fun _ h9 => h9) rfl (by decide +kernel) rfl rfl (Nat.le_of_ble_eq_true rfl) dX10_needed_2 (fun H locs hP hD hS => ?_)
  have hP : va_P V.1 vwCl [(z 0, .inr (10, mo z 0 pz0_5 pz0_6 pz0_7 pz0_8 pz0_9 pz0_10 pz0_11 pz0_12 pz0_13 pz0_14 pz0_18 pz0_19 pz0_22 pz0_23 pz0_29)), (z 1, aI V 3075 fz1), (z 32, aI V 100 fz32), (z 33, aI V 10 fz33), (z 34, aI V 10 fz34)] H := hP
  have hD : va_D A [(z 0, .inr (10, mo z 0 pz0_5 pz0_6 pz0_7 pz0_8 pz0_9 pz0_10 pz0_11 pz0_12 pz0_13 pz0_14 pz0_18 pz0_19 pz0_22 pz0_23 pz0_29)), (z 1, aI V 3075 fz1), (z 32, aI V 100 fz32), (z 33, aI V 10 fz33), (z 34, aI V 10 fz34)] := hD
  refine lv_aload_n hx hb dX10_needed_5 rfl (lv_at hl 0 rfl) ?_
  refine lv_iconst (v := (-1)) hx hb dX10_needed_6 (by decide) ?_
  refine jnI (wr := []) (rnV (rest := []) ⟨hx, hb, hml, hown, hg⟩ (k_X10_woodBut_0 l V z (-1) 0 pz0_5 pz0_6 pz0_7 pz0_8 pz0_9 pz0_10 pz0_11 pz0_12 pz0_13 pz0_14 pz0_18 pz0_19 pz0_22 pz0_23 pz0_29 fz1 fz32 fz33 fz34 bpz0_5 bpz0_6 bpz0_7 bpz0_8 bpz0_10 bpz0_11 bpz0_12 bpz0_13 bpz0_14 bpz0_18 bpz0_22 bpz0_29 tfz1 tfz33 tfz34) mt_X10_woodBut q_8_31 ⟨Nat.le_of_ble_eq_true rfl, Nat.le_of_ble_eq_true rfl⟩ hK hP hD hS hA hE [0, 1, 2, 3, 4] rfl rfl 0 rfl rfl rfl rfl hl.1 rfl (Nat.le_of_ble_eq_true rfl) dX10_needed_7 ⟨Nat.le_of_ble_eq_true rfl, Nat.le_of_ble_eq_true rfl⟩) hP hD hS hA [0, 1, 2, 3, 4] [] rfl rfl rfl (by decide) (fun r_1 w H locs hw hP hD hS => ?_)
  obtain ⟨f_2, f_3, f_4, tf_3, tf_4, rfl⟩ := hw
  have hP : va_P V.1 vwCl [(z 0, .inr (10, mo z 0 pz0_5 pz0_6 pz0_7 pz0_8 pz0_9 pz0_10 pz0_11 pz0_12 pz0_13 pz0_14 pz0_18 pz0_19 pz0_22 pz0_23 pz0_29)), (z 1, aI V 3075 fz1), (z 32, aI V 100 f_2), (z 33, aI V 10 f_3), (z 34, aI V 10 f_4)] H := hP
  have hD : va_D A [(z 0, .inr (10, mo z 0 pz0_5 pz0_6 pz0_7 pz0_8 pz0_9 pz0_10 pz0_11 pz0_12 pz0_13 pz0_14 pz0_18 pz0_19 pz0_22 pz0_23 pz0_29)), (z 1, aI V 3075 fz1), (z 32, aI V 100 f_2), (z 33, aI V 10 f_3), (z 34, aI V 10 f_4)] := hD
  refine lv_istore_n (lv' := [(1, .int r_1), (0, .ref (z 0))]) hx hb dX10_needed_10 rfl hl (by decide) rfl (fun ls hl => ?_)
  refine lv_iconst (v := 0) hx hb dX10_needed_11 (by decide) ?_
  refine lv_istore_n (lv' := [(2, .int 0), (1, .int r_1), (0, .ref (z 0))]) hx hb dX10_needed_12 rfl hl (by decide) rfl (fun ls hl => ?_)
  refine lv_iconst (v := 0) hx hb dX10_needed_13 (by decide) ?_
  refine lv_istore_n (lv' := [(3, .int 0), (2, .int 0), (1, .int r_1), (0, .ref (z 0))]) hx hb dX10_needed_14 rfl hl (by decide) rfl (fun ls hl => ?_)
  refine loopF (X := fun (n_10 : Nat) (H : Heap) (locs : List Loc) (ls : Array Slot) => ∃ (u_5 : Int32) (u_6 : Int32) (f_7 : Nat → Int32) (f_8 : Nat → Int32) (f_9 : Nat → Int32), (iv 0 2147483647 u_5) ∧ (∀ j, iv (-1) 9 (f_8 j)) ∧ (∀ j, iv 0 9 (f_9 j)) ∧ n_10 = (2147483647 - (u_5 : Int32).toInt).toNat ∧ va_P V.1 vwCl [(z 0, .inr (10, mo z 0 pz0_5 pz0_6 pz0_7 pz0_8 pz0_9 pz0_10 pz0_11 pz0_12 pz0_13 pz0_14 pz0_18 pz0_19 pz0_22 pz0_23 pz0_29)), (z 1, aI V 3075 fz1), (z 32, aI V 100 f_7), (z 33, aI V 10 f_8), (z 34, aI V 10 f_9)] H ∧ va_D A [(z 0, .inr (10, mo z 0 pz0_5 pz0_6 pz0_7 pz0_8 pz0_9 pz0_10 pz0_11 pz0_12 pz0_13 pz0_14 pz0_18 pz0_19 pz0_22 pz0_23 pz0_29)), (z 1, aI V 3075 fz1), (z 32, aI V 100 f_7), (z 33, aI V 10 f_8), (z 34, aI V 10 f_9)] ∧ va_S A s.heap H locs ∧ lv_has ls 4 [(3, .int u_5), (2, .int u_6), (1, .int r_1), (0, .ref (z 0))]) (g := fun ls => F0 m 15 ls []) (fun n_10 H locs ls hX ihn_10 => ?_) _ ⟨0, 0, f_2, f_3, f_4, (iv_c (0 : Int32) (by decide)), tf_3, tf_4, rfl, hP, hD, hS, lv_sub hl [0, 1, 2, 3] rfl⟩
  obtain ⟨u_5, u_6, f_7, f_8, f_9, bu_5, tf_8, tf_9, en_10, hP, hD, hS, hl⟩ := hX
  refine lv_iload_n hx hb dX10_needed_15 rfl (lv_at hl 0 rfl) ?_
  refine lv_aload_n hx hb dX10_needed_16 rfl (lv_at hl 3 rfl) ?_
  refine va_get (ci := 10) (v := .ref (z 1)) (C := RX10) (T := TX10) (N := 40) hx hb hg inX10 hown hK hP 0 rfl rfl 1 (by decide) (hg _ q_5_225) (fun _ h9 => h9) rfl dX10_needed_17 ?_
  refine lv_iconst (v := 3) hx hb dX10_needed_20 (by decide) ?_
  refine va_iald hx hb hK hP 1 0 rfl rfl (vin (by decide +kernel)) dX10_needed_21 ?_
  refine lv_topi (fun x_11 ex_11 => ?_)
  have bx_11 : iv 0 8 x_11 := by rw [ex_11]; exact rdT (a := 3) (n := 1) tfz1 (iv_c (3 : Int32) (a := 3) (b := 3) (by decide)) (by decide) (by decide +kernel)
  refine lv_icmp_ge (tgt := 50) hx hb dX10_needed_22 (by decide) (fun c_12 => ?_) (fun c_12 => ?_)
  · refine lv_iload_n hx hb dX10_needed_50 rfl (lv_at hl 1 rfl) ?_
    exact fiI hx hb hr hlk hK hP hD hS dX10_needed_51 (Nat.le_of_ble_eq_true rfl) (Nat.le_of_ble_eq_true rfl) (⟨0, f_7, f_8, f_9, tf_8, tf_9, rfl⟩)
  · have b_13 : iv 0 7 u_5 := iv_l1 (Int32.not_le.mp c_12) bu_5 bx_11 (by decide)
    have b_14 : iv 1 8 x_11 := iv_l2 (Int32.not_le.mp c_12) bu_5 bx_11 (by decide)
    refine lv_iload_n hx hb dX10_needed_25 rfl (lv_at hl 1 rfl) ?_
    refine lv_aload_n hx hb dX10_needed_26 rfl (lv_at hl 3 rfl) ?_
    refine lv_iload_n hx hb dX10_needed_27 rfl (lv_at hl 0 rfl) ?_
    refine jnI (wr := []) (rnV (rest := [.int u_6]) ⟨hx, hb, hml, hown, hg⟩ (k_X10_woodBut_0 l V z u_5 0 pz0_5 pz0_6 pz0_7 pz0_8 pz0_9 pz0_10 pz0_11 pz0_12 pz0_13 pz0_14 pz0_18 pz0_19 pz0_22 pz0_23 pz0_29 fz1 f_7 f_8 f_9 bpz0_5 bpz0_6 bpz0_7 bpz0_8 bpz0_10 bpz0_11 bpz0_12 bpz0_13 bpz0_14 bpz0_18 bpz0_22 bpz0_29 tfz1 tf_8 tf_9) mt_X10_woodBut q_8_31 ⟨Nat.le_of_ble_eq_true rfl, Nat.le_of_ble_eq_true rfl⟩ hK hP hD hS hA hE [0, 1, 2, 3, 4] rfl rfl 0 rfl rfl rfl rfl hl.1 rfl (Nat.le_of_ble_eq_true rfl) dX10_needed_28 ⟨Nat.le_of_ble_eq_true rfl, Nat.le_of_ble_eq_true rfl⟩) hP hD hS hA [0, 1, 2, 3, 4] [] rfl rfl rfl (by decide) (fun r_15 w H locs hw hP hD hS => ?_)
    obtain ⟨f_16, f_17, f_18, tf_17, tf_18, rfl⟩ := hw
    have hP : va_P V.1 vwCl [(z 0, .inr (10, mo z 0 pz0_5 pz0_6 pz0_7 pz0_8 pz0_9 pz0_10 pz0_11 pz0_12 pz0_13 pz0_14 pz0_18 pz0_19 pz0_22 pz0_23 pz0_29)), (z 1, aI V 3075 fz1), (z 32, aI V 100 f_16), (z 33, aI V 10 f_17), (z 34, aI V 10 f_18)] H := hP
    have hD : va_D A [(z 0, .inr (10, mo z 0 pz0_5 pz0_6 pz0_7 pz0_8 pz0_9 pz0_10 pz0_11 pz0_12 pz0_13 pz0_14 pz0_18 pz0_19 pz0_22 pz0_23 pz0_29)), (z 1, aI V 3075 fz1), (z 32, aI V 100 f_16), (z 33, aI V 10 f_17), (z 34, aI V 10 f_18)] := hD
    refine lv_iload_n hx hb dX10_needed_31 rfl (lv_at hl 2 rfl) ?_
    refine lv_icmp_ge (tgt := 41) hx hb dX10_needed_32 (by decide) (fun c_19 => ?_) (fun c_19 => ?_)
    · refine lv_iconst (v := 0) hx hb dX10_needed_41 (by decide) ?_
      refine lv_ior hx hb dX10_needed_42 ?_
      refine lv_topi (fun x_20 ex_20 => ?_)
      refine lv_istore_n (lv' := [(2, .int x_20), (3, .int u_5), (1, .int r_1), (0, .ref (z 0))]) hx hb dX10_needed_43 rfl hl (by decide) rfl (fun ls hl => ?_)
      obtain ⟨x_21, ex_21⟩ : ∃ z9 : Int32, z9 = u_5 + 1 := ⟨_, rfl⟩
      have bx_21 : iv 1 8 x_21 := by rw [ex_21]; exact iv_add b_13 (iv_c (1 : Int32) (a := 1) (b := 1) (by decide)) (by decide)
      refine lv_iinc (v := x_21) (lv' := [(3, .int x_21), (2, .int x_20), (1, .int r_1), (0, .ref (z 0))]) hx hb dX10_needed_44 hl (k := 1) rfl (by rw [ex_21]; rfl) (by decide) rfl (fun ls hl => ?_)
      refine lv_goto (tgt := 15) hx hb dX10_needed_47 (by decide) ?_
      exact ihn_10 _ _ _ _ (by rw [en_10, ex_21]; exact mu_up b_13 (by decide)) ⟨x_21, x_20, f_16, f_17, f_18, (iv_w bx_21 (by decide)), tf_17, tf_18, rfl, hP, hD, hS, lv_sub hl [0, 1, 2, 3] rfl⟩
    · have b_22 : iv (-2147483648) 2147483646 r_15 := iv_l1 (Int32.not_le.mp c_19) (iv_top r_15) (iv_top r_1) (by decide)
      have b_23 : iv (-2147483647) 2147483647 r_1 := iv_l2 (Int32.not_le.mp c_19) (iv_top r_15) (iv_top r_1) (by decide)
      refine lv_iconst (v := 1) hx hb dX10_needed_35 (by decide) ?_
      refine lv_iload_n hx hb dX10_needed_36 rfl (lv_at hl 0 rfl) ?_
      refine lv_ishl hx hb dX10_needed_37 ?_
      refine lv_topi (fun x_24 ex_24 => ?_)
      refine lv_goto (tgt := 42) hx hb dX10_needed_38 (by decide) ?_
      refine lv_ior hx hb dX10_needed_42 ?_
      refine lv_topi (fun x_25 ex_25 => ?_)
      refine lv_istore_n (lv' := [(2, .int x_25), (3, .int u_5), (1, .int r_1), (0, .ref (z 0))]) hx hb dX10_needed_43 rfl hl (by decide) rfl (fun ls hl => ?_)
      obtain ⟨x_26, ex_26⟩ : ∃ z9 : Int32, z9 = u_5 + 1 := ⟨_, rfl⟩
      have bx_26 : iv 1 8 x_26 := by rw [ex_26]; exact iv_add b_13 (iv_c (1 : Int32) (a := 1) (b := 1) (by decide)) (by decide)
      refine lv_iinc (v := x_26) (lv' := [(3, .int x_26), (2, .int x_25), (1, .int r_1), (0, .ref (z 0))]) hx hb dX10_needed_44 hl (k := 1) rfl (by rw [ex_26]; rfl) (by decide) rfl (fun ls hl => ?_)
      refine lv_goto (tgt := 15) hx hb dX10_needed_47 (by decide) ?_
      exact ihn_10 _ _ _ _ (by rw [en_10, ex_26]; exact mu_up b_13 (by decide)) ⟨x_26, x_25, f_16, f_17, f_18, (iv_w bx_26 (by decide)), tf_17, tf_18, rfl, hP, hD, hS, lv_sub hl [0, 1, 2, 3] rfl⟩
theorem dX10_noTold_0 : decode cX10_noTold 0 = .ok (.iload_n 1, 1) := by decide +kernel
theorem dX10_noTold_1 : decode cX10_noTold 1 = .ok (.i2l, 1) := by decide +kernel
theorem dX10_noTold_2 : decode cX10_noTold 2 = .ok (.lconst 0, 1) := by decide +kernel
theorem dX10_noTold_3 : decode cX10_noTold 3 = .ok (.ldc2_w 315, 3) := by decide +kernel
theorem dX10_noTold_6 : decode cX10_noTold 6 = .ok (.invokestatic 159, 3) := by decide +kernel
theorem dX10_noTold_9 : decode cX10_noTold 9 = .ok (.ifCond .eq 12, 3) := by decide +kernel
theorem dX10_noTold_21 : decode cX10_noTold 21 = .ok (.bipush (-2), 2) := by decide +kernel
theorem dX10_noTold_23 : decode cX10_noTold 23 = .ok (.ireturn, 1) := by decide +kernel
theorem dX10_noTold_12 : decode cX10_noTold 12 = .ok (.aload_n 0, 1) := by decide +kernel
theorem dX10_noTold_13 : decode cX10_noTold 13 = .ok (.iload_n 2, 1) := by decide +kernel
theorem dX10_noTold_14 : decode cX10_noTold 14 = .ok (.i2l, 1) := by decide +kernel
theorem dX10_noTold_15 : decode cX10_noTold 15 = .ok (.invokevirtual 262, 3) := by decide +kernel
theorem dX10_noTold_18 : decode cX10_noTold 18 = .ok (.ifCond .ne 6, 3) := by decide +kernel
theorem dX10_noTold_24 : decode cX10_noTold 24 = .ok (.aload_n 0, 1) := by decide +kernel
theorem dX10_noTold_25 : decode cX10_noTold 25 = .ok (.iload_n 1, 1) := by decide +kernel
theorem dX10_noTold_26 : decode cX10_noTold 26 = .ok (.invokevirtual 317, 3) := by decide +kernel
theorem dX10_noTold_29 : decode cX10_noTold 29 = .ok (.istore 4, 2) := by decide +kernel
theorem dX10_noTold_31 : decode cX10_noTold 31 = .ok (.iload 4, 2) := by decide +kernel
theorem dX10_noTold_33 : decode cX10_noTold 33 = .ok (.ifCond .eq 6, 3) := by decide +kernel
theorem dX10_noTold_39 : decode cX10_noTold 39 = .ok (.aload_n 0, 1) := by decide +kernel
theorem dX10_noTold_40 : decode cX10_noTold 40 = .ok (.getfield 87, 3) := by decide +kernel
theorem dX10_noTold_43 : decode cX10_noTold 43 = .ok (.iload_n 1, 1) := by decide +kernel
theorem dX10_noTold_44 : decode cX10_noTold 44 = .ok (.iaload, 1) := by decide +kernel
theorem dX10_noTold_45 : decode cX10_noTold 45 = .ok (.i2l, 1) := by decide +kernel
theorem dX10_noTold_46 : decode cX10_noTold 46 = .ok (.lconst 1, 1) := by decide +kernel
theorem q_8_55 : Cond.constantLong "BeaconDelayModel" 417 (8 : Int64) ∈ gw := gw_8 (i := 55) (by decide +kernel) rfl
theorem dX10_noTold_47 : decode cX10_noTold 47 = .ok (.ldc2_w 417, 3) := by decide +kernel
theorem dX10_noTold_50 : decode cX10_noTold 50 = .ok (.invokestatic 159, 3) := by decide +kernel
theorem dX10_noTold_53 : decode cX10_noTold 53 = .ok (.ifCond .ne 6, 3) := by decide +kernel
theorem dX10_noTold_59 : decode cX10_noTold 59 = .ok (.iconst 0, 1) := by decide +kernel
theorem dX10_noTold_60 : decode cX10_noTold 60 = .ok (.istore 5, 2) := by decide +kernel
theorem dX10_noTold_62 : decode cX10_noTold 62 = .ok (.iload 5, 2) := by decide +kernel
theorem dX10_noTold_64 : decode cX10_noTold 64 = .ok (.aload_n 0, 1) := by decide +kernel
theorem dX10_noTold_65 : decode cX10_noTold 65 = .ok (.getfield 87, 3) := by decide +kernel
theorem dX10_noTold_68 : decode cX10_noTold 68 = .ok (.iload_n 1, 1) := by decide +kernel
theorem dX10_noTold_69 : decode cX10_noTold 69 = .ok (.iaload, 1) := by decide +kernel
theorem dX10_noTold_70 : decode cX10_noTold 70 = .ok (.if_icmp .ge 35, 3) := by decide +kernel
theorem dX10_noTold_105 : decode cX10_noTold 105 = .ok (.iconst 0, 1) := by decide +kernel
theorem dX10_noTold_106 : decode cX10_noTold 106 = .ok (.ireturn, 1) := by decide +kernel
theorem dX10_noTold_73 : decode cX10_noTold 73 = .ok (.aload_n 0, 1) := by decide +kernel
theorem dX10_noTold_74 : decode cX10_noTold 74 = .ok (.getfield 90, 3) := by decide +kernel
theorem dX10_noTold_77 : decode cX10_noTold 77 = .ok (.bipush 40, 2) := by decide +kernel
theorem dX10_noTold_79 : decode cX10_noTold 79 = .ok (.iload_n 1, 1) := by decide +kernel
theorem dX10_noTold_80 : decode cX10_noTold 80 = .ok (.imul, 1) := by decide +kernel
theorem dX10_noTold_81 : decode cX10_noTold 81 = .ok (.iload 5, 2) := by decide +kernel
theorem dX10_noTold_83 : decode cX10_noTold 83 = .ok (.iadd, 1) := by decide +kernel
theorem dX10_noTold_84 : decode cX10_noTold 84 = .ok (.laload, 1) := by decide +kernel
theorem dX10_noTold_85 : decode cX10_noTold 85 = .ok (.iload_n 3, 1) := by decide +kernel
theorem dX10_noTold_86 : decode cX10_noTold 86 = .ok (.i2l, 1) := by decide +kernel
theorem dX10_noTold_87 : decode cX10_noTold 87 = .ok (.ldc2_w 368, 3) := by decide +kernel
theorem dX10_noTold_90 : decode cX10_noTold 90 = .ok (.invokestatic 159, 3) := by decide +kernel
theorem dX10_noTold_93 : decode cX10_noTold 93 = .ok (.ifCond .ne 6, 3) := by decide +kernel
theorem dX10_noTold_99 : decode cX10_noTold 99 = .ok (.iinc 5 1, 3) := by decide +kernel
theorem dX10_noTold_102 : decode cX10_noTold 102 = .ok (.goto (-40), 3) := by decide +kernel
theorem dX10_noTold_96 : decode cX10_noTold 96 = .ok (.bipush (-3), 2) := by decide +kernel
theorem dX10_noTold_98 : decode cX10_noTold 98 = .ok (.ireturn, 1) := by decide +kernel
theorem dX10_noTold_56 : decode cX10_noTold 56 = .ok (.bipush (-4), 2) := by decide +kernel
theorem dX10_noTold_58 : decode cX10_noTold 58 = .ok (.ireturn, 1) := by decide +kernel
theorem dX10_noTold_36 : decode cX10_noTold 36 = .ok (.iload 4, 2) := by decide +kernel
theorem dX10_noTold_38 : decode cX10_noTold 38 = .ok (.ireturn, 1) := by decide +kernel
set_option maxHeartbeats 4000000 in
set_option maxRecDepth 100000 in
theorem k_X10_noTold_0 (l : Launch) (V : GV) (z : Nat → Nat) (a1 : Int32) (a2 : Int32) (a3 : Int32) (pz0_0 : Int32) (pz0_5 : Int32) (pz0_6 : Int32) (pz0_7 : Int32) (pz0_8 : Int32) (pz0_9 : Int32) (pz0_10 : Int32) (pz0_11 : Int32) (pz0_12 : Int32) (pz0_13 : Int32) (pz0_14 : Int32) (pz0_18 : Int32) (pz0_19 : Int32) (pz0_22 : Int32) (pz0_23 : Int32) (pz0_29 : Int32) (fz1 : Nat → Int32) (fz37 : Nat → Int32) (fz38 : Nat → Int32) (fz39 : Nat → Int64) (bpz0_5 : iv 0 900 pz0_5) (bpz0_6 : iv 0 900 pz0_6) (bpz0_7 : iv 0 900 pz0_7) (bpz0_8 : iv 0 900 pz0_8) (bpz0_10 : iv 0 999 pz0_10) (bpz0_11 : iv 0 4 pz0_11) (bpz0_12 : iv 0 900 pz0_12) (bpz0_13 : iv 0 4 pz0_13) (bpz0_14 : iv (-1) 900 pz0_14) (bpz0_18 : iv 0 2 pz0_18) (bpz0_22 : iv 0 9999 pz0_22) (bpz0_29 : iv 0 10000 pz0_29) (tfz1 : ivT tA fz1) (tfz37 : ∀ j, iv (-1) 3 (fz37 j)) (tfz38 : ∀ j, iv 0 40 (fz38 j)) : Ct l V yX10_noTold (.code yX10_noTold cX10_noTold 6 (some .int)) 3 [.ref (z 0), .int a1, .int a2, .int a3] [(z 0, .inr (10, mo z pz0_0 pz0_5 pz0_6 pz0_7 pz0_8 pz0_9 pz0_10 pz0_11 pz0_12 pz0_13 pz0_14 pz0_18 pz0_19 pz0_22 pz0_23 pz0_29)), (z 1, aI V 3075 fz1), (z 37, aI V 4 fz37), (z 38, aI V 4 fz38), (z 39, aJ V 160 fz39)] 0 0 (QI V (fun (r : Int32) (w : va_W) => iv (-6) 0 r ∧ (r = 0 → iv 1 8 (fz38 (a1 : Int32).toNatClampNeg)) ∧ (r = 0 → iv 0 3 a1) ∧ (r = 0 → iv 0 3 a2) ∧ w = [(z 0, .inr (10, mo z pz0_0 pz0_5 pz0_6 pz0_7 pz0_8 pz0_9 pz0_10 pz0_11 pz0_12 pz0_13 pz0_14 pz0_18 pz0_19 pz0_22 pz0_23 pz0_29)), (z 1, aI V 3075 fz1), (z 37, aI V 4 fz37), (z 38, aI V 4 fz38), (z 39, aJ V 160 fz39)])) := by
  refine Ct.of (by decide) (Nat.le_of_ble_eq_true rfl) (fun p e s m below meth c A ls hx hb hr hml hown hlk hnm hg hP hK hD hE hA hS hl => ?_)
  have hl : lv_has ls 6 [(0, .ref (z 0)), (1, .int a1), (2, .int a2), (3, .int a3)] := hl
  refine lv_iload_n hx hb dX10_noTold_0 rfl (lv_at hl 1 rfl) ?_
  refine lv_i2l hx hb dX10_noTold_1 rfl ?_
  refine lv_topl (fun j_1 ej_1 => ?_)
  refine lv_lconst (v := 0) hx hb dX10_noTold_2 (by decide) ?_
  refine lv_ldc2 (v := 3) hx hb hown (hg _ q_7_107) dX10_noTold_3 ?_
  refine jnI (wr := [(z 0, .inr (10, mo z pz0_0 pz0_5 pz0_6 pz0_7 pz0_8 pz0_9 pz0_10 pz0_11 pz0_12 pz0_13 pz0_14 pz0_18 pz0_19 pz0_22 pz0_23 pz0_29)), (z 1, aI V 3075 fz1), (z 37, aI V 4 fz37), (z 38, aI V 4 fz38), (z 39, aJ V 160 fz39)]) (rnS (rest := []) ⟨hx, hb, hml, hown, hg⟩ (k_X10_within_0 l V j_1 0 3) mt_X10_within q_6_114 ⟨Nat.le_of_ble_eq_true rfl, Nat.le_of_ble_eq_true rfl⟩ hK hP hD hS hA hE [] rfl rfl rfl hl.1 rfl (Nat.le_of_ble_eq_true rfl) dX10_noTold_6 ⟨Nat.le_of_ble_eq_true rfl, Nat.le_of_ble_eq_true rfl⟩) hP hD hS hA [] [0, 1, 2, 3, 4] rfl rfl rfl (by decide) (fun r_2 w H locs hw hP hD hS => ?_)
  obtain ⟨br_2, g_3, g_4, g_5, rfl⟩ := hw
  have hP : va_P V.1 vwCl [(z 0, .inr (10, mo z pz0_0 pz0_5 pz0_6 pz0_7 pz0_8 pz0_9 pz0_10 pz0_11 pz0_12 pz0_13 pz0_14 pz0_18 pz0_19 pz0_22 pz0_23 pz0_29)), (z 1, aI V 3075 fz1), (z 37, aI V 4 fz37), (z 38, aI V 4 fz38), (z 39, aJ V 160 fz39)] H := hP
  have hD : va_D A [(z 0, .inr (10, mo z pz0_0 pz0_5 pz0_6 pz0_7 pz0_8 pz0_9 pz0_10 pz0_11 pz0_12 pz0_13 pz0_14 pz0_18 pz0_19 pz0_22 pz0_23 pz0_29)), (z 1, aI V 3075 fz1), (z 37, aI V 4 fz37), (z 38, aI V 4 fz38), (z 39, aJ V 160 fz39)] := hD
  refine lv_if_eq (tgt := 21) hx hb dX10_noTold_9 (by decide) (fun c_6 => ?_) (fun c_6 => ?_)
  · have b_7 : iv 0 0 r_2 := iv_q c_6 (iv_c (0 : Int32) (a := 0) (b := 0) (by decide))
    refine lv_bipush (v := (-2)) hx hb dX10_noTold_21 (by decide) ?_
    exact fiI hx hb hr hlk hK hP hD hS dX10_noTold_23 (Nat.le_of_ble_eq_true rfl) (Nat.le_of_ble_eq_true rfl) (⟨(iv_c ((-2) : Int32) (by decide)), (fun q9 => absurd q9 (by decide)), (fun q9 => absurd q9 (by decide)), (fun q9 => absurd q9 (by decide)), rfl⟩)
  · have b_8 : iv 1 1 r_2 := iv_n0 c_6 br_2 (iv_c (0 : Int32) (a := 0) (b := 0) (by decide)) (by decide)
    have c_9 : (0 : Int64) ≤ j_1 := (g_4 (iv_eqp b_8 (iv_c (1 : Int32) (by decide))))
    have b_10 : ivL 0 9223372036854775807 j_1 := ivL_e2 c_9 (ivL_c (0 : Int64) (a := 0) (b := 0) (by decide)) (ivL_top j_1) (by decide)
    have b_11 : iv 0 2147483647 a1 := iv_cap (ivL_i ej_1 b_10) (iv_top a1) (by decide)
    have c_12 : j_1 ≤ 3 := (g_5 (iv_eqp b_8 (iv_c (1 : Int32) (by decide))))
    have b_13 : ivL 0 3 j_1 := ivL_e1 c_12 b_10 (ivL_c (3 : Int64) (a := 3) (b := 3) (by decide)) (by decide)
    have b_14 : iv 0 3 a1 := iv_cap (ivL_i ej_1 b_13) b_11 (by decide)
    refine lv_aload_n hx hb dX10_noTold_12 rfl (lv_at hl 0 rfl) ?_
    refine lv_iload_n hx hb dX10_noTold_13 rfl (lv_at hl 2 rfl) ?_
    refine lv_i2l hx hb dX10_noTold_14 rfl ?_
    refine lv_topl (fun j_15 ej_15 => ?_)
    refine jnI (wr := [(z 37, aI V 4 fz37), (z 38, aI V 4 fz38), (z 39, aJ V 160 fz39)]) (rnV (rest := []) ⟨hx, hb, hml, hown, hg⟩ (k_X10_isHill_0 l V z j_15 pz0_0 pz0_5 pz0_6 pz0_7 pz0_8 pz0_9 pz0_10 pz0_11 pz0_12 pz0_13 pz0_14 pz0_18 pz0_19 pz0_22 pz0_23 pz0_29 fz1 bpz0_5 bpz0_6 bpz0_7 bpz0_8 bpz0_10 bpz0_11 bpz0_12 bpz0_13 bpz0_14 bpz0_18 bpz0_22 bpz0_29 tfz1) mt_X10_isHill q_6_235 ⟨Nat.le_of_ble_eq_true rfl, Nat.le_of_ble_eq_true rfl⟩ hK hP hD hS hA hE [0, 1] rfl rfl 0 rfl rfl rfl rfl hl.1 rfl (Nat.le_of_ble_eq_true rfl) dX10_noTold_15 ⟨Nat.le_of_ble_eq_true rfl, Nat.le_of_ble_eq_true rfl⟩) hP hD hS hA [0, 1] [2, 3, 4] rfl rfl rfl (by decide) (fun r_16 w H locs hw hP hD hS => ?_)
    obtain ⟨br_16, g_17, rfl⟩ := hw
    have hP : va_P V.1 vwCl [(z 37, aI V 4 fz37), (z 38, aI V 4 fz38), (z 39, aJ V 160 fz39), (z 0, .inr (10, mo z pz0_0 pz0_5 pz0_6 pz0_7 pz0_8 pz0_9 pz0_10 pz0_11 pz0_12 pz0_13 pz0_14 pz0_18 pz0_19 pz0_22 pz0_23 pz0_29)), (z 1, aI V 3075 fz1)] H := hP
    have hD : va_D A [(z 37, aI V 4 fz37), (z 38, aI V 4 fz38), (z 39, aJ V 160 fz39), (z 0, .inr (10, mo z pz0_0 pz0_5 pz0_6 pz0_7 pz0_8 pz0_9 pz0_10 pz0_11 pz0_12 pz0_13 pz0_14 pz0_18 pz0_19 pz0_22 pz0_23 pz0_29)), (z 1, aI V 3075 fz1)] := hD
    refine lv_if_ne (tgt := 24) hx hb dX10_noTold_18 (by decide) (fun c_18 => ?_) (fun c_18 => ?_)
    · have b_19 : iv 1 1 r_16 := iv_n0 c_18 br_16 (iv_c (0 : Int32) (a := 0) (b := 0) (by decide)) (by decide)
      have b_20 : ivL 0 3 j_15 := ivL_cap (g_17 (iv_eqp b_19 (iv_c (1 : Int32) (by decide)))) (ivL_top j_15) (by decide)
      have b_21 : iv 0 3 a2 := iv_cap (ivL_i ej_15 b_20) (iv_top a2) (by decide)
      refine lv_aload_n hx hb dX10_noTold_24 rfl (lv_at hl 0 rfl) ?_
      refine lv_iload_n hx hb dX10_noTold_25 rfl (lv_at hl 1 rfl) ?_
      refine jnI (wr := [(z 38, aI V 4 fz38), (z 39, aJ V 160 fz39), (z 1, aI V 3075 fz1)]) (rnV (rest := []) ⟨hx, hb, hml, hown, hg⟩ (k_X10_noTray_0 l V z a1 pz0_0 pz0_5 pz0_6 pz0_7 pz0_8 pz0_9 pz0_10 pz0_11 pz0_12 pz0_13 pz0_14 pz0_18 pz0_19 pz0_22 pz0_23 pz0_29 fz37 bpz0_5 bpz0_6 bpz0_7 bpz0_8 bpz0_10 bpz0_11 bpz0_12 bpz0_13 bpz0_14 bpz0_18 bpz0_22 bpz0_29 tfz37) mt_X10_noTray q_7_108 ⟨Nat.le_of_ble_eq_true rfl, Nat.le_of_ble_eq_true rfl⟩ hK hP hD hS hA hE [3, 0] rfl rfl 3 rfl rfl rfl rfl hl.1 rfl (Nat.le_of_ble_eq_true rfl) dX10_noTold_26 ⟨Nat.le_of_ble_eq_true rfl, Nat.le_of_ble_eq_true rfl⟩) hP hD hS hA [3, 0] [1, 2, 4] rfl rfl rfl (by decide) (fun r_22 w H locs hw hP hD hS => ?_)
      obtain ⟨br_22, g_23, rfl⟩ := hw
      have hP : va_P V.1 vwCl [(z 38, aI V 4 fz38), (z 39, aJ V 160 fz39), (z 1, aI V 3075 fz1), (z 0, .inr (10, mo z pz0_0 pz0_5 pz0_6 pz0_7 pz0_8 pz0_9 pz0_10 pz0_11 pz0_12 pz0_13 pz0_14 pz0_18 pz0_19 pz0_22 pz0_23 pz0_29)), (z 37, aI V 4 fz37)] H := hP
      have hD : va_D A [(z 38, aI V 4 fz38), (z 39, aJ V 160 fz39), (z 1, aI V 3075 fz1), (z 0, .inr (10, mo z pz0_0 pz0_5 pz0_6 pz0_7 pz0_8 pz0_9 pz0_10 pz0_11 pz0_12 pz0_13 pz0_14 pz0_18 pz0_19 pz0_22 pz0_23 pz0_29)), (z 37, aI V 4 fz37)] := hD
      refine lv_istore (lv' := [(4, .int r_22), (0, .ref (z 0)), (1, .int a1), (2, .int a2), (3, .int a3)]) hx hb dX10_noTold_29 hl (by decide) rfl (fun ls hl => ?_)
      refine lv_iload hx hb dX10_noTold_31 (lv_at hl 0 rfl) ?_
      refine lv_if_eq (tgt := 39) hx hb dX10_noTold_33 (by decide) (fun c_24 => ?_) (fun c_24 => ?_)
      · have b_25 : iv 0 0 r_22 := iv_q c_24 (iv_c (0 : Int32) (a := 0) (b := 0) (by decide))
        refine lv_aload_n hx hb dX10_noTold_39 rfl (lv_at hl 1 rfl) ?_
        refine va_get (ci := 10) (v := .ref (z 38)) (C := RX10) (T := TX10) (N := 40) hx hb hg inX10 hown hK hP 3 rfl rfl 38 (by decide) (hg _ q_6_22) (fun _ h9 => h9) rfl dX10_noTold_40 ?_
        refine lv_iload_n hx hb dX10_noTold_43 rfl (lv_at hl 2 rfl) ?_
        refine va_iald hx hb hK hP 0 0 rfl rfl (iv_in b_14 (by decide)) dX10_noTold_44 ?_
        refine lv_topi (fun x_26 ex_26 => ?_)
        have bx_26 : iv 0 40 x_26 := by rw [ex_26]; exact tfz38 _
        refine lv_i2l hx hb dX10_noTold_45 rfl ?_
        refine lv_topl (fun j_27 ej_27 => ?_)
        have bj_27 : ivL 0 40 j_27 := by rw [ej_27]; exact ivL_of bx_26
        refine lv_lconst (v := 1) hx hb dX10_noTold_46 (by decide) ?_
        refine lv_ldc2 (v := 8) hx hb hown (hg _ q_8_55) dX10_noTold_47 ?_
        refine jnI (wr := [(z 38, aI V 4 fz38), (z 39, aJ V 160 fz39), (z 1, aI V 3075 fz1), (z 0, .inr (10, mo z pz0_0 pz0_5 pz0_6 pz0_7 pz0_8 pz0_9 pz0_10 pz0_11 pz0_12 pz0_13 pz0_14 pz0_18 pz0_19 pz0_22 pz0_23 pz0_29)), (z 37, aI V 4 fz37)]) (rnS (rest := []) ⟨hx, hb, hml, hown, hg⟩ (k_X10_within_0 l V j_27 1 8) mt_X10_within q_6_114 ⟨Nat.le_of_ble_eq_true rfl, Nat.le_of_ble_eq_true rfl⟩ hK hP hD hS hA hE [] rfl rfl rfl hl.1 rfl (Nat.le_of_ble_eq_true rfl) dX10_noTold_50 ⟨Nat.le_of_ble_eq_true rfl, Nat.le_of_ble_eq_true rfl⟩) hP hD hS hA [] [0, 1, 2, 3, 4] rfl rfl rfl (by decide) (fun r_28 w H locs hw hP hD hS => ?_)
        obtain ⟨br_28, g_29, g_30, g_31, rfl⟩ := hw
        have hP : va_P V.1 vwCl [(z 38, aI V 4 fz38), (z 39, aJ V 160 fz39), (z 1, aI V 3075 fz1), (z 0, .inr (10, mo z pz0_0 pz0_5 pz0_6 pz0_7 pz0_8 pz0_9 pz0_10 pz0_11 pz0_12 pz0_13 pz0_14 pz0_18 pz0_19 pz0_22 pz0_23 pz0_29)), (z 37, aI V 4 fz37)] H := hP
        have hD : va_D A [(z 38, aI V 4 fz38), (z 39, aJ V 160 fz39), (z 1, aI V 3075 fz1), (z 0, .inr (10, mo z pz0_0 pz0_5 pz0_6 pz0_7 pz0_8 pz0_9 pz0_10 pz0_11 pz0_12 pz0_13 pz0_14 pz0_18 pz0_19 pz0_22 pz0_23 pz0_29)), (z 37, aI V 4 fz37)] := hD
        refine lv_if_ne (tgt := 59) hx hb dX10_noTold_53 (by decide) (fun c_32 => ?_) (fun c_32 => ?_)
        · have b_33 : iv 1 1 r_28 := iv_n0 c_32 br_28 (iv_c (0 : Int32) (a := 0) (b := 0) (by decide)) (by decide)
          have c_34 : (1 : Int64) ≤ j_27 := (g_30 (iv_eqp b_33 (iv_c (1 : Int32) (by decide))))
          have b_35 : ivL 1 40 j_27 := ivL_e2 c_34 (ivL_c (1 : Int64) (a := 1) (b := 1) (by decide)) bj_27 (by decide)
          have b_36 : iv 1 40 x_26 := iv_cap (ivL_i ej_27 b_35) bx_26 (by decide)
          have c_37 : j_27 ≤ 8 := (g_31 (iv_eqp b_33 (iv_c (1 : Int32) (by decide))))
          have b_38 : ivL 1 8 j_27 := ivL_e1 c_37 b_35 (ivL_c (8 : Int64) (a := 8) (b := 8) (by decide)) (by decide)
          have b_39 : iv 1 8 x_26 := iv_cap (ivL_i ej_27 b_38) b_36 (by decide)
          refine lv_iconst (v := 0) hx hb dX10_noTold_59 (by decide) ?_
          refine lv_istore (lv' := [(5, .int 0), (4, .int r_22), (0, .ref (z 0)), (1, .int a1), (2, .int a2), (3, .int a3)]) hx hb dX10_noTold_60 hl (by decide) rfl (fun ls hl => ?_)
          refine loopF (X := fun (n_41 : Nat) (H : Heap) (locs : List Loc) (ls : Array Slot) => ∃ (u_40 : Int32), (iv 0 2147483647 u_40) ∧ n_41 = (2147483647 - (u_40 : Int32).toInt).toNat ∧ va_P V.1 vwCl [(z 38, aI V 4 fz38), (z 39, aJ V 160 fz39), (z 1, aI V 3075 fz1), (z 0, .inr (10, mo z pz0_0 pz0_5 pz0_6 pz0_7 pz0_8 pz0_9 pz0_10 pz0_11 pz0_12 pz0_13 pz0_14 pz0_18 pz0_19 pz0_22 pz0_23 pz0_29)), (z 37, aI V 4 fz37)] H ∧ va_D A [(z 38, aI V 4 fz38), (z 39, aJ V 160 fz39), (z 1, aI V 3075 fz1), (z 0, .inr (10, mo z pz0_0 pz0_5 pz0_6 pz0_7 pz0_8 pz0_9 pz0_10 pz0_11 pz0_12 pz0_13 pz0_14 pz0_18 pz0_19 pz0_22 pz0_23 pz0_29)), (z 37, aI V 4 fz37)] ∧ va_S A s.heap H locs ∧ lv_has ls 6 [(5, .int u_40), (4, .int r_22), (0, .ref (z 0)), (1, .int a1), (2, .int a2), (3, .int a3)]) (g := fun ls => F0 m 62 ls []) (fun n_41 H locs ls hX ihn_41 => ?_) _ ⟨0, (iv_c (0 : Int32) (by decide)), rfl, hP, hD, hS, lv_sub hl [0, 1, 2, 3, 4, 5] rfl⟩
          obtain ⟨u_40, bu_40, en_41, hP, hD, hS, hl⟩ := hX
          refine lv_iload hx hb dX10_noTold_62 (lv_at hl 0 rfl) ?_
          refine lv_aload_n hx hb dX10_noTold_64 rfl (lv_at hl 2 rfl) ?_
          refine va_get (ci := 10) (v := .ref (z 38)) (C := RX10) (T := TX10) (N := 40) hx hb hg inX10 hown hK hP 3 rfl rfl 38 (by decide) (hg _ q_6_22) (fun _ h9 => h9) rfl dX10_noTold_65 ?_
          refine lv_iload_n hx hb dX10_noTold_68 rfl (lv_at hl 3 rfl) ?_
          refine va_iald hx hb hK hP 0 0 rfl rfl (iv_in b_14 (by decide)) dX10_noTold_69 ?_
          refine tpi (y := x_26) ex_26.symm ?_
          refine lv_icmp_ge (tgt := 105) hx hb dX10_noTold_70 (by decide) (fun c_42 => ?_) (fun c_42 => ?_)
          · have b_43 : iv 1 2147483647 u_40 := iv_e2 c_42 b_39 bu_40 (by decide)
            refine lv_iconst (v := 0) hx hb dX10_noTold_105 (by decide) ?_
            have hP := subP (ws' := [(z 0, .inr (10, mo z pz0_0 pz0_5 pz0_6 pz0_7 pz0_8 pz0_9 pz0_10 pz0_11 pz0_12 pz0_13 pz0_14 pz0_18 pz0_19 pz0_22 pz0_23 pz0_29)), (z 1, aI V 3075 fz1), (z 37, aI V 4 fz37), (z 38, aI V 4 fz38), (z 39, aJ V 160 fz39)]) hP [3, 2, 4, 0, 1] rfl
            have hD := hD.sub (ws' := [(z 0, .inr (10, mo z pz0_0 pz0_5 pz0_6 pz0_7 pz0_8 pz0_9 pz0_10 pz0_11 pz0_12 pz0_13 pz0_14 pz0_18 pz0_19 pz0_22 pz0_23 pz0_29)), (z 1, aI V 3075 fz1), (z 37, aI V 4 fz37), (z 38, aI V 4 fz38), (z 39, aJ V 160 fz39)]) [3, 2, 4, 0, 1] rfl rfl
            exact fiI hx hb hr hlk hK hP hD hS dX10_noTold_106 (Nat.le_of_ble_eq_true rfl) (Nat.le_of_ble_eq_true rfl) (⟨(iv_c (0 : Int32) (by decide)), (fun _ => by rw [← ex_26]; exact b_39), (fun _ => b_14), (fun _ => b_21), rfl⟩)
          · have b_44 : iv 0 7 u_40 := iv_l1 (Int32.not_le.mp c_42) bu_40 b_39 (by decide)
            refine lv_aload_n hx hb dX10_noTold_73 rfl (lv_at hl 2 rfl) ?_
            refine va_get (ci := 10) (v := .ref (z 39)) (C := RX10) (T := TX10) (N := 40) hx hb hg inX10 hown hK hP 3 rfl rfl 39 (by decide) (hg _ q_6_23) (fun _ h9 => h9) rfl dX10_noTold_74 ?_
            refine lv_bipush (v := 40) hx hb dX10_noTold_77 (by decide) ?_
            refine lv_iload_n hx hb dX10_noTold_79 rfl (lv_at hl 3 rfl) ?_
            refine lv_imul hx hb dX10_noTold_80 ?_
            refine lv_topi (fun x_45 ex_45 => ?_)
            have bx_45 : iv 0 120 x_45 := by rw [ex_45]; exact iv_cmul (iv_c (40 : Int32) (a := 40) (b := 40) (by decide)) b_14 (by decide)
            refine lv_iload hx hb dX10_noTold_81 (lv_at hl 0 rfl) ?_
            refine lv_iadd hx hb dX10_noTold_83 ?_
            refine lv_topi (fun x_46 ex_46 => ?_)
            have bx_46 : iv 0 127 x_46 := by rw [ex_46]; exact iv_add bx_45 b_44 (by decide)
            refine va_lald hx hb hK hP 1 2 rfl rfl (iv_in bx_46 (by decide)) dX10_noTold_84 ?_
            refine lv_topl (fun j_47 ej_47 => ?_)
            refine lv_iload_n hx hb dX10_noTold_85 rfl (lv_at hl 5 rfl) ?_
            refine lv_i2l hx hb dX10_noTold_86 rfl ?_
            refine lv_topl (fun j_48 ej_48 => ?_)
            refine lv_ldc2 (v := 4) hx hb hown (hg _ q_7_189) dX10_noTold_87 ?_
            refine jnI (wr := [(z 38, aI V 4 fz38), (z 39, aJ V 160 fz39), (z 1, aI V 3075 fz1), (z 0, .inr (10, mo z pz0_0 pz0_5 pz0_6 pz0_7 pz0_8 pz0_9 pz0_10 pz0_11 pz0_12 pz0_13 pz0_14 pz0_18 pz0_19 pz0_22 pz0_23 pz0_29)), (z 37, aI V 4 fz37)]) (rnS (rest := []) ⟨hx, hb, hml, hown, hg⟩ (k_X10_within_0 l V j_47 j_48 4) mt_X10_within q_6_114 ⟨Nat.le_of_ble_eq_true rfl, Nat.le_of_ble_eq_true rfl⟩ hK hP hD hS hA hE [] rfl rfl rfl hl.1 rfl (Nat.le_of_ble_eq_true rfl) dX10_noTold_90 ⟨Nat.le_of_ble_eq_true rfl, Nat.le_of_ble_eq_true rfl⟩) hP hD hS hA [] [0, 1, 2, 3, 4] rfl rfl rfl (by decide) (fun r_49 w H locs hw hP hD hS => ?_)
            obtain ⟨br_49, g_50, g_51, g_52, rfl⟩ := hw
            have hP : va_P V.1 vwCl [(z 38, aI V 4 fz38), (z 39, aJ V 160 fz39), (z 1, aI V 3075 fz1), (z 0, .inr (10, mo z pz0_0 pz0_5 pz0_6 pz0_7 pz0_8 pz0_9 pz0_10 pz0_11 pz0_12 pz0_13 pz0_14 pz0_18 pz0_19 pz0_22 pz0_23 pz0_29)), (z 37, aI V 4 fz37)] H := hP
            have hD : va_D A [(z 38, aI V 4 fz38), (z 39, aJ V 160 fz39), (z 1, aI V 3075 fz1), (z 0, .inr (10, mo z pz0_0 pz0_5 pz0_6 pz0_7 pz0_8 pz0_9 pz0_10 pz0_11 pz0_12 pz0_13 pz0_14 pz0_18 pz0_19 pz0_22 pz0_23 pz0_29)), (z 37, aI V 4 fz37)] := hD
            refine lv_if_ne (tgt := 99) hx hb dX10_noTold_93 (by decide) (fun c_53 => ?_) (fun c_53 => ?_)
            · have b_54 : iv 1 1 r_49 := iv_n0 c_53 br_49 (iv_c (0 : Int32) (a := 0) (b := 0) (by decide)) (by decide)
              have c_55 : j_48 ≤ j_47 := (g_51 (iv_eqp b_54 (iv_c (1 : Int32) (by decide))))
              have c_56 : j_47 ≤ 4 := (g_52 (iv_eqp b_54 (iv_c (1 : Int32) (by decide))))
              have b_57 : ivL (-9223372036854775808) 4 j_47 := ivL_e1 c_56 (ivL_top j_47) (ivL_c (4 : Int64) (a := 4) (b := 4) (by decide)) (by decide)
              obtain ⟨x_58, ex_58⟩ : ∃ z9 : Int32, z9 = u_40 + 1 := ⟨_, rfl⟩
              have bx_58 : iv 1 8 x_58 := by rw [ex_58]; exact iv_add b_44 (iv_c (1 : Int32) (a := 1) (b := 1) (by decide)) (by decide)
              refine lv_iinc (v := x_58) (lv' := [(5, .int x_58), (4, .int r_22), (0, .ref (z 0)), (1, .int a1), (2, .int a2), (3, .int a3)]) hx hb dX10_noTold_99 hl (k := 0) rfl (by rw [ex_58]; rfl) (by decide) rfl (fun ls hl => ?_)
              refine lv_goto (tgt := 62) hx hb dX10_noTold_102 (by decide) ?_
              exact ihn_41 _ _ _ _ (by rw [en_41, ex_58]; exact mu_up b_44 (by decide)) ⟨x_58, (iv_w bx_58 (by decide)), rfl, hP, hD, hS, lv_sub hl [0, 1, 2, 3, 4, 5] rfl⟩
            · have b_59 : iv 0 0 r_49 := iv_q c_53 (iv_c (0 : Int32) (a := 0) (b := 0) (by decide))
              refine lv_bipush (v := (-3)) hx hb dX10_noTold_96 (by decide) ?_
              have hP := subP (ws' := [(z 0, .inr (10, mo z pz0_0 pz0_5 pz0_6 pz0_7 pz0_8 pz0_9 pz0_10 pz0_11 pz0_12 pz0_13 pz0_14 pz0_18 pz0_19 pz0_22 pz0_23 pz0_29)), (z 1, aI V 3075 fz1), (z 37, aI V 4 fz37), (z 38, aI V 4 fz38), (z 39, aJ V 160 fz39)]) hP [3, 2, 4, 0, 1] rfl
              have hD := hD.sub (ws' := [(z 0, .inr (10, mo z pz0_0 pz0_5 pz0_6 pz0_7 pz0_8 pz0_9 pz0_10 pz0_11 pz0_12 pz0_13 pz0_14 pz0_18 pz0_19 pz0_22 pz0_23 pz0_29)), (z 1, aI V 3075 fz1), (z 37, aI V 4 fz37), (z 38, aI V 4 fz38), (z 39, aJ V 160 fz39)]) [3, 2, 4, 0, 1] rfl rfl
              exact fiI hx hb hr hlk hK hP hD hS dX10_noTold_98 (Nat.le_of_ble_eq_true rfl) (Nat.le_of_ble_eq_true rfl) (⟨(iv_c ((-3) : Int32) (by decide)), (fun q9 => absurd q9 (by decide)), (fun q9 => absurd q9 (by decide)), (fun q9 => absurd q9 (by decide)), rfl⟩)
        · have b_60 : iv 0 0 r_28 := iv_q c_32 (iv_c (0 : Int32) (a := 0) (b := 0) (by decide))
          refine lv_bipush (v := (-4)) hx hb dX10_noTold_56 (by decide) ?_
          have hP := subP (ws' := [(z 0, .inr (10, mo z pz0_0 pz0_5 pz0_6 pz0_7 pz0_8 pz0_9 pz0_10 pz0_11 pz0_12 pz0_13 pz0_14 pz0_18 pz0_19 pz0_22 pz0_23 pz0_29)), (z 1, aI V 3075 fz1), (z 37, aI V 4 fz37), (z 38, aI V 4 fz38), (z 39, aJ V 160 fz39)]) hP [3, 2, 4, 0, 1] rfl
          have hD := hD.sub (ws' := [(z 0, .inr (10, mo z pz0_0 pz0_5 pz0_6 pz0_7 pz0_8 pz0_9 pz0_10 pz0_11 pz0_12 pz0_13 pz0_14 pz0_18 pz0_19 pz0_22 pz0_23 pz0_29)), (z 1, aI V 3075 fz1), (z 37, aI V 4 fz37), (z 38, aI V 4 fz38), (z 39, aJ V 160 fz39)]) [3, 2, 4, 0, 1] rfl rfl
          exact fiI hx hb hr hlk hK hP hD hS dX10_noTold_58 (Nat.le_of_ble_eq_true rfl) (Nat.le_of_ble_eq_true rfl) (⟨(iv_c ((-4) : Int32) (by decide)), (fun q9 => absurd q9 (by decide)), (fun q9 => absurd q9 (by decide)), (fun q9 => absurd q9 (by decide)), rfl⟩)
      · have b_61 : iv (-6) (-1) r_22 := iv_n1 c_24 br_22 (iv_c (0 : Int32) (a := 0) (b := 0) (by decide)) (by decide)
        refine lv_iload hx hb dX10_noTold_36 (lv_at hl 0 rfl) ?_
        have c_62 : r_22 = (-6) ∨ r_22 = (-5) ∨ r_22 = (-4) ∨ r_22 = (-3) ∨ r_22 = (-2) ∨ r_22 = (-1) := by have q9 := b_61; unfold iv at q9; simp only [tI_eq, (by decide : ((-6) : Int32).toInt = -6), (by decide : ((-5) : Int32).toInt = -5), (by decide : ((-4) : Int32).toInt = -4), (by decide : ((-3) : Int32).toInt = -3), (by decide : ((-2) : Int32).toInt = -2), (by decide : ((-1) : Int32).toInt = -1)]; omega
        rcases c_62 with rfl | rfl | rfl | rfl | rfl | rfl
        · have hP := subP (ws' := [(z 0, .inr (10, mo z pz0_0 pz0_5 pz0_6 pz0_7 pz0_8 pz0_9 pz0_10 pz0_11 pz0_12 pz0_13 pz0_14 pz0_18 pz0_19 pz0_22 pz0_23 pz0_29)), (z 1, aI V 3075 fz1), (z 37, aI V 4 fz37), (z 38, aI V 4 fz38), (z 39, aJ V 160 fz39)]) hP [3, 2, 4, 0, 1] rfl
          have hD := hD.sub (ws' := [(z 0, .inr (10, mo z pz0_0 pz0_5 pz0_6 pz0_7 pz0_8 pz0_9 pz0_10 pz0_11 pz0_12 pz0_13 pz0_14 pz0_18 pz0_19 pz0_22 pz0_23 pz0_29)), (z 1, aI V 3075 fz1), (z 37, aI V 4 fz37), (z 38, aI V 4 fz38), (z 39, aJ V 160 fz39)]) [3, 2, 4, 0, 1] rfl rfl
          exact fiI hx hb hr hlk hK hP hD hS dX10_noTold_38 (Nat.le_of_ble_eq_true rfl) (Nat.le_of_ble_eq_true rfl) (⟨(iv_c ((-6) : Int32) (by decide)), (fun q9 => absurd q9 (by decide)), (fun q9 => absurd q9 (by decide)), (fun q9 => absurd q9 (by decide)), rfl⟩)
        · have hP := subP (ws' := [(z 0, .inr (10, mo z pz0_0 pz0_5 pz0_6 pz0_7 pz0_8 pz0_9 pz0_10 pz0_11 pz0_12 pz0_13 pz0_14 pz0_18 pz0_19 pz0_22 pz0_23 pz0_29)), (z 1, aI V 3075 fz1), (z 37, aI V 4 fz37), (z 38, aI V 4 fz38), (z 39, aJ V 160 fz39)]) hP [3, 2, 4, 0, 1] rfl
          have hD := hD.sub (ws' := [(z 0, .inr (10, mo z pz0_0 pz0_5 pz0_6 pz0_7 pz0_8 pz0_9 pz0_10 pz0_11 pz0_12 pz0_13 pz0_14 pz0_18 pz0_19 pz0_22 pz0_23 pz0_29)), (z 1, aI V 3075 fz1), (z 37, aI V 4 fz37), (z 38, aI V 4 fz38), (z 39, aJ V 160 fz39)]) [3, 2, 4, 0, 1] rfl rfl
          exact fiI hx hb hr hlk hK hP hD hS dX10_noTold_38 (Nat.le_of_ble_eq_true rfl) (Nat.le_of_ble_eq_true rfl) (⟨(iv_c ((-5) : Int32) (by decide)), (fun q9 => absurd q9 (by decide)), (fun q9 => absurd q9 (by decide)), (fun q9 => absurd q9 (by decide)), rfl⟩)
        · have hP := subP (ws' := [(z 0, .inr (10, mo z pz0_0 pz0_5 pz0_6 pz0_7 pz0_8 pz0_9 pz0_10 pz0_11 pz0_12 pz0_13 pz0_14 pz0_18 pz0_19 pz0_22 pz0_23 pz0_29)), (z 1, aI V 3075 fz1), (z 37, aI V 4 fz37), (z 38, aI V 4 fz38), (z 39, aJ V 160 fz39)]) hP [3, 2, 4, 0, 1] rfl
          have hD := hD.sub (ws' := [(z 0, .inr (10, mo z pz0_0 pz0_5 pz0_6 pz0_7 pz0_8 pz0_9 pz0_10 pz0_11 pz0_12 pz0_13 pz0_14 pz0_18 pz0_19 pz0_22 pz0_23 pz0_29)), (z 1, aI V 3075 fz1), (z 37, aI V 4 fz37), (z 38, aI V 4 fz38), (z 39, aJ V 160 fz39)]) [3, 2, 4, 0, 1] rfl rfl
          exact fiI hx hb hr hlk hK hP hD hS dX10_noTold_38 (Nat.le_of_ble_eq_true rfl) (Nat.le_of_ble_eq_true rfl) (⟨(iv_c ((-4) : Int32) (by decide)), (fun q9 => absurd q9 (by decide)), (fun q9 => absurd q9 (by decide)), (fun q9 => absurd q9 (by decide)), rfl⟩)
        · have hP := subP (ws' := [(z 0, .inr (10, mo z pz0_0 pz0_5 pz0_6 pz0_7 pz0_8 pz0_9 pz0_10 pz0_11 pz0_12 pz0_13 pz0_14 pz0_18 pz0_19 pz0_22 pz0_23 pz0_29)), (z 1, aI V 3075 fz1), (z 37, aI V 4 fz37), (z 38, aI V 4 fz38), (z 39, aJ V 160 fz39)]) hP [3, 2, 4, 0, 1] rfl
          have hD := hD.sub (ws' := [(z 0, .inr (10, mo z pz0_0 pz0_5 pz0_6 pz0_7 pz0_8 pz0_9 pz0_10 pz0_11 pz0_12 pz0_13 pz0_14 pz0_18 pz0_19 pz0_22 pz0_23 pz0_29)), (z 1, aI V 3075 fz1), (z 37, aI V 4 fz37), (z 38, aI V 4 fz38), (z 39, aJ V 160 fz39)]) [3, 2, 4, 0, 1] rfl rfl
          exact fiI hx hb hr hlk hK hP hD hS dX10_noTold_38 (Nat.le_of_ble_eq_true rfl) (Nat.le_of_ble_eq_true rfl) (⟨(iv_c ((-3) : Int32) (by decide)), (fun q9 => absurd q9 (by decide)), (fun q9 => absurd q9 (by decide)), (fun q9 => absurd q9 (by decide)), rfl⟩)
        · have hP := subP (ws' := [(z 0, .inr (10, mo z pz0_0 pz0_5 pz0_6 pz0_7 pz0_8 pz0_9 pz0_10 pz0_11 pz0_12 pz0_13 pz0_14 pz0_18 pz0_19 pz0_22 pz0_23 pz0_29)), (z 1, aI V 3075 fz1), (z 37, aI V 4 fz37), (z 38, aI V 4 fz38), (z 39, aJ V 160 fz39)]) hP [3, 2, 4, 0, 1] rfl
          have hD := hD.sub (ws' := [(z 0, .inr (10, mo z pz0_0 pz0_5 pz0_6 pz0_7 pz0_8 pz0_9 pz0_10 pz0_11 pz0_12 pz0_13 pz0_14 pz0_18 pz0_19 pz0_22 pz0_23 pz0_29)), (z 1, aI V 3075 fz1), (z 37, aI V 4 fz37), (z 38, aI V 4 fz38), (z 39, aJ V 160 fz39)]) [3, 2, 4, 0, 1] rfl rfl
          exact fiI hx hb hr hlk hK hP hD hS dX10_noTold_38 (Nat.le_of_ble_eq_true rfl) (Nat.le_of_ble_eq_true rfl) (⟨(iv_c ((-2) : Int32) (by decide)), (fun q9 => absurd q9 (by decide)), (fun q9 => absurd q9 (by decide)), (fun q9 => absurd q9 (by decide)), rfl⟩)
        · have hP := subP (ws' := [(z 0, .inr (10, mo z pz0_0 pz0_5 pz0_6 pz0_7 pz0_8 pz0_9 pz0_10 pz0_11 pz0_12 pz0_13 pz0_14 pz0_18 pz0_19 pz0_22 pz0_23 pz0_29)), (z 1, aI V 3075 fz1), (z 37, aI V 4 fz37), (z 38, aI V 4 fz38), (z 39, aJ V 160 fz39)]) hP [3, 2, 4, 0, 1] rfl
          have hD := hD.sub (ws' := [(z 0, .inr (10, mo z pz0_0 pz0_5 pz0_6 pz0_7 pz0_8 pz0_9 pz0_10 pz0_11 pz0_12 pz0_13 pz0_14 pz0_18 pz0_19 pz0_22 pz0_23 pz0_29)), (z 1, aI V 3075 fz1), (z 37, aI V 4 fz37), (z 38, aI V 4 fz38), (z 39, aJ V 160 fz39)]) [3, 2, 4, 0, 1] rfl rfl
          exact fiI hx hb hr hlk hK hP hD hS dX10_noTold_38 (Nat.le_of_ble_eq_true rfl) (Nat.le_of_ble_eq_true rfl) (⟨(iv_c ((-1) : Int32) (by decide)), (fun q9 => absurd q9 (by decide)), (fun q9 => absurd q9 (by decide)), (fun q9 => absurd q9 (by decide)), rfl⟩)
    · have b_63 : iv 0 0 r_16 := iv_q c_18 (iv_c (0 : Int32) (a := 0) (b := 0) (by decide))
      refine lv_bipush (v := (-2)) hx hb dX10_noTold_21 (by decide) ?_
      have hP := subP (ws' := [(z 0, .inr (10, mo z pz0_0 pz0_5 pz0_6 pz0_7 pz0_8 pz0_9 pz0_10 pz0_11 pz0_12 pz0_13 pz0_14 pz0_18 pz0_19 pz0_22 pz0_23 pz0_29)), (z 1, aI V 3075 fz1), (z 37, aI V 4 fz37), (z 38, aI V 4 fz38), (z 39, aJ V 160 fz39)]) hP [3, 4, 0, 1, 2] rfl
      have hD := hD.sub (ws' := [(z 0, .inr (10, mo z pz0_0 pz0_5 pz0_6 pz0_7 pz0_8 pz0_9 pz0_10 pz0_11 pz0_12 pz0_13 pz0_14 pz0_18 pz0_19 pz0_22 pz0_23 pz0_29)), (z 1, aI V 3075 fz1), (z 37, aI V 4 fz37), (z 38, aI V 4 fz38), (z 39, aJ V 160 fz39)]) [3, 4, 0, 1, 2] rfl rfl
      exact fiI hx hb hr hlk hK hP hD hS dX10_noTold_23 (Nat.le_of_ble_eq_true rfl) (Nat.le_of_ble_eq_true rfl) (⟨(iv_c ((-2) : Int32) (by decide)), (fun q9 => absurd q9 (by decide)), (fun q9 => absurd q9 (by decide)), (fun q9 => absurd q9 (by decide)), rfl⟩)
theorem dX10_isSo_0 : decode cX10_isSo 0 = .ok (.iload 4, 2) := by decide +kernel
theorem dX10_isSo_2 : decode cX10_isSo 2 = .ok (.iconst (-1), 1) := by decide +kernel
theorem dX10_isSo_3 : decode cX10_isSo 3 = .ok (.if_icmp .eq 47, 3) := by decide +kernel
theorem dX10_isSo_50 : decode cX10_isSo 50 = .ok (.iconst 0, 1) := by decide +kernel
theorem dX10_isSo_51 : decode cX10_isSo 51 = .ok (.ireturn, 1) := by decide +kernel
theorem dX10_isSo_6 : decode cX10_isSo 6 = .ok (.aload_n 0, 1) := by decide +kernel
theorem dX10_isSo_7 : decode cX10_isSo 7 = .ok (.getfield 90, 3) := by decide +kernel
theorem dX10_isSo_10 : decode cX10_isSo 10 = .ok (.bipush 40, 2) := by decide +kernel
theorem dX10_isSo_12 : decode cX10_isSo 12 = .ok (.iload_n 1, 1) := by decide +kernel
theorem dX10_isSo_13 : decode cX10_isSo 13 = .ok (.imul, 1) := by decide +kernel
theorem dX10_isSo_14 : decode cX10_isSo 14 = .ok (.iload_n 3, 1) := by decide +kernel
theorem dX10_isSo_15 : decode cX10_isSo 15 = .ok (.iadd, 1) := by decide +kernel
theorem dX10_isSo_16 : decode cX10_isSo 16 = .ok (.laload, 1) := by decide +kernel
theorem q_8_64 : Cond.constantLong "BeaconDelayModel" 419 (-1 : Int64) ∈ gw := gw_8 (i := 64) (by decide +kernel) rfl
theorem dX10_isSo_17 : decode cX10_isSo 17 = .ok (.ldc2_w 419, 3) := by decide +kernel
theorem dX10_isSo_20 : decode cX10_isSo 20 = .ok (.lcmp, 1) := by decide +kernel
theorem dX10_isSo_21 : decode cX10_isSo 21 = .ok (.ifCond .eq 25, 3) := by decide +kernel
theorem dX10_isSo_46 : decode cX10_isSo 46 = .ok (.iconst 1, 1) := by decide +kernel
theorem dX10_isSo_47 : decode cX10_isSo 47 = .ok (.goto 4, 3) := by decide +kernel
theorem dX10_isSo_24 : decode cX10_isSo 24 = .ok (.aload_n 0, 1) := by decide +kernel
theorem dX10_isSo_25 : decode cX10_isSo 25 = .ok (.getfield 90, 3) := by decide +kernel
theorem dX10_isSo_28 : decode cX10_isSo 28 = .ok (.bipush 40, 2) := by decide +kernel
theorem dX10_isSo_30 : decode cX10_isSo 30 = .ok (.iload_n 1, 1) := by decide +kernel
theorem dX10_isSo_31 : decode cX10_isSo 31 = .ok (.imul, 1) := by decide +kernel
theorem dX10_isSo_32 : decode cX10_isSo 32 = .ok (.iload_n 3, 1) := by decide +kernel
theorem dX10_isSo_33 : decode cX10_isSo 33 = .ok (.iadd, 1) := by decide +kernel
theorem dX10_isSo_34 : decode cX10_isSo 34 = .ok (.laload, 1) := by decide +kernel
theorem dX10_isSo_35 : decode cX10_isSo 35 = .ok (.iload 4, 2) := by decide +kernel
theorem dX10_isSo_37 : decode cX10_isSo 37 = .ok (.iload_n 2, 1) := by decide +kernel
theorem dX10_isSo_38 : decode cX10_isSo 38 = .ok (.invokestatic 231, 3) := by decide +kernel
theorem dX10_isSo_41 : decode cX10_isSo 41 = .ok (.i2l, 1) := by decide +kernel
theorem dX10_isSo_42 : decode cX10_isSo 42 = .ok (.lcmp, 1) := by decide +kernel
theorem dX10_isSo_43 : decode cX10_isSo 43 = .ok (.ifCond .ne 7, 3) := by decide +kernel
set_option maxHeartbeats 4000000 in
set_option maxRecDepth 100000 in
theorem k_X10_isSo_0 (l : Launch) (V : GV) (z : Nat → Nat) (a1 : Int32) (a2 : Int32) (a3 : Int32) (a4 : Int32) (fz39 : Nat → Int64) (pz0_0 : Int32) (pz0_5 : Int32) (pz0_6 : Int32) (pz0_7 : Int32) (pz0_8 : Int32) (pz0_9 : Int32) (pz0_10 : Int32) (pz0_11 : Int32) (pz0_12 : Int32) (pz0_13 : Int32) (pz0_14 : Int32) (pz0_18 : Int32) (pz0_19 : Int32) (pz0_22 : Int32) (pz0_23 : Int32) (pz0_29 : Int32) (ba1 : iv 0 3 a1) (ba2 : iv 0 3 a2) (ba3 : iv 0 39 a3) (ba4 : iv (-1) 9999 a4) (bpz0_5 : iv 0 900 pz0_5) (bpz0_6 : iv 0 900 pz0_6) (bpz0_7 : iv 0 900 pz0_7) (bpz0_8 : iv 0 900 pz0_8) (bpz0_10 : iv 0 999 pz0_10) (bpz0_11 : iv 0 4 pz0_11) (bpz0_12 : iv 0 900 pz0_12) (bpz0_13 : iv 0 4 pz0_13) (bpz0_14 : iv (-1) 900 pz0_14) (bpz0_18 : iv 0 2 pz0_18) (bpz0_22 : iv 0 9999 pz0_22) (bpz0_29 : iv 0 10000 pz0_29) : Ct l V yX10_isSo (.code yX10_isSo cX10_isSo 5 (some .boolean)) 3 [.ref (z 0), .int a1, .int a2, .int a3, .int a4] [(z 39, aJ V 160 fz39), (z 0, .inr (10, mo z pz0_0 pz0_5 pz0_6 pz0_7 pz0_8 pz0_9 pz0_10 pz0_11 pz0_12 pz0_13 pz0_14 pz0_18 pz0_19 pz0_22 pz0_23 pz0_29))] 0 0 (QI V (fun (r : Int32) (w : va_W) => iv 0 1 r ∧ r = isF fz39 a1 a2 a3 a4 ∧ (r = 1 → iv 0 9999 a4) ∧ w = [(z 39, aJ V 160 fz39), (z 0, .inr (10, mo z pz0_0 pz0_5 pz0_6 pz0_7 pz0_8 pz0_9 pz0_10 pz0_11 pz0_12 pz0_13 pz0_14 pz0_18 pz0_19 pz0_22 pz0_23 pz0_29))])) := by
  refine Ct.of (by decide) (Nat.le_of_ble_eq_true rfl) (fun p e s m below meth c A ls hx hb hr hml hown hlk hnm hg hP hK hD hE hA hS hl => ?_)
  have hl : lv_has ls 5 [(0, .ref (z 0)), (1, .int a1), (2, .int a2), (3, .int a3), (4, .int a4)] := hl
  refine lv_iload hx hb dX10_isSo_0 (lv_at hl 4 rfl) ?_
  refine lv_iconst (v := (-1)) hx hb dX10_isSo_2 (by decide) ?_
  refine lv_icmp_eq (tgt := 50) hx hb dX10_isSo_3 (by decide) (fun c_1 => ?_) (fun c_1 => ?_)
  · have b_2 : iv (-1) (-1) a4 := iv_q c_1 (iv_c ((-1) : Int32) (a := (-1)) (b := (-1)) (by decide))
    refine lv_iconst (v := 0) hx hb dX10_isSo_50 (by decide) ?_
    exact fiZ rfl hx hb hr hlk hK hP hD hS dX10_isSo_51 (Nat.le_of_ble_eq_true rfl) (Nat.le_of_ble_eq_true rfl) (⟨(iv_c (0 : Int32) (by decide)), (isF_a c_1), (fun q9 => absurd q9 (by decide)), rfl⟩)
  · have b_3 : iv 0 9999 a4 := iv_n0 c_1 ba4 (iv_c ((-1) : Int32) (a := (-1)) (b := (-1)) (by decide)) (by decide)
    refine lv_aload_n hx hb dX10_isSo_6 rfl (lv_at hl 0 rfl) ?_
    refine va_get (ci := 10) (v := .ref (z 39)) (C := RX10) (T := TX10) (N := 40) hx hb hg inX10 hown hK hP 1 rfl rfl 39 (by decide) (hg _ q_6_23) (fun _ h9 => h9) rfl dX10_isSo_7 ?_
    refine lv_bipush (v := 40) hx hb dX10_isSo_10 (by decide) ?_
    refine lv_iload_n hx hb dX10_isSo_12 rfl (lv_at hl 1 rfl) ?_
    refine lv_imul hx hb dX10_isSo_13 ?_
    refine lv_topi (fun x_4 ex_4 => ?_)
    have bx_4 : iv 0 120 x_4 := by rw [ex_4]; exact iv_cmul (iv_c (40 : Int32) (a := 40) (b := 40) (by decide)) ba1 (by decide)
    refine lv_iload_n hx hb dX10_isSo_14 rfl (lv_at hl 3 rfl) ?_
    refine lv_iadd hx hb dX10_isSo_15 ?_
    refine lv_topi (fun x_5 ex_5 => ?_)
    have bx_5 : iv 0 159 x_5 := by rw [ex_5]; exact iv_add bx_4 ba3 (by decide)
    refine va_lald hx hb hK hP 0 2 rfl rfl (iv_in bx_5 (by decide)) dX10_isSo_16 ?_
    refine lv_topl (fun j_6 ej_6 => ?_)
    refine lv_ldc2 (v := (-1)) hx hb hown (hg _ q_8_64) dX10_isSo_17 ?_
    refine W.lcmp hx hb dX10_isSo_20 ?_
    refine lv_if_eq (tgt := 46) hx hb dX10_isSo_21 (by decide) (fun c_7 => ?_) (fun c_7 => ?_)
    · replace c_7 : j_6 = ((-1) : Int64) := (lg_cmp_eq _ _).mp c_7
      have b_8 : ivL (-1) (-1) j_6 := ivL_q c_7 (ivL_c ((-1) : Int64) (a := (-1)) (b := (-1)) (by decide))
      refine lv_iconst (v := 1) hx hb dX10_isSo_46 (by decide) ?_
      refine lv_goto (tgt := 51) hx hb dX10_isSo_47 (by decide) ?_
      exact fiZ rfl hx hb hr hlk hK hP hD hS dX10_isSo_51 (Nat.le_of_ble_eq_true rfl) (Nat.le_of_ble_eq_true rfl) (⟨(iv_c (1 : Int32) (by decide)), (isF_b c_1 ex_4 ex_5 ej_6 c_7), (fun _ => b_3), rfl⟩)
    · replace c_7 : ¬ j_6 = ((-1) : Int64) := fun z => c_7 ((lg_cmp_eq _ _).mpr z)
      refine lv_aload_n hx hb dX10_isSo_24 rfl (lv_at hl 0 rfl) ?_
      refine va_get (ci := 10) (v := .ref (z 39)) (C := RX10) (T := TX10) (N := 40) hx hb hg inX10 hown hK hP 1 rfl rfl 39 (by decide) (hg _ q_6_23) (fun _ h9 => h9) rfl dX10_isSo_25 ?_
      refine lv_bipush (v := 40) hx hb dX10_isSo_28 (by decide) ?_
      refine lv_iload_n hx hb dX10_isSo_30 rfl (lv_at hl 1 rfl) ?_
      refine lv_imul hx hb dX10_isSo_31 ?_
      refine tpi (y := x_4) ex_4.symm ?_
      refine lv_iload_n hx hb dX10_isSo_32 rfl (lv_at hl 3 rfl) ?_
      refine lv_iadd hx hb dX10_isSo_33 ?_
      refine tpi (y := x_5) ex_5.symm ?_
      refine va_lald hx hb hK hP 0 2 rfl rfl (iv_in bx_5 (by decide)) dX10_isSo_34 ?_
      refine tpl (y := j_6) ej_6.symm ?_
      refine lv_iload hx hb dX10_isSo_35 (lv_at hl 4 rfl) ?_
      refine lv_iload_n hx hb dX10_isSo_37 rfl (lv_at hl 2 rfl) ?_
      refine jnI (wr := [(z 39, aJ V 160 fz39), (z 0, .inr (10, mo z pz0_0 pz0_5 pz0_6 pz0_7 pz0_8 pz0_9 pz0_10 pz0_11 pz0_12 pz0_13 pz0_14 pz0_18 pz0_19 pz0_22 pz0_23 pz0_29))]) (rnS (rest := [.long j_6]) ⟨hx, hb, hml, hown, hg⟩ (k_X10_stackIn_0 l V a4 a2 b_3 ba2) mt_X10_stackIn q_7_26 ⟨Nat.le_of_ble_eq_true rfl, Nat.le_of_ble_eq_true rfl⟩ hK hP hD hS hA hE [] rfl rfl rfl hl.1 rfl (Nat.le_of_ble_eq_true rfl) dX10_isSo_38 ⟨Nat.le_of_ble_eq_true rfl, Nat.le_of_ble_eq_true rfl⟩) hP hD hS hA [] [0, 1] rfl rfl rfl (by decide) (fun r_9 w H locs hw hP hD hS => ?_)
      obtain ⟨br_9, er_9, rfl⟩ := hw
      have hP : va_P V.1 vwCl [(z 39, aJ V 160 fz39), (z 0, .inr (10, mo z pz0_0 pz0_5 pz0_6 pz0_7 pz0_8 pz0_9 pz0_10 pz0_11 pz0_12 pz0_13 pz0_14 pz0_18 pz0_19 pz0_22 pz0_23 pz0_29))] H := hP
      have hD : va_D A [(z 39, aJ V 160 fz39), (z 0, .inr (10, mo z pz0_0 pz0_5 pz0_6 pz0_7 pz0_8 pz0_9 pz0_10 pz0_11 pz0_12 pz0_13 pz0_14 pz0_18 pz0_19 pz0_22 pz0_23 pz0_29))] := hD
      refine lv_i2l hx hb dX10_isSo_41 rfl ?_
      refine lv_topl (fun j_10 ej_10 => ?_)
      have bj_10 : ivL 0 4 j_10 := by rw [ej_10]; exact ivL_of br_9
      refine W.lcmp hx hb dX10_isSo_42 ?_
      refine lv_if_ne (tgt := 50) hx hb dX10_isSo_43 (by decide) (fun c_11 => ?_) (fun c_11 => ?_)
      · replace c_11 : ¬ j_6 = j_10 := fun z => c_11 ((lg_cmp_eq _ _).mpr z)
        refine lv_iconst (v := 0) hx hb dX10_isSo_50 (by decide) ?_
        exact fiZ rfl hx hb hr hlk hK hP hD hS dX10_isSo_51 (Nat.le_of_ble_eq_true rfl) (Nat.le_of_ble_eq_true rfl) (⟨(iv_c (0 : Int32) (by decide)), (isF_d c_1 ex_4 ex_5 ej_6 c_7 er_9 ej_10 c_11), (fun q9 => absurd q9 (by decide)), rfl⟩)
      · replace c_11 : j_6 = j_10 := (lg_cmp_eq _ _).mp c_11
        have b_12 : ivL 0 4 j_6 := ivL_q c_11 bj_10
        refine lv_iconst (v := 1) hx hb dX10_isSo_46 (by decide) ?_
        refine lv_goto (tgt := 51) hx hb dX10_isSo_47 (by decide) ?_
        exact fiZ rfl hx hb hr hlk hK hP hD hS dX10_isSo_51 (Nat.le_of_ble_eq_true rfl) (Nat.le_of_ble_eq_true rfl) (⟨(iv_c (1 : Int32) (by decide)), (isF_c c_1 ex_4 ex_5 ej_6 c_7 er_9 ej_10 c_11), (fun _ => b_3), rfl⟩)
theorem dX10_laysHigh_0 : decode cX10_laysHigh 0 = .ok (.aload_n 0, 1) := by decide +kernel
theorem dX10_laysHigh_1 : decode cX10_laysHigh 1 = .ok (.invokevirtual 362, 3) := by decide +kernel
theorem dX10_laysHigh_4 : decode cX10_laysHigh 4 = .ok (.aload_n 0, 1) := by decide +kernel
theorem dX10_laysHigh_5 : decode cX10_laysHigh 5 = .ok (.getfield 87, 3) := by decide +kernel
theorem dX10_laysHigh_8 : decode cX10_laysHigh 8 = .ok (.iload_n 1, 1) := by decide +kernel
theorem dX10_laysHigh_9 : decode cX10_laysHigh 9 = .ok (.iaload, 1) := by decide +kernel
theorem dX10_laysHigh_10 : decode cX10_laysHigh 10 = .ok (.istore_n 3, 1) := by decide +kernel
theorem dX10_laysHigh_11 : decode cX10_laysHigh 11 = .ok (.iconst 0, 1) := by decide +kernel
theorem dX10_laysHigh_12 : decode cX10_laysHigh 12 = .ok (.istore 4, 2) := by decide +kernel
theorem dX10_laysHigh_14 : decode cX10_laysHigh 14 = .ok (.iload 4, 2) := by decide +kernel
theorem dX10_laysHigh_16 : decode cX10_laysHigh 16 = .ok (.aload_n 0, 1) := by decide +kernel
theorem dX10_laysHigh_17 : decode cX10_laysHigh 17 = .ok (.getfield 355, 3) := by decide +kernel
theorem dX10_laysHigh_20 : decode cX10_laysHigh 20 = .ok (.if_icmp .ge 28, 3) := by decide +kernel
theorem dX10_laysHigh_48 : decode cX10_laysHigh 48 = .ok (.iload_n 3, 1) := by decide +kernel
theorem dX10_laysHigh_49 : decode cX10_laysHigh 49 = .ok (.iconst 1, 1) := by decide +kernel
theorem dX10_laysHigh_50 : decode cX10_laysHigh 50 = .ok (.isub, 1) := by decide +kernel
theorem dX10_laysHigh_51 : decode cX10_laysHigh 51 = .ok (.istore 4, 2) := by decide +kernel
theorem dX10_laysHigh_53 : decode cX10_laysHigh 53 = .ok (.iload 4, 2) := by decide +kernel
theorem dX10_laysHigh_55 : decode cX10_laysHigh 55 = .ok (.ifCond .lt 119, 3) := by decide +kernel
theorem dX10_laysHigh_174 : decode cX10_laysHigh 174 = .ok (.aload_n 0, 1) := by decide +kernel
theorem q_6_19 : Cond.fieldLink "BeaconDelayModel" 78 "BeaconDelayModel" "on" "[J" ∈ gw := gw_6 (i := 19) (by decide +kernel) rfl
theorem dX10_laysHigh_175 : decode cX10_laysHigh 175 = .ok (.getfield 78, 3) := by decide +kernel
theorem dX10_laysHigh_178 : decode cX10_laysHigh 178 = .ok (.aload_n 0, 1) := by decide +kernel
theorem dX10_laysHigh_179 : decode cX10_laysHigh 179 = .ok (.invokevirtual 269, 3) := by decide +kernel
theorem dX10_laysHigh_182 : decode cX10_laysHigh 182 = .ok (.laload, 1) := by decide +kernel
theorem dX10_laysHigh_183 : decode cX10_laysHigh 183 = .ok (.lreturn, 1) := by decide +kernel
theorem dX10_laysHigh_58 : decode cX10_laysHigh 58 = .ok (.iconst 0, 1) := by decide +kernel
theorem dX10_laysHigh_59 : decode cX10_laysHigh 59 = .ok (.istore 5, 2) := by decide +kernel
theorem dX10_laysHigh_61 : decode cX10_laysHigh 61 = .ok (.iload 5, 2) := by decide +kernel
theorem dX10_laysHigh_63 : decode cX10_laysHigh 63 = .ok (.aload_n 0, 1) := by decide +kernel
theorem dX10_laysHigh_64 : decode cX10_laysHigh 64 = .ok (.getfield 355, 3) := by decide +kernel
theorem dX10_laysHigh_67 : decode cX10_laysHigh 67 = .ok (.if_icmp .ge 101, 3) := by decide +kernel
theorem dX10_laysHigh_168 : decode cX10_laysHigh 168 = .ok (.iinc 4 (-1), 3) := by decide +kernel
theorem dX10_laysHigh_171 : decode cX10_laysHigh 171 = .ok (.goto (-118), 3) := by decide +kernel
theorem dX10_laysHigh_70 : decode cX10_laysHigh 70 = .ok (.lconst 0, 1) := by decide +kernel
theorem dX10_laysHigh_71 : decode cX10_laysHigh 71 = .ok (.lstore 6, 2) := by decide +kernel
theorem dX10_laysHigh_73 : decode cX10_laysHigh 73 = .ok (.iconst 0, 1) := by decide +kernel
theorem dX10_laysHigh_74 : decode cX10_laysHigh 74 = .ok (.istore 8, 2) := by decide +kernel
theorem dX10_laysHigh_76 : decode cX10_laysHigh 76 = .ok (.iload 8, 2) := by decide +kernel
theorem dX10_laysHigh_78 : decode cX10_laysHigh 78 = .ok (.iconst 4, 1) := by decide +kernel
theorem dX10_laysHigh_79 : decode cX10_laysHigh 79 = .ok (.if_icmp .ge 62, 3) := by decide +kernel
theorem dX10_laysHigh_141 : decode cX10_laysHigh 141 = .ok (.aload_n 0, 1) := by decide +kernel
theorem dX10_laysHigh_142 : decode cX10_laysHigh 142 = .ok (.getfield 78, 3) := by decide +kernel
theorem dX10_laysHigh_145 : decode cX10_laysHigh 145 = .ok (.sipush 10000, 3) := by decide +kernel
theorem dX10_laysHigh_148 : decode cX10_laysHigh 148 = .ok (.iload 4, 2) := by decide +kernel
theorem dX10_laysHigh_150 : decode cX10_laysHigh 150 = .ok (.imul, 1) := by decide +kernel
theorem dX10_laysHigh_151 : decode cX10_laysHigh 151 = .ok (.aload_n 0, 1) := by decide +kernel
theorem dX10_laysHigh_152 : decode cX10_laysHigh 152 = .ok (.getfield 45, 3) := by decide +kernel
theorem dX10_laysHigh_155 : decode cX10_laysHigh 155 = .ok (.iload 5, 2) := by decide +kernel
theorem dX10_laysHigh_157 : decode cX10_laysHigh 157 = .ok (.iaload, 1) := by decide +kernel
theorem dX10_laysHigh_158 : decode cX10_laysHigh 158 = .ok (.iadd, 1) := by decide +kernel
theorem dX10_laysHigh_159 : decode cX10_laysHigh 159 = .ok (.lload 6, 2) := by decide +kernel
theorem dX10_laysHigh_161 : decode cX10_laysHigh 161 = .ok (.lastore, 1) := by decide +kernel
theorem dX10_laysHigh_162 : decode cX10_laysHigh 162 = .ok (.iinc 5 1, 3) := by decide +kernel
theorem dX10_laysHigh_165 : decode cX10_laysHigh 165 = .ok (.goto (-104), 3) := by decide +kernel
theorem dX10_laysHigh_82 : decode cX10_laysHigh 82 = .ok (.aload_n 0, 1) := by decide +kernel
theorem dX10_laysHigh_83 : decode cX10_laysHigh 83 = .ok (.getfield 49, 3) := by decide +kernel
theorem dX10_laysHigh_86 : decode cX10_laysHigh 86 = .ok (.iconst 4, 1) := by decide +kernel
theorem dX10_laysHigh_87 : decode cX10_laysHigh 87 = .ok (.aload_n 0, 1) := by decide +kernel
theorem dX10_laysHigh_88 : decode cX10_laysHigh 88 = .ok (.getfield 45, 3) := by decide +kernel
theorem dX10_laysHigh_91 : decode cX10_laysHigh 91 = .ok (.iload 5, 2) := by decide +kernel
theorem dX10_laysHigh_93 : decode cX10_laysHigh 93 = .ok (.iaload, 1) := by decide +kernel
theorem dX10_laysHigh_94 : decode cX10_laysHigh 94 = .ok (.imul, 1) := by decide +kernel
theorem dX10_laysHigh_95 : decode cX10_laysHigh 95 = .ok (.iload 8, 2) := by decide +kernel
theorem dX10_laysHigh_97 : decode cX10_laysHigh 97 = .ok (.iadd, 1) := by decide +kernel
theorem dX10_laysHigh_98 : decode cX10_laysHigh 98 = .ok (.iaload, 1) := by decide +kernel
theorem dX10_laysHigh_99 : decode cX10_laysHigh 99 = .ok (.istore 9, 2) := by decide +kernel
theorem dX10_laysHigh_101 : decode cX10_laysHigh 101 = .ok (.aload_n 0, 1) := by decide +kernel
theorem dX10_laysHigh_102 : decode cX10_laysHigh 102 = .ok (.iload_n 1, 1) := by decide +kernel
theorem dX10_laysHigh_103 : decode cX10_laysHigh 103 = .ok (.iload_n 2, 1) := by decide +kernel
theorem dX10_laysHigh_104 : decode cX10_laysHigh 104 = .ok (.iload 4, 2) := by decide +kernel
theorem dX10_laysHigh_106 : decode cX10_laysHigh 106 = .ok (.iload 9, 2) := by decide +kernel
theorem q_8_63 : Cond.code yX10_isSo prog_12_method_108_code 5 (some FieldType.boolean) ∈ gw := gw_8 (i := 63) (rfl) rfl
theorem q_8_62 : Cond.instanceMethod yX10_isSo ∈ gw := gw_8 (i := 62) (by decide +kernel) rfl
theorem q_s_119 : Cond.selects "BeaconDelayModel" yX10_isSo yX10_isSo ∈ gw := gw_s (i := 119) (by decide +kernel) rfl
theorem mt_X10_isSo : MtV yX10_isSo cX10_isSo 5 (some .boolean) 4 := ⟨⟨q_8_63, q_1_9, by decide +kernel, by decide +kernel, by decide +kernel⟩, q_8_62, q_s_119⟩
theorem q_8_60 : Cond.methodLink "BeaconDelayModel" 421 yX10_isSo ∈ gw := gw_8 (i := 60) (by decide +kernel) rfl
theorem dX10_laysHigh_108 : decode cX10_laysHigh 108 = .ok (.invokevirtual 421, 3) := by decide +kernel
theorem dX10_laysHigh_111 : decode cX10_laysHigh 111 = .ok (.ifCond .eq 24, 3) := by decide +kernel
theorem dX10_laysHigh_135 : decode cX10_laysHigh 135 = .ok (.iinc 8 1, 3) := by decide +kernel
theorem dX10_laysHigh_138 : decode cX10_laysHigh 138 = .ok (.goto (-62), 3) := by decide +kernel
theorem dX10_laysHigh_114 : decode cX10_laysHigh 114 = .ok (.lload 6, 2) := by decide +kernel
theorem dX10_laysHigh_116 : decode cX10_laysHigh 116 = .ok (.aload_n 0, 1) := by decide +kernel
theorem dX10_laysHigh_117 : decode cX10_laysHigh 117 = .ok (.getfield 78, 3) := by decide +kernel
theorem dX10_laysHigh_120 : decode cX10_laysHigh 120 = .ok (.sipush 10000, 3) := by decide +kernel
theorem dX10_laysHigh_123 : decode cX10_laysHigh 123 = .ok (.iload 4, 2) := by decide +kernel
theorem dX10_laysHigh_125 : decode cX10_laysHigh 125 = .ok (.iconst 1, 1) := by decide +kernel
theorem dX10_laysHigh_126 : decode cX10_laysHigh 126 = .ok (.iadd, 1) := by decide +kernel
theorem dX10_laysHigh_127 : decode cX10_laysHigh 127 = .ok (.imul, 1) := by decide +kernel
theorem dX10_laysHigh_128 : decode cX10_laysHigh 128 = .ok (.iload 9, 2) := by decide +kernel
theorem dX10_laysHigh_130 : decode cX10_laysHigh 130 = .ok (.iadd, 1) := by decide +kernel
theorem dX10_laysHigh_131 : decode cX10_laysHigh 131 = .ok (.laload, 1) := by decide +kernel
theorem dX10_laysHigh_132 : decode cX10_laysHigh 132 = .ok (.ladd, 1) := by decide +kernel
theorem dX10_laysHigh_133 : decode cX10_laysHigh 133 = .ok (.lstore 6, 2) := by decide +kernel
theorem dX10_laysHigh_23 : decode cX10_laysHigh 23 = .ok (.aload_n 0, 1) := by decide +kernel
theorem dX10_laysHigh_24 : decode cX10_laysHigh 24 = .ok (.getfield 78, 3) := by decide +kernel
theorem dX10_laysHigh_27 : decode cX10_laysHigh 27 = .ok (.sipush 10000, 3) := by decide +kernel
theorem dX10_laysHigh_30 : decode cX10_laysHigh 30 = .ok (.iload_n 3, 1) := by decide +kernel
theorem dX10_laysHigh_31 : decode cX10_laysHigh 31 = .ok (.imul, 1) := by decide +kernel
theorem dX10_laysHigh_32 : decode cX10_laysHigh 32 = .ok (.aload_n 0, 1) := by decide +kernel
theorem dX10_laysHigh_33 : decode cX10_laysHigh 33 = .ok (.getfield 45, 3) := by decide +kernel
theorem dX10_laysHigh_36 : decode cX10_laysHigh 36 = .ok (.iload 4, 2) := by decide +kernel
theorem dX10_laysHigh_38 : decode cX10_laysHigh 38 = .ok (.iaload, 1) := by decide +kernel
theorem dX10_laysHigh_39 : decode cX10_laysHigh 39 = .ok (.iadd, 1) := by decide +kernel
theorem dX10_laysHigh_40 : decode cX10_laysHigh 40 = .ok (.lconst 1, 1) := by decide +kernel
theorem dX10_laysHigh_41 : decode cX10_laysHigh 41 = .ok (.lastore, 1) := by decide +kernel
theorem dX10_laysHigh_42 : decode cX10_laysHigh 42 = .ok (.iinc 4 1, 3) := by decide +kernel
theorem dX10_laysHigh_45 : decode cX10_laysHigh 45 = .ok (.goto (-31), 3) := by decide +kernel
set_option maxHeartbeats 4000000 in
set_option maxRecDepth 100000 in
theorem k_X10_laysHigh_0 (l : Launch) (V : GV) (z : Nat → Nat) (a1 : Int32) (a2 : Int32) (fz15 : Nat → Int32) (fz16 : Nat → Int32) (fz24 : Nat → Int32) (fz25 : Nat → Int32) (fz28 : Nat → Int32) (fz35 : Nat → Int64) (pz0_0 : Int32) (pz0_5 : Int32) (pz0_6 : Int32) (pz0_7 : Int32) (pz0_8 : Int32) (pz0_9 : Int32) (pz0_10 : Int32) (pz0_11 : Int32) (pz0_12 : Int32) (pz0_13 : Int32) (pz0_14 : Int32) (pz0_18 : Int32) (pz0_19 : Int32) (pz0_22 : Int32) (pz0_23 : Int32) (pz0_29 : Int32) (fz1 : Nat → Int32) (fz38 : Nat → Int32) (fz39 : Nat → Int64) (ba1 : iv 0 3 a1) (ba2 : iv 0 3 a2) (tfz16 : ivT tW fz16) (tfz24 : ∀ j, iv 0 9999 (fz24 j)) (tfz25 : ∀ j, iv (-1) 9999 (fz25 j)) (bpz0_5 : iv 0 900 pz0_5) (bpz0_6 : iv 0 900 pz0_6) (bpz0_7 : iv 0 900 pz0_7) (bpz0_8 : iv 0 900 pz0_8) (bpz0_10 : iv 0 999 pz0_10) (bpz0_11 : iv 0 4 pz0_11) (bpz0_12 : iv 0 900 pz0_12) (bpz0_13 : iv 0 4 pz0_13) (bpz0_14 : iv (-1) 900 pz0_14) (bpz0_18 : iv 0 2 pz0_18) (bpz0_22 : iv 0 9999 pz0_22) (bpz0_29 : iv 0 10000 pz0_29) (tfz1 : ivT tA fz1) (tfz38 : ∀ j, iv 0 40 (fz38 j)) (hf0 : RW fz1) (hf1 : iv 1 8 (fz38 (a1 : Int32).toNatClampNeg)) : Ct l V yX10_laysHigh (.code yX10_laysHigh cX10_laysHigh 10 (some .long)) 6 [.ref (z 0), .int a1, .int a2] [(z 15, aI V 900 fz15), (z 16, aI V 6 fz16), (z 24, aI V 10000 fz24), (z 25, aI V 40000 fz25), (z 28, aZ V 10000 fz28), (z 35, aJ V 90000 fz35), (z 0, .inr (10, mo z pz0_0 pz0_5 pz0_6 pz0_7 pz0_8 pz0_9 pz0_10 pz0_11 pz0_12 pz0_13 pz0_14 pz0_18 pz0_19 pz0_22 pz0_23 pz0_29)), (z 1, aI V 3075 fz1), (z 38, aI V 4 fz38), (z 39, aJ V 160 fz39)] 0 0 (QL V (fun (r : Int64) (w : va_W) => ∃ (g0 : Nat → Int32) (g1 : Nat → Int32) (g2 : Nat → Int32) (g3 : Nat → Int32) (g4 : Nat → Int32) (g5 : Nat → Int64) (v6 : Int32), (ivT tW g1) ∧ (∀ j, iv 0 9999 (g2 j)) ∧ (∀ j, iv (-1) 9999 (g3 j)) ∧ iv 0 10000 v6 ∧ (RW fz1) ∧ (SL v6 g2 g3) ∧ (inS v6 g2 (snF fz1).toNatClampNeg) ∧ (HA v6 (fz38 (a1 : Int32).toNatClampNeg).toInt g2 g3 g5 fz39 a1 a2) ∧ (r = g5 (snF fz1).toNatClampNeg) ∧ w = [(z 15, aI V 900 g0), (z 16, aI V 6 g1), (z 24, aI V 10000 g2), (z 25, aI V 40000 g3), (z 28, aZ V 10000 g4), (z 35, aJ V 90000 g5), (z 0, .inr (10, mo z pz0_0 pz0_5 pz0_6 pz0_7 pz0_8 pz0_9 pz0_10 pz0_11 pz0_12 pz0_13 pz0_14 pz0_18 pz0_19 pz0_22 pz0_23 v6)), (z 1, aI V 3075 fz1), (z 38, aI V 4 fz38), (z 39, aJ V 160 fz39)])) := by
  refine Ct.of (by decide) (Nat.le_of_ble_eq_true rfl) (fun p e s m below meth c A ls hx hb hr hml hown hlk hnm hg hP hK hD hE hA hS hl => ?_)
  have hl : lv_has ls 10 [(0, .ref (z 0)), (1, .int a1), (2, .int a2)] := hl
  refine lv_aload_n hx hb dX10_laysHigh_0 rfl (lv_at hl 0 rfl) ?_
  refine jnV (wr := [(z 35, aJ V 90000 fz35), (z 38, aI V 4 fz38), (z 39, aJ V 160 fz39)]) (rnV (rest := []) ⟨hx, hb, hml, hown, hg⟩ (k_X10_laysStands_0 l V z fz15 fz16 fz24 fz25 fz28 pz0_0 pz0_5 pz0_6 pz0_7 pz0_8 pz0_9 pz0_10 pz0_11 pz0_12 pz0_13 pz0_14 pz0_18 pz0_19 pz0_22 pz0_23 pz0_29 fz1 tfz16 tfz24 tfz25 bpz0_5 bpz0_6 bpz0_7 bpz0_8 bpz0_10 bpz0_11 bpz0_12 bpz0_13 bpz0_14 bpz0_18 bpz0_22 bpz0_29 tfz1 hf0) mt_X10_laysStands q_7_194 ⟨Nat.le_of_ble_eq_true rfl, Nat.le_of_ble_eq_true rfl⟩ hK hP hD hS hA hE [0, 1, 2, 3, 4, 6, 7] rfl rfl 6 rfl rfl rfl rfl hl.1 rfl (Nat.le_of_ble_eq_true rfl) dX10_laysHigh_1 ⟨Nat.le_of_ble_eq_true rfl, Nat.le_of_ble_eq_true rfl⟩) hP hD hS hA [0, 1, 2, 3, 4, 6, 7] [5, 8, 9] rfl rfl rfl (by decide) (fun  w H locs hw hP hD hS => ?_)
  obtain ⟨f_1, f_2, f_3, f_4, f_5, v_6, tf_2, tf_3, tf_4, bv_6, g_7, g_8, g_9, rfl⟩ := hw
  have hP : va_P V.1 vwCl [(z 35, aJ V 90000 fz35), (z 38, aI V 4 fz38), (z 39, aJ V 160 fz39), (z 15, aI V 900 f_1), (z 16, aI V 6 f_2), (z 24, aI V 10000 f_3), (z 25, aI V 40000 f_4), (z 28, aZ V 10000 f_5), (z 0, .inr (10, mo z pz0_0 pz0_5 pz0_6 pz0_7 pz0_8 pz0_9 pz0_10 pz0_11 pz0_12 pz0_13 pz0_14 pz0_18 pz0_19 pz0_22 pz0_23 v_6)), (z 1, aI V 3075 fz1)] H := hP
  have hD : va_D A [(z 35, aJ V 90000 fz35), (z 38, aI V 4 fz38), (z 39, aJ V 160 fz39), (z 15, aI V 900 f_1), (z 16, aI V 6 f_2), (z 24, aI V 10000 f_3), (z 25, aI V 40000 f_4), (z 28, aZ V 10000 f_5), (z 0, .inr (10, mo z pz0_0 pz0_5 pz0_6 pz0_7 pz0_8 pz0_9 pz0_10 pz0_11 pz0_12 pz0_13 pz0_14 pz0_18 pz0_19 pz0_22 pz0_23 v_6)), (z 1, aI V 3075 fz1)] := hD
  refine lv_aload_n hx hb dX10_laysHigh_4 rfl (lv_at hl 0 rfl) ?_
  refine va_get (ci := 10) (v := .ref (z 38)) (C := RX10) (T := TX10) (N := 40) hx hb hg inX10 hown hK hP 8 rfl rfl 38 (by decide) (hg _ q_6_22) (fun _ h9 => h9) rfl dX10_laysHigh_5 ?_
  refine lv_iload_n hx hb dX10_laysHigh_8 rfl (lv_at hl 1 rfl) ?_
  refine va_iald hx hb hK hP 1 0 rfl rfl (iv_in ba1 (by decide)) dX10_laysHigh_9 ?_
  refine lv_topi (fun x_10 ex_10 => ?_)
  have bx_10 : iv 0 40 x_10 := by rw [ex_10]; exact tfz38 _
  have b_11 : iv 1 8 x_10 := by rw [ex_10]; exact hf1
  refine lv_istore_n (lv' := [(3, .int x_10), (0, .ref (z 0)), (1, .int a1), (2, .int a2)]) hx hb dX10_laysHigh_10 rfl hl (by decide) rfl (fun ls hl => ?_)
  refine lv_iconst (v := 0) hx hb dX10_laysHigh_11 (by decide) ?_
  refine lv_istore (lv' := [(4, .int 0), (3, .int x_10), (0, .ref (z 0)), (1, .int a1), (2, .int a2)]) hx hb dX10_laysHigh_12 hl (by decide) rfl (fun ls hl => ?_)
  refine loopF (X := fun (n_14 : Nat) (H : Heap) (locs : List Loc) (ls : Array Slot) => ∃ (u_12 : Int32) (f_13 : Nat → Int64), (iv 0 2147483647 u_12) ∧ (RW fz1) ∧ n_14 = (2147483647 - (u_12 : Int32).toInt).toNat ∧ va_P V.1 vwCl [(z 35, aJ V 90000 f_13), (z 38, aI V 4 fz38), (z 39, aJ V 160 fz39), (z 15, aI V 900 f_1), (z 16, aI V 6 f_2), (z 24, aI V 10000 f_3), (z 25, aI V 40000 f_4), (z 28, aZ V 10000 f_5), (z 0, .inr (10, mo z pz0_0 pz0_5 pz0_6 pz0_7 pz0_8 pz0_9 pz0_10 pz0_11 pz0_12 pz0_13 pz0_14 pz0_18 pz0_19 pz0_22 pz0_23 v_6)), (z 1, aI V 3075 fz1)] H ∧ va_D A [(z 35, aJ V 90000 f_13), (z 38, aI V 4 fz38), (z 39, aJ V 160 fz39), (z 15, aI V 900 f_1), (z 16, aI V 6 f_2), (z 24, aI V 10000 f_3), (z 25, aI V 40000 f_4), (z 28, aZ V 10000 f_5), (z 0, .inr (10, mo z pz0_0 pz0_5 pz0_6 pz0_7 pz0_8 pz0_9 pz0_10 pz0_11 pz0_12 pz0_13 pz0_14 pz0_18 pz0_19 pz0_22 pz0_23 v_6)), (z 1, aI V 3075 fz1)] ∧ va_S A s.heap H locs ∧ lv_has ls 10 [(4, .int u_12), (3, .int x_10), (0, .ref (z 0)), (1, .int a1), (2, .int a2)]) (g := fun ls => F0 m 14 ls []) (fun n_14 H locs ls hX ihn_14 => ?_) _ ⟨0, fz35, (iv_c (0 : Int32) (by decide)), g_7, rfl, hP, hD, hS, lv_sub hl [0, 1, 2, 3, 4] rfl⟩
  obtain ⟨u_12, f_13, bu_12, inn_14_0, en_14, hP, hD, hS, hl⟩ := hX
  refine lv_iload hx hb dX10_laysHigh_14 (lv_at hl 0 rfl) ?_
  refine lv_aload_n hx hb dX10_laysHigh_16 rfl (lv_at hl 2 rfl) ?_
  refine va_get (ci := 10) (v := .int v_6) (C := RX10) (T := TX10) (N := 40) hx hb hg inX10 hown hK hP 8 rfl rfl 29 (by decide) (hg _ q_6_13) (fun _ h9 => h9) rfl dX10_laysHigh_17 ?_
  refine lv_icmp_ge (tgt := 48) hx hb dX10_laysHigh_20 (by decide) (fun c_15 => ?_) (fun c_15 => ?_)
  · refine lv_iload_n hx hb dX10_laysHigh_48 rfl (lv_at hl 1 rfl) ?_
    refine lv_iconst (v := 1) hx hb dX10_laysHigh_49 (by decide) ?_
    refine lv_isub hx hb dX10_laysHigh_50 ?_
    refine lv_topi (fun x_16 ex_16 => ?_)
    have bx_16 : iv 0 7 x_16 := by rw [ex_16]; exact iv_sub b_11 (iv_c (1 : Int32) (a := 1) (b := 1) (by decide)) (by decide)
    refine lv_istore (lv' := [(4, .int x_16), (3, .int x_10), (0, .ref (z 0)), (1, .int a1), (2, .int a2)]) hx hb dX10_laysHigh_51 hl (by decide) rfl (fun ls hl => ?_)
    refine loopF (X := fun (n_19 : Nat) (H : Heap) (locs : List Loc) (ls : Array Slot) => ∃ (u_17 : Int32) (f_18 : Nat → Int64), (iv (-1) 7 u_17) ∧ (HR v_6 (x_10 : Int32).toInt f_3 f_4 f_18 fz39 a1 a2 u_17) ∧ (RW fz1) ∧ n_19 = ((u_17 : Int32).toInt + 2147483648).toNat ∧ va_P V.1 vwCl [(z 35, aJ V 90000 f_18), (z 38, aI V 4 fz38), (z 39, aJ V 160 fz39), (z 15, aI V 900 f_1), (z 16, aI V 6 f_2), (z 24, aI V 10000 f_3), (z 25, aI V 40000 f_4), (z 28, aZ V 10000 f_5), (z 0, .inr (10, mo z pz0_0 pz0_5 pz0_6 pz0_7 pz0_8 pz0_9 pz0_10 pz0_11 pz0_12 pz0_13 pz0_14 pz0_18 pz0_19 pz0_22 pz0_23 v_6)), (z 1, aI V 3075 fz1)] H ∧ va_D A [(z 35, aJ V 90000 f_18), (z 38, aI V 4 fz38), (z 39, aJ V 160 fz39), (z 15, aI V 900 f_1), (z 16, aI V 6 f_2), (z 24, aI V 10000 f_3), (z 25, aI V 40000 f_4), (z 28, aZ V 10000 f_5), (z 0, .inr (10, mo z pz0_0 pz0_5 pz0_6 pz0_7 pz0_8 pz0_9 pz0_10 pz0_11 pz0_12 pz0_13 pz0_14 pz0_18 pz0_19 pz0_22 pz0_23 v_6)), (z 1, aI V 3075 fz1)] ∧ va_S A s.heap H locs ∧ lv_has ls 10 [(4, .int u_17), (3, .int x_10), (0, .ref (z 0)), (1, .int a1), (2, .int a2)]) (g := fun ls => F0 m 53 ls []) (fun n_19 H locs ls hX ihn_19 => ?_) _ ⟨x_16, f_13, (iv_w bx_16 (by decide)), (HR_0 ex_16 b_11 (by decide) rfl), inn_14_0, rfl, hP, hD, hS, lv_sub hl [0, 1, 2, 3, 4] rfl⟩
    obtain ⟨u_17, f_18, bu_17, inn_19_0, inn_19_1, en_19, hP, hD, hS, hl⟩ := hX
    refine lv_iload hx hb dX10_laysHigh_53 (lv_at hl 0 rfl) ?_
    refine lv_if_lt (tgt := 174) hx hb dX10_laysHigh_55 (by decide) (fun c_20 => ?_) (fun c_20 => ?_)
    · have b_21 : iv (-1) (-1) u_17 := iv_l1 c_20 bu_17 (iv_c (0 : Int32) (a := 0) (b := 0) (by decide)) (by decide)
      refine lv_aload_n hx hb dX10_laysHigh_174 rfl (lv_at hl 2 rfl) ?_
      refine va_get (ci := 10) (v := .ref (z 35)) (C := RX10) (T := TX10) (N := 40) hx hb hg inX10 hown hK hP 8 rfl rfl 35 (by decide) (hg _ q_6_19) (fun _ h9 => h9) rfl dX10_laysHigh_175 ?_
      refine lv_aload_n hx hb dX10_laysHigh_178 rfl (lv_at hl 2 rfl) ?_
      refine jnI (wr := [(z 35, aJ V 90000 f_18), (z 38, aI V 4 fz38), (z 39, aJ V 160 fz39), (z 15, aI V 900 f_1), (z 16, aI V 6 f_2), (z 24, aI V 10000 f_3), (z 25, aI V 40000 f_4), (z 28, aZ V 10000 f_5)]) (rnV (rest := [.ref (z 35)]) ⟨hx, hb, hml, hown, hg⟩ (k_X10_standNow_0 l V z pz0_0 pz0_5 pz0_6 pz0_7 pz0_8 pz0_9 pz0_10 pz0_11 pz0_12 pz0_13 pz0_14 pz0_18 pz0_19 pz0_22 pz0_23 v_6 fz1 bpz0_5 bpz0_6 bpz0_7 bpz0_8 bpz0_10 bpz0_11 bpz0_12 bpz0_13 bpz0_14 bpz0_18 bpz0_22 bv_6 tfz1) mt_X10_standNow q_7_11 ⟨Nat.le_of_ble_eq_true rfl, Nat.le_of_ble_eq_true rfl⟩ hK hP hD hS hA hE [8, 9] rfl rfl 8 rfl rfl rfl rfl hl.1 rfl (Nat.le_of_ble_eq_true rfl) dX10_laysHigh_179 ⟨Nat.le_of_ble_eq_true rfl, Nat.le_of_ble_eq_true rfl⟩) hP hD hS hA [8, 9] [0, 1, 2, 3, 4, 5, 6, 7] rfl rfl rfl (by decide) (fun r_22 w H locs hw hP hD hS => ?_)
      obtain ⟨br_22, er_22, rfl⟩ := hw
      have hP : va_P V.1 vwCl [(z 35, aJ V 90000 f_18), (z 38, aI V 4 fz38), (z 39, aJ V 160 fz39), (z 15, aI V 900 f_1), (z 16, aI V 6 f_2), (z 24, aI V 10000 f_3), (z 25, aI V 40000 f_4), (z 28, aZ V 10000 f_5), (z 0, .inr (10, mo z pz0_0 pz0_5 pz0_6 pz0_7 pz0_8 pz0_9 pz0_10 pz0_11 pz0_12 pz0_13 pz0_14 pz0_18 pz0_19 pz0_22 pz0_23 v_6)), (z 1, aI V 3075 fz1)] H := hP
      have hD : va_D A [(z 35, aJ V 90000 f_18), (z 38, aI V 4 fz38), (z 39, aJ V 160 fz39), (z 15, aI V 900 f_1), (z 16, aI V 6 f_2), (z 24, aI V 10000 f_3), (z 25, aI V 40000 f_4), (z 28, aZ V 10000 f_5), (z 0, .inr (10, mo z pz0_0 pz0_5 pz0_6 pz0_7 pz0_8 pz0_9 pz0_10 pz0_11 pz0_12 pz0_13 pz0_14 pz0_18 pz0_19 pz0_22 pz0_23 v_6)), (z 1, aI V 3075 fz1)] := hD
      refine va_lald hx hb hK hP 0 2 rfl rfl (iv_in br_22 (by decide)) dX10_laysHigh_182 ?_
      refine lv_topl (fun j_23 ej_23 => ?_)
      have hP := subP (ws' := [(z 15, aI V 900 f_1), (z 16, aI V 6 f_2), (z 24, aI V 10000 f_3), (z 25, aI V 40000 f_4), (z 28, aZ V 10000 f_5), (z 35, aJ V 90000 f_18), (z 0, .inr (10, mo z pz0_0 pz0_5 pz0_6 pz0_7 pz0_8 pz0_9 pz0_10 pz0_11 pz0_12 pz0_13 pz0_14 pz0_18 pz0_19 pz0_22 pz0_23 v_6)), (z 1, aI V 3075 fz1), (z 38, aI V 4 fz38), (z 39, aJ V 160 fz39)]) hP [3, 4, 5, 6, 7, 0, 8, 9, 1, 2] rfl
      have hD := hD.sub (ws' := [(z 15, aI V 900 f_1), (z 16, aI V 6 f_2), (z 24, aI V 10000 f_3), (z 25, aI V 40000 f_4), (z 28, aZ V 10000 f_5), (z 35, aJ V 90000 f_18), (z 0, .inr (10, mo z pz0_0 pz0_5 pz0_6 pz0_7 pz0_8 pz0_9 pz0_10 pz0_11 pz0_12 pz0_13 pz0_14 pz0_18 pz0_19 pz0_22 pz0_23 v_6)), (z 1, aI V 3075 fz1), (z 38, aI V 4 fz38), (z 39, aJ V 160 fz39)]) [3, 4, 5, 6, 7, 0, 8, 9, 1, 2] rfl rfl
      exact fiL hx hb hr hlk hK hP hD hS dX10_laysHigh_183 (Nat.le_of_ble_eq_true rfl) (Nat.le_of_ble_eq_true rfl) (⟨f_1, f_2, f_3, f_4, f_5, f_18, v_6, tf_2, tf_3, tf_4, bv_6, inn_19_1, g_8, g_9, (by have q9 := HA_of inn_19_0 c_20; rw [ex_10] at q9; exact q9), (ej_23.trans (by rw [er_22])), rfl⟩)
    · have b_24 : iv 0 7 u_17 := iv_e2 (Int32.not_lt.mp c_20) (iv_c (0 : Int32) (a := 0) (b := 0) (by decide)) bu_17 (by decide)
      refine lv_iconst (v := 0) hx hb dX10_laysHigh_58 (by decide) ?_
      refine lv_istore (lv' := [(5, .int 0), (4, .int u_17), (3, .int x_10), (0, .ref (z 0)), (1, .int a1), (2, .int a2)]) hx hb dX10_laysHigh_59 hl (by decide) rfl (fun ls hl => ?_)
      refine loopF (X := fun (n_27 : Nat) (H : Heap) (locs : List Loc) (ls : Array Slot) => ∃ (u_25 : Int32) (f_26 : Nat → Int64), (iv 0 10000 u_25) ∧ (HR v_6 (x_10 : Int32).toInt f_3 f_4 f_26 fz39 a1 a2 u_17) ∧ (HK f_3 f_4 f_26 fz39 a1 a2 u_17 u_25) ∧ (RW fz1) ∧ n_27 = (2147483647 - (u_25 : Int32).toInt).toNat ∧ va_P V.1 vwCl [(z 35, aJ V 90000 f_26), (z 38, aI V 4 fz38), (z 39, aJ V 160 fz39), (z 15, aI V 900 f_1), (z 16, aI V 6 f_2), (z 24, aI V 10000 f_3), (z 25, aI V 40000 f_4), (z 28, aZ V 10000 f_5), (z 0, .inr (10, mo z pz0_0 pz0_5 pz0_6 pz0_7 pz0_8 pz0_9 pz0_10 pz0_11 pz0_12 pz0_13 pz0_14 pz0_18 pz0_19 pz0_22 pz0_23 v_6)), (z 1, aI V 3075 fz1)] H ∧ va_D A [(z 35, aJ V 90000 f_26), (z 38, aI V 4 fz38), (z 39, aJ V 160 fz39), (z 15, aI V 900 f_1), (z 16, aI V 6 f_2), (z 24, aI V 10000 f_3), (z 25, aI V 40000 f_4), (z 28, aZ V 10000 f_5), (z 0, .inr (10, mo z pz0_0 pz0_5 pz0_6 pz0_7 pz0_8 pz0_9 pz0_10 pz0_11 pz0_12 pz0_13 pz0_14 pz0_18 pz0_19 pz0_22 pz0_23 v_6)), (z 1, aI V 3075 fz1)] ∧ va_S A s.heap H locs ∧ lv_has ls 10 [(5, .int u_25), (4, .int u_17), (3, .int x_10), (0, .ref (z 0)), (1, .int a1), (2, .int a2)]) (g := fun ls => F0 m 61 ls []) (fun n_27 H locs ls hX ihn_27 => ?_) _ ⟨0, f_18, (iv_c (0 : Int32) (by decide)), inn_19_0, (HK_0 (by decide)), inn_19_1, rfl, hP, hD, hS, lv_sub hl [0, 1, 2, 3, 4, 5] rfl⟩
      obtain ⟨u_25, f_26, bu_25, inn_27_0, inn_27_1, inn_27_2, en_27, hP, hD, hS, hl⟩ := hX
      refine lv_iload hx hb dX10_laysHigh_61 (lv_at hl 0 rfl) ?_
      refine lv_aload_n hx hb dX10_laysHigh_63 rfl (lv_at hl 3 rfl) ?_
      refine va_get (ci := 10) (v := .int v_6) (C := RX10) (T := TX10) (N := 40) hx hb hg inX10 hown hK hP 8 rfl rfl 29 (by decide) (hg _ q_6_13) (fun _ h9 => h9) rfl dX10_laysHigh_64 ?_
      refine lv_icmp_ge (tgt := 168) hx hb dX10_laysHigh_67 (by decide) (fun c_28 => ?_) (fun c_28 => ?_)
      · obtain ⟨x_29, ex_29⟩ : ∃ z9 : Int32, z9 = u_17 + (-1) := ⟨_, rfl⟩
        have bx_29 : iv (-1) 6 x_29 := by rw [ex_29]; exact iv_add b_24 (iv_c ((-1) : Int32) (a := (-1)) (b := (-1)) (by decide)) (by decide)
        refine lv_iinc (v := x_29) (lv' := [(4, .int x_29), (5, .int u_25), (3, .int x_10), (0, .ref (z 0)), (1, .int a1), (2, .int a2)]) hx hb dX10_laysHigh_168 hl (k := 1) rfl (by rw [ex_29]; rfl) (by decide) rfl (fun ls hl => ?_)
        refine lv_goto (tgt := 53) hx hb dX10_laysHigh_171 (by decide) ?_
        exact ihn_19 _ _ _ _ (by rw [en_19, ex_29]; exact mu_dn b_24 (by decide)) ⟨x_29, f_26, (iv_w bx_29 (by decide)), (HR_s inn_27_0 inn_27_1 (Int32.not_lt.mpr c_28) b_24 (by decide) ex_29), inn_27_2, rfl, hP, hD, hS, lv_sub hl [0, 2, 3, 4, 5] rfl⟩
      · have b_30 : iv 0 9999 u_25 := iv_l1 (Int32.not_le.mp c_28) bu_25 bv_6 (by decide)
        have b_31 : iv 1 10000 v_6 := iv_l2 (Int32.not_le.mp c_28) bu_25 bv_6 (by decide)
        refine lv_lconst (v := 0) hx hb dX10_laysHigh_70 (by decide) ?_
        refine lv_lstore (lv' := [(6, .long 0), (5, .int u_25), (4, .int u_17), (3, .int x_10), (0, .ref (z 0)), (1, .int a1), (2, .int a2)]) hx hb dX10_laysHigh_71 hl (by decide) rfl (fun ls hl => ?_)
        refine lv_iconst (v := 0) hx hb dX10_laysHigh_73 (by decide) ?_
        refine lv_istore (lv' := [(8, .int 0), (6, .long 0), (5, .int u_25), (4, .int u_17), (3, .int x_10), (0, .ref (z 0)), (1, .int a1), (2, .int a2)]) hx hb dX10_laysHigh_74 hl (by decide) rfl (fun ls hl => ?_)
        refine loopF (X := fun (n_34 : Nat) (H : Heap) (locs : List Loc) (ls : Array Slot) => ∃ (u_32 : Int32) (w_33 : Int64), (iv 0 4 u_32) ∧ (HD f_3 f_4 f_26 fz39 a1 a2 u_17 u_25 u_32 w_33) ∧ (RW fz1) ∧ n_34 = (2147483647 - (u_32 : Int32).toInt).toNat ∧ va_P V.1 vwCl [(z 35, aJ V 90000 f_26), (z 38, aI V 4 fz38), (z 39, aJ V 160 fz39), (z 15, aI V 900 f_1), (z 16, aI V 6 f_2), (z 24, aI V 10000 f_3), (z 25, aI V 40000 f_4), (z 28, aZ V 10000 f_5), (z 0, .inr (10, mo z pz0_0 pz0_5 pz0_6 pz0_7 pz0_8 pz0_9 pz0_10 pz0_11 pz0_12 pz0_13 pz0_14 pz0_18 pz0_19 pz0_22 pz0_23 v_6)), (z 1, aI V 3075 fz1)] H ∧ va_D A [(z 35, aJ V 90000 f_26), (z 38, aI V 4 fz38), (z 39, aJ V 160 fz39), (z 15, aI V 900 f_1), (z 16, aI V 6 f_2), (z 24, aI V 10000 f_3), (z 25, aI V 40000 f_4), (z 28, aZ V 10000 f_5), (z 0, .inr (10, mo z pz0_0 pz0_5 pz0_6 pz0_7 pz0_8 pz0_9 pz0_10 pz0_11 pz0_12 pz0_13 pz0_14 pz0_18 pz0_19 pz0_22 pz0_23 v_6)), (z 1, aI V 3075 fz1)] ∧ va_S A s.heap H locs ∧ lv_has ls 10 [(8, .int u_32), (6, .long w_33), (5, .int u_25), (4, .int u_17), (3, .int x_10), (0, .ref (z 0)), (1, .int a1), (2, .int a2)]) (g := fun ls => F0 m 76 ls []) (fun n_34 H locs ls hX ihn_34 => ?_) _ ⟨0, 0, (iv_c (0 : Int32) (by decide)), HD_0, inn_27_2, rfl, hP, hD, hS, lv_sub hl [0, 1, 2, 3, 4, 5, 6, 7] rfl⟩
        obtain ⟨u_32, w_33, bu_32, inn_34_0, inn_34_1, en_34, hP, hD, hS, hl⟩ := hX
        refine lv_iload hx hb dX10_laysHigh_76 (lv_at hl 0 rfl) ?_
        refine lv_iconst (v := 4) hx hb dX10_laysHigh_78 (by decide) ?_
        refine lv_icmp_ge (tgt := 141) hx hb dX10_laysHigh_79 (by decide) (fun c_35 => ?_) (fun c_35 => ?_)
        · have b_36 : iv 4 4 u_32 := iv_e2 c_35 (iv_c (4 : Int32) (a := 4) (b := 4) (by decide)) bu_32 (by decide)
          refine lv_aload_n hx hb dX10_laysHigh_141 rfl (lv_at hl 5 rfl) ?_
          refine va_get (ci := 10) (v := .ref (z 35)) (C := RX10) (T := TX10) (N := 40) hx hb hg inX10 hown hK hP 8 rfl rfl 35 (by decide) (hg _ q_6_19) (fun _ h9 => h9) rfl dX10_laysHigh_142 ?_
          refine lv_sipush (v := 10000) hx hb dX10_laysHigh_145 (by decide) ?_
          refine lv_iload hx hb dX10_laysHigh_148 (lv_at hl 3 rfl) ?_
          refine lv_imul hx hb dX10_laysHigh_150 ?_
          refine lv_topi (fun x_37 ex_37 => ?_)
          have bx_37 : iv 0 70000 x_37 := by rw [ex_37]; exact iv_cmul (iv_c (10000 : Int32) (a := 10000) (b := 10000) (by decide)) b_24 (by decide)
          refine lv_aload_n hx hb dX10_laysHigh_151 rfl (lv_at hl 5 rfl) ?_
          refine va_get (ci := 10) (v := .ref (z 24)) (C := RX10) (T := TX10) (N := 40) hx hb hg inX10 hown hK hP 8 rfl rfl 24 (by decide) (hg _ q_6_8) (fun _ h9 => h9) rfl dX10_laysHigh_152 ?_
          refine lv_iload hx hb dX10_laysHigh_155 (lv_at hl 2 rfl) ?_
          refine va_iald hx hb hK hP 5 0 rfl rfl (iv_in b_30 (by decide)) dX10_laysHigh_157 ?_
          refine lv_topi (fun x_38 ex_38 => ?_)
          have bx_38 : iv 0 9999 x_38 := by rw [ex_38]; exact tf_3 _
          refine lv_iadd hx hb dX10_laysHigh_158 ?_
          refine lv_topi (fun x_39 ex_39 => ?_)
          have bx_39 : iv 0 79999 x_39 := by rw [ex_39]; exact iv_add bx_37 bx_38 (by decide)
          refine lv_lload hx hb dX10_laysHigh_159 (lv_at hl 1 rfl) ?_
          refine va_last hx hb hK hP hD hS 0 2 rfl rfl (iv_in bx_39 (by decide)) dX10_laysHigh_161 (fun H locs hP hD hS => ?_)
          obtain ⟨f_40, ef_40, hP, hD⟩ : ∃ f_40 : Nat → Int64, f_40 = (vp_updL f_26 (x_39 : Int32).toNatClampNeg w_33) ∧ va_P V.1 vwCl [(z 35, aJ V 90000 f_40), (z 38, aI V 4 fz38), (z 39, aJ V 160 fz39), (z 15, aI V 900 f_1), (z 16, aI V 6 f_2), (z 24, aI V 10000 f_3), (z 25, aI V 40000 f_4), (z 28, aZ V 10000 f_5), (z 0, .inr (10, mo z pz0_0 pz0_5 pz0_6 pz0_7 pz0_8 pz0_9 pz0_10 pz0_11 pz0_12 pz0_13 pz0_14 pz0_18 pz0_19 pz0_22 pz0_23 v_6)), (z 1, aI V 3075 fz1)] H ∧ va_D A [(z 35, aJ V 90000 f_40), (z 38, aI V 4 fz38), (z 39, aJ V 160 fz39), (z 15, aI V 900 f_1), (z 16, aI V 6 f_2), (z 24, aI V 10000 f_3), (z 25, aI V 40000 f_4), (z 28, aZ V 10000 f_5), (z 0, .inr (10, mo z pz0_0 pz0_5 pz0_6 pz0_7 pz0_8 pz0_9 pz0_10 pz0_11 pz0_12 pz0_13 pz0_14 pz0_18 pz0_19 pz0_22 pz0_23 v_6)), (z 1, aI V 3075 fz1)] := ⟨_, rfl, hP, hD⟩
          obtain ⟨x_41, ex_41⟩ : ∃ z9 : Int32, z9 = u_25 + 1 := ⟨_, rfl⟩
          have bx_41 : iv 1 10000 x_41 := by rw [ex_41]; exact iv_add b_30 (iv_c (1 : Int32) (a := 1) (b := 1) (by decide)) (by decide)
          refine lv_iinc (v := x_41) (lv' := [(5, .int x_41), (8, .int u_32), (6, .long w_33), (4, .int u_17), (3, .int x_10), (0, .ref (z 0)), (1, .int a1), (2, .int a2)]) hx hb dX10_laysHigh_162 hl (k := 2) rfl (by rw [ex_41]; rfl) (by decide) rfl (fun ls hl => ?_)
          refine lv_goto (tgt := 61) hx hb dX10_laysHigh_165 (by decide) ?_
          exact ihn_27 _ _ _ _ (by rw [en_27, ex_41]; exact mu_up b_30 (by decide)) ⟨x_41, f_40, (iv_w bx_41 (by decide)), (HR_up inn_27_0 (by have q9 := b_24; unfold iv at q9; omega) ef_40 (HK_s inn_27_1 inn_34_0 b_30 (by decide) ex_41 tf_3 (iv_w b_24 (by decide)) ex_38 ex_37 ex_39 ef_40).2), (HK_s inn_27_1 inn_34_0 b_30 (by decide) ex_41 tf_3 (iv_w b_24 (by decide)) ex_38 ex_37 ex_39 ef_40).1, inn_34_1, rfl, hP, hD, hS, lv_sub hl [0, 3, 4, 5, 6, 7] rfl⟩
        · have b_42 : iv 0 3 u_32 := iv_l1 (Int32.not_le.mp c_35) bu_32 (iv_c (4 : Int32) (a := 4) (b := 4) (by decide)) (by decide)
          refine lv_aload_n hx hb dX10_laysHigh_82 rfl (lv_at hl 5 rfl) ?_
          refine va_get (ci := 10) (v := .ref (z 25)) (C := RX10) (T := TX10) (N := 40) hx hb hg inX10 hown hK hP 8 rfl rfl 25 (by decide) (hg _ q_6_9) (fun _ h9 => h9) rfl dX10_laysHigh_83 ?_
          refine lv_iconst (v := 4) hx hb dX10_laysHigh_86 (by decide) ?_
          refine lv_aload_n hx hb dX10_laysHigh_87 rfl (lv_at hl 5 rfl) ?_
          refine va_get (ci := 10) (v := .ref (z 24)) (C := RX10) (T := TX10) (N := 40) hx hb hg inX10 hown hK hP 8 rfl rfl 24 (by decide) (hg _ q_6_8) (fun _ h9 => h9) rfl dX10_laysHigh_88 ?_
          refine lv_iload hx hb dX10_laysHigh_91 (lv_at hl 2 rfl) ?_
          refine va_iald hx hb hK hP 5 0 rfl rfl (iv_in b_30 (by decide)) dX10_laysHigh_93 ?_
          refine lv_topi (fun x_43 ex_43 => ?_)
          have bx_43 : iv 0 9999 x_43 := by rw [ex_43]; exact tf_3 _
          refine lv_imul hx hb dX10_laysHigh_94 ?_
          refine lv_topi (fun x_44 ex_44 => ?_)
          have bx_44 : iv 0 39996 x_44 := by rw [ex_44]; exact iv_cmul (iv_c (4 : Int32) (a := 4) (b := 4) (by decide)) bx_43 (by decide)
          refine lv_iload hx hb dX10_laysHigh_95 (lv_at hl 0 rfl) ?_
          refine lv_iadd hx hb dX10_laysHigh_97 ?_
          refine lv_topi (fun x_45 ex_45 => ?_)
          have bx_45 : iv 0 39999 x_45 := by rw [ex_45]; exact iv_add bx_44 b_42 (by decide)
          refine va_iald hx hb hK hP 6 0 rfl rfl (iv_in bx_45 (by decide)) dX10_laysHigh_98 ?_
          refine lv_topi (fun x_46 ex_46 => ?_)
          have bx_46 : iv (-1) 9999 x_46 := by rw [ex_46]; exact tf_4 _
          refine lv_istore (lv' := [(9, .int x_46), (8, .int u_32), (6, .long w_33), (5, .int u_25), (4, .int u_17), (3, .int x_10), (0, .ref (z 0)), (1, .int a1), (2, .int a2)]) hx hb dX10_laysHigh_99 hl (by decide) rfl (fun ls hl => ?_)
          refine lv_aload_n hx hb dX10_laysHigh_101 rfl (lv_at hl 6 rfl) ?_
          refine lv_iload_n hx hb dX10_laysHigh_102 rfl (lv_at hl 7 rfl) ?_
          refine lv_iload_n hx hb dX10_laysHigh_103 rfl (lv_at hl 8 rfl) ?_
          refine lv_iload hx hb dX10_laysHigh_104 (lv_at hl 4 rfl) ?_
          refine lv_iload hx hb dX10_laysHigh_106 (lv_at hl 0 rfl) ?_
          refine jnI (wr := [(z 35, aJ V 90000 f_26), (z 38, aI V 4 fz38), (z 15, aI V 900 f_1), (z 16, aI V 6 f_2), (z 24, aI V 10000 f_3), (z 25, aI V 40000 f_4), (z 28, aZ V 10000 f_5), (z 1, aI V 3075 fz1)]) (rnV (rest := []) ⟨hx, hb, hml, hown, hg⟩ (k_X10_isSo_0 l V z a1 a2 u_17 x_46 fz39 pz0_0 pz0_5 pz0_6 pz0_7 pz0_8 pz0_9 pz0_10 pz0_11 pz0_12 pz0_13 pz0_14 pz0_18 pz0_19 pz0_22 pz0_23 v_6 ba1 ba2 (iv_w b_24 (by decide)) bx_46 bpz0_5 bpz0_6 bpz0_7 bpz0_8 bpz0_10 bpz0_11 bpz0_12 bpz0_13 bpz0_14 bpz0_18 bpz0_22 (iv_w b_31 (by decide))) mt_X10_isSo q_8_60 ⟨Nat.le_of_ble_eq_true rfl, Nat.le_of_ble_eq_true rfl⟩ hK hP hD hS hA hE [2, 8] rfl rfl 8 rfl rfl rfl rfl hl.1 rfl (Nat.le_of_ble_eq_true rfl) dX10_laysHigh_108 ⟨Nat.le_of_ble_eq_true rfl, Nat.le_of_ble_eq_true rfl⟩) hP hD hS hA [2, 8] [0, 1, 3, 4, 5, 6, 7, 9] rfl rfl rfl (by decide) (fun r_47 w H locs hw hP hD hS => ?_)
          obtain ⟨br_47, er_47, g_48, rfl⟩ := hw
          have hP : va_P V.1 vwCl [(z 35, aJ V 90000 f_26), (z 38, aI V 4 fz38), (z 15, aI V 900 f_1), (z 16, aI V 6 f_2), (z 24, aI V 10000 f_3), (z 25, aI V 40000 f_4), (z 28, aZ V 10000 f_5), (z 1, aI V 3075 fz1), (z 39, aJ V 160 fz39), (z 0, .inr (10, mo z pz0_0 pz0_5 pz0_6 pz0_7 pz0_8 pz0_9 pz0_10 pz0_11 pz0_12 pz0_13 pz0_14 pz0_18 pz0_19 pz0_22 pz0_23 v_6))] H := hP
          have hD : va_D A [(z 35, aJ V 90000 f_26), (z 38, aI V 4 fz38), (z 15, aI V 900 f_1), (z 16, aI V 6 f_2), (z 24, aI V 10000 f_3), (z 25, aI V 40000 f_4), (z 28, aZ V 10000 f_5), (z 1, aI V 3075 fz1), (z 39, aJ V 160 fz39), (z 0, .inr (10, mo z pz0_0 pz0_5 pz0_6 pz0_7 pz0_8 pz0_9 pz0_10 pz0_11 pz0_12 pz0_13 pz0_14 pz0_18 pz0_19 pz0_22 pz0_23 v_6))] := hD
          refine lv_if_eq (tgt := 135) hx hb dX10_laysHigh_111 (by decide) (fun c_49 => ?_) (fun c_49 => ?_)
          · have b_50 : iv 0 0 r_47 := iv_q c_49 (iv_c (0 : Int32) (a := 0) (b := 0) (by decide))
            obtain ⟨x_51, ex_51⟩ : ∃ z9 : Int32, z9 = u_32 + 1 := ⟨_, rfl⟩
            have bx_51 : iv 1 4 x_51 := by rw [ex_51]; exact iv_add b_42 (iv_c (1 : Int32) (a := 1) (b := 1) (by decide)) (by decide)
            refine lv_iinc (v := x_51) (lv' := [(8, .int x_51), (9, .int x_46), (6, .long w_33), (5, .int u_25), (4, .int u_17), (3, .int x_10), (0, .ref (z 0)), (1, .int a1), (2, .int a2)]) hx hb dX10_laysHigh_135 hl (k := 1) rfl (by rw [ex_51]; rfl) (by decide) rfl (fun ls hl => ?_)
            refine lv_goto (tgt := 76) hx hb dX10_laysHigh_138 (by decide) ?_
            have hP := subP (ws' := [(z 35, aJ V 90000 f_26), (z 38, aI V 4 fz38), (z 39, aJ V 160 fz39), (z 15, aI V 900 f_1), (z 16, aI V 6 f_2), (z 24, aI V 10000 f_3), (z 25, aI V 40000 f_4), (z 28, aZ V 10000 f_5), (z 0, .inr (10, mo z pz0_0 pz0_5 pz0_6 pz0_7 pz0_8 pz0_9 pz0_10 pz0_11 pz0_12 pz0_13 pz0_14 pz0_18 pz0_19 pz0_22 pz0_23 v_6)), (z 1, aI V 3075 fz1)]) hP [0, 1, 8, 2, 3, 4, 5, 6, 9, 7] rfl
            have hD := hD.sub (ws' := [(z 35, aJ V 90000 f_26), (z 38, aI V 4 fz38), (z 39, aJ V 160 fz39), (z 15, aI V 900 f_1), (z 16, aI V 6 f_2), (z 24, aI V 10000 f_3), (z 25, aI V 40000 f_4), (z 28, aZ V 10000 f_5), (z 0, .inr (10, mo z pz0_0 pz0_5 pz0_6 pz0_7 pz0_8 pz0_9 pz0_10 pz0_11 pz0_12 pz0_13 pz0_14 pz0_18 pz0_19 pz0_22 pz0_23 v_6)), (z 1, aI V 3075 fz1)]) [0, 1, 8, 2, 3, 4, 5, 6, 9, 7] rfl rfl
            exact ihn_34 _ _ _ _ (by rw [en_34, ex_51]; exact mu_up b_42 (by decide)) ⟨x_51, w_33, (iv_w bx_51 (by decide)), (HD_m inn_34_0 b_42 (by decide) ex_51), inn_34_1, rfl, hP, hD, hS, lv_sub hl [0, 2, 3, 4, 5, 6, 7, 8] rfl⟩
          · have b_52 : iv 1 1 r_47 := iv_n0 c_49 br_47 (iv_c (0 : Int32) (a := 0) (b := 0) (by decide)) (by decide)
            have b_53 : iv 0 9999 x_46 := iv_cap (g_48 (iv_eqp b_52 (iv_c (1 : Int32) (by decide)))) bx_46 (by decide)
            refine lv_lload hx hb dX10_laysHigh_114 (lv_at hl 2 rfl) ?_
            refine lv_aload_n hx hb dX10_laysHigh_116 rfl (lv_at hl 6 rfl) ?_
            refine va_get (ci := 10) (v := .ref (z 35)) (C := RX10) (T := TX10) (N := 40) hx hb hg inX10 hown hK hP 9 rfl rfl 35 (by decide) (hg _ q_6_19) (fun _ h9 => h9) rfl dX10_laysHigh_117 ?_
            refine lv_sipush (v := 10000) hx hb dX10_laysHigh_120 (by decide) ?_
            refine lv_iload hx hb dX10_laysHigh_123 (lv_at hl 4 rfl) ?_
            refine lv_iconst (v := 1) hx hb dX10_laysHigh_125 (by decide) ?_
            refine lv_iadd hx hb dX10_laysHigh_126 ?_
            refine lv_topi (fun x_54 ex_54 => ?_)
            have bx_54 : iv 1 8 x_54 := by rw [ex_54]; exact iv_add b_24 (iv_c (1 : Int32) (a := 1) (b := 1) (by decide)) (by decide)
            refine lv_imul hx hb dX10_laysHigh_127 ?_
            refine lv_topi (fun x_55 ex_55 => ?_)
            have bx_55 : iv 10000 80000 x_55 := by rw [ex_55]; exact iv_cmul (iv_c (10000 : Int32) (a := 10000) (b := 10000) (by decide)) bx_54 (by decide)
            refine lv_iload hx hb dX10_laysHigh_128 (lv_at hl 0 rfl) ?_
            refine lv_iadd hx hb dX10_laysHigh_130 ?_
            refine lv_topi (fun x_56 ex_56 => ?_)
            have bx_56 : iv 10000 89999 x_56 := by rw [ex_56]; exact iv_add bx_55 b_53 (by decide)
            refine va_lald hx hb hK hP 0 2 rfl rfl (iv_in bx_56 (by decide)) dX10_laysHigh_131 ?_
            refine lv_topl (fun j_57 ej_57 => ?_)
            refine lv_ladd hx hb dX10_laysHigh_132 ?_
            refine lv_topl (fun j_58 ej_58 => ?_)
            refine lv_lstore (lv' := [(6, .long j_58), (9, .int x_46), (8, .int u_32), (5, .int u_25), (4, .int u_17), (3, .int x_10), (0, .ref (z 0)), (1, .int a1), (2, .int a2)]) hx hb dX10_laysHigh_133 hl (by decide) rfl (fun ls hl => ?_)
            obtain ⟨x_59, ex_59⟩ : ∃ z9 : Int32, z9 = u_32 + 1 := ⟨_, rfl⟩
            have bx_59 : iv 1 4 x_59 := by rw [ex_59]; exact iv_add b_42 (iv_c (1 : Int32) (a := 1) (b := 1) (by decide)) (by decide)
            refine lv_iinc (v := x_59) (lv' := [(8, .int x_59), (6, .long j_58), (9, .int x_46), (5, .int u_25), (4, .int u_17), (3, .int x_10), (0, .ref (z 0)), (1, .int a1), (2, .int a2)]) hx hb dX10_laysHigh_135 hl (k := 2) rfl (by rw [ex_59]; rfl) (by decide) rfl (fun ls hl => ?_)
            refine lv_goto (tgt := 76) hx hb dX10_laysHigh_138 (by decide) ?_
            have hP := subP (ws' := [(z 35, aJ V 90000 f_26), (z 38, aI V 4 fz38), (z 39, aJ V 160 fz39), (z 15, aI V 900 f_1), (z 16, aI V 6 f_2), (z 24, aI V 10000 f_3), (z 25, aI V 40000 f_4), (z 28, aZ V 10000 f_5), (z 0, .inr (10, mo z pz0_0 pz0_5 pz0_6 pz0_7 pz0_8 pz0_9 pz0_10 pz0_11 pz0_12 pz0_13 pz0_14 pz0_18 pz0_19 pz0_22 pz0_23 v_6)), (z 1, aI V 3075 fz1)]) hP [0, 1, 8, 2, 3, 4, 5, 6, 9, 7] rfl
            have hD := hD.sub (ws' := [(z 35, aJ V 90000 f_26), (z 38, aI V 4 fz38), (z 39, aJ V 160 fz39), (z 15, aI V 900 f_1), (z 16, aI V 6 f_2), (z 24, aI V 10000 f_3), (z 25, aI V 40000 f_4), (z 28, aZ V 10000 f_5), (z 0, .inr (10, mo z pz0_0 pz0_5 pz0_6 pz0_7 pz0_8 pz0_9 pz0_10 pz0_11 pz0_12 pz0_13 pz0_14 pz0_18 pz0_19 pz0_22 pz0_23 v_6)), (z 1, aI V 3075 fz1)]) [0, 1, 8, 2, 3, 4, 5, 6, 9, 7] rfl rfl
            exact ihn_34 _ _ _ _ (by rw [en_34, ex_59]; exact mu_up b_42 (by decide)) ⟨x_59, j_58, (iv_w bx_59 (by decide)), (HD_s inn_34_0 b_42 (iv_w b_24 (by decide)) ex_59 ex_43 bx_43 ex_44 ex_45 ex_46 b_53 er_47 b_52 ex_54 ex_55 ex_56 ej_57 ej_58), inn_34_1, rfl, hP, hD, hS, lv_sub hl [0, 1, 3, 4, 5, 6, 7, 8] rfl⟩
  · have b_60 : iv 0 9999 u_12 := iv_l1 (Int32.not_le.mp c_15) bu_12 bv_6 (by decide)
    have b_61 : iv 1 10000 v_6 := iv_l2 (Int32.not_le.mp c_15) bu_12 bv_6 (by decide)
    refine lv_aload_n hx hb dX10_laysHigh_23 rfl (lv_at hl 2 rfl) ?_
    refine va_get (ci := 10) (v := .ref (z 35)) (C := RX10) (T := TX10) (N := 40) hx hb hg inX10 hown hK hP 8 rfl rfl 35 (by decide) (hg _ q_6_19) (fun _ h9 => h9) rfl dX10_laysHigh_24 ?_
    refine lv_sipush (v := 10000) hx hb dX10_laysHigh_27 (by decide) ?_
    refine lv_iload_n hx hb dX10_laysHigh_30 rfl (lv_at hl 1 rfl) ?_
    refine lv_imul hx hb dX10_laysHigh_31 ?_
    refine lv_topi (fun x_62 ex_62 => ?_)
    have bx_62 : iv 10000 80000 x_62 := by rw [ex_62]; exact iv_cmul (iv_c (10000 : Int32) (a := 10000) (b := 10000) (by decide)) b_11 (by decide)
    refine lv_aload_n hx hb dX10_laysHigh_32 rfl (lv_at hl 2 rfl) ?_
    refine va_get (ci := 10) (v := .ref (z 24)) (C := RX10) (T := TX10) (N := 40) hx hb hg inX10 hown hK hP 8 rfl rfl 24 (by decide) (hg _ q_6_8) (fun _ h9 => h9) rfl dX10_laysHigh_33 ?_
    refine lv_iload hx hb dX10_laysHigh_36 (lv_at hl 0 rfl) ?_
    refine va_iald hx hb hK hP 5 0 rfl rfl (iv_in b_60 (by decide)) dX10_laysHigh_38 ?_
    refine lv_topi (fun x_63 ex_63 => ?_)
    have bx_63 : iv 0 9999 x_63 := by rw [ex_63]; exact tf_3 _
    refine lv_iadd hx hb dX10_laysHigh_39 ?_
    refine lv_topi (fun x_64 ex_64 => ?_)
    have bx_64 : iv 10000 89999 x_64 := by rw [ex_64]; exact iv_add bx_62 bx_63 (by decide)
    refine lv_lconst (v := 1) hx hb dX10_laysHigh_40 (by decide) ?_
    refine va_last hx hb hK hP hD hS 0 2 rfl rfl (iv_in bx_64 (by decide)) dX10_laysHigh_41 (fun H locs hP hD hS => ?_)
    obtain ⟨f_65, ef_65, hP, hD⟩ : ∃ f_65 : Nat → Int64, f_65 = (vp_updL f_13 (x_64 : Int32).toNatClampNeg 1) ∧ va_P V.1 vwCl [(z 35, aJ V 90000 f_65), (z 38, aI V 4 fz38), (z 39, aJ V 160 fz39), (z 15, aI V 900 f_1), (z 16, aI V 6 f_2), (z 24, aI V 10000 f_3), (z 25, aI V 40000 f_4), (z 28, aZ V 10000 f_5), (z 0, .inr (10, mo z pz0_0 pz0_5 pz0_6 pz0_7 pz0_8 pz0_9 pz0_10 pz0_11 pz0_12 pz0_13 pz0_14 pz0_18 pz0_19 pz0_22 pz0_23 v_6)), (z 1, aI V 3075 fz1)] H ∧ va_D A [(z 35, aJ V 90000 f_65), (z 38, aI V 4 fz38), (z 39, aJ V 160 fz39), (z 15, aI V 900 f_1), (z 16, aI V 6 f_2), (z 24, aI V 10000 f_3), (z 25, aI V 40000 f_4), (z 28, aZ V 10000 f_5), (z 0, .inr (10, mo z pz0_0 pz0_5 pz0_6 pz0_7 pz0_8 pz0_9 pz0_10 pz0_11 pz0_12 pz0_13 pz0_14 pz0_18 pz0_19 pz0_22 pz0_23 v_6)), (z 1, aI V 3075 fz1)] := ⟨_, rfl, hP, hD⟩
    obtain ⟨x_66, ex_66⟩ : ∃ z9 : Int32, z9 = u_12 + 1 := ⟨_, rfl⟩
    have bx_66 : iv 1 10000 x_66 := by rw [ex_66]; exact iv_add b_60 (iv_c (1 : Int32) (a := 1) (b := 1) (by decide)) (by decide)
    refine lv_iinc (v := x_66) (lv' := [(4, .int x_66), (3, .int x_10), (0, .ref (z 0)), (1, .int a1), (2, .int a2)]) hx hb dX10_laysHigh_42 hl (k := 0) rfl (by rw [ex_66]; rfl) (by decide) rfl (fun ls hl => ?_)
    refine lv_goto (tgt := 14) hx hb dX10_laysHigh_45 (by decide) ?_
    exact ihn_14 _ _ _ _ (by rw [en_14, ex_66]; exact mu_up b_60 (by decide)) ⟨x_66, f_65, (iv_w bx_66 (by decide)), inn_14_0, rfl, hP, hD, hS, lv_sub hl [0, 1, 2, 3, 4] rfl⟩
