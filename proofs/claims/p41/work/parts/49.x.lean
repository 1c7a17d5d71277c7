set_option maxHeartbeats 4000000 in
set_option maxRecDepth 100000 in
theorem k_X10_is_13 (l : Launch) (V : GV) (z : Nat → Nat) (pz0_0 : Int32) (pz0_5 : Int32) (pz0_6 : Int32) (pz0_7 : Int32) (pz0_8 : Int32) (pz0_9 : Int32) (pz0_10 : Int32) (pz0_11 : Int32) (pz0_12 : Int32) (pz0_13 : Int32) (pz0_14 : Int32) (pz0_18 : Int32) (pz0_19 : Int32) (pz0_22 : Int32) (pz0_23 : Int32) (pz0_29 : Int32) (bpz0_5 : iv 0 900 pz0_5) (bpz0_6 : iv 0 900 pz0_6) (bpz0_7 : iv 0 900 pz0_7) (bpz0_8 : iv 0 900 pz0_8) (bpz0_10 : iv 0 999 pz0_10) (bpz0_11 : iv 0 4 pz0_11) (bpz0_12 : iv 0 900 pz0_12) (bpz0_13 : iv 0 4 pz0_13) (bpz0_14 : iv (-1) 900 pz0_14) (bpz0_18 : iv 0 2 pz0_18) (bpz0_22 : iv 0 9999 pz0_22) (bpz0_29 : iv 0 10000 pz0_29) : Ct l V yX10_is (.code yX10_is cX10_is 2 (some .boolean)) 1 [.ref (z 0), .int 34] [(z 0, .inr (10, mo z pz0_0 pz0_5 pz0_6 pz0_7 pz0_8 pz0_9 pz0_10 pz0_11 pz0_12 pz0_13 pz0_14 pz0_18 pz0_19 pz0_22 pz0_23 pz0_29))] 0 0 (QI V (fun (r : Int32) (w : va_W) => iv 0 1 r ∧ (r = 1 → pz0_11 = 0) ∧ (r = 1 → pz0_9 = (34 : Int32)) ∧ w = [(z 0, .inr (10, mo z pz0_0 pz0_5 pz0_6 pz0_7 pz0_8 pz0_9 pz0_10 pz0_11 pz0_12 pz0_13 pz0_14 pz0_18 pz0_19 pz0_22 pz0_23 pz0_29))])) := by
  refine Ct.of (by decide) (Nat.le_of_ble_eq_true rfl) (fun p e s m below meth c A ls hx hb hr hml hown hlk hnm hg hP hK hD hE hA hS hl => ?_)
  have hl : lv_has ls 2 [(0, .ref (z 0)), (1, .int 34)] := hl
  refine lv_aload_n hx hb dX10_is_0 rfl (lv_at hl 0 rfl) ?_
  refine va_get (ci := 10) (v := .int pz0_11) (C := RX10) (T := TX10) (N := 40) hx hb hg inX10 hown hK hP 0 rfl rfl 11 (by decide) (hg _ q_5_235) (fun _ h9 => h9) rfl dX10_is_1 ?_
  refine lv_if_ne (tgt := 19) hx hb dX10_is_4 (by decide) (fun c_1 => ?_) (fun c_1 => ?_)
  · have b_2 : iv 1 4 pz0_11 := iv_n0 c_1 bpz0_11 (iv_c (0 : Int32) (a := 0) (b := 0) (by decide)) (by decide)
    refine lv_iconst (v := 0) hx hb dX10_is_19 (by decide) ?_
    exact fiZ rfl hx hb hr hlk hK hP hD hS dX10_is_20 (Nat.le_of_ble_eq_true rfl) (Nat.le_of_ble_eq_true rfl) (⟨(iv_c (0 : Int32) (by decide)), (fun q9 => absurd q9 (by decide)), (fun q9 => absurd q9 (by decide)), rfl⟩)
  · have b_3 : iv 0 0 pz0_11 := iv_q c_1 (iv_c (0 : Int32) (a := 0) (b := 0) (by decide))
    refine lv_aload_n hx hb dX10_is_7 rfl (lv_at hl 0 rfl) ?_
    refine va_get (ci := 10) (v := .int pz0_9) (C := RX10) (T := TX10) (N := 40) hx hb hg inX10 hown hK hP 0 rfl rfl 9 (by decide) (hg _ q_5_233) (fun _ h9 => h9) rfl dX10_is_8 ?_
    refine lv_iload_n hx hb dX10_is_11 rfl (lv_at hl 1 rfl) ?_
    refine lv_icmp_ne (tgt := 19) hx hb dX10_is_12 (by decide) (fun c_4 => ?_) (fun c_4 => ?_)
    · refine lv_iconst (v := 0) hx hb dX10_is_19 (by decide) ?_
      exact fiZ rfl hx hb hr hlk hK hP hD hS dX10_is_20 (Nat.le_of_ble_eq_true rfl) (Nat.le_of_ble_eq_true rfl) (⟨(iv_c (0 : Int32) (by decide)), (fun q9 => absurd q9 (by decide)), (fun q9 => absurd q9 (by decide)), rfl⟩)
    · have b_5 : iv 34 34 pz0_9 := iv_q c_4 (iv_c (34 : Int32) (a := 34) (b := 34) (by decide))
      refine lv_iconst (v := 1) hx hb dX10_is_15 (by decide) ?_
      refine lv_goto (tgt := 20) hx hb dX10_is_16 (by decide) ?_
      exact fiZ rfl hx hb hr hlk hK hP hD hS dX10_is_20 (Nat.le_of_ble_eq_true rfl) (Nat.le_of_ble_eq_true rfl) (⟨(iv_c (1 : Int32) (by decide)), (fun _ => c_1), (fun _ => c_4), rfl⟩)
set_option maxHeartbeats 4000000 in
set_option maxRecDepth 100000 in
theorem k_X10_eats_4 (l : Launch) (V : GV) (z : Nat → Nat) (fz3 : Nat → Int32) (pz0_0 : Int32) (pz0_5 : Int32) (pz0_6 : Int32) (pz0_7 : Int32) (pz0_8 : Int32) (pz0_9 : Int32) (pz0_10 : Int32) (pz0_11 : Int32) (pz0_12 : Int32) (pz0_13 : Int32) (pz0_14 : Int32) (pz0_18 : Int32) (pz0_19 : Int32) (pz0_22 : Int32) (pz0_23 : Int32) (pz0_29 : Int32) (bpz0_5 : iv 0 900 pz0_5) (bpz0_6 : iv 0 900 pz0_6) (bpz0_7 : iv 0 900 pz0_7) (bpz0_8 : iv 0 900 pz0_8) (bpz0_10 : iv 0 999 pz0_10) (bpz0_11 : iv 0 4 pz0_11) (bpz0_12 : iv 0 900 pz0_12) (bpz0_13 : iv 0 4 pz0_13) (bpz0_14 : iv (-1) 900 pz0_14) (bpz0_18 : iv 0 2 pz0_18) (bpz0_22 : iv 0 9999 pz0_22) (bpz0_29 : iv 0 10000 pz0_29) (hf0 : PT pz0_6 pz0_7 pz0_8 pz0_9) : Ct l V yX10_eats (.code yX10_eats cX10_eats 2 (some .boolean)) 7 [.ref (z 0), .int 34] [(z 3, aI V 900 fz3), (z 0, .inr (10, mo z pz0_0 pz0_5 pz0_6 pz0_7 pz0_8 pz0_9 pz0_10 pz0_11 pz0_12 pz0_13 pz0_14 pz0_18 pz0_19 pz0_22 pz0_23 pz0_29))] 0 0 (QI V (fun (r : Int32) (w : va_W) => ∃ (v0 : Int32) (v1 : Int32) (v2 : Int32) (v3 : Int32), iv 0 900 v0 ∧ iv 0 900 v1 ∧ iv 0 999 v3 ∧ iv 0 1 r ∧ (PT v0 v1 pz0_8 v2) ∧ ((pz0_6 : Int32).toInt ≤ (v0 : Int32).toInt) ∧ (r = 1 → pz0_11 = 0) ∧ (r = 1 → (pz0_6 : Int32).toInt + 1 ≤ (v0 : Int32).toInt) ∧ w = [(z 3, aI V 900 fz3), (z 0, .inr (10, mo z pz0_0 pz0_5 v0 v1 pz0_8 v2 v3 pz0_11 pz0_12 pz0_13 pz0_14 pz0_18 pz0_19 pz0_22 pz0_23 pz0_29))])) := by
  refine Ct.of (by decide) (Nat.le_of_ble_eq_true rfl) (fun p e s m below meth c A ls hx hb hr hml hown hlk hnm hg hP hK hD hE hA hS hl => ?_)
  have hl : lv_has ls 2 [(0, .ref (z 0)), (1, .int 34)] := hl
  refine lv_aload_n hx hb dX10_eats_0 rfl (lv_at hl 0 rfl) ?_
  refine lv_iload_n hx hb dX10_eats_1 rfl (lv_at hl 1 rfl) ?_
  refine jnI (wr := [(z 3, aI V 900 fz3)]) (rnV (rest := []) ⟨hx, hb, hml, hown, hg⟩ (k_X10_is_13 l V z pz0_0 pz0_5 pz0_6 pz0_7 pz0_8 pz0_9 pz0_10 pz0_11 pz0_12 pz0_13 pz0_14 pz0_18 pz0_19 pz0_22 pz0_23 pz0_29 bpz0_5 bpz0_6 bpz0_7 bpz0_8 bpz0_10 bpz0_11 bpz0_12 bpz0_13 bpz0_14 bpz0_18 bpz0_22 bpz0_29) mt_X10_is q_6_143 ⟨Nat.le_of_ble_eq_true rfl, Nat.le_of_ble_eq_true rfl⟩ hK hP hD hS hA hE [1] rfl rfl 1 rfl rfl rfl rfl hl.1 rfl (Nat.le_of_ble_eq_true rfl) dX10_eats_2 ⟨Nat.le_of_ble_eq_true rfl, Nat.le_of_ble_eq_true rfl⟩) hP hD hS hA [1] [0] rfl rfl rfl (by decide) (fun r_1 w H locs hw hP hD hS => ?_)
  obtain ⟨br_1, g_2, g_3, rfl⟩ := hw
  have hP : va_P V.1 vwCl [(z 3, aI V 900 fz3), (z 0, .inr (10, mo z pz0_0 pz0_5 pz0_6 pz0_7 pz0_8 pz0_9 pz0_10 pz0_11 pz0_12 pz0_13 pz0_14 pz0_18 pz0_19 pz0_22 pz0_23 pz0_29))] H := hP
  have hD : va_D A [(z 3, aI V 900 fz3), (z 0, .inr (10, mo z pz0_0 pz0_5 pz0_6 pz0_7 pz0_8 pz0_9 pz0_10 pz0_11 pz0_12 pz0_13 pz0_14 pz0_18 pz0_19 pz0_22 pz0_23 pz0_29))] := hD
  refine lv_if_ne (tgt := 10) hx hb dX10_eats_5 (by decide) (fun c_4 => ?_) (fun c_4 => ?_)
  · have b_5 : iv 1 1 r_1 := iv_n0 c_4 br_1 (iv_c (0 : Int32) (a := 0) (b := 0) (by decide)) (by decide)
    have c_6 : pz0_11 = 0 := (g_2 (iv_eqp b_5 (iv_c (1 : Int32) (by decide))))
    have b_7 : iv 0 0 pz0_11 := iv_q c_6 (iv_c (0 : Int32) (a := 0) (b := 0) (by decide))
    have c_8 : pz0_9 = 34 := (g_3 (iv_eqp b_5 (iv_c (1 : Int32) (by decide))))
    have b_9 : iv 34 34 pz0_9 := iv_q c_8 (iv_c (34 : Int32) (a := 34) (b := 34) (by decide))
    refine lv_aload_n hx hb dX10_eats_10 rfl (lv_at hl 0 rfl) ?_
    refine jnV (wr := []) (rnV (rest := []) ⟨hx, hb, hml, hown, hg⟩ (k_X10_next_0 l V z pz0_0 pz0_5 pz0_6 pz0_7 pz0_8 pz0_9 pz0_10 pz0_11 pz0_12 pz0_13 pz0_14 pz0_18 pz0_19 pz0_22 pz0_23 pz0_29 fz3 bpz0_5 bpz0_6 bpz0_7 bpz0_8 bpz0_10 (iv_w b_7 (by decide)) bpz0_12 bpz0_13 bpz0_14 bpz0_18 bpz0_22 bpz0_29 hf0.2.1) mt_X10_next q_6_117 ⟨Nat.le_of_ble_eq_true rfl, Nat.le_of_ble_eq_true rfl⟩ hK hP hD hS hA hE [1, 0] rfl rfl 1 rfl rfl rfl rfl hl.1 rfl (Nat.le_of_ble_eq_true rfl) dX10_eats_11 ⟨Nat.le_of_ble_eq_true rfl, Nat.le_of_ble_eq_true rfl⟩) hP hD hS hA [1, 0] [] rfl rfl rfl (by decide) (fun  w H locs hw hP hD hS => ?_)
    obtain ⟨v_10, v_11, v_12, v_13, bv_10, bv_11, bv_13, g_14, g_15, rfl⟩ := hw
    have hP : va_P V.1 vwCl [(z 0, .inr (10, mo z pz0_0 pz0_5 v_10 v_11 pz0_8 v_12 v_13 pz0_11 pz0_12 pz0_13 pz0_14 pz0_18 pz0_19 pz0_22 pz0_23 pz0_29)), (z 3, aI V 900 fz3)] H := hP
    have hD : va_D A [(z 0, .inr (10, mo z pz0_0 pz0_5 v_10 v_11 pz0_8 v_12 v_13 pz0_11 pz0_12 pz0_13 pz0_14 pz0_18 pz0_19 pz0_22 pz0_23 pz0_29)), (z 3, aI V 900 fz3)] := hD
    refine lv_iconst (v := 1) hx hb dX10_eats_14 (by decide) ?_
    have hP := subP (ws' := [(z 3, aI V 900 fz3), (z 0, .inr (10, mo z pz0_0 pz0_5 v_10 v_11 pz0_8 v_12 v_13 pz0_11 pz0_12 pz0_13 pz0_14 pz0_18 pz0_19 pz0_22 pz0_23 pz0_29))]) hP [1, 0] rfl
    have hD := hD.sub (ws' := [(z 3, aI V 900 fz3), (z 0, .inr (10, mo z pz0_0 pz0_5 v_10 v_11 pz0_8 v_12 v_13 pz0_11 pz0_12 pz0_13 pz0_14 pz0_18 pz0_19 pz0_22 pz0_23 pz0_29))]) [1, 0] rfl rfl
    exact fiZ rfl hx hb hr hlk hK hP hD hS dX10_eats_15 (Nat.le_of_ble_eq_true rfl) (Nat.le_of_ble_eq_true rfl) (⟨v_10, v_11, v_12, v_13, bv_10, bv_11, bv_13, (iv_c (1 : Int32) (by decide)), g_14, (by have q9 := g_15; have q8 := hf0.1; omega), (fun _ => iv_eqp b_7 (iv_c (0 : Int32) (by decide))), (fun _ => by have q9 := g_15; have q8 := hf0.2.2 (by rw [c_8]; decide); omega), rfl⟩)
  · have b_16 : iv 0 0 r_1 := iv_q c_4 (iv_c (0 : Int32) (a := 0) (b := 0) (by decide))
    refine lv_iconst (v := 0) hx hb dX10_eats_8 (by decide) ?_
    exact fiZ rfl hx hb hr hlk hK hP hD hS dX10_eats_9 (Nat.le_of_ble_eq_true rfl) (Nat.le_of_ble_eq_true rfl) (⟨pz0_6, pz0_7, pz0_9, pz0_10, bpz0_6, bpz0_7, bpz0_10, (iv_c (0 : Int32) (by decide)), hf0, (Int.le_refl _), (fun q9 => absurd q9 (by decide)), (fun q9 => absurd q9 (by decide)), rfl⟩)
theorem dX10_readTerm_0 : decode cX10_readTerm 0 = .ok (.aload_n 0, 1) := by decide +kernel
theorem dX10_readTerm_1 : decode cX10_readTerm 1 = .ok (.iload_n 1, 1) := by decide +kernel
theorem q_6_198 : Cond.code yX10_readAtom prog_12_method_19_code 2 none ∈ gw := gw_6 (i := 198) (rfl) rfl
theorem q_6_197 : Cond.instanceMethod yX10_readAtom ∈ gw := gw_6 (i := 197) (by decide +kernel) rfl
theorem q_s_71 : Cond.selects "BeaconDelayModel" yX10_readAtom yX10_readAtom ∈ gw := gw_s (i := 71) (by decide +kernel) rfl
theorem mt_X10_readAtom : MtV yX10_readAtom cX10_readAtom 2 none 1 := ⟨⟨q_6_198, q_1_9, by decide +kernel, by decide +kernel, by decide +kernel⟩, q_6_197, q_s_71⟩
theorem q_6_195 : Cond.methodLink "BeaconDelayModel" 184 yX10_readAtom ∈ gw := gw_6 (i := 195) (by decide +kernel) rfl
theorem dX10_readTerm_2 : decode cX10_readTerm 2 = .ok (.invokevirtual 184, 3) := by decide +kernel
theorem dX10_readTerm_5 : decode cX10_readTerm 5 = .ok (.aload_n 0, 1) := by decide +kernel
theorem dX10_readTerm_6 : decode cX10_readTerm 6 = .ok (.bipush 34, 2) := by decide +kernel
theorem dX10_readTerm_8 : decode cX10_readTerm 8 = .ok (.invokevirtual 175, 3) := by decide +kernel
theorem dX10_readTerm_11 : decode cX10_readTerm 11 = .ok (.ifCond .eq 18, 3) := by decide +kernel
theorem dX10_readTerm_29 : decode cX10_readTerm 29 = .ok (.return_, 1) := by decide +kernel
theorem dX10_readTerm_14 : decode cX10_readTerm 14 = .ok (.aload_n 0, 1) := by decide +kernel
theorem dX10_readTerm_15 : decode cX10_readTerm 15 = .ok (.iload_n 1, 1) := by decide +kernel
theorem dX10_readTerm_16 : decode cX10_readTerm 16 = .ok (.invokevirtual 184, 3) := by decide +kernel
theorem dX10_readTerm_19 : decode cX10_readTerm 19 = .ok (.aload_n 0, 1) := by decide +kernel
theorem dX10_readTerm_20 : decode cX10_readTerm 20 = .ok (.sipush 3002, 3) := by decide +kernel
theorem dX10_readTerm_23 : decode cX10_readTerm 23 = .ok (.invokevirtual 163, 3) := by decide +kernel
theorem dX10_readTerm_26 : decode cX10_readTerm 26 = .ok (.goto (-21), 3) := by decide +kernel
set_option maxHeartbeats 4000000 in
set_option maxRecDepth 100000 in
theorem k_X10_readTerm_0 (l : Launch) (V : GV) (z : Nat → Nat) (fz4 : Nat → Int32) (fz3 : Nat → Int32) (pz0_0 : Int32) (pz0_5 : Int32) (pz0_6 : Int32) (pz0_7 : Int32) (pz0_8 : Int32) (pz0_9 : Int32) (pz0_10 : Int32) (pz0_11 : Int32) (pz0_12 : Int32) (pz0_13 : Int32) (pz0_14 : Int32) (pz0_18 : Int32) (pz0_19 : Int32) (pz0_22 : Int32) (pz0_23 : Int32) (pz0_29 : Int32) (tfz4 : ivT tF fz4) (bpz0_5 : iv 0 900 pz0_5) (bpz0_6 : iv 0 900 pz0_6) (bpz0_7 : iv 0 900 pz0_7) (bpz0_8 : iv 0 900 pz0_8) (bpz0_10 : iv 0 999 pz0_10) (bpz0_11 : iv 0 4 pz0_11) (bpz0_12 : iv 0 900 pz0_12) (bpz0_13 : iv 0 4 pz0_13) (bpz0_14 : iv (-1) 900 pz0_14) (bpz0_18 : iv 0 2 pz0_18) (bpz0_22 : iv 0 9999 pz0_22) (bpz0_29 : iv 0 10000 pz0_29) (hf0 : PT pz0_6 pz0_7 pz0_8 pz0_9) (hf1 : PS pz0_11 pz0_6 fz4) : Ct l V yX10_readTerm (.code yX10_readTerm cX10_readTerm 2 none) 8 [.ref (z 0), .int 6] [(z 4, aI V 1025 fz4), (z 3, aI V 900 fz3), (z 0, .inr (10, mo z pz0_0 pz0_5 pz0_6 pz0_7 pz0_8 pz0_9 pz0_10 pz0_11 pz0_12 pz0_13 pz0_14 pz0_18 pz0_19 pz0_22 pz0_23 pz0_29))] 0 0 (QV V (fun (w : va_W) => ∃ (g0 : Nat → Int32) (v1 : Int32) (v2 : Int32) (v3 : Int32) (v4 : Int32) (v5 : Int32) (v6 : Int32), (ivT tF g0) ∧ iv 0 900 v1 ∧ iv 0 900 v2 ∧ iv 0 999 v4 ∧ iv 0 4 v5 ∧ iv 0 900 v6 ∧ (PT v1 v2 pz0_8 v3) ∧ (PS v5 v1 g0) ∧ ((pz0_6 : Int32).toInt ≤ (v1 : Int32).toInt) ∧ (RX pz0_11 pz0_6 fz4 v5 v1 g0 1 0) ∧ w = [(z 4, aI V 1025 g0), (z 3, aI V 900 fz3), (z 0, .inr (10, mo z pz0_0 pz0_5 v1 v2 pz0_8 v3 v4 v5 v6 pz0_13 pz0_14 pz0_18 pz0_19 pz0_22 pz0_23 pz0_29))])) := by
  refine Ct.of (by decide) (Nat.le_of_ble_eq_true rfl) (fun p e s m below meth c A ls hx hb hr hml hown hlk hnm hg hP hK hD hE hA hS hl => ?_)
  have hl : lv_has ls 2 [(0, .ref (z 0)), (1, .int 6)] := hl
  refine lv_aload_n hx hb dX10_readTerm_0 rfl (lv_at hl 0 rfl) ?_
  refine lv_iload_n hx hb dX10_readTerm_1 rfl (lv_at hl 1 rfl) ?_
  refine jnV (wr := []) (rnV (rest := []) ⟨hx, hb, hml, hown, hg⟩ (k_X10_readAtom_0 l V z fz4 fz3 pz0_0 pz0_5 pz0_6 pz0_7 pz0_8 pz0_9 pz0_10 pz0_11 pz0_12 pz0_13 pz0_14 pz0_18 pz0_19 pz0_22 pz0_23 pz0_29 tfz4 bpz0_5 bpz0_6 bpz0_7 bpz0_8 bpz0_10 bpz0_11 bpz0_12 bpz0_13 bpz0_14 bpz0_18 bpz0_22 bpz0_29 hf0 hf1) mt_X10_readAtom q_6_195 ⟨Nat.le_of_ble_eq_true rfl, Nat.le_of_ble_eq_true rfl⟩ hK hP hD hS hA hE [0, 1, 2] rfl rfl 2 rfl rfl rfl rfl hl.1 rfl (Nat.le_of_ble_eq_true rfl) dX10_readTerm_2 ⟨Nat.le_of_ble_eq_true rfl, Nat.le_of_ble_eq_true rfl⟩) hP hD hS hA [0, 1, 2] [] rfl rfl rfl (by decide) (fun  w H locs hw hP hD hS => ?_)
  obtain ⟨f_1, v_2, v_3, v_4, v_5, v_6, v_7, tf_1, bv_2, bv_3, bv_5, bv_6, bv_7, g_8, g_9, g_10, g_11, rfl⟩ := hw
  have hP : va_P V.1 vwCl [(z 4, aI V 1025 f_1), (z 3, aI V 900 fz3), (z 0, .inr (10, mo z pz0_0 pz0_5 v_2 v_3 pz0_8 v_4 v_5 v_6 v_7 pz0_13 pz0_14 pz0_18 pz0_19 pz0_22 pz0_23 pz0_29))] H := hP
  have hD : va_D A [(z 4, aI V 1025 f_1), (z 3, aI V 900 fz3), (z 0, .inr (10, mo z pz0_0 pz0_5 v_2 v_3 pz0_8 v_4 v_5 v_6 v_7 pz0_13 pz0_14 pz0_18 pz0_19 pz0_22 pz0_23 pz0_29))] := hD
  have rx_12 : RX pz0_11 pz0_6 fz4 v_6 v_2 f_1 1 ((0 : Int)) := by have q9 := RX_seq (by decide) (RX_0 (w := pz0_11) (a := pz0_6) tfz4) g_11; exact RX_w q9 (by omega)
  refine loopF (X := fun (n_20 : Nat) (H : Heap) (locs : List Loc) (ls : Array Slot) => ∃ (f_13 : Nat → Int32) (u_14 : Int32) (u_15 : Int32) (u_16 : Int32) (u_17 : Int32) (u_18 : Int32) (u_19 : Int32), (ivT tF f_13) ∧ (iv 0 900 u_14) ∧ (iv 0 900 u_15) ∧ (iv 0 999 u_17) ∧ (iv 0 4 u_18) ∧ (iv 0 900 u_19) ∧ ((pz0_6 : Int32).toInt ≤ (u_14 : Int32).toInt) ∧ (RX pz0_11 pz0_6 fz4 u_18 u_14 f_13 1 0) ∧ (PT u_14 u_15 pz0_8 u_16) ∧ (PS u_18 u_14 f_13) ∧ n_20 = (900 - (u_14 : Int32).toInt).toNat ∧ va_P V.1 vwCl [(z 4, aI V 1025 f_13), (z 3, aI V 900 fz3), (z 0, .inr (10, mo z pz0_0 pz0_5 u_14 u_15 pz0_8 u_16 u_17 u_18 u_19 pz0_13 pz0_14 pz0_18 pz0_19 pz0_22 pz0_23 pz0_29))] H ∧ va_D A [(z 4, aI V 1025 f_13), (z 3, aI V 900 fz3), (z 0, .inr (10, mo z pz0_0 pz0_5 u_14 u_15 pz0_8 u_16 u_17 u_18 u_19 pz0_13 pz0_14 pz0_18 pz0_19 pz0_22 pz0_23 pz0_29))] ∧ va_S A s.heap H locs ∧ lv_has ls 2 [(0, .ref (z 0)), (1, .int 6)]) (g := fun ls => F0 m 5 ls []) (fun n_20 H locs ls hX ihn_20 => ?_) _ ⟨f_1, v_2, v_3, v_4, v_5, v_6, v_7, tf_1, bv_2, bv_3, bv_5, bv_6, bv_7, (by have z_0 := g_10;have y_0 := hf0.1; have y_1 := g_8.1; omega), (RX_w rx_12 (by omega)), g_8, g_9, rfl, hP, hD, hS, lv_sub hl [0, 1] rfl⟩
  obtain ⟨f_13, u_14, u_15, u_16, u_17, u_18, u_19, tf_13, bu_14, bu_15, bu_17, bu_18, bu_19, inn_20_0, inn_20_1, inn_20_2, inn_20_3, en_20, hP, hD, hS, hl⟩ := hX
  refine lv_aload_n hx hb dX10_readTerm_5 rfl (lv_at hl 0 rfl) ?_
  refine lv_bipush (v := 34) hx hb dX10_readTerm_6 (by decide) ?_
  refine jnI (wr := [(z 4, aI V 1025 f_13)]) (rnV (rest := []) ⟨hx, hb, hml, hown, hg⟩ (k_X10_eats_4 l V z fz3 pz0_0 pz0_5 u_14 u_15 pz0_8 u_16 u_17 u_18 u_19 pz0_13 pz0_14 pz0_18 pz0_19 pz0_22 pz0_23 pz0_29 bpz0_5 bu_14 bu_15 bpz0_8 bu_17 bu_18 bu_19 bpz0_13 bpz0_14 bpz0_18 bpz0_22 bpz0_29 inn_20_2) mt_X10_eats q_6_139 ⟨Nat.le_of_ble_eq_true rfl, Nat.le_of_ble_eq_true rfl⟩ hK hP hD hS hA hE [1, 2] rfl rfl 2 rfl rfl rfl rfl hl.1 rfl (Nat.le_of_ble_eq_true rfl) dX10_readTerm_8 ⟨Nat.le_of_ble_eq_true rfl, Nat.le_of_ble_eq_true rfl⟩) hP hD hS hA [1, 2] [0] rfl rfl rfl (by decide) (fun r_21 w H locs hw hP hD hS => ?_)
  obtain ⟨v_22, v_23, v_24, v_25, bv_22, bv_23, bv_25, br_21, g_26, g_27, g_28, g_29, rfl⟩ := hw
  have hP : va_P V.1 vwCl [(z 4, aI V 1025 f_13), (z 3, aI V 900 fz3), (z 0, .inr (10, mo z pz0_0 pz0_5 v_22 v_23 pz0_8 v_24 v_25 u_18 u_19 pz0_13 pz0_14 pz0_18 pz0_19 pz0_22 pz0_23 pz0_29))] H := hP
  have hD : va_D A [(z 4, aI V 1025 f_13), (z 3, aI V 900 fz3), (z 0, .inr (10, mo z pz0_0 pz0_5 v_22 v_23 pz0_8 v_24 v_25 u_18 u_19 pz0_13 pz0_14 pz0_18 pz0_19 pz0_22 pz0_23 pz0_29))] := hD
  have rx_30 : RX pz0_11 pz0_6 fz4 u_18 v_22 f_13 1 ((0 : Int) + adv r_21) := by have q9 := RX_a inn_20_1 (fun q8 => q8) (adv_le g_27 g_29); exact RX_w q9 (by omega)
  refine lv_if_eq (tgt := 29) hx hb dX10_readTerm_11 (by decide) (fun c_31 => ?_) (fun c_31 => ?_)
  · have b_32 : iv 0 0 r_21 := iv_q c_31 (iv_c (0 : Int32) (a := 0) (b := 0) (by decide))
    exact fiV hx hb hr hlk hK hP hD hS dX10_readTerm_29 (Nat.le_of_ble_eq_true rfl) (Nat.le_of_ble_eq_true rfl) (⟨f_13, v_22, v_23, v_24, v_25, u_18, u_19, tf_13, bv_22, bv_23, bv_25, bu_18, bu_19, g_26, (PS_x hf1 rx_30 (by have z_r_21 := adv_0 r_21; omega)), (by have z_0 := g_10; have z_1 := inn_20_0; have z_2 := g_27;have y_0 := hf0.1; have y_1 := g_8.1; have y_2 := inn_20_2.1; have y_3 := g_26.1; omega), (RX_w rx_30 (by have z_r_21 := adv_0 r_21; omega)), rfl⟩)
  · have b_33 : iv 1 1 r_21 := iv_n0 c_31 br_21 (iv_c (0 : Int32) (a := 0) (b := 0) (by decide)) (by decide)
    have c_34 : u_18 = 0 := (g_28 (iv_eqp b_33 (iv_c (1 : Int32) (by decide))))
    have b_35 : iv 0 0 u_18 := iv_q c_34 (iv_c (0 : Int32) (a := 0) (b := 0) (by decide))
    refine lv_aload_n hx hb dX10_readTerm_14 rfl (lv_at hl 0 rfl) ?_
    refine lv_iload_n hx hb dX10_readTerm_15 rfl (lv_at hl 1 rfl) ?_
    refine jnV (wr := []) (rnV (rest := []) ⟨hx, hb, hml, hown, hg⟩ (k_X10_readAtom_0 l V z f_13 fz3 pz0_0 pz0_5 v_22 v_23 pz0_8 v_24 v_25 u_18 u_19 pz0_13 pz0_14 pz0_18 pz0_19 pz0_22 pz0_23 pz0_29 tf_13 bpz0_5 bv_22 bv_23 bpz0_8 bv_25 (iv_w b_35 (by decide)) bu_19 bpz0_13 bpz0_14 bpz0_18 bpz0_22 bpz0_29 g_26 (PS_x hf1 rx_30 (by have z_r_21 := adv_1 (iv_eqp b_33 (iv_c (1 : Int32) (by decide))); omega))) mt_X10_readAtom q_6_195 ⟨Nat.le_of_ble_eq_true rfl, Nat.le_of_ble_eq_true rfl⟩ hK hP hD hS hA hE [0, 1, 2] rfl rfl 2 rfl rfl rfl rfl hl.1 rfl (Nat.le_of_ble_eq_true rfl) dX10_readTerm_16 ⟨Nat.le_of_ble_eq_true rfl, Nat.le_of_ble_eq_true rfl⟩) hP hD hS hA [0, 1, 2] [] rfl rfl rfl (by decide) (fun  w H locs hw hP hD hS => ?_)
    obtain ⟨f_36, v_37, v_38, v_39, v_40, v_41, v_42, tf_36, bv_37, bv_38, bv_40, bv_41, bv_42, g_43, g_44, g_45, g_46, rfl⟩ := hw
    have hP : va_P V.1 vwCl [(z 4, aI V 1025 f_36), (z 3, aI V 900 fz3), (z 0, .inr (10, mo z pz0_0 pz0_5 v_37 v_38 pz0_8 v_39 v_40 v_41 v_42 pz0_13 pz0_14 pz0_18 pz0_19 pz0_22 pz0_23 pz0_29))] H := hP
    have hD : va_D A [(z 4, aI V 1025 f_36), (z 3, aI V 900 fz3), (z 0, .inr (10, mo z pz0_0 pz0_5 v_37 v_38 pz0_8 v_39 v_40 v_41 v_42 pz0_13 pz0_14 pz0_18 pz0_19 pz0_22 pz0_23 pz0_29))] := hD
    have rx_47 : RX pz0_11 pz0_6 fz4 v_41 v_37 f_36 2 ((0 : Int) + adv r_21) := by have q9 := RX_seq (by decide) rx_30 g_46; exact RX_w q9 (by omega)
    refine lv_aload_n hx hb dX10_readTerm_19 rfl (lv_at hl 0 rfl) ?_
    refine lv_sipush (v := 3002) hx hb dX10_readTerm_20 (by decide) ?_
    refine jnV (wr := [(z 3, aI V 900 fz3)]) (rnV (rest := []) ⟨hx, hb, hml, hown, hg⟩ (k_X10_codes_0 l V z 3002 f_36 pz0_0 pz0_5 v_37 v_38 pz0_8 v_39 v_40 v_41 v_42 pz0_13 pz0_14 pz0_18 pz0_19 pz0_22 pz0_23 pz0_29 tf_36 bpz0_5 bv_37 bv_38 bpz0_8 bv_40 bv_41 bv_42 bpz0_13 bpz0_14 bpz0_18 bpz0_22 bpz0_29 (PS_n hf1 rx_47 bv_37 (by decide) (by have z_r_21 := adv_1 (iv_eqp b_33 (iv_c (1 : Int32) (by decide))); omega))) mt_X10_codes q_6_199 ⟨Nat.le_of_ble_eq_true rfl, Nat.le_of_ble_eq_true rfl⟩ hK hP hD hS hA hE [0, 2] rfl rfl 2 rfl rfl rfl rfl hl.1 rfl (Nat.le_of_ble_eq_true rfl) dX10_readTerm_23 ⟨Nat.le_of_ble_eq_true rfl, Nat.le_of_ble_eq_true rfl⟩) hP hD hS hA [0, 2] [1] rfl rfl rfl (by decide) (fun  w H locs hw hP hD hS => ?_)
    obtain ⟨f_48, tf_48, g_49, g_50, rfl⟩ := hw
    have hP : va_P V.1 vwCl [(z 3, aI V 900 fz3), (z 4, aI V 1025 f_48), (z 0, .inr (10, mo z pz0_0 pz0_5 v_37 v_38 pz0_8 v_39 v_40 v_41 v_42 pz0_13 pz0_14 pz0_18 pz0_19 pz0_22 pz0_23 pz0_29))] H := hP
    have hD : va_D A [(z 3, aI V 900 fz3), (z 4, aI V 1025 f_48), (z 0, .inr (10, mo z pz0_0 pz0_5 v_37 v_38 pz0_8 v_39 v_40 v_41 v_42 pz0_13 pz0_14 pz0_18 pz0_19 pz0_22 pz0_23 pz0_29))] := hD
    have rx_51 : RX pz0_11 pz0_6 fz4 v_41 v_37 f_48 1 ((-1 : Int) + adv r_21) := by have q9 := RX_c rx_47 tf_36 g_49 (by decide) ⟨by decide, by decide⟩ (by decide) (PS_n hf1 rx_47 bv_37 (by decide) (by have z_r_21 := adv_1 (iv_eqp b_33 (iv_c (1 : Int32) (by decide))); omega)); rw [(by decide : eff (3002 : Int32) = -1)] at q9; exact RX_w q9 (by omega)
    refine lv_goto (tgt := 5) hx hb dX10_readTerm_26 (by decide) ?_
    have hP := subP (ws' := [(z 4, aI V 1025 f_48), (z 3, aI V 900 fz3), (z 0, .inr (10, mo z pz0_0 pz0_5 v_37 v_38 pz0_8 v_39 v_40 v_41 v_42 pz0_13 pz0_14 pz0_18 pz0_19 pz0_22 pz0_23 pz0_29))]) hP [1, 0, 2] rfl
    have hD := hD.sub (ws' := [(z 4, aI V 1025 f_48), (z 3, aI V 900 fz3), (z 0, .inr (10, mo z pz0_0 pz0_5 v_37 v_38 pz0_8 v_39 v_40 v_41 v_42 pz0_13 pz0_14 pz0_18 pz0_19 pz0_22 pz0_23 pz0_29))]) [1, 0, 2] rfl rfl
    exact ihn_20 _ _ _ _ (by rw [en_20]; have z_0 := g_10; have z_1 := inn_20_0; have z_2 := g_27; have z_3 := g_45; have z_4 := (g_29 (iv_eqp b_33 (iv_c (1 : Int32) (by decide)))); have z_5 := hf0.1; have z_6 := g_8.1; have z_7 := inn_20_2.1; have z_8 := g_26.1; have z_9 := g_43.1; have q9 := bv_37; unfold iv at q9; omega) ⟨f_48, v_37, v_38, v_39, v_40, v_41, v_42, tf_48, bv_37, bv_38, bv_40, bv_41, bv_42, (by have z_0 := g_10; have z_1 := inn_20_0; have z_2 := g_27; have z_3 := g_45;have y_0 := hf0.1; have y_1 := g_8.1; have y_2 := inn_20_2.1; have y_3 := g_26.1; have y_4 := g_43.1; omega), (RX_w rx_51 (by have z_r_21 := adv_1 (iv_eqp b_33 (iv_c (1 : Int32) (by decide))); omega)), g_43, (PS_x hf1 rx_51 (by have z_r_21 := adv_1 (iv_eqp b_33 (iv_c (1 : Int32) (by decide))); omega)), rfl, hP, hD, hS, lv_sub hl [0, 1] rfl⟩
set_option maxHeartbeats 4000000 in
set_option maxRecDepth 100000 in
theorem k_X10_is_14 (l : Launch) (V : GV) (z : Nat → Nat) (pz0_0 : Int32) (pz0_5 : Int32) (pz0_6 : Int32) (pz0_7 : Int32) (pz0_8 : Int32) (pz0_9 : Int32) (pz0_10 : Int32) (pz0_11 : Int32) (pz0_12 : Int32) (pz0_13 : Int32) (pz0_14 : Int32) (pz0_18 : Int32) (pz0_19 : Int32) (pz0_22 : Int32) (pz0_23 : Int32) (pz0_29 : Int32) (bpz0_5 : iv 0 900 pz0_5) (bpz0_6 : iv 0 900 pz0_6) (bpz0_7 : iv 0 900 pz0_7) (bpz0_8 : iv 0 900 pz0_8) (bpz0_10 : iv 0 999 pz0_10) (bpz0_11 : iv 0 4 pz0_11) (bpz0_12 : iv 0 900 pz0_12) (bpz0_13 : iv 0 4 pz0_13) (bpz0_14 : iv (-1) 900 pz0_14) (bpz0_18 : iv 0 2 pz0_18) (bpz0_22 : iv 0 9999 pz0_22) (bpz0_29 : iv 0 10000 pz0_29) : Ct l V yX10_is (.code yX10_is cX10_is 2 (some .boolean)) 1 [.ref (z 0), .int 32] [(z 0, .inr (10, mo z pz0_0 pz0_5 pz0_6 pz0_7 pz0_8 pz0_9 pz0_10 pz0_11 pz0_12 pz0_13 pz0_14 pz0_18 pz0_19 pz0_22 pz0_23 pz0_29))] 0 0 (QI V (fun (r : Int32) (w : va_W) => iv 0 1 r ∧ (r = 1 → pz0_11 = 0) ∧ (r = 1 → pz0_9 = (32 : Int32)) ∧ w = [(z 0, .inr (10, mo z pz0_0 pz0_5 pz0_6 pz0_7 pz0_8 pz0_9 pz0_10 pz0_11 pz0_12 pz0_13 pz0_14 pz0_18 pz0_19 pz0_22 pz0_23 pz0_29))])) := by
  refine Ct.of (by decide) (Nat.le_of_ble_eq_true rfl) (fun p e s m below meth c A ls hx hb hr hml hown hlk hnm hg hP hK hD hE hA hS hl => ?_)
  have hl : lv_has ls 2 [(0, .ref (z 0)), (1, .int 32)] := hl
  refine lv_aload_n hx hb dX10_is_0 rfl (lv_at hl 0 rfl) ?_
  refine va_get (ci := 10) (v := .int pz0_11) (C := RX10) (T := TX10) (N := 40) hx hb hg inX10 hown hK hP 0 rfl rfl 11 (by decide) (hg _ q_5_235) (fun _ h9 => h9) rfl dX10_is_1 ?_
  refine lv_if_ne (tgt := 19) hx hb dX10_is_4 (by decide) (fun c_1 => ?_) (fun c_1 => ?_)
  · have b_2 : iv 1 4 pz0_11 := iv_n0 c_1 bpz0_11 (iv_c (0 : Int32) (a := 0) (b := 0) (by decide)) (by decide)
    refine lv_iconst (v := 0) hx hb dX10_is_19 (by decide) ?_
    exact fiZ rfl hx hb hr hlk hK hP hD hS dX10_is_20 (Nat.le_of_ble_eq_true rfl) (Nat.le_of_ble_eq_true rfl) (⟨(iv_c (0 : Int32) (by decide)), (fun q9 => absurd q9 (by decide)), (fun q9 => absurd q9 (by decide)), rfl⟩)
  · have b_3 : iv 0 0 pz0_11 := iv_q c_1 (iv_c (0 : Int32) (a := 0) (b := 0) (by decide))
    refine lv_aload_n hx hb dX10_is_7 rfl (lv_at hl 0 rfl) ?_
    refine va_get (ci := 10) (v := .int pz0_9) (C := RX10) (T := TX10) (N := 40) hx hb hg inX10 hown hK hP 0 rfl rfl 9 (by decide) (hg _ q_5_233) (fun _ h9 => h9) rfl dX10_is_8 ?_
    refine lv_iload_n hx hb dX10_is_11 rfl (lv_at hl 1 rfl) ?_
    refine lv_icmp_ne (tgt := 19) hx hb dX10_is_12 (by decide) (fun c_4 => ?_) (fun c_4 => ?_)
    · refine lv_iconst (v := 0) hx hb dX10_is_19 (by decide) ?_
      exact fiZ rfl hx hb hr hlk hK hP hD hS dX10_is_20 (Nat.le_of_ble_eq_true rfl) (Nat.le_of_ble_eq_true rfl) (⟨(iv_c (0 : Int32) (by decide)), (fun q9 => absurd q9 (by decide)), (fun q9 => absurd q9 (by decide)), rfl⟩)
    · have b_5 : iv 32 32 pz0_9 := iv_q c_4 (iv_c (32 : Int32) (a := 32) (b := 32) (by decide))
      refine lv_iconst (v := 1) hx hb dX10_is_15 (by decide) ?_
      refine lv_goto (tgt := 20) hx hb dX10_is_16 (by decide) ?_
      exact fiZ rfl hx hb hr hlk hK hP hD hS dX10_is_20 (Nat.le_of_ble_eq_true rfl) (Nat.le_of_ble_eq_true rfl) (⟨(iv_c (1 : Int32) (by decide)), (fun _ => c_1), (fun _ => c_4), rfl⟩)
set_option maxHeartbeats 4000000 in
set_option maxRecDepth 100000 in
theorem k_X10_is_15 (l : Launch) (V : GV) (z : Nat → Nat) (pz0_0 : Int32) (pz0_5 : Int32) (pz0_6 : Int32) (pz0_7 : Int32) (pz0_8 : Int32) (pz0_9 : Int32) (pz0_10 : Int32) (pz0_11 : Int32) (pz0_12 : Int32) (pz0_13 : Int32) (pz0_14 : Int32) (pz0_18 : Int32) (pz0_19 : Int32) (pz0_22 : Int32) (pz0_23 : Int32) (pz0_29 : Int32) (bpz0_5 : iv 0 900 pz0_5) (bpz0_6 : iv 0 900 pz0_6) (bpz0_7 : iv 0 900 pz0_7) (bpz0_8 : iv 0 900 pz0_8) (bpz0_10 : iv 0 999 pz0_10) (bpz0_11 : iv 0 4 pz0_11) (bpz0_12 : iv 0 900 pz0_12) (bpz0_13 : iv 0 4 pz0_13) (bpz0_14 : iv (-1) 900 pz0_14) (bpz0_18 : iv 0 2 pz0_18) (bpz0_22 : iv 0 9999 pz0_22) (bpz0_29 : iv 0 10000 pz0_29) : Ct l V yX10_is (.code yX10_is cX10_is 2 (some .boolean)) 1 [.ref (z 0), .int 33] [(z 0, .inr (10, mo z pz0_0 pz0_5 pz0_6 pz0_7 pz0_8 pz0_9 pz0_10 pz0_11 pz0_12 pz0_13 pz0_14 pz0_18 pz0_19 pz0_22 pz0_23 pz0_29))] 0 0 (QI V (fun (r : Int32) (w : va_W) => iv 0 1 r ∧ (r = 1 → pz0_11 = 0) ∧ (r = 1 → pz0_9 = (33 : Int32)) ∧ w = [(z 0, .inr (10, mo z pz0_0 pz0_5 pz0_6 pz0_7 pz0_8 pz0_9 pz0_10 pz0_11 pz0_12 pz0_13 pz0_14 pz0_18 pz0_19 pz0_22 pz0_23 pz0_29))])) := by
  refine Ct.of (by decide) (Nat.le_of_ble_eq_true rfl) (fun p e s m below meth c A ls hx hb hr hml hown hlk hnm hg hP hK hD hE hA hS hl => ?_)
  have hl : lv_has ls 2 [(0, .ref (z 0)), (1, .int 33)] := hl
  refine lv_aload_n hx hb dX10_is_0 rfl (lv_at hl 0 rfl) ?_
  refine va_get (ci := 10) (v := .int pz0_11) (C := RX10) (T := TX10) (N := 40) hx hb hg inX10 hown hK hP 0 rfl rfl 11 (by decide) (hg _ q_5_235) (fun _ h9 => h9) rfl dX10_is_1 ?_
  refine lv_if_ne (tgt := 19) hx hb dX10_is_4 (by decide) (fun c_1 => ?_) (fun c_1 => ?_)
  · have b_2 : iv 1 4 pz0_11 := iv_n0 c_1 bpz0_11 (iv_c (0 : Int32) (a := 0) (b := 0) (by decide)) (by decide)
    refine lv_iconst (v := 0) hx hb dX10_is_19 (by decide) ?_
    exact fiZ rfl hx hb hr hlk hK hP hD hS dX10_is_20 (Nat.le_of_ble_eq_true rfl) (Nat.le_of_ble_eq_true rfl) (⟨(iv_c (0 : Int32) (by decide)), (fun q9 => absurd q9 (by decide)), (fun q9 => absurd q9 (by decide)), rfl⟩)
  · have b_3 : iv 0 0 pz0_11 := iv_q c_1 (iv_c (0 : Int32) (a := 0) (b := 0) (by decide))
    refine lv_aload_n hx hb dX10_is_7 rfl (lv_at hl 0 rfl) ?_
    refine va_get (ci := 10) (v := .int pz0_9) (C := RX10) (T := TX10) (N := 40) hx hb hg inX10 hown hK hP 0 rfl rfl 9 (by decide) (hg _ q_5_233) (fun _ h9 => h9) rfl dX10_is_8 ?_
    refine lv_iload_n hx hb dX10_is_11 rfl (lv_at hl 1 rfl) ?_
    refine lv_icmp_ne (tgt := 19) hx hb dX10_is_12 (by decide) (fun c_4 => ?_) (fun c_4 => ?_)
    · refine lv_iconst (v := 0) hx hb dX10_is_19 (by decide) ?_
      exact fiZ rfl hx hb hr hlk hK hP hD hS dX10_is_20 (Nat.le_of_ble_eq_true rfl) (Nat.le_of_ble_eq_true rfl) (⟨(iv_c (0 : Int32) (by decide)), (fun q9 => absurd q9 (by decide)), (fun q9 => absurd q9 (by decide)), rfl⟩)
    · have b_5 : iv 33 33 pz0_9 := iv_q c_4 (iv_c (33 : Int32) (a := 33) (b := 33) (by decide))
      refine lv_iconst (v := 1) hx hb dX10_is_15 (by decide) ?_
      refine lv_goto (tgt := 20) hx hb dX10_is_16 (by decide) ?_
      exact fiZ rfl hx hb hr hlk hK hP hD hS dX10_is_20 (Nat.le_of_ble_eq_true rfl) (Nat.le_of_ble_eq_true rfl) (⟨(iv_c (1 : Int32) (by decide)), (fun _ => c_1), (fun _ => c_4), rfl⟩)
theorem dX10_readSum_0 : decode cX10_readSum 0 = .ok (.aload_n 0, 1) := by decide +kernel
theorem dX10_readSum_1 : decode cX10_readSum 1 = .ok (.iload_n 1, 1) := by decide +kernel
theorem q_6_194 : Cond.code yX10_readTerm prog_12_method_21_code 2 none ∈ gw := gw_6 (i := 194) (rfl) rfl
theorem q_6_193 : Cond.instanceMethod yX10_readTerm ∈ gw := gw_6 (i := 193) (by decide +kernel) rfl
theorem q_s_70 : Cond.selects "BeaconDelayModel" yX10_readTerm yX10_readTerm ∈ gw := gw_s (i := 70) (by decide +kernel) rfl
theorem mt_X10_readTerm : MtV yX10_readTerm cX10_readTerm 2 none 1 := ⟨⟨q_6_194, q_1_9, by decide +kernel, by decide +kernel, by decide +kernel⟩, q_6_193, q_s_70⟩
theorem q_6_191 : Cond.methodLink "BeaconDelayModel" 187 yX10_readTerm ∈ gw := gw_6 (i := 191) (by decide +kernel) rfl
theorem dX10_readSum_2 : decode cX10_readSum 2 = .ok (.invokevirtual 187, 3) := by decide +kernel
theorem dX10_readSum_5 : decode cX10_readSum 5 = .ok (.aload_n 0, 1) := by decide +kernel
theorem dX10_readSum_6 : decode cX10_readSum 6 = .ok (.bipush 32, 2) := by decide +kernel
theorem dX10_readSum_8 : decode cX10_readSum 8 = .ok (.invokevirtual 149, 3) := by decide +kernel
theorem dX10_readSum_11 : decode cX10_readSum 11 = .ok (.ifCond .ne 12, 3) := by decide +kernel
theorem dX10_readSum_23 : decode cX10_readSum 23 = .ok (.aload_n 0, 1) := by decide +kernel
theorem dX10_readSum_24 : decode cX10_readSum 24 = .ok (.getfield 125, 3) := by decide +kernel
theorem dX10_readSum_27 : decode cX10_readSum 27 = .ok (.bipush 32, 2) := by decide +kernel
theorem dX10_readSum_29 : decode cX10_readSum 29 = .ok (.if_icmp .ne 9, 3) := by decide +kernel
theorem dX10_readSum_32 : decode cX10_readSum 32 = .ok (.sipush 3000, 3) := by decide +kernel
theorem dX10_readSum_35 : decode cX10_readSum 35 = .ok (.goto 6, 3) := by decide +kernel
theorem dX10_readSum_41 : decode cX10_readSum 41 = .ok (.istore_n 2, 1) := by decide +kernel
theorem dX10_readSum_42 : decode cX10_readSum 42 = .ok (.aload_n 0, 1) := by decide +kernel
theorem dX10_readSum_43 : decode cX10_readSum 43 = .ok (.invokevirtual 152, 3) := by decide +kernel
theorem dX10_readSum_46 : decode cX10_readSum 46 = .ok (.aload_n 0, 1) := by decide +kernel
theorem dX10_readSum_47 : decode cX10_readSum 47 = .ok (.iload_n 1, 1) := by decide +kernel
theorem dX10_readSum_48 : decode cX10_readSum 48 = .ok (.invokevirtual 187, 3) := by decide +kernel
theorem dX10_readSum_51 : decode cX10_readSum 51 = .ok (.aload_n 0, 1) := by decide +kernel
theorem dX10_readSum_52 : decode cX10_readSum 52 = .ok (.iload_n 2, 1) := by decide +kernel
theorem dX10_readSum_53 : decode cX10_readSum 53 = .ok (.invokevirtual 163, 3) := by decide +kernel
theorem dX10_readSum_56 : decode cX10_readSum 56 = .ok (.goto (-51), 3) := by decide +kernel
theorem dX10_readSum_14 : decode cX10_readSum 14 = .ok (.aload_n 0, 1) := by decide +kernel
theorem dX10_readSum_15 : decode cX10_readSum 15 = .ok (.bipush 33, 2) := by decide +kernel
theorem dX10_readSum_17 : decode cX10_readSum 17 = .ok (.invokevirtual 149, 3) := by decide +kernel
theorem dX10_readSum_20 : decode cX10_readSum 20 = .ok (.ifCond .eq 39, 3) := by decide +kernel
theorem dX10_readSum_59 : decode cX10_readSum 59 = .ok (.return_, 1) := by decide +kernel
theorem dX10_readSum_38 : decode cX10_readSum 38 = .ok (.sipush 3001, 3) := by decide +kernel
set_option maxHeartbeats 4000000 in
set_option maxRecDepth 100000 in
theorem k_X10_readSum_0 (l : Launch) (V : GV) (z : Nat → Nat) (fz4 : Nat → Int32) (fz3 : Nat → Int32) (pz0_0 : Int32) (pz0_5 : Int32) (pz0_6 : Int32) (pz0_7 : Int32) (pz0_8 : Int32) (pz0_9 : Int32) (pz0_10 : Int32) (pz0_11 : Int32) (pz0_12 : Int32) (pz0_13 : Int32) (pz0_14 : Int32) (pz0_18 : Int32) (pz0_19 : Int32) (pz0_22 : Int32) (pz0_23 : Int32) (pz0_29 : Int32) (tfz4 : ivT tF fz4) (bpz0_5 : iv 0 900 pz0_5) (bpz0_6 : iv 0 900 pz0_6) (bpz0_7 : iv 0 900 pz0_7) (bpz0_8 : iv 0 900 pz0_8) (bpz0_10 : iv 0 999 pz0_10) (bpz0_11 : iv 0 4 pz0_11) (bpz0_12 : iv 0 900 pz0_12) (bpz0_13 : iv 0 4 pz0_13) (bpz0_14 : iv (-1) 900 pz0_14) (bpz0_18 : iv 0 2 pz0_18) (bpz0_22 : iv 0 9999 pz0_22) (bpz0_29 : iv 0 10000 pz0_29) (hf0 : PT pz0_6 pz0_7 pz0_8 pz0_9) (hf1 : PS pz0_11 pz0_6 fz4) : Ct l V yX10_readSum (.code yX10_readSum cX10_readSum 3 none) 9 [.ref (z 0), .int 6] [(z 4, aI V 1025 fz4), (z 3, aI V 900 fz3), (z 0, .inr (10, mo z pz0_0 pz0_5 pz0_6 pz0_7 pz0_8 pz0_9 pz0_10 pz0_11 pz0_12 pz0_13 pz0_14 pz0_18 pz0_19 pz0_22 pz0_23 pz0_29))] 0 0 (QV V (fun (w : va_W) => ∃ (g0 : Nat → Int32) (v1 : Int32) (v2 : Int32) (v3 : Int32) (v4 : Int32) (v5 : Int32) (v6 : Int32), (ivT tF g0) ∧ iv 0 900 v1 ∧ iv 0 900 v2 ∧ iv 0 999 v4 ∧ iv 0 4 v5 ∧ iv 0 900 v6 ∧ (PT v1 v2 pz0_8 v3) ∧ (PS v5 v1 g0) ∧ ((pz0_6 : Int32).toInt ≤ (v1 : Int32).toInt) ∧ (RX pz0_11 pz0_6 fz4 v5 v1 g0 1 0) ∧ w = [(z 4, aI V 1025 g0), (z 3, aI V 900 fz3), (z 0, .inr (10, mo z pz0_0 pz0_5 v1 v2 pz0_8 v3 v4 v5 v6 pz0_13 pz0_14 pz0_18 pz0_19 pz0_22 pz0_23 pz0_29))])) := by
  refine Ct.of (by decide) (Nat.le_of_ble_eq_true rfl) (fun p e s m below meth c A ls hx hb hr hml hown hlk hnm hg hP hK hD hE hA hS hl => ?_)
  have hl : lv_has ls 3 [(0, .ref (z 0)), (1, .int 6)] := hl
  refine lv_aload_n hx hb dX10_readSum_0 rfl (lv_at hl 0 rfl) ?_
  refine lv_iload_n hx hb dX10_readSum_1 rfl (lv_at hl 1 rfl) ?_
  refine jnV (wr := []) (rnV (rest := []) ⟨hx, hb, hml, hown, hg⟩ (k_X10_readTerm_0 l V z fz4 fz3 pz0_0 pz0_5 pz0_6 pz0_7 pz0_8 pz0_9 pz0_10 pz0_11 pz0_12 pz0_13 pz0_14 pz0_18 pz0_19 pz0_22 pz0_23 pz0_29 tfz4 bpz0_5 bpz0_6 bpz0_7 bpz0_8 bpz0_10 bpz0_11 bpz0_12 bpz0_13 bpz0_14 bpz0_18 bpz0_22 bpz0_29 hf0 hf1) mt_X10_readTerm q_6_191 ⟨Nat.le_of_ble_eq_true rfl, Nat.le_of_ble_eq_true rfl⟩ hK hP hD hS hA hE [0, 1, 2] rfl rfl 2 rfl rfl rfl rfl hl.1 rfl (Nat.le_of_ble_eq_true rfl) dX10_readSum_2 ⟨Nat.le_of_ble_eq_true rfl, Nat.le_of_ble_eq_true rfl⟩) hP hD hS hA [0, 1, 2] [] rfl rfl rfl (by decide) (fun  w H locs hw hP hD hS => ?_)
  obtain ⟨f_1, v_2, v_3, v_4, v_5, v_6, v_7, tf_1, bv_2, bv_3, bv_5, bv_6, bv_7, g_8, g_9, g_10, g_11, rfl⟩ := hw
  have hP : va_P V.1 vwCl [(z 4, aI V 1025 f_1), (z 3, aI V 900 fz3), (z 0, .inr (10, mo z pz0_0 pz0_5 v_2 v_3 pz0_8 v_4 v_5 v_6 v_7 pz0_13 pz0_14 pz0_18 pz0_19 pz0_22 pz0_23 pz0_29))] H := hP
  have hD : va_D A [(z 4, aI V 1025 f_1), (z 3, aI V 900 fz3), (z 0, .inr (10, mo z pz0_0 pz0_5 v_2 v_3 pz0_8 v_4 v_5 v_6 v_7 pz0_13 pz0_14 pz0_18 pz0_19 pz0_22 pz0_23 pz0_29))] := hD
  have rx_12 : RX pz0_11 pz0_6 fz4 v_6 v_2 f_1 1 ((0 : Int)) := by have q9 := RX_seq (by decide) (RX_0 (w := pz0_11) (a := pz0_6) tfz4) g_11; exact RX_w q9 (by omega)
  refine loopF (X := fun (n_20 : Nat) (H : Heap) (locs : List Loc) (ls : Array Slot) => ∃ (f_13 : Nat → Int32) (u_14 : Int32) (u_15 : Int32) (u_16 : Int32) (u_17 : Int32) (u_18 : Int32) (u_19 : Int32), (ivT tF f_13) ∧ (iv 0 900 u_14) ∧ (iv 0 900 u_15) ∧ (iv 0 999 u_17) ∧ (iv 0 4 u_18) ∧ (iv 0 900 u_19) ∧ ((pz0_6 : Int32).toInt ≤ (u_14 : Int32).toInt) ∧ (RX pz0_11 pz0_6 fz4 u_18 u_14 f_13 1 0) ∧ (PT u_14 u_15 pz0_8 u_16) ∧ (PS u_18 u_14 f_13) ∧ n_20 = (900 - (u_14 : Int32).toInt).toNat ∧ va_P V.1 vwCl [(z 4, aI V 1025 f_13), (z 3, aI V 900 fz3), (z 0, .inr (10, mo z pz0_0 pz0_5 u_14 u_15 pz0_8 u_16 u_17 u_18 u_19 pz0_13 pz0_14 pz0_18 pz0_19 pz0_22 pz0_23 pz0_29))] H ∧ va_D A [(z 4, aI V 1025 f_13), (z 3, aI V 900 fz3), (z 0, .inr (10, mo z pz0_0 pz0_5 u_14 u_15 pz0_8 u_16 u_17 u_18 u_19 pz0_13 pz0_14 pz0_18 pz0_19 pz0_22 pz0_23 pz0_29))] ∧ va_S A s.heap H locs ∧ lv_has ls 3 [(0, .ref (z 0)), (1, .int 6)]) (g := fun ls => F0 m 5 ls []) (fun n_20 H locs ls hX ihn_20 => ?_) _ ⟨f_1, v_2, v_3, v_4, v_5, v_6, v_7, tf_1, bv_2, bv_3, bv_5, bv_6, bv_7, (by have z_0 := g_10;have y_0 := hf0.1; have y_1 := g_8.1; omega), (RX_w rx_12 (by omega)), g_8, g_9, rfl, hP, hD, hS, lv_sub hl [0, 1] rfl⟩
  obtain ⟨f_13, u_14, u_15, u_16, u_17, u_18, u_19, tf_13, bu_14, bu_15, bu_17, bu_18, bu_19, inn_20_0, inn_20_1, inn_20_2, inn_20_3, en_20, hP, hD, hS, hl⟩ := hX
  refine lv_aload_n hx hb dX10_readSum_5 rfl (lv_at hl 0 rfl) ?_
  refine lv_bipush (v := 32) hx hb dX10_readSum_6 (by decide) ?_
  refine jnI (wr := [(z 4, aI V 1025 f_13), (z 3, aI V 900 fz3)]) (rnV (rest := []) ⟨hx, hb, hml, hown, hg⟩ (k_X10_is_14 l V z pz0_0 pz0_5 u_14 u_15 pz0_8 u_16 u_17 u_18 u_19 pz0_13 pz0_14 pz0_18 pz0_19 pz0_22 pz0_23 pz0_29 bpz0_5 bu_14 bu_15 bpz0_8 bu_17 bu_18 bu_19 bpz0_13 bpz0_14 bpz0_18 bpz0_22 bpz0_29) mt_X10_is q_6_143 ⟨Nat.le_of_ble_eq_true rfl, Nat.le_of_ble_eq_true rfl⟩ hK hP hD hS hA hE [2] rfl rfl 2 rfl rfl rfl rfl hl.1 rfl (Nat.le_of_ble_eq_true rfl) dX10_readSum_8 ⟨Nat.le_of_ble_eq_true rfl, Nat.le_of_ble_eq_true rfl⟩) hP hD hS hA [2] [0, 1] rfl rfl rfl (by decide) (fun r_21 w H locs hw hP hD hS => ?_)
  obtain ⟨br_21, g_22, g_23, rfl⟩ := hw
  have hP : va_P V.1 vwCl [(z 4, aI V 1025 f_13), (z 3, aI V 900 fz3), (z 0, .inr (10, mo z pz0_0 pz0_5 u_14 u_15 pz0_8 u_16 u_17 u_18 u_19 pz0_13 pz0_14 pz0_18 pz0_19 pz0_22 pz0_23 pz0_29))] H := hP
  have hD : va_D A [(z 4, aI V 1025 f_13), (z 3, aI V 900 fz3), (z 0, .inr (10, mo z pz0_0 pz0_5 u_14 u_15 pz0_8 u_16 u_17 u_18 u_19 pz0_13 pz0_14 pz0_18 pz0_19 pz0_22 pz0_23 pz0_29))] := hD
  refine lv_if_ne (tgt := 23) hx hb dX10_readSum_11 (by decide) (fun c_24 => ?_) (fun c_24 => ?_)
  · have b_25 : iv 1 1 r_21 := iv_n0 c_24 br_21 (iv_c (0 : Int32) (a := 0) (b := 0) (by decide)) (by decide)
    have c_26 : u_18 = 0 := (g_22 (iv_eqp b_25 (iv_c (1 : Int32) (by decide))))
    have b_27 : iv 0 0 u_18 := iv_q c_26 (iv_c (0 : Int32) (a := 0) (b := 0) (by decide))
    have c_28 : u_16 = 32 := (g_23 (iv_eqp b_25 (iv_c (1 : Int32) (by decide))))
    have b_29 : iv 32 32 u_16 := iv_q c_28 (iv_c (32 : Int32) (a := 32) (b := 32) (by decide))
    refine lv_aload_n hx hb dX10_readSum_23 rfl (lv_at hl 0 rfl) ?_
    refine va_get (ci := 10) (v := .int u_16) (C := RX10) (T := TX10) (N := 40) hx hb hg inX10 hown hK hP 2 rfl rfl 9 (by decide) (hg _ q_5_233) (fun _ h9 => h9) rfl dX10_readSum_24 ?_
    refine lv_bipush (v := 32) hx hb dX10_readSum_27 (by decide) ?_
    refine lv_icmp_ne (tgt := 38) hx hb dX10_readSum_29 (by decide) (fun c_31 => absurd c_28 c_31) (fun _ => ?_)
    refine lv_sipush (v := 3000) hx hb dX10_readSum_32 (by decide) ?_
    refine lv_goto (tgt := 41) hx hb dX10_readSum_35 (by decide) ?_
    refine lv_istore_n (lv' := [(2, .int 3000), (0, .ref (z 0)), (1, .int 6)]) hx hb dX10_readSum_41 rfl hl (by decide) rfl (fun ls hl => ?_)
    refine lv_aload_n hx hb dX10_readSum_42 rfl (lv_at hl 1 rfl) ?_
    refine jnV (wr := [(z 4, aI V 1025 f_13)]) (rnV (rest := []) ⟨hx, hb, hml, hown, hg⟩ (k_X10_next_0 l V z pz0_0 pz0_5 u_14 u_15 pz0_8 u_16 u_17 u_18 u_19 pz0_13 pz0_14 pz0_18 pz0_19 pz0_22 pz0_23 pz0_29 fz3 bpz0_5 bu_14 bu_15 bpz0_8 bu_17 (iv_w b_27 (by decide)) bu_19 bpz0_13 bpz0_14 bpz0_18 bpz0_22 bpz0_29 inn_20_2.2.1) mt_X10_next q_6_117 ⟨Nat.le_of_ble_eq_true rfl, Nat.le_of_ble_eq_true rfl⟩ hK hP hD hS hA hE [2, 1] rfl rfl 2 rfl rfl rfl rfl hl.1 rfl (Nat.le_of_ble_eq_true rfl) dX10_readSum_43 ⟨Nat.le_of_ble_eq_true rfl, Nat.le_of_ble_eq_true rfl⟩) hP hD hS hA [2, 1] [0] rfl rfl rfl (by decide) (fun  w H locs hw hP hD hS => ?_)
    obtain ⟨v_32, v_33, v_34, v_35, bv_32, bv_33, bv_35, g_36, g_37, rfl⟩ := hw
    have hP : va_P V.1 vwCl [(z 4, aI V 1025 f_13), (z 0, .inr (10, mo z pz0_0 pz0_5 v_32 v_33 pz0_8 v_34 v_35 u_18 u_19 pz0_13 pz0_14 pz0_18 pz0_19 pz0_22 pz0_23 pz0_29)), (z 3, aI V 900 fz3)] H := hP
    have hD : va_D A [(z 4, aI V 1025 f_13), (z 0, .inr (10, mo z pz0_0 pz0_5 v_32 v_33 pz0_8 v_34 v_35 u_18 u_19 pz0_13 pz0_14 pz0_18 pz0_19 pz0_22 pz0_23 pz0_29)), (z 3, aI V 900 fz3)] := hD
    have rx_38 : RX pz0_11 pz0_6 fz4 u_18 v_32 f_13 1 ((1 : Int)) := by have q9 := RX_a (a' := v_32) inn_20_1 (fun q8 => q8) (t := 1) (by have q9 := g_37; have q8 := inn_20_2.2.2 (by rw [c_28]; decide); omega); exact RX_w q9 (by omega)
    refine lv_aload_n hx hb dX10_readSum_46 rfl (lv_at hl 1 rfl) ?_
    refine lv_iload_n hx hb dX10_readSum_47 rfl (lv_at hl 2 rfl) ?_
    refine jnV (wr := []) (rnV (rest := []) ⟨hx, hb, hml, hown, hg⟩ (k_X10_readTerm_0 l V z f_13 fz3 pz0_0 pz0_5 v_32 v_33 pz0_8 v_34 v_35 u_18 u_19 pz0_13 pz0_14 pz0_18 pz0_19 pz0_22 pz0_23 pz0_29 tf_13 bpz0_5 bv_32 bv_33 bpz0_8 bv_35 (iv_w b_27 (by decide)) bu_19 bpz0_13 bpz0_14 bpz0_18 bpz0_22 bpz0_29 g_36 (PS_x hf1 rx_38 (by omega))) mt_X10_readTerm q_6_191 ⟨Nat.le_of_ble_eq_true rfl, Nat.le_of_ble_eq_true rfl⟩ hK hP hD hS hA hE [0, 2, 1] rfl rfl 1 rfl rfl rfl rfl hl.1 rfl (Nat.le_of_ble_eq_true rfl) dX10_readSum_48 ⟨Nat.le_of_ble_eq_true rfl, Nat.le_of_ble_eq_true rfl⟩) hP hD hS hA [0, 2, 1] [] rfl rfl rfl (by decide) (fun  w H locs hw hP hD hS => ?_)
    obtain ⟨f_39, v_40, v_41, v_42, v_43, v_44, v_45, tf_39, bv_40, bv_41, bv_43, bv_44, bv_45, g_46, g_47, g_48, g_49, rfl⟩ := hw
    have hP : va_P V.1 vwCl [(z 4, aI V 1025 f_39), (z 3, aI V 900 fz3), (z 0, .inr (10, mo z pz0_0 pz0_5 v_40 v_41 pz0_8 v_42 v_43 v_44 v_45 pz0_13 pz0_14 pz0_18 pz0_19 pz0_22 pz0_23 pz0_29))] H := hP
    have hD : va_D A [(z 4, aI V 1025 f_39), (z 3, aI V 900 fz3), (z 0, .inr (10, mo z pz0_0 pz0_5 v_40 v_41 pz0_8 v_42 v_43 v_44 v_45 pz0_13 pz0_14 pz0_18 pz0_19 pz0_22 pz0_23 pz0_29))] := hD
    have rx_50 : RX pz0_11 pz0_6 fz4 v_44 v_40 f_39 2 ((1 : Int)) := by have q9 := RX_seq (by decide) rx_38 g_49; exact RX_w q9 (by omega)
    refine lv_aload_n hx hb dX10_readSum_51 rfl (lv_at hl 1 rfl) ?_
    refine lv_iload_n hx hb dX10_readSum_52 rfl (lv_at hl 0 rfl) ?_
    refine jnV (wr := [(z 3, aI V 900 fz3)]) (rnV (rest := []) ⟨hx, hb, hml, hown, hg⟩ (k_X10_codes_0 l V z 3000 f_39 pz0_0 pz0_5 v_40 v_41 pz0_8 v_42 v_43 v_44 v_45 pz0_13 pz0_14 pz0_18 pz0_19 pz0_22 pz0_23 pz0_29 tf_39 bpz0_5 bv_40 bv_41 bpz0_8 bv_43 bv_44 bv_45 bpz0_13 bpz0_14 bpz0_18 bpz0_22 bpz0_29 (PS_n hf1 rx_50 bv_40 (by decide) (by omega))) mt_X10_codes q_6_199 ⟨Nat.le_of_ble_eq_true rfl, Nat.le_of_ble_eq_true rfl⟩ hK hP hD hS hA hE [0, 2] rfl rfl 2 rfl rfl rfl rfl hl.1 rfl (Nat.le_of_ble_eq_true rfl) dX10_readSum_53 ⟨Nat.le_of_ble_eq_true rfl, Nat.le_of_ble_eq_true rfl⟩) hP hD hS hA [0, 2] [1] rfl rfl rfl (by decide) (fun  w H locs hw hP hD hS => ?_)
    obtain ⟨f_51, tf_51, g_52, g_53, rfl⟩ := hw
    have hP : va_P V.1 vwCl [(z 3, aI V 900 fz3), (z 4, aI V 1025 f_51), (z 0, .inr (10, mo z pz0_0 pz0_5 v_40 v_41 pz0_8 v_42 v_43 v_44 v_45 pz0_13 pz0_14 pz0_18 pz0_19 pz0_22 pz0_23 pz0_29))] H := hP
    have hD : va_D A [(z 3, aI V 900 fz3), (z 4, aI V 1025 f_51), (z 0, .inr (10, mo z pz0_0 pz0_5 v_40 v_41 pz0_8 v_42 v_43 v_44 v_45 pz0_13 pz0_14 pz0_18 pz0_19 pz0_22 pz0_23 pz0_29))] := hD
    have rx_54 : RX pz0_11 pz0_6 fz4 v_44 v_40 f_51 1 ((0 : Int)) := by have q9 := RX_c rx_50 tf_39 g_52 (by decide) ⟨by decide, by decide⟩ (by decide) (PS_n hf1 rx_50 bv_40 (by decide) (by omega)); rw [(by decide : eff (3000 : Int32) = -1)] at q9; exact RX_w q9 (by omega)
    refine lv_goto (tgt := 5) hx hb dX10_readSum_56 (by decide) ?_
    have hP := subP (ws' := [(z 4, aI V 1025 f_51), (z 3, aI V 900 fz3), (z 0, .inr (10, mo z pz0_0 pz0_5 v_40 v_41 pz0_8 v_42 v_43 v_44 v_45 pz0_13 pz0_14 pz0_18 pz0_19 pz0_22 pz0_23 pz0_29))]) hP [1, 0, 2] rfl
    have hD := hD.sub (ws' := [(z 4, aI V 1025 f_51), (z 3, aI V 900 fz3), (z 0, .inr (10, mo z pz0_0 pz0_5 v_40 v_41 pz0_8 v_42 v_43 v_44 v_45 pz0_13 pz0_14 pz0_18 pz0_19 pz0_22 pz0_23 pz0_29))]) [1, 0, 2] rfl rfl
    exact ihn_20 _ _ _ _ (by rw [en_20]; have z_0 := g_10; have z_1 := inn_20_0; have z_2 := g_37; have z_3 := g_48; have z_4 := hf0.1; have z_5 := g_8.1; have z_6 := inn_20_2.2.2 (by rw [c_28]; decide); have z_7 := g_36.1; have z_8 := g_46.1; have q9 := bv_40; unfold iv at q9; omega) ⟨f_51, v_40, v_41, v_42, v_43, v_44, v_45, tf_51, bv_40, bv_41, bv_43, bv_44, bv_45, (by have z_0 := g_10; have z_1 := inn_20_0; have z_2 := g_37; have z_3 := g_48;have y_0 := hf0.1; have y_1 := g_8.1; have y_2 := inn_20_2.1; have y_3 := g_36.1; have y_4 := g_46.1; omega), (RX_w rx_54 (by omega)), g_46, (PS_x hf1 rx_54 (by omega)), rfl, hP, hD, hS, lv_sub hl [1, 2] rfl⟩
  · have b_55 : iv 0 0 r_21 := iv_q c_24 (iv_c (0 : Int32) (a := 0) (b := 0) (by decide))
    refine lv_aload_n hx hb dX10_readSum_14 rfl (lv_at hl 0 rfl) ?_
    refine lv_bipush (v := 33) hx hb dX10_readSum_15 (by decide) ?_
    refine jnI (wr := [(z 4, aI V 1025 f_13), (z 3, aI V 900 fz3)]) (rnV (rest := []) ⟨hx, hb, hml, hown, hg⟩ (k_X10_is_15 l V z pz0_0 pz0_5 u_14 u_15 pz0_8 u_16 u_17 u_18 u_19 pz0_13 pz0_14 pz0_18 pz0_19 pz0_22 pz0_23 pz0_29 bpz0_5 bu_14 bu_15 bpz0_8 bu_17 bu_18 bu_19 bpz0_13 bpz0_14 bpz0_18 bpz0_22 bpz0_29) mt_X10_is q_6_143 ⟨Nat.le_of_ble_eq_true rfl, Nat.le_of_ble_eq_true rfl⟩ hK hP hD hS hA hE [2] rfl rfl 2 rfl rfl rfl rfl hl.1 rfl (Nat.le_of_ble_eq_true rfl) dX10_readSum_17 ⟨Nat.le_of_ble_eq_true rfl, Nat.le_of_ble_eq_true rfl⟩) hP hD hS hA [2] [0, 1] rfl rfl rfl (by decide) (fun r_56 w H locs hw hP hD hS => ?_)
    obtain ⟨br_56, g_57, g_58, rfl⟩ := hw
    have hP : va_P V.1 vwCl [(z 4, aI V 1025 f_13), (z 3, aI V 900 fz3), (z 0, .inr (10, mo z pz0_0 pz0_5 u_14 u_15 pz0_8 u_16 u_17 u_18 u_19 pz0_13 pz0_14 pz0_18 pz0_19 pz0_22 pz0_23 pz0_29))] H := hP
    have hD : va_D A [(z 4, aI V 1025 f_13), (z 3, aI V 900 fz3), (z 0, .inr (10, mo z pz0_0 pz0_5 u_14 u_15 pz0_8 u_16 u_17 u_18 u_19 pz0_13 pz0_14 pz0_18 pz0_19 pz0_22 pz0_23 pz0_29))] := hD
    refine lv_if_eq (tgt := 59) hx hb dX10_readSum_20 (by decide) (fun c_59 => ?_) (fun c_59 => ?_)
    · have b_60 : iv 0 0 r_56 := iv_q c_59 (iv_c (0 : Int32) (a := 0) (b := 0) (by decide))
      exact fiV hx hb hr hlk hK hP hD hS dX10_readSum_59 (Nat.le_of_ble_eq_true rfl) (Nat.le_of_ble_eq_true rfl) (⟨f_13, u_14, u_15, u_16, u_17, u_18, u_19, tf_13, bu_14, bu_15, bu_17, bu_18, bu_19, inn_20_2, inn_20_3, (by have z_0 := g_10; have z_1 := inn_20_0;have y_0 := hf0.1; have y_1 := g_8.1; have y_2 := inn_20_2.1; omega), (RX_w inn_20_1 (by omega)), rfl⟩)
    · have b_61 : iv 1 1 r_56 := iv_n0 c_59 br_56 (iv_c (0 : Int32) (a := 0) (b := 0) (by decide)) (by decide)
      have c_62 : u_18 = 0 := (g_57 (iv_eqp b_61 (iv_c (1 : Int32) (by decide))))
      have b_63 : iv 0 0 u_18 := iv_q c_62 (iv_c (0 : Int32) (a := 0) (b := 0) (by decide))
      have c_64 : u_16 = 33 := (g_58 (iv_eqp b_61 (iv_c (1 : Int32) (by decide))))
      have b_65 : iv 33 33 u_16 := iv_q c_64 (iv_c (33 : Int32) (a := 33) (b := 33) (by decide))
      refine lv_aload_n hx hb dX10_readSum_23 rfl (lv_at hl 0 rfl) ?_
      refine va_get (ci := 10) (v := .int u_16) (C := RX10) (T := TX10) (N := 40) hx hb hg inX10 hown hK hP 2 rfl rfl 9 (by decide) (hg _ q_5_233) (fun _ h9 => h9) rfl dX10_readSum_24 ?_
      refine lv_bipush (v := 32) hx hb dX10_readSum_27 (by decide) ?_
      refine lv_icmp_ne (tgt := 38) hx hb dX10_readSum_29 (by decide) (fun _ => ?_) (fun c_66 => absurd c_66 (iv_ne b_65 (iv_c (32 : Int32) (a := 32) (b := 32) (by decide)) (by decide)))
      refine lv_sipush (v := 3001) hx hb dX10_readSum_38 (by decide) ?_
      refine lv_istore_n (lv' := [(2, .int 3001), (0, .ref (z 0)), (1, .int 6)]) hx hb dX10_readSum_41 rfl hl (by decide) rfl (fun ls hl => ?_)
      refine lv_aload_n hx hb dX10_readSum_42 rfl (lv_at hl 1 rfl) ?_
      refine jnV (wr := [(z 4, aI V 1025 f_13)]) (rnV (rest := []) ⟨hx, hb, hml, hown, hg⟩ (k_X10_next_0 l V z pz0_0 pz0_5 u_14 u_15 pz0_8 u_16 u_17 u_18 u_19 pz0_13 pz0_14 pz0_18 pz0_19 pz0_22 pz0_23 pz0_29 fz3 bpz0_5 bu_14 bu_15 bpz0_8 bu_17 (iv_w b_63 (by decide)) bu_19 bpz0_13 bpz0_14 bpz0_18 bpz0_22 bpz0_29 inn_20_2.2.1) mt_X10_next q_6_117 ⟨Nat.le_of_ble_eq_true rfl, Nat.le_of_ble_eq_true rfl⟩ hK hP hD hS hA hE [2, 1] rfl rfl 2 rfl rfl rfl rfl hl.1 rfl (Nat.le_of_ble_eq_true rfl) dX10_readSum_43 ⟨Nat.le_of_ble_eq_true rfl, Nat.le_of_ble_eq_true rfl⟩) hP hD hS hA [2, 1] [0] rfl rfl rfl (by decide) (fun  w H locs hw hP hD hS => ?_)
      obtain ⟨v_67, v_68, v_69, v_70, bv_67, bv_68, bv_70, g_71, g_72, rfl⟩ := hw
      have hP : va_P V.1 vwCl [(z 4, aI V 1025 f_13), (z 0, .inr (10, mo z pz0_0 pz0_5 v_67 v_68 pz0_8 v_69 v_70 u_18 u_19 pz0_13 pz0_14 pz0_18 pz0_19 pz0_22 pz0_23 pz0_29)), (z 3, aI V 900 fz3)] H := hP
      have hD : va_D A [(z 4, aI V 1025 f_13), (z 0, .inr (10, mo z pz0_0 pz0_5 v_67 v_68 pz0_8 v_69 v_70 u_18 u_19 pz0_13 pz0_14 pz0_18 pz0_19 pz0_22 pz0_23 pz0_29)), (z 3, aI V 900 fz3)] := hD
      have rx_73 : RX pz0_11 pz0_6 fz4 u_18 v_67 f_13 1 ((1 : Int)) := by have q9 := RX_a (a' := v_67) inn_20_1 (fun q8 => q8) (t := 1) (by have q9 := g_72; have q8 := inn_20_2.2.2 (by rw [c_64]; decide); omega); exact RX_w q9 (by omega)
      refine lv_aload_n hx hb dX10_readSum_46 rfl (lv_at hl 1 rfl) ?_
      refine lv_iload_n hx hb dX10_readSum_47 rfl (lv_at hl 2 rfl) ?_
      refine jnV (wr := []) (rnV (rest := []) ⟨hx, hb, hml, hown, hg⟩ (k_X10_readTerm_0 l V z f_13 fz3 pz0_0 pz0_5 v_67 v_68 pz0_8 v_69 v_70 u_18 u_19 pz0_13 pz0_14 pz0_18 pz0_19 pz0_22 pz0_23 pz0_29 tf_13 bpz0_5 bv_67 bv_68 bpz0_8 bv_70 (iv_w b_63 (by decide)) bu_19 bpz0_13 bpz0_14 bpz0_18 bpz0_22 bpz0_29 g_71 (PS_x hf1 rx_73 (by omega))) mt_X10_readTerm q_6_191 ⟨Nat.le_of_ble_eq_true rfl, Nat.le_of_ble_eq_true rfl⟩ hK hP hD hS hA hE [0, 2, 1] rfl rfl 1 rfl rfl rfl rfl hl.1 rfl (Nat.le_of_ble_eq_true rfl) dX10_readSum_48 ⟨Nat.le_of_ble_eq_true rfl, Nat.le_of_ble_eq_true rfl⟩) hP hD hS hA [0, 2, 1] [] rfl rfl rfl (by decide) (fun  w H locs hw hP hD hS => ?_)
      obtain ⟨f_74, v_75, v_76, v_77, v_78, v_79, v_80, tf_74, bv_75, bv_76, bv_78, bv_79, bv_80, g_81, g_82, g_83, g_84, rfl⟩ := hw
      have hP : va_P V.1 vwCl [(z 4, aI V 1025 f_74), (z 3, aI V 900 fz3), (z 0, .inr (10, mo z pz0_0 pz0_5 v_75 v_76 pz0_8 v_77 v_78 v_79 v_80 pz0_13 pz0_14 pz0_18 pz0_19 pz0_22 pz0_23 pz0_29))] H := hP
      have hD : va_D A [(z 4, aI V 1025 f_74), (z 3, aI V 900 fz3), (z 0, .inr (10, mo z pz0_0 pz0_5 v_75 v_76 pz0_8 v_77 v_78 v_79 v_80 pz0_13 pz0_14 pz0_18 pz0_19 pz0_22 pz0_23 pz0_29))] := hD
      have rx_85 : RX pz0_11 pz0_6 fz4 v_79 v_75 f_74 2 ((1 : Int)) := by have q9 := RX_seq (by decide) rx_73 g_84; exact RX_w q9 (by omega)
      refine lv_aload_n hx hb dX10_readSum_51 rfl (lv_at hl 1 rfl) ?_
      refine lv_iload_n hx hb dX10_readSum_52 rfl (lv_at hl 0 rfl) ?_
      refine jnV (wr := [(z 3, aI V 900 fz3)]) (rnV (rest := []) ⟨hx, hb, hml, hown, hg⟩ (k_X10_codes_0 l V z 3001 f_74 pz0_0 pz0_5 v_75 v_76 pz0_8 v_77 v_78 v_79 v_80 pz0_13 pz0_14 pz0_18 pz0_19 pz0_22 pz0_23 pz0_29 tf_74 bpz0_5 bv_75 bv_76 bpz0_8 bv_78 bv_79 bv_80 bpz0_13 bpz0_14 bpz0_18 bpz0_22 bpz0_29 (PS_n hf1 rx_85 bv_75 (by decide) (by omega))) mt_X10_codes q_6_199 ⟨Nat.le_of_ble_eq_true rfl, Nat.le_of_ble_eq_true rfl⟩ hK hP hD hS hA hE [0, 2] rfl rfl 2 rfl rfl rfl rfl hl.1 rfl (Nat.le_of_ble_eq_true rfl) dX10_readSum_53 ⟨Nat.le_of_ble_eq_true rfl, Nat.le_of_ble_eq_true rfl⟩) hP hD hS hA [0, 2] [1] rfl rfl rfl (by decide) (fun  w H locs hw hP hD hS => ?_)
      obtain ⟨f_86, tf_86, g_87, g_88, rfl⟩ := hw
      have hP : va_P V.1 vwCl [(z 3, aI V 900 fz3), (z 4, aI V 1025 f_86), (z 0, .inr (10, mo z pz0_0 pz0_5 v_75 v_76 pz0_8 v_77 v_78 v_79 v_80 pz0_13 pz0_14 pz0_18 pz0_19 pz0_22 pz0_23 pz0_29))] H := hP
      have hD : va_D A [(z 3, aI V 900 fz3), (z 4, aI V 1025 f_86), (z 0, .inr (10, mo z pz0_0 pz0_5 v_75 v_76 pz0_8 v_77 v_78 v_79 v_80 pz0_13 pz0_14 pz0_18 pz0_19 pz0_22 pz0_23 pz0_29))] := hD
      have rx_89 : RX pz0_11 pz0_6 fz4 v_79 v_75 f_86 1 ((0 : Int)) := by have q9 := RX_c rx_85 tf_74 g_87 (by decide) ⟨by decide, by decide⟩ (by decide) (PS_n hf1 rx_85 bv_75 (by decide) (by omega)); rw [(by decide : eff (3001 : Int32) = -1)] at q9; exact RX_w q9 (by omega)
      refine lv_goto (tgt := 5) hx hb dX10_readSum_56 (by decide) ?_
      have hP := subP (ws' := [(z 4, aI V 1025 f_86), (z 3, aI V 900 fz3), (z 0, .inr (10, mo z pz0_0 pz0_5 v_75 v_76 pz0_8 v_77 v_78 v_79 v_80 pz0_13 pz0_14 pz0_18 pz0_19 pz0_22 pz0_23 pz0_29))]) hP [1, 0, 2] rfl
      have hD := hD.sub (ws' := [(z 4, aI V 1025 f_86), (z 3, aI V 900 fz3), (z 0, .inr (10, mo z pz0_0 pz0_5 v_75 v_76 pz0_8 v_77 v_78 v_79 v_80 pz0_13 pz0_14 pz0_18 pz0_19 pz0_22 pz0_23 pz0_29))]) [1, 0, 2] rfl rfl
      exact ihn_20 _ _ _ _ (by rw [en_20]; have z_0 := g_10; have z_1 := inn_20_0; have z_2 := g_72; have z_3 := g_83; have z_4 := hf0.1; have z_5 := g_8.1; have z_6 := inn_20_2.2.2 (by rw [c_64]; decide); have z_7 := g_71.1; have z_8 := g_81.1; have q9 := bv_75; unfold iv at q9; omega) ⟨f_86, v_75, v_76, v_77, v_78, v_79, v_80, tf_86, bv_75, bv_76, bv_78, bv_79, bv_80, (by have z_0 := g_10; have z_1 := inn_20_0; have z_2 := g_72; have z_3 := g_83;have y_0 := hf0.1; have y_1 := g_8.1; have y_2 := inn_20_2.1; have y_3 := g_71.1; have y_4 := g_81.1; omega), (RX_w rx_89 (by omega)), g_81, (PS_x hf1 rx_89 (by omega)), rfl, hP, hD, hS, lv_sub hl [1, 2] rfl⟩
set_option maxHeartbeats 4000000 in
set_option maxRecDepth 100000 in
theorem k_X10_is_16 (l : Launch) (V : GV) (z : Nat → Nat) (pz0_0 : Int32) (pz0_5 : Int32) (pz0_6 : Int32) (pz0_7 : Int32) (pz0_8 : Int32) (pz0_9 : Int32) (pz0_10 : Int32) (pz0_11 : Int32) (pz0_12 : Int32) (pz0_13 : Int32) (pz0_14 : Int32) (pz0_18 : Int32) (pz0_19 : Int32) (pz0_22 : Int32) (pz0_23 : Int32) (pz0_29 : Int32) (bpz0_5 : iv 0 900 pz0_5) (bpz0_6 : iv 0 900 pz0_6) (bpz0_7 : iv 0 900 pz0_7) (bpz0_8 : iv 0 900 pz0_8) (bpz0_10 : iv 0 999 pz0_10) (bpz0_11 : iv 0 4 pz0_11) (bpz0_12 : iv 0 900 pz0_12) (bpz0_13 : iv 0 4 pz0_13) (bpz0_14 : iv (-1) 900 pz0_14) (bpz0_18 : iv 0 2 pz0_18) (bpz0_22 : iv 0 9999 pz0_22) (bpz0_29 : iv 0 10000 pz0_29) : Ct l V yX10_is (.code yX10_is cX10_is 2 (some .boolean)) 1 [.ref (z 0), .int 39] [(z 0, .inr (10, mo z pz0_0 pz0_5 pz0_6 pz0_7 pz0_8 pz0_9 pz0_10 pz0_11 pz0_12 pz0_13 pz0_14 pz0_18 pz0_19 pz0_22 pz0_23 pz0_29))] 0 0 (QI V (fun (r : Int32) (w : va_W) => iv 0 1 r ∧ (r = 1 → pz0_11 = 0) ∧ (r = 1 → pz0_9 = (39 : Int32)) ∧ w = [(z 0, .inr (10, mo z pz0_0 pz0_5 pz0_6 pz0_7 pz0_8 pz0_9 pz0_10 pz0_11 pz0_12 pz0_13 pz0_14 pz0_18 pz0_19 pz0_22 pz0_23 pz0_29))])) := by
  refine Ct.of (by decide) (Nat.le_of_ble_eq_true rfl) (fun p e s m below meth c A ls hx hb hr hml hown hlk hnm hg hP hK hD hE hA hS hl => ?_)
  have hl : lv_has ls 2 [(0, .ref (z 0)), (1, .int 39)] := hl
  refine lv_aload_n hx hb dX10_is_0 rfl (lv_at hl 0 rfl) ?_
  refine va_get (ci := 10) (v := .int pz0_11) (C := RX10) (T := TX10) (N := 40) hx hb hg inX10 hown hK hP 0 rfl rfl 11 (by decide) (hg _ q_5_235) (fun _ h9 => h9) rfl dX10_is_1 ?_
  refine lv_if_ne (tgt := 19) hx hb dX10_is_4 (by decide) (fun c_1 => ?_) (fun c_1 => ?_)
  · have b_2 : iv 1 4 pz0_11 := iv_n0 c_1 bpz0_11 (iv_c (0 : Int32) (a := 0) (b := 0) (by decide)) (by decide)
    refine lv_iconst (v := 0) hx hb dX10_is_19 (by decide) ?_
    exact fiZ rfl hx hb hr hlk hK hP hD hS dX10_is_20 (Nat.le_of_ble_eq_true rfl) (Nat.le_of_ble_eq_true rfl) (⟨(iv_c (0 : Int32) (by decide)), (fun q9 => absurd q9 (by decide)), (fun q9 => absurd q9 (by decide)), rfl⟩)
  · have b_3 : iv 0 0 pz0_11 := iv_q c_1 (iv_c (0 : Int32) (a := 0) (b := 0) (by decide))
    refine lv_aload_n hx hb dX10_is_7 rfl (lv_at hl 0 rfl) ?_
    refine va_get (ci := 10) (v := .int pz0_9) (C := RX10) (T := TX10) (N := 40) hx hb hg inX10 hown hK hP 0 rfl rfl 9 (by decide) (hg _ q_5_233) (fun _ h9 => h9) rfl dX10_is_8 ?_
    refine lv_iload_n hx hb dX10_is_11 rfl (lv_at hl 1 rfl) ?_
    refine lv_icmp_ne (tgt := 19) hx hb dX10_is_12 (by decide) (fun c_4 => ?_) (fun c_4 => ?_)
    · refine lv_iconst (v := 0) hx hb dX10_is_19 (by decide) ?_
      exact fiZ rfl hx hb hr hlk hK hP hD hS dX10_is_20 (Nat.le_of_ble_eq_true rfl) (Nat.le_of_ble_eq_true rfl) (⟨(iv_c (0 : Int32) (by decide)), (fun q9 => absurd q9 (by decide)), (fun q9 => absurd q9 (by decide)), rfl⟩)
    · have b_5 : iv 39 39 pz0_9 := iv_q c_4 (iv_c (39 : Int32) (a := 39) (b := 39) (by decide))
      refine lv_iconst (v := 1) hx hb dX10_is_15 (by decide) ?_
      refine lv_goto (tgt := 20) hx hb dX10_is_16 (by decide) ?_
      exact fiZ rfl hx hb hr hlk hK hP hD hS dX10_is_20 (Nat.le_of_ble_eq_true rfl) (Nat.le_of_ble_eq_true rfl) (⟨(iv_c (1 : Int32) (by decide)), (fun _ => c_1), (fun _ => c_4), rfl⟩)
set_option maxHeartbeats 4000000 in
set_option maxRecDepth 100000 in
theorem k_X10_is_17 (l : Launch) (V : GV) (z : Nat → Nat) (pz0_0 : Int32) (pz0_5 : Int32) (pz0_6 : Int32) (pz0_7 : Int32) (pz0_8 : Int32) (pz0_9 : Int32) (pz0_10 : Int32) (pz0_11 : Int32) (pz0_12 : Int32) (pz0_13 : Int32) (pz0_14 : Int32) (pz0_18 : Int32) (pz0_19 : Int32) (pz0_22 : Int32) (pz0_23 : Int32) (pz0_29 : Int32) (bpz0_5 : iv 0 900 pz0_5) (bpz0_6 : iv 0 900 pz0_6) (bpz0_7 : iv 0 900 pz0_7) (bpz0_8 : iv 0 900 pz0_8) (bpz0_10 : iv 0 999 pz0_10) (bpz0_11 : iv 0 4 pz0_11) (bpz0_12 : iv 0 900 pz0_12) (bpz0_13 : iv 0 4 pz0_13) (bpz0_14 : iv (-1) 900 pz0_14) (bpz0_18 : iv 0 2 pz0_18) (bpz0_22 : iv 0 9999 pz0_22) (bpz0_29 : iv 0 10000 pz0_29) : Ct l V yX10_is (.code yX10_is cX10_is 2 (some .boolean)) 1 [.ref (z 0), .int 40] [(z 0, .inr (10, mo z pz0_0 pz0_5 pz0_6 pz0_7 pz0_8 pz0_9 pz0_10 pz0_11 pz0_12 pz0_13 pz0_14 pz0_18 pz0_19 pz0_22 pz0_23 pz0_29))] 0 0 (QI V (fun (r : Int32) (w : va_W) => iv 0 1 r ∧ (r = 1 → pz0_11 = 0) ∧ (r = 1 → pz0_9 = (40 : Int32)) ∧ w = [(z 0, .inr (10, mo z pz0_0 pz0_5 pz0_6 pz0_7 pz0_8 pz0_9 pz0_10 pz0_11 pz0_12 pz0_13 pz0_14 pz0_18 pz0_19 pz0_22 pz0_23 pz0_29))])) := by
  refine Ct.of (by decide) (Nat.le_of_ble_eq_true rfl) (fun p e s m below meth c A ls hx hb hr hml hown hlk hnm hg hP hK hD hE hA hS hl => ?_)
  have hl : lv_has ls 2 [(0, .ref (z 0)), (1, .int 40)] := hl
  refine lv_aload_n hx hb dX10_is_0 rfl (lv_at hl 0 rfl) ?_
  refine va_get (ci := 10) (v := .int pz0_11) (C := RX10) (T := TX10) (N := 40) hx hb hg inX10 hown hK hP 0 rfl rfl 11 (by decide) (hg _ q_5_235) (fun _ h9 => h9) rfl dX10_is_1 ?_
  refine lv_if_ne (tgt := 19) hx hb dX10_is_4 (by decide) (fun c_1 => ?_) (fun c_1 => ?_)
  · have b_2 : iv 1 4 pz0_11 := iv_n0 c_1 bpz0_11 (iv_c (0 : Int32) (a := 0) (b := 0) (by decide)) (by decide)
    refine lv_iconst (v := 0) hx hb dX10_is_19 (by decide) ?_
    exact fiZ rfl hx hb hr hlk hK hP hD hS dX10_is_20 (Nat.le_of_ble_eq_true rfl) (Nat.le_of_ble_eq_true rfl) (⟨(iv_c (0 : Int32) (by decide)), (fun q9 => absurd q9 (by decide)), (fun q9 => absurd q9 (by decide)), rfl⟩)
  · have b_3 : iv 0 0 pz0_11 := iv_q c_1 (iv_c (0 : Int32) (a := 0) (b := 0) (by decide))
    refine lv_aload_n hx hb dX10_is_7 rfl (lv_at hl 0 rfl) ?_
    refine va_get (ci := 10) (v := .int pz0_9) (C := RX10) (T := TX10) (N := 40) hx hb hg inX10 hown hK hP 0 rfl rfl 9 (by decide) (hg _ q_5_233) (fun _ h9 => h9) rfl dX10_is_8 ?_
    refine lv_iload_n hx hb dX10_is_11 rfl (lv_at hl 1 rfl) ?_
    refine lv_icmp_ne (tgt := 19) hx hb dX10_is_12 (by decide) (fun c_4 => ?_) (fun c_4 => ?_)
    · refine lv_iconst (v := 0) hx hb dX10_is_19 (by decide) ?_
      exact fiZ rfl hx hb hr hlk hK hP hD hS dX10_is_20 (Nat.le_of_ble_eq_true rfl) (Nat.le_of_ble_eq_true rfl) (⟨(iv_c (0 : Int32) (by decide)), (fun q9 => absurd q9 (by decide)), (fun q9 => absurd q9 (by decide)), rfl⟩)
    · have b_5 : iv 40 40 pz0_9 := iv_q c_4 (iv_c (40 : Int32) (a := 40) (b := 40) (by decide))
      refine lv_iconst (v := 1) hx hb dX10_is_15 (by decide) ?_
      refine lv_goto (tgt := 20) hx hb dX10_is_16 (by decide) ?_
      exact fiZ rfl hx hb hr hlk hK hP hD hS dX10_is_20 (Nat.le_of_ble_eq_true rfl) (Nat.le_of_ble_eq_true rfl) (⟨(iv_c (1 : Int32) (by decide)), (fun _ => c_1), (fun _ => c_4), rfl⟩)
set_option maxHeartbeats 4000000 in
set_option maxRecDepth 100000 in
theorem k_X10_is_18 (l : Launch) (V : GV) (z : Nat → Nat) (pz0_0 : Int32) (pz0_5 : Int32) (pz0_6 : Int32) (pz0_7 : Int32) (pz0_8 : Int32) (pz0_9 : Int32) (pz0_10 : Int32) (pz0_11 : Int32) (pz0_12 : Int32) (pz0_13 : Int32) (pz0_14 : Int32) (pz0_18 : Int32) (pz0_19 : Int32) (pz0_22 : Int32) (pz0_23 : Int32) (pz0_29 : Int32) (bpz0_5 : iv 0 900 pz0_5) (bpz0_6 : iv 0 900 pz0_6) (bpz0_7 : iv 0 900 pz0_7) (bpz0_8 : iv 0 900 pz0_8) (bpz0_10 : iv 0 999 pz0_10) (bpz0_11 : iv 0 4 pz0_11) (bpz0_12 : iv 0 900 pz0_12) (bpz0_13 : iv 0 4 pz0_13) (bpz0_14 : iv (-1) 900 pz0_14) (bpz0_18 : iv 0 2 pz0_18) (bpz0_22 : iv 0 9999 pz0_22) (bpz0_29 : iv 0 10000 pz0_29) : Ct l V yX10_is (.code yX10_is cX10_is 2 (some .boolean)) 1 [.ref (z 0), .int 41] [(z 0, .inr (10, mo z pz0_0 pz0_5 pz0_6 pz0_7 pz0_8 pz0_9 pz0_10 pz0_11 pz0_12 pz0_13 pz0_14 pz0_18 pz0_19 pz0_22 pz0_23 pz0_29))] 0 0 (QI V (fun (r : Int32) (w : va_W) => iv 0 1 r ∧ (r = 1 → pz0_11 = 0) ∧ (r = 1 → pz0_9 = (41 : Int32)) ∧ w = [(z 0, .inr (10, mo z pz0_0 pz0_5 pz0_6 pz0_7 pz0_8 pz0_9 pz0_10 pz0_11 pz0_12 pz0_13 pz0_14 pz0_18 pz0_19 pz0_22 pz0_23 pz0_29))])) := by
  refine Ct.of (by decide) (Nat.le_of_ble_eq_true rfl) (fun p e s m below meth c A ls hx hb hr hml hown hlk hnm hg hP hK hD hE hA hS hl => ?_)
  have hl : lv_has ls 2 [(0, .ref (z 0)), (1, .int 41)] := hl
  refine lv_aload_n hx hb dX10_is_0 rfl (lv_at hl 0 rfl) ?_
  refine va_get (ci := 10) (v := .int pz0_11) (C := RX10) (T := TX10) (N := 40) hx hb hg inX10 hown hK hP 0 rfl rfl 11 (by decide) (hg _ q_5_235) (fun _ h9 => h9) rfl dX10_is_1 ?_
  refine lv_if_ne (tgt := 19) hx hb dX10_is_4 (by decide) (fun c_1 => ?_) (fun c_1 => ?_)
  · have b_2 : iv 1 4 pz0_11 := iv_n0 c_1 bpz0_11 (iv_c (0 : Int32) (a := 0) (b := 0) (by decide)) (by decide)
    refine lv_iconst (v := 0) hx hb dX10_is_19 (by decide) ?_
    exact fiZ rfl hx hb hr hlk hK hP hD hS dX10_is_20 (Nat.le_of_ble_eq_true rfl) (Nat.le_of_ble_eq_true rfl) (⟨(iv_c (0 : Int32) (by decide)), (fun q9 => absurd q9 (by decide)), (fun q9 => absurd q9 (by decide)), rfl⟩)
  · have b_3 : iv 0 0 pz0_11 := iv_q c_1 (iv_c (0 : Int32) (a := 0) (b := 0) (by decide))
    refine lv_aload_n hx hb dX10_is_7 rfl (lv_at hl 0 rfl) ?_
    refine va_get (ci := 10) (v := .int pz0_9) (C := RX10) (T := TX10) (N := 40) hx hb hg inX10 hown hK hP 0 rfl rfl 9 (by decide) (hg _ q_5_233) (fun _ h9 => h9) rfl dX10_is_8 ?_
    refine lv_iload_n hx hb dX10_is_11 rfl (lv_at hl 1 rfl) ?_
    refine lv_icmp_ne (tgt := 19) hx hb dX10_is_12 (by decide) (fun c_4 => ?_) (fun c_4 => ?_)
    · refine lv_iconst (v := 0) hx hb dX10_is_19 (by decide) ?_
      exact fiZ rfl hx hb hr hlk hK hP hD hS dX10_is_20 (Nat.le_of_ble_eq_true rfl) (Nat.le_of_ble_eq_true rfl) (⟨(iv_c (0 : Int32) (by decide)), (fun q9 => absurd q9 (by decide)), (fun q9 => absurd q9 (by decide)), rfl⟩)
    · have b_5 : iv 41 41 pz0_9 := iv_q c_4 (iv_c (41 : Int32) (a := 41) (b := 41) (by decide))
      refine lv_iconst (v := 1) hx hb dX10_is_15 (by decide) ?_
      refine lv_goto (tgt := 20) hx hb dX10_is_16 (by decide) ?_
      exact fiZ rfl hx hb hr hlk hK hP hD hS dX10_is_20 (Nat.le_of_ble_eq_true rfl) (Nat.le_of_ble_eq_true rfl) (⟨(iv_c (1 : Int32) (by decide)), (fun _ => c_1), (fun _ => c_4), rfl⟩)
theorem dX10_readUnit_0 : decode cX10_readUnit 0 = .ok (.aload_n 0, 1) := by decide +kernel
theorem dX10_readUnit_1 : decode cX10_readUnit 1 = .ok (.bipush 21, 2) := by decide +kernel
theorem dX10_readUnit_3 : decode cX10_readUnit 3 = .ok (.invokevirtual 149, 3) := by decide +kernel
theorem dX10_readUnit_6 : decode cX10_readUnit 6 = .ok (.ifCond .eq 27, 3) := by decide +kernel
theorem dX10_readUnit_33 : decode cX10_readUnit 33 = .ok (.aload_n 0, 1) := by decide +kernel
theorem dX10_readUnit_34 : decode cX10_readUnit 34 = .ok (.bipush 37, 2) := by decide +kernel
theorem dX10_readUnit_36 : decode cX10_readUnit 36 = .ok (.invokevirtual 149, 3) := by decide +kernel
theorem dX10_readUnit_39 : decode cX10_readUnit 39 = .ok (.ifCond .eq 34, 3) := by decide +kernel
theorem dX10_readUnit_73 : decode cX10_readUnit 73 = .ok (.aload_n 0, 1) := by decide +kernel
theorem dX10_readUnit_74 : decode cX10_readUnit 74 = .ok (.iload_n 1, 1) := by decide +kernel
theorem q_6_190 : Cond.code yX10_readSum prog_12_method_22_code 3 none ∈ gw := gw_6 (i := 190) (rfl) rfl
theorem q_6_189 : Cond.instanceMethod yX10_readSum ∈ gw := gw_6 (i := 189) (by decide +kernel) rfl
theorem q_s_69 : Cond.selects "BeaconDelayModel" yX10_readSum yX10_readSum ∈ gw := gw_s (i := 69) (by decide +kernel) rfl
theorem mt_X10_readSum : MtV yX10_readSum cX10_readSum 3 none 1 := ⟨⟨q_6_190, q_1_9, by decide +kernel, by decide +kernel, by decide +kernel⟩, q_6_189, q_s_69⟩
theorem q_6_187 : Cond.methodLink "BeaconDelayModel" 172 yX10_readSum ∈ gw := gw_6 (i := 187) (by decide +kernel) rfl
theorem dX10_readUnit_75 : decode cX10_readUnit 75 = .ok (.invokevirtual 172, 3) := by decide +kernel
theorem dX10_readUnit_78 : decode cX10_readUnit 78 = .ok (.aload_n 0, 1) := by decide +kernel
theorem dX10_readUnit_79 : decode cX10_readUnit 79 = .ok (.bipush 39, 2) := by decide +kernel
theorem dX10_readUnit_81 : decode cX10_readUnit 81 = .ok (.invokevirtual 149, 3) := by decide +kernel
theorem dX10_readUnit_84 : decode cX10_readUnit 84 = .ok (.ifCond .eq 9, 3) := by decide +kernel
theorem dX10_readUnit_93 : decode cX10_readUnit 93 = .ok (.aload_n 0, 1) := by decide +kernel
theorem dX10_readUnit_94 : decode cX10_readUnit 94 = .ok (.bipush 40, 2) := by decide +kernel
theorem dX10_readUnit_96 : decode cX10_readUnit 96 = .ok (.invokevirtual 149, 3) := by decide +kernel
theorem dX10_readUnit_99 : decode cX10_readUnit 99 = .ok (.ifCond .eq 9, 3) := by decide +kernel
theorem dX10_readUnit_108 : decode cX10_readUnit 108 = .ok (.sipush 3005, 3) := by decide +kernel
theorem dX10_readUnit_111 : decode cX10_readUnit 111 = .ok (.istore_n 2, 1) := by decide +kernel
theorem dX10_readUnit_112 : decode cX10_readUnit 112 = .ok (.aload_n 0, 1) := by decide +kernel
theorem dX10_readUnit_113 : decode cX10_readUnit 113 = .ok (.bipush 39, 2) := by decide +kernel
theorem dX10_readUnit_115 : decode cX10_readUnit 115 = .ok (.invokevirtual 149, 3) := by decide +kernel
theorem dX10_readUnit_118 : decode cX10_readUnit 118 = .ok (.ifCond .ne 21, 3) := by decide +kernel
theorem dX10_readUnit_139 : decode cX10_readUnit 139 = .ok (.aload_n 0, 1) := by decide +kernel
theorem dX10_readUnit_140 : decode cX10_readUnit 140 = .ok (.invokevirtual 152, 3) := by decide +kernel
theorem dX10_readUnit_143 : decode cX10_readUnit 143 = .ok (.goto 8, 3) := by decide +kernel
theorem dX10_readUnit_151 : decode cX10_readUnit 151 = .ok (.aload_n 0, 1) := by decide +kernel
theorem dX10_readUnit_152 : decode cX10_readUnit 152 = .ok (.iload_n 1, 1) := by decide +kernel
theorem dX10_readUnit_153 : decode cX10_readUnit 153 = .ok (.invokevirtual 172, 3) := by decide +kernel
theorem dX10_readUnit_156 : decode cX10_readUnit 156 = .ok (.aload_n 0, 1) := by decide +kernel
theorem dX10_readUnit_157 : decode cX10_readUnit 157 = .ok (.iload_n 2, 1) := by decide +kernel
theorem dX10_readUnit_158 : decode cX10_readUnit 158 = .ok (.invokevirtual 163, 3) := by decide +kernel
theorem dX10_readUnit_161 : decode cX10_readUnit 161 = .ok (.return_, 1) := by decide +kernel
theorem dX10_readUnit_121 : decode cX10_readUnit 121 = .ok (.aload_n 0, 1) := by decide +kernel
theorem dX10_readUnit_122 : decode cX10_readUnit 122 = .ok (.bipush 40, 2) := by decide +kernel
theorem dX10_readUnit_124 : decode cX10_readUnit 124 = .ok (.invokevirtual 149, 3) := by decide +kernel
theorem dX10_readUnit_127 : decode cX10_readUnit 127 = .ok (.ifCond .ne 12, 3) := by decide +kernel
theorem dX10_readUnit_130 : decode cX10_readUnit 130 = .ok (.aload_n 0, 1) := by decide +kernel
theorem dX10_readUnit_131 : decode cX10_readUnit 131 = .ok (.bipush 41, 2) := by decide +kernel
theorem dX10_readUnit_133 : decode cX10_readUnit 133 = .ok (.invokevirtual 149, 3) := by decide +kernel
theorem dX10_readUnit_136 : decode cX10_readUnit 136 = .ok (.ifCond .eq 10, 3) := by decide +kernel
theorem dX10_readUnit_146 : decode cX10_readUnit 146 = .ok (.aload_n 0, 1) := by decide +kernel
theorem dX10_readUnit_147 : decode cX10_readUnit 147 = .ok (.iconst 2, 1) := by decide +kernel
theorem dX10_readUnit_148 : decode cX10_readUnit 148 = .ok (.invokevirtual 155, 3) := by decide +kernel
theorem dX10_readUnit_102 : decode cX10_readUnit 102 = .ok (.sipush 3004, 3) := by decide +kernel
theorem dX10_readUnit_105 : decode cX10_readUnit 105 = .ok (.goto 6, 3) := by decide +kernel
theorem dX10_readUnit_87 : decode cX10_readUnit 87 = .ok (.sipush 3003, 3) := by decide +kernel
theorem dX10_readUnit_90 : decode cX10_readUnit 90 = .ok (.goto 21, 3) := by decide +kernel
theorem dX10_readUnit_42 : decode cX10_readUnit 42 = .ok (.aload_n 0, 1) := by decide +kernel
theorem dX10_readUnit_43 : decode cX10_readUnit 43 = .ok (.iload_n 1, 1) := by decide +kernel
theorem dX10_readUnit_44 : decode cX10_readUnit 44 = .ok (.invokevirtual 169, 3) := by decide +kernel
theorem dX10_readUnit_47 : decode cX10_readUnit 47 = .ok (.ifCond .ne 4, 3) := by decide +kernel
theorem dX10_readUnit_50 : decode cX10_readUnit 50 = .ok (.return_, 1) := by decide +kernel
theorem dX10_readUnit_9 : decode cX10_readUnit 9 = .ok (.aload_n 0, 1) := by decide +kernel
theorem dX10_readUnit_10 : decode cX10_readUnit 10 = .ok (.iload_n 1, 1) := by decide +kernel
theorem dX10_readUnit_11 : decode cX10_readUnit 11 = .ok (.invokevirtual 169, 3) := by decide +kernel
theorem dX10_readUnit_14 : decode cX10_readUnit 14 = .ok (.ifCond .ne 4, 3) := by decide +kernel
theorem dX10_readUnit_17 : decode cX10_readUnit 17 = .ok (.return_, 1) := by decide +kernel
set_option maxHeartbeats 4000000 in
set_option maxRecDepth 100000 in
theorem k_X10_readUnit_0 (l : Launch) (V : GV) (z : Nat → Nat) (fz4 : Nat → Int32) (fz3 : Nat → Int32) (pz0_0 : Int32) (pz0_5 : Int32) (pz0_6 : Int32) (pz0_7 : Int32) (pz0_8 : Int32) (pz0_9 : Int32) (pz0_10 : Int32) (pz0_11 : Int32) (pz0_12 : Int32) (pz0_13 : Int32) (pz0_14 : Int32) (pz0_18 : Int32) (pz0_19 : Int32) (pz0_22 : Int32) (pz0_23 : Int32) (pz0_29 : Int32) (tfz4 : ivT tF fz4) (bpz0_5 : iv 0 900 pz0_5) (bpz0_6 : iv 0 900 pz0_6) (bpz0_7 : iv 0 900 pz0_7) (bpz0_8 : iv 0 900 pz0_8) (bpz0_10 : iv 0 999 pz0_10) (bpz0_11 : iv 0 4 pz0_11) (bpz0_12 : iv 0 900 pz0_12) (bpz0_13 : iv 0 4 pz0_13) (bpz0_14 : iv (-1) 900 pz0_14) (bpz0_18 : iv 0 2 pz0_18) (bpz0_22 : iv 0 9999 pz0_22) (bpz0_29 : iv 0 10000 pz0_29) (hf0 : PT pz0_6 pz0_7 pz0_8 pz0_9) (hf1 : PS pz0_11 pz0_6 fz4) : Ct l V yX10_readUnit (.code yX10_readUnit cX10_readUnit 3 none) 10 [.ref (z 0), .int 6] [(z 4, aI V 1025 fz4), (z 3, aI V 900 fz3), (z 0, .inr (10, mo z pz0_0 pz0_5 pz0_6 pz0_7 pz0_8 pz0_9 pz0_10 pz0_11 pz0_12 pz0_13 pz0_14 pz0_18 pz0_19 pz0_22 pz0_23 pz0_29))] 0 0 (QV V (fun (w : va_W) => ∃ (g0 : Nat → Int32) (v1 : Int32) (v2 : Int32) (v3 : Int32) (v4 : Int32) (v5 : Int32) (v6 : Int32), (ivT tF g0) ∧ iv 0 900 v1 ∧ iv 0 900 v2 ∧ iv 0 999 v4 ∧ iv 0 4 v5 ∧ iv 0 900 v6 ∧ (PT v1 v2 pz0_8 v3) ∧ (PS v5 v1 g0) ∧ ((pz0_6 : Int32).toInt ≤ (v1 : Int32).toInt) ∧ (RX pz0_11 pz0_6 fz4 v5 v1 g0 1 0) ∧ w = [(z 4, aI V 1025 g0), (z 3, aI V 900 fz3), (z 0, .inr (10, mo z pz0_0 pz0_5 v1 v2 pz0_8 v3 v4 v5 v6 pz0_13 pz0_14 pz0_18 pz0_19 pz0_22 pz0_23 pz0_29))])) := by
  refine Ct.of (by decide) (Nat.le_of_ble_eq_true rfl) (fun p e s m below meth c A ls hx hb hr hml hown hlk hnm hg hP hK hD hE hA hS hl => ?_)
  have hl : lv_has ls 3 [(0, .ref (z 0)), (1, .int 6)] := hl
  refine lv_aload_n hx hb dX10_readUnit_0 rfl (lv_at hl 0 rfl) ?_
  refine lv_bipush (v := 21) hx hb dX10_readUnit_1 (by decide) ?_
  refine jnI (wr := [(z 4, aI V 1025 fz4), (z 3, aI V 900 fz3)]) (rnV (rest := []) ⟨hx, hb, hml, hown, hg⟩ (k_X10_is_9 l V z pz0_0 pz0_5 pz0_6 pz0_7 pz0_8 pz0_9 pz0_10 pz0_11 pz0_12 pz0_13 pz0_14 pz0_18 pz0_19 pz0_22 pz0_23 pz0_29 bpz0_5 bpz0_6 bpz0_7 bpz0_8 bpz0_10 bpz0_11 bpz0_12 bpz0_13 bpz0_14 bpz0_18 bpz0_22 bpz0_29) mt_X10_is q_6_143 ⟨Nat.le_of_ble_eq_true rfl, Nat.le_of_ble_eq_true rfl⟩ hK hP hD hS hA hE [2] rfl rfl 2 rfl rfl rfl rfl hl.1 rfl (Nat.le_of_ble_eq_true rfl) dX10_readUnit_3 ⟨Nat.le_of_ble_eq_true rfl, Nat.le_of_ble_eq_true rfl⟩) hP hD hS hA [2] [0, 1] rfl rfl rfl (by decide) (fun r_1 w H locs hw hP hD hS => ?_)
  obtain ⟨br_1, g_2, g_3, rfl⟩ := hw
  have hP : va_P V.1 vwCl [(z 4, aI V 1025 fz4), (z 3, aI V 900 fz3), (z 0, .inr (10, mo z pz0_0 pz0_5 pz0_6 pz0_7 pz0_8 pz0_9 pz0_10 pz0_11 pz0_12 pz0_13 pz0_14 pz0_18 pz0_19 pz0_22 pz0_23 pz0_29))] H := hP
  have hD : va_D A [(z 4, aI V 1025 fz4), (z 3, aI V 900 fz3), (z 0, .inr (10, mo z pz0_0 pz0_5 pz0_6 pz0_7 pz0_8 pz0_9 pz0_10 pz0_11 pz0_12 pz0_13 pz0_14 pz0_18 pz0_19 pz0_22 pz0_23 pz0_29))] := hD
  refine lv_if_eq (tgt := 33) hx hb dX10_readUnit_6 (by decide) (fun c_4 => ?_) (fun c_4 => ?_)
  · have b_5 : iv 0 0 r_1 := iv_q c_4 (iv_c (0 : Int32) (a := 0) (b := 0) (by decide))
    refine lv_aload_n hx hb dX10_readUnit_33 rfl (lv_at hl 0 rfl) ?_
    refine lv_bipush (v := 37) hx hb dX10_readUnit_34 (by decide) ?_
    refine jnI (wr := [(z 4, aI V 1025 fz4), (z 3, aI V 900 fz3)]) (rnV (rest := []) ⟨hx, hb, hml, hown, hg⟩ (k_X10_is_10 l V z pz0_0 pz0_5 pz0_6 pz0_7 pz0_8 pz0_9 pz0_10 pz0_11 pz0_12 pz0_13 pz0_14 pz0_18 pz0_19 pz0_22 pz0_23 pz0_29 bpz0_5 bpz0_6 bpz0_7 bpz0_8 bpz0_10 bpz0_11 bpz0_12 bpz0_13 bpz0_14 bpz0_18 bpz0_22 bpz0_29) mt_X10_is q_6_143 ⟨Nat.le_of_ble_eq_true rfl, Nat.le_of_ble_eq_true rfl⟩ hK hP hD hS hA hE [2] rfl rfl 2 rfl rfl rfl rfl hl.1 rfl (Nat.le_of_ble_eq_true rfl) dX10_readUnit_36 ⟨Nat.le_of_ble_eq_true rfl, Nat.le_of_ble_eq_true rfl⟩) hP hD hS hA [2] [0, 1] rfl rfl rfl (by decide) (fun r_6 w H locs hw hP hD hS => ?_)
    obtain ⟨br_6, g_7, g_8, rfl⟩ := hw
    have hP : va_P V.1 vwCl [(z 4, aI V 1025 fz4), (z 3, aI V 900 fz3), (z 0, .inr (10, mo z pz0_0 pz0_5 pz0_6 pz0_7 pz0_8 pz0_9 pz0_10 pz0_11 pz0_12 pz0_13 pz0_14 pz0_18 pz0_19 pz0_22 pz0_23 pz0_29))] H := hP
    have hD : va_D A [(z 4, aI V 1025 fz4), (z 3, aI V 900 fz3), (z 0, .inr (10, mo z pz0_0 pz0_5 pz0_6 pz0_7 pz0_8 pz0_9 pz0_10 pz0_11 pz0_12 pz0_13 pz0_14 pz0_18 pz0_19 pz0_22 pz0_23 pz0_29))] := hD
    refine lv_if_eq (tgt := 73) hx hb dX10_readUnit_39 (by decide) (fun c_9 => ?_) (fun c_9 => ?_)
    · have b_10 : iv 0 0 r_6 := iv_q c_9 (iv_c (0 : Int32) (a := 0) (b := 0) (by decide))
      refine lv_aload_n hx hb dX10_readUnit_73 rfl (lv_at hl 0 rfl) ?_
      refine lv_iload_n hx hb dX10_readUnit_74 rfl (lv_at hl 1 rfl) ?_
      refine jnV (wr := []) (rnV (rest := []) ⟨hx, hb, hml, hown, hg⟩ (k_X10_readSum_0 l V z fz4 fz3 pz0_0 pz0_5 pz0_6 pz0_7 pz0_8 pz0_9 pz0_10 pz0_11 pz0_12 pz0_13 pz0_14 pz0_18 pz0_19 pz0_22 pz0_23 pz0_29 tfz4 bpz0_5 bpz0_6 bpz0_7 bpz0_8 bpz0_10 bpz0_11 bpz0_12 bpz0_13 bpz0_14 bpz0_18 bpz0_22 bpz0_29 hf0 hf1) mt_X10_readSum q_6_187 ⟨Nat.le_of_ble_eq_true rfl, Nat.le_of_ble_eq_true rfl⟩ hK hP hD hS hA hE [0, 1, 2] rfl rfl 2 rfl rfl rfl rfl hl.1 rfl (Nat.le_of_ble_eq_true rfl) dX10_readUnit_75 ⟨Nat.le_of_ble_eq_true rfl, Nat.le_of_ble_eq_true rfl⟩) hP hD hS hA [0, 1, 2] [] rfl rfl rfl (by decide) (fun  w H locs hw hP hD hS => ?_)
      obtain ⟨f_11, v_12, v_13, v_14, v_15, v_16, v_17, tf_11, bv_12, bv_13, bv_15, bv_16, bv_17, g_18, g_19, g_20, g_21, rfl⟩ := hw
      have hP : va_P V.1 vwCl [(z 4, aI V 1025 f_11), (z 3, aI V 900 fz3), (z 0, .inr (10, mo z pz0_0 pz0_5 v_12 v_13 pz0_8 v_14 v_15 v_16 v_17 pz0_13 pz0_14 pz0_18 pz0_19 pz0_22 pz0_23 pz0_29))] H := hP
      have hD : va_D A [(z 4, aI V 1025 f_11), (z 3, aI V 900 fz3), (z 0, .inr (10, mo z pz0_0 pz0_5 v_12 v_13 pz0_8 v_14 v_15 v_16 v_17 pz0_13 pz0_14 pz0_18 pz0_19 pz0_22 pz0_23 pz0_29))] := hD
      have rx_22 : RX pz0_11 pz0_6 fz4 v_16 v_12 f_11 1 ((0 : Int)) := by have q9 := RX_seq (by decide) (RX_0 (w := pz0_11) (a := pz0_6) tfz4) g_21; exact RX_w q9 (by omega)
      refine lv_aload_n hx hb dX10_readUnit_78 rfl (lv_at hl 0 rfl) ?_
      refine lv_bipush (v := 39) hx hb dX10_readUnit_79 (by decide) ?_
      refine jnI (wr := [(z 4, aI V 1025 f_11), (z 3, aI V 900 fz3)]) (rnV (rest := []) ⟨hx, hb, hml, hown, hg⟩ (k_X10_is_16 l V z pz0_0 pz0_5 v_12 v_13 pz0_8 v_14 v_15 v_16 v_17 pz0_13 pz0_14 pz0_18 pz0_19 pz0_22 pz0_23 pz0_29 bpz0_5 bv_12 bv_13 bpz0_8 bv_15 bv_16 bv_17 bpz0_13 bpz0_14 bpz0_18 bpz0_22 bpz0_29) mt_X10_is q_6_143 ⟨Nat.le_of_ble_eq_true rfl, Nat.le_of_ble_eq_true rfl⟩ hK hP hD hS hA hE [2] rfl rfl 2 rfl rfl rfl rfl hl.1 rfl (Nat.le_of_ble_eq_true rfl) dX10_readUnit_81 ⟨Nat.le_of_ble_eq_true rfl, Nat.le_of_ble_eq_true rfl⟩) hP hD hS hA [2] [0, 1] rfl rfl rfl (by decide) (fun r_23 w H locs hw hP hD hS => ?_)
      obtain ⟨br_23, g_24, g_25, rfl⟩ := hw
      have hP : va_P V.1 vwCl [(z 4, aI V 1025 f_11), (z 3, aI V 900 fz3), (z 0, .inr (10, mo z pz0_0 pz0_5 v_12 v_13 pz0_8 v_14 v_15 v_16 v_17 pz0_13 pz0_14 pz0_18 pz0_19 pz0_22 pz0_23 pz0_29))] H := hP
      have hD : va_D A [(z 4, aI V 1025 f_11), (z 3, aI V 900 fz3), (z 0, .inr (10, mo z pz0_0 pz0_5 v_12 v_13 pz0_8 v_14 v_15 v_16 v_17 pz0_13 pz0_14 pz0_18 pz0_19 pz0_22 pz0_23 pz0_29))] := hD
      refine lv_if_eq (tgt := 93) hx hb dX10_readUnit_84 (by decide) (fun c_26 => ?_) (fun c_26 => ?_)
      · have b_27 : iv 0 0 r_23 := iv_q c_26 (iv_c (0 : Int32) (a := 0) (b := 0) (by decide))
        refine lv_aload_n hx hb dX10_readUnit_93 rfl (lv_at hl 0 rfl) ?_
        refine lv_bipush (v := 40) hx hb dX10_readUnit_94 (by decide) ?_
        refine jnI (wr := [(z 4, aI V 1025 f_11), (z 3, aI V 900 fz3)]) (rnV (rest := []) ⟨hx, hb, hml, hown, hg⟩ (k_X10_is_17 l V z pz0_0 pz0_5 v_12 v_13 pz0_8 v_14 v_15 v_16 v_17 pz0_13 pz0_14 pz0_18 pz0_19 pz0_22 pz0_23 pz0_29 bpz0_5 bv_12 bv_13 bpz0_8 bv_15 bv_16 bv_17 bpz0_13 bpz0_14 bpz0_18 bpz0_22 bpz0_29) mt_X10_is q_6_143 ⟨Nat.le_of_ble_eq_true rfl, Nat.le_of_ble_eq_true rfl⟩ hK hP hD hS hA hE [2] rfl rfl 2 rfl rfl rfl rfl hl.1 rfl (Nat.le_of_ble_eq_true rfl) dX10_readUnit_96 ⟨Nat.le_of_ble_eq_true rfl, Nat.le_of_ble_eq_true rfl⟩) hP hD hS hA [2] [0, 1] rfl rfl rfl (by decide) (fun r_28 w H locs hw hP hD hS => ?_)
        obtain ⟨br_28, g_29, g_30, rfl⟩ := hw
        have hP : va_P V.1 vwCl [(z 4, aI V 1025 f_11), (z 3, aI V 900 fz3), (z 0, .inr (10, mo z pz0_0 pz0_5 v_12 v_13 pz0_8 v_14 v_15 v_16 v_17 pz0_13 pz0_14 pz0_18 pz0_19 pz0_22 pz0_23 pz0_29))] H := hP
        have hD : va_D A [(z 4, aI V 1025 f_11), (z 3, aI V 900 fz3), (z 0, .inr (10, mo z pz0_0 pz0_5 v_12 v_13 pz0_8 v_14 v_15 v_16 v_17 pz0_13 pz0_14 pz0_18 pz0_19 pz0_22 pz0_23 pz0_29))] := hD
        refine lv_if_eq (tgt := 108) hx hb dX10_readUnit_99 (by decide) (fun c_31 => ?_) (fun c_31 => ?_)
        · have b_32 : iv 0 0 r_28 := iv_q c_31 (iv_c (0 : Int32) (a := 0) (b := 0) (by decide))
          refine lv_sipush (v := 3005) hx hb dX10_readUnit_108 (by decide) ?_
          refine lv_istore_n (lv' := [(2, .int 3005), (0, .ref (z 0)), (1, .int 6)]) hx hb dX10_readUnit_111 rfl hl (by decide) rfl (fun ls hl => ?_)
          refine lv_aload_n hx hb dX10_readUnit_112 rfl (lv_at hl 1 rfl) ?_
          refine lv_bipush (v := 39) hx hb dX10_readUnit_113 (by decide) ?_
          refine jnI (wr := [(z 4, aI V 1025 f_11), (z 3, aI V 900 fz3)]) (rnV (rest := []) ⟨hx, hb, hml, hown, hg⟩ (k_X10_is_16 l V z pz0_0 pz0_5 v_12 v_13 pz0_8 v_14 v_15 v_16 v_17 pz0_13 pz0_14 pz0_18 pz0_19 pz0_22 pz0_23 pz0_29 bpz0_5 bv_12 bv_13 bpz0_8 bv_15 bv_16 bv_17 bpz0_13 bpz0_14 bpz0_18 bpz0_22 bpz0_29) mt_X10_is q_6_143 ⟨Nat.le_of_ble_eq_true rfl, Nat.le_of_ble_eq_true rfl⟩ hK hP hD hS hA hE [2] rfl rfl 2 rfl rfl rfl rfl hl.1 rfl (Nat.le_of_ble_eq_true rfl) dX10_readUnit_115 ⟨Nat.le_of_ble_eq_true rfl, Nat.le_of_ble_eq_true rfl⟩) hP hD hS hA [2] [0, 1] rfl rfl rfl (by decide) (fun r_33 w H locs hw hP hD hS => ?_)
          obtain ⟨br_33, g_34, g_35, rfl⟩ := hw
          have hP : va_P V.1 vwCl [(z 4, aI V 1025 f_11), (z 3, aI V 900 fz3), (z 0, .inr (10, mo z pz0_0 pz0_5 v_12 v_13 pz0_8 v_14 v_15 v_16 v_17 pz0_13 pz0_14 pz0_18 pz0_19 pz0_22 pz0_23 pz0_29))] H := hP
          have hD : va_D A [(z 4, aI V 1025 f_11), (z 3, aI V 900 fz3), (z 0, .inr (10, mo z pz0_0 pz0_5 v_12 v_13 pz0_8 v_14 v_15 v_16 v_17 pz0_13 pz0_14 pz0_18 pz0_19 pz0_22 pz0_23 pz0_29))] := hD
          refine lv_if_ne (tgt := 139) hx hb dX10_readUnit_118 (by decide) (fun c_36 => ?_) (fun c_36 => ?_)
          · have b_37 : iv 1 1 r_33 := iv_n0 c_36 br_33 (iv_c (0 : Int32) (a := 0) (b := 0) (by decide)) (by decide)
            have c_38 : v_16 = 0 := (g_34 (iv_eqp b_37 (iv_c (1 : Int32) (by decide))))
            have b_39 : iv 0 0 v_16 := iv_q c_38 (iv_c (0 : Int32) (a := 0) (b := 0) (by decide))
            have c_40 : v_14 = 39 := (g_35 (iv_eqp b_37 (iv_c (1 : Int32) (by decide))))
            have b_41 : iv 39 39 v_14 := iv_q c_40 (iv_c (39 : Int32) (a := 39) (b := 39) (by decide))
            refine lv_aload_n hx hb dX10_readUnit_139 rfl (lv_at hl 1 rfl) ?_
            refine jnV (wr := [(z 4, aI V 1025 f_11)]) (rnV (rest := []) ⟨hx, hb, hml, hown, hg⟩ (k_X10_next_0 l V z pz0_0 pz0_5 v_12 v_13 pz0_8 v_14 v_15 v_16 v_17 pz0_13 pz0_14 pz0_18 pz0_19 pz0_22 pz0_23 pz0_29 fz3 bpz0_5 bv_12 bv_13 bpz0_8 bv_15 (iv_w b_39 (by decide)) bv_17 bpz0_13 bpz0_14 bpz0_18 bpz0_22 bpz0_29 g_18.2.1) mt_X10_next q_6_117 ⟨Nat.le_of_ble_eq_true rfl, Nat.le_of_ble_eq_true rfl⟩ hK hP hD hS hA hE [2, 1] rfl rfl 2 rfl rfl rfl rfl hl.1 rfl (Nat.le_of_ble_eq_true rfl) dX10_readUnit_140 ⟨Nat.le_of_ble_eq_true rfl, Nat.le_of_ble_eq_true rfl⟩) hP hD hS hA [2, 1] [0] rfl rfl rfl (by decide) (fun  w H locs hw hP hD hS => ?_)
            obtain ⟨v_42, v_43, v_44, v_45, bv_42, bv_43, bv_45, g_46, g_47, rfl⟩ := hw
            have hP : va_P V.1 vwCl [(z 4, aI V 1025 f_11), (z 0, .inr (10, mo z pz0_0 pz0_5 v_42 v_43 pz0_8 v_44 v_45 v_16 v_17 pz0_13 pz0_14 pz0_18 pz0_19 pz0_22 pz0_23 pz0_29)), (z 3, aI V 900 fz3)] H := hP
            have hD : va_D A [(z 4, aI V 1025 f_11), (z 0, .inr (10, mo z pz0_0 pz0_5 v_42 v_43 pz0_8 v_44 v_45 v_16 v_17 pz0_13 pz0_14 pz0_18 pz0_19 pz0_22 pz0_23 pz0_29)), (z 3, aI V 900 fz3)] := hD
            have rx_48 : RX pz0_11 pz0_6 fz4 v_16 v_42 f_11 1 ((1 : Int)) := by have q9 := RX_a (a' := v_42) rx_22 (fun q8 => q8) (t := 1) (by have q9 := g_47; have q8 := g_18.2.2 (by rw [c_40]; decide); omega); exact RX_w q9 (by omega)
            refine lv_goto (tgt := 151) hx hb dX10_readUnit_143 (by decide) ?_
            refine lv_aload_n hx hb dX10_readUnit_151 rfl (lv_at hl 1 rfl) ?_
            refine lv_iload_n hx hb dX10_readUnit_152 rfl (lv_at hl 2 rfl) ?_
            refine jnV (wr := []) (rnV (rest := []) ⟨hx, hb, hml, hown, hg⟩ (k_X10_readSum_0 l V z f_11 fz3 pz0_0 pz0_5 v_42 v_43 pz0_8 v_44 v_45 v_16 v_17 pz0_13 pz0_14 pz0_18 pz0_19 pz0_22 pz0_23 pz0_29 tf_11 bpz0_5 bv_42 bv_43 bpz0_8 bv_45 (iv_w b_39 (by decide)) bv_17 bpz0_13 bpz0_14 bpz0_18 bpz0_22 bpz0_29 g_46 (PS_x hf1 rx_48 (by omega))) mt_X10_readSum q_6_187 ⟨Nat.le_of_ble_eq_true rfl, Nat.le_of_ble_eq_true rfl⟩ hK hP hD hS hA hE [0, 2, 1] rfl rfl 1 rfl rfl rfl rfl hl.1 rfl (Nat.le_of_ble_eq_true rfl) dX10_readUnit_153 ⟨Nat.le_of_ble_eq_true rfl, Nat.le_of_ble_eq_true rfl⟩) hP hD hS hA [0, 2, 1] [] rfl rfl rfl (by decide) (fun  w H locs hw hP hD hS => ?_)
            obtain ⟨f_49, v_50, v_51, v_52, v_53, v_54, v_55, tf_49, bv_50, bv_51, bv_53, bv_54, bv_55, g_56, g_57, g_58, g_59, rfl⟩ := hw
            have hP : va_P V.1 vwCl [(z 4, aI V 1025 f_49), (z 3, aI V 900 fz3), (z 0, .inr (10, mo z pz0_0 pz0_5 v_50 v_51 pz0_8 v_52 v_53 v_54 v_55 pz0_13 pz0_14 pz0_18 pz0_19 pz0_22 pz0_23 pz0_29))] H := hP
            have hD : va_D A [(z 4, aI V 1025 f_49), (z 3, aI V 900 fz3), (z 0, .inr (10, mo z pz0_0 pz0_5 v_50 v_51 pz0_8 v_52 v_53 v_54 v_55 pz0_13 pz0_14 pz0_18 pz0_19 pz0_22 pz0_23 pz0_29))] := hD
            have rx_60 : RX pz0_11 pz0_6 fz4 v_54 v_50 f_49 2 ((1 : Int)) := by have q9 := RX_seq (by decide) rx_48 g_59; exact RX_w q9 (by omega)
            refine lv_aload_n hx hb dX10_readUnit_156 rfl (lv_at hl 1 rfl) ?_
            refine lv_iload_n hx hb dX10_readUnit_157 rfl (lv_at hl 0 rfl) ?_
            refine jnV (wr := [(z 3, aI V 900 fz3)]) (rnV (rest := []) ⟨hx, hb, hml, hown, hg⟩ (k_X10_codes_0 l V z 3005 f_49 pz0_0 pz0_5 v_50 v_51 pz0_8 v_52 v_53 v_54 v_55 pz0_13 pz0_14 pz0_18 pz0_19 pz0_22 pz0_23 pz0_29 tf_49 bpz0_5 bv_50 bv_51 bpz0_8 bv_53 bv_54 bv_55 bpz0_13 bpz0_14 bpz0_18 bpz0_22 bpz0_29 (PS_n hf1 rx_60 bv_50 (by decide) (by omega))) mt_X10_codes q_6_199 ⟨Nat.le_of_ble_eq_true rfl, Nat.le_of_ble_eq_true rfl⟩ hK hP hD hS hA hE [0, 2] rfl rfl 2 rfl rfl rfl rfl hl.1 rfl (Nat.le_of_ble_eq_true rfl) dX10_readUnit_158 ⟨Nat.le_of_ble_eq_true rfl, Nat.le_of_ble_eq_true rfl⟩) hP hD hS hA [0, 2] [1] rfl rfl rfl (by decide) (fun  w H locs hw hP hD hS => ?_)
            obtain ⟨f_61, tf_61, g_62, g_63, rfl⟩ := hw
            have hP : va_P V.1 vwCl [(z 3, aI V 900 fz3), (z 4, aI V 1025 f_61), (z 0, .inr (10, mo z pz0_0 pz0_5 v_50 v_51 pz0_8 v_52 v_53 v_54 v_55 pz0_13 pz0_14 pz0_18 pz0_19 pz0_22 pz0_23 pz0_29))] H := hP
            have hD : va_D A [(z 3, aI V 900 fz3), (z 4, aI V 1025 f_61), (z 0, .inr (10, mo z pz0_0 pz0_5 v_50 v_51 pz0_8 v_52 v_53 v_54 v_55 pz0_13 pz0_14 pz0_18 pz0_19 pz0_22 pz0_23 pz0_29))] := hD
            have rx_64 : RX pz0_11 pz0_6 fz4 v_54 v_50 f_61 1 ((0 : Int)) := by have q9 := RX_c rx_60 tf_49 g_62 (by decide) ⟨by decide, by decide⟩ (by decide) (PS_n hf1 rx_60 bv_50 (by decide) (by omega)); rw [(by decide : eff (3005 : Int32) = -1)] at q9; exact RX_w q9 (by omega)
            have hP := subP (ws' := [(z 4, aI V 1025 f_61), (z 3, aI V 900 fz3), (z 0, .inr (10, mo z pz0_0 pz0_5 v_50 v_51 pz0_8 v_52 v_53 v_54 v_55 pz0_13 pz0_14 pz0_18 pz0_19 pz0_22 pz0_23 pz0_29))]) hP [1, 0, 2] rfl
            have hD := hD.sub (ws' := [(z 4, aI V 1025 f_61), (z 3, aI V 900 fz3), (z 0, .inr (10, mo z pz0_0 pz0_5 v_50 v_51 pz0_8 v_52 v_53 v_54 v_55 pz0_13 pz0_14 pz0_18 pz0_19 pz0_22 pz0_23 pz0_29))]) [1, 0, 2] rfl rfl
            exact fiV hx hb hr hlk hK hP hD hS dX10_readUnit_161 (Nat.le_of_ble_eq_true rfl) (Nat.le_of_ble_eq_true rfl) (⟨f_61, v_50, v_51, v_52, v_53, v_54, v_55, tf_61, bv_50, bv_51, bv_53, bv_54, bv_55, g_56, (PS_x hf1 rx_64 (by omega)), (by have z_0 := g_20; have z_1 := g_47; have z_2 := g_58;have y_0 := hf0.1; have y_1 := g_18.1; have y_2 := g_46.1; have y_3 := g_56.1; omega), (RX_w rx_64 (by omega)), rfl⟩)
          · have b_65 : iv 0 0 r_33 := iv_q c_36 (iv_c (0 : Int32) (a := 0) (b := 0) (by decide))
            refine lv_aload_n hx hb dX10_readUnit_121 rfl (lv_at hl 1 rfl) ?_
            refine lv_bipush (v := 40) hx hb dX10_readUnit_122 (by decide) ?_
            refine jnI (wr := [(z 4, aI V 1025 f_11), (z 3, aI V 900 fz3)]) (rnV (rest := []) ⟨hx, hb, hml, hown, hg⟩ (k_X10_is_17 l V z pz0_0 pz0_5 v_12 v_13 pz0_8 v_14 v_15 v_16 v_17 pz0_13 pz0_14 pz0_18 pz0_19 pz0_22 pz0_23 pz0_29 bpz0_5 bv_12 bv_13 bpz0_8 bv_15 bv_16 bv_17 bpz0_13 bpz0_14 bpz0_18 bpz0_22 bpz0_29) mt_X10_is q_6_143 ⟨Nat.le_of_ble_eq_true rfl, Nat.le_of_ble_eq_true rfl⟩ hK hP hD hS hA hE [2] rfl rfl 2 rfl rfl rfl rfl hl.1 rfl (Nat.le_of_ble_eq_true rfl) dX10_readUnit_124 ⟨Nat.le_of_ble_eq_true rfl, Nat.le_of_ble_eq_true rfl⟩) hP hD hS hA [2] [0, 1] rfl rfl rfl (by decide) (fun r_66 w H locs hw hP hD hS => ?_)
            obtain ⟨br_66, g_67, g_68, rfl⟩ := hw
            have hP : va_P V.1 vwCl [(z 4, aI V 1025 f_11), (z 3, aI V 900 fz3), (z 0, .inr (10, mo z pz0_0 pz0_5 v_12 v_13 pz0_8 v_14 v_15 v_16 v_17 pz0_13 pz0_14 pz0_18 pz0_19 pz0_22 pz0_23 pz0_29))] H := hP
            have hD : va_D A [(z 4, aI V 1025 f_11), (z 3, aI V 900 fz3), (z 0, .inr (10, mo z pz0_0 pz0_5 v_12 v_13 pz0_8 v_14 v_15 v_16 v_17 pz0_13 pz0_14 pz0_18 pz0_19 pz0_22 pz0_23 pz0_29))] := hD
            refine lv_if_ne (tgt := 139) hx hb dX10_readUnit_127 (by decide) (fun c_69 => ?_) (fun c_69 => ?_)
            · have b_70 : iv 1 1 r_66 := iv_n0 c_69 br_66 (iv_c (0 : Int32) (a := 0) (b := 0) (by decide)) (by decide)
              have c_71 : v_16 = 0 := (g_67 (iv_eqp b_70 (iv_c (1 : Int32) (by decide))))
              have b_72 : iv 0 0 v_16 := iv_q c_71 (iv_c (0 : Int32) (a := 0) (b := 0) (by decide))
              have c_73 : v_14 = 40 := (g_68 (iv_eqp b_70 (iv_c (1 : Int32) (by decide))))
              have b_74 : iv 40 40 v_14 := iv_q c_73 (iv_c (40 : Int32) (a := 40) (b := 40) (by decide))
              refine lv_aload_n hx hb dX10_readUnit_139 rfl (lv_at hl 1 rfl) ?_
              refine jnV (wr := [(z 4, aI V 1025 f_11)]) (rnV (rest := []) ⟨hx, hb, hml, hown, hg⟩ (k_X10_next_0 l V z pz0_0 pz0_5 v_12 v_13 pz0_8 v_14 v_15 v_16 v_17 pz0_13 pz0_14 pz0_18 pz0_19 pz0_22 pz0_23 pz0_29 fz3 bpz0_5 bv_12 bv_13 bpz0_8 bv_15 (iv_w b_72 (by decide)) bv_17 bpz0_13 bpz0_14 bpz0_18 bpz0_22 bpz0_29 g_18.2.1) mt_X10_next q_6_117 ⟨Nat.le_of_ble_eq_true rfl, Nat.le_of_ble_eq_true rfl⟩ hK hP hD hS hA hE [2, 1] rfl rfl 2 rfl rfl rfl rfl hl.1 rfl (Nat.le_of_ble_eq_true rfl) dX10_readUnit_140 ⟨Nat.le_of_ble_eq_true rfl, Nat.le_of_ble_eq_true rfl⟩) hP hD hS hA [2, 1] [0] rfl rfl rfl (by decide) (fun  w H locs hw hP hD hS => ?_)
              obtain ⟨v_75, v_76, v_77, v_78, bv_75, bv_76, bv_78, g_79, g_80, rfl⟩ := hw
              have hP : va_P V.1 vwCl [(z 4, aI V 1025 f_11), (z 0, .inr (10, mo z pz0_0 pz0_5 v_75 v_76 pz0_8 v_77 v_78 v_16 v_17 pz0_13 pz0_14 pz0_18 pz0_19 pz0_22 pz0_23 pz0_29)), (z 3, aI V 900 fz3)] H := hP
              have hD : va_D A [(z 4, aI V 1025 f_11), (z 0, .inr (10, mo z pz0_0 pz0_5 v_75 v_76 pz0_8 v_77 v_78 v_16 v_17 pz0_13 pz0_14 pz0_18 pz0_19 pz0_22 pz0_23 pz0_29)), (z 3, aI V 900 fz3)] := hD
              have rx_81 : RX pz0_11 pz0_6 fz4 v_16 v_75 f_11 1 ((1 : Int)) := by have q9 := RX_a (a' := v_75) rx_22 (fun q8 => q8) (t := 1) (by have q9 := g_80; have q8 := g_18.2.2 (by rw [c_73]; decide); omega); exact RX_w q9 (by omega)
              refine lv_goto (tgt := 151) hx hb dX10_readUnit_143 (by decide) ?_
              refine lv_aload_n hx hb dX10_readUnit_151 rfl (lv_at hl 1 rfl) ?_
              refine lv_iload_n hx hb dX10_readUnit_152 rfl (lv_at hl 2 rfl) ?_
              refine jnV (wr := []) (rnV (rest := []) ⟨hx, hb, hml, hown, hg⟩ (k_X10_readSum_0 l V z f_11 fz3 pz0_0 pz0_5 v_75 v_76 pz0_8 v_77 v_78 v_16 v_17 pz0_13 pz0_14 pz0_18 pz0_19 pz0_22 pz0_23 pz0_29 tf_11 bpz0_5 bv_75 bv_76 bpz0_8 bv_78 (iv_w b_72 (by decide)) bv_17 bpz0_13 bpz0_14 bpz0_18 bpz0_22 bpz0_29 g_79 (PS_x hf1 rx_81 (by omega))) mt_X10_readSum q_6_187 ⟨Nat.le_of_ble_eq_true rfl, Nat.le_of_ble_eq_true rfl⟩ hK hP hD hS hA hE [0, 2, 1] rfl rfl 1 rfl rfl rfl rfl hl.1 rfl (Nat.le_of_ble_eq_true rfl) dX10_readUnit_153 ⟨Nat.le_of_ble_eq_true rfl, Nat.le_of_ble_eq_true rfl⟩) hP hD hS hA [0, 2, 1] [] rfl rfl rfl (by decide) (fun  w H locs hw hP hD hS => ?_)
              obtain ⟨f_82, v_83, v_84, v_85, v_86, v_87, v_88, tf_82, bv_83, bv_84, bv_86, bv_87, bv_88, g_89, g_90, g_91, g_92, rfl⟩ := hw
              have hP : va_P V.1 vwCl [(z 4, aI V 1025 f_82), (z 3, aI V 900 fz3), (z 0, .inr (10, mo z pz0_0 pz0_5 v_83 v_84 pz0_8 v_85 v_86 v_87 v_88 pz0_13 pz0_14 pz0_18 pz0_19 pz0_22 pz0_23 pz0_29))] H := hP
              have hD : va_D A [(z 4, aI V 1025 f_82), (z 3, aI V 900 fz3), (z 0, .inr (10, mo z pz0_0 pz0_5 v_83 v_84 pz0_8 v_85 v_86 v_87 v_88 pz0_13 pz0_14 pz0_18 pz0_19 pz0_22 pz0_23 pz0_29))] := hD
              have rx_93 : RX pz0_11 pz0_6 fz4 v_87 v_83 f_82 2 ((1 : Int)) := by have q9 := RX_seq (by decide) rx_81 g_92; exact RX_w q9 (by omega)
              refine lv_aload_n hx hb dX10_readUnit_156 rfl (lv_at hl 1 rfl) ?_
              refine lv_iload_n hx hb dX10_readUnit_157 rfl (lv_at hl 0 rfl) ?_
              refine jnV (wr := [(z 3, aI V 900 fz3)]) (rnV (rest := []) ⟨hx, hb, hml, hown, hg⟩ (k_X10_codes_0 l V z 3005 f_82 pz0_0 pz0_5 v_83 v_84 pz0_8 v_85 v_86 v_87 v_88 pz0_13 pz0_14 pz0_18 pz0_19 pz0_22 pz0_23 pz0_29 tf_82 bpz0_5 bv_83 bv_84 bpz0_8 bv_86 bv_87 bv_88 bpz0_13 bpz0_14 bpz0_18 bpz0_22 bpz0_29 (PS_n hf1 rx_93 bv_83 (by decide) (by omega))) mt_X10_codes q_6_199 ⟨Nat.le_of_ble_eq_true rfl, Nat.le_of_ble_eq_true rfl⟩ hK hP hD hS hA hE [0, 2] rfl rfl 2 rfl rfl rfl rfl hl.1 rfl (Nat.le_of_ble_eq_true rfl) dX10_readUnit_158 ⟨Nat.le_of_ble_eq_true rfl, Nat.le_of_ble_eq_true rfl⟩) hP hD hS hA [0, 2] [1] rfl rfl rfl (by decide) (fun  w H locs hw hP hD hS => ?_)
              obtain ⟨f_94, tf_94, g_95, g_96, rfl⟩ := hw
              have hP : va_P V.1 vwCl [(z 3, aI V 900 fz3), (z 4, aI V 1025 f_94), (z 0, .inr (10, mo z pz0_0 pz0_5 v_83 v_84 pz0_8 v_85 v_86 v_87 v_88 pz0_13 pz0_14 pz0_18 pz0_19 pz0_22 pz0_23 pz0_29))] H := hP
              have hD : va_D A [(z 3, aI V 900 fz3), (z 4, aI V 1025 f_94), (z 0, .inr (10, mo z pz0_0 pz0_5 v_83 v_84 pz0_8 v_85 v_86 v_87 v_88 pz0_13 pz0_14 pz0_18 pz0_19 pz0_22 pz0_23 pz0_29))] := hD
              have rx_97 : RX pz0_11 pz0_6 fz4 v_87 v_83 f_94 1 ((0 : Int)) := by have q9 := RX_c rx_93 tf_82 g_95 (by decide) ⟨by decide, by decide⟩ (by decide) (PS_n hf1 rx_93 bv_83 (by decide) (by omega)); rw [(by decide : eff (3005 : Int32) = -1)] at q9; exact RX_w q9 (by omega)
              have hP := subP (ws' := [(z 4, aI V 1025 f_94), (z 3, aI V 900 fz3), (z 0, .inr (10, mo z pz0_0 pz0_5 v_83 v_84 pz0_8 v_85 v_86 v_87 v_88 pz0_13 pz0_14 pz0_18 pz0_19 pz0_22 pz0_23 pz0_29))]) hP [1, 0, 2] rfl
              have hD := hD.sub (ws' := [(z 4, aI V 1025 f_94), (z 3, aI V 900 fz3), (z 0, .inr (10, mo z pz0_0 pz0_5 v_83 v_84 pz0_8 v_85 v_86 v_87 v_88 pz0_13 pz0_14 pz0_18 pz0_19 pz0_22 pz0_23 pz0_29))]) [1, 0, 2] rfl rfl
              exact fiV hx hb hr hlk hK hP hD hS dX10_readUnit_161 (Nat.le_of_ble_eq_true rfl) (Nat.le_of_ble_eq_true rfl) (⟨f_94, v_83, v_84, v_85, v_86, v_87, v_88, tf_94, bv_83, bv_84, bv_86, bv_87, bv_88, g_89, (PS_x hf1 rx_97 (by omega)), (by have z_0 := g_20; have z_1 := g_80; have z_2 := g_91;have y_0 := hf0.1; have y_1 := g_18.1; have y_2 := g_79.1; have y_3 := g_89.1; omega), (RX_w rx_97 (by omega)), rfl⟩)
            · have b_98 : iv 0 0 r_66 := iv_q c_69 (iv_c (0 : Int32) (a := 0) (b := 0) (by decide))
              refine lv_aload_n hx hb dX10_readUnit_130 rfl (lv_at hl 1 rfl) ?_
              refine lv_bipush (v := 41) hx hb dX10_readUnit_131 (by decide) ?_
              refine jnI (wr := [(z 4, aI V 1025 f_11), (z 3, aI V 900 fz3)]) (rnV (rest := []) ⟨hx, hb, hml, hown, hg⟩ (k_X10_is_18 l V z pz0_0 pz0_5 v_12 v_13 pz0_8 v_14 v_15 v_16 v_17 pz0_13 pz0_14 pz0_18 pz0_19 pz0_22 pz0_23 pz0_29 bpz0_5 bv_12 bv_13 bpz0_8 bv_15 bv_16 bv_17 bpz0_13 bpz0_14 bpz0_18 bpz0_22 bpz0_29) mt_X10_is q_6_143 ⟨Nat.le_of_ble_eq_true rfl, Nat.le_of_ble_eq_true rfl⟩ hK hP hD hS hA hE [2] rfl rfl 2 rfl rfl rfl rfl hl.1 rfl (Nat.le_of_ble_eq_true rfl) dX10_readUnit_133 ⟨Nat.le_of_ble_eq_true rfl, Nat.le_of_ble_eq_true rfl⟩) hP hD hS hA [2] [0, 1] rfl rfl rfl (by decide) (fun r_99 w H locs hw hP hD hS => ?_)
              obtain ⟨br_99, g_100, g_101, rfl⟩ := hw
              have hP : va_P V.1 vwCl [(z 4, aI V 1025 f_11), (z 3, aI V 900 fz3), (z 0, .inr (10, mo z pz0_0 pz0_5 v_12 v_13 pz0_8 v_14 v_15 v_16 v_17 pz0_13 pz0_14 pz0_18 pz0_19 pz0_22 pz0_23 pz0_29))] H := hP
              have hD : va_D A [(z 4, aI V 1025 f_11), (z 3, aI V 900 fz3), (z 0, .inr (10, mo z pz0_0 pz0_5 v_12 v_13 pz0_8 v_14 v_15 v_16 v_17 pz0_13 pz0_14 pz0_18 pz0_19 pz0_22 pz0_23 pz0_29))] := hD
              refine lv_if_eq (tgt := 146) hx hb dX10_readUnit_136 (by decide) (fun c_102 => ?_) (fun c_102 => ?_)
              · have b_103 : iv 0 0 r_99 := iv_q c_102 (iv_c (0 : Int32) (a := 0) (b := 0) (by decide))
                refine lv_aload_n hx hb dX10_readUnit_146 rfl (lv_at hl 1 rfl) ?_
                refine lv_iconst (v := 2) hx hb dX10_readUnit_147 (by decide) ?_
                refine jnV (wr := [(z 4, aI V 1025 f_11), (z 3, aI V 900 fz3)]) (rnV (rest := []) ⟨hx, hb, hml, hown, hg⟩ (k_X10_fails_0 l V z 2 pz0_0 pz0_5 v_12 v_13 pz0_8 v_14 v_15 v_16 v_17 pz0_13 pz0_14 pz0_18 pz0_19 pz0_22 pz0_23 pz0_29 (iv_c (2 : Int32) (by decide)) bpz0_5 bv_12 bv_13 bpz0_8 bv_15 bv_16 bv_17 bpz0_13 bpz0_14 bpz0_18 bpz0_22 bpz0_29) mt_X10_fails q_6_147 ⟨Nat.le_of_ble_eq_true rfl, Nat.le_of_ble_eq_true rfl⟩ hK hP hD hS hA hE [2] rfl rfl 2 rfl rfl rfl rfl hl.1 rfl (Nat.le_of_ble_eq_true rfl) dX10_readUnit_148 ⟨Nat.le_of_ble_eq_true rfl, Nat.le_of_ble_eq_true rfl⟩) hP hD hS hA [2] [0, 1] rfl rfl rfl (by decide) (fun  w H locs hw hP hD hS => ?_)
                obtain ⟨v_104, v_105, bv_104, bv_105, rfl⟩ := hw
                have hP : va_P V.1 vwCl [(z 4, aI V 1025 f_11), (z 3, aI V 900 fz3), (z 0, .inr (10, mo z pz0_0 pz0_5 v_12 v_13 pz0_8 v_14 v_15 v_104 v_105 pz0_13 pz0_14 pz0_18 pz0_19 pz0_22 pz0_23 pz0_29))] H := hP
                have hD : va_D A [(z 4, aI V 1025 f_11), (z 3, aI V 900 fz3), (z 0, .inr (10, mo z pz0_0 pz0_5 v_12 v_13 pz0_8 v_14 v_15 v_104 v_105 pz0_13 pz0_14 pz0_18 pz0_19 pz0_22 pz0_23 pz0_29))] := hD
                have rx_106 : RX pz0_11 pz0_6 fz4 v_104 v_12 f_11 1 ((9 : Int)) := RX_f bv_104 (by decide)
                refine lv_aload_n hx hb dX10_readUnit_151 rfl (lv_at hl 1 rfl) ?_
                refine lv_iload_n hx hb dX10_readUnit_152 rfl (lv_at hl 2 rfl) ?_
                refine jnV (wr := []) (rnV (rest := []) ⟨hx, hb, hml, hown, hg⟩ (k_X10_readSum_0 l V z f_11 fz3 pz0_0 pz0_5 v_12 v_13 pz0_8 v_14 v_15 v_104 v_105 pz0_13 pz0_14 pz0_18 pz0_19 pz0_22 pz0_23 pz0_29 tf_11 bpz0_5 bv_12 bv_13 bpz0_8 bv_15 (iv_w bv_104 (by decide)) bv_105 bpz0_13 bpz0_14 bpz0_18 bpz0_22 bpz0_29 g_18 (PS_f bv_104 (by decide))) mt_X10_readSum q_6_187 ⟨Nat.le_of_ble_eq_true rfl, Nat.le_of_ble_eq_true rfl⟩ hK hP hD hS hA hE [0, 1, 2] rfl rfl 2 rfl rfl rfl rfl hl.1 rfl (Nat.le_of_ble_eq_true rfl) dX10_readUnit_153 ⟨Nat.le_of_ble_eq_true rfl, Nat.le_of_ble_eq_true rfl⟩) hP hD hS hA [0, 1, 2] [] rfl rfl rfl (by decide) (fun  w H locs hw hP hD hS => ?_)
                obtain ⟨f_107, v_108, v_109, v_110, v_111, v_112, v_113, tf_107, bv_108, bv_109, bv_111, bv_112, bv_113, g_114, g_115, g_116, g_117, rfl⟩ := hw
                have hP : va_P V.1 vwCl [(z 4, aI V 1025 f_107), (z 3, aI V 900 fz3), (z 0, .inr (10, mo z pz0_0 pz0_5 v_108 v_109 pz0_8 v_110 v_111 v_112 v_113 pz0_13 pz0_14 pz0_18 pz0_19 pz0_22 pz0_23 pz0_29))] H := hP
                have hD : va_D A [(z 4, aI V 1025 f_107), (z 3, aI V 900 fz3), (z 0, .inr (10, mo z pz0_0 pz0_5 v_108 v_109 pz0_8 v_110 v_111 v_112 v_113 pz0_13 pz0_14 pz0_18 pz0_19 pz0_22 pz0_23 pz0_29))] := hD
                have rx_118 : RX pz0_11 pz0_6 fz4 v_112 v_108 f_107 2 ((9 : Int)) := by have q9 := RX_seq (by decide) rx_106 g_117; exact RX_w q9 (by omega)
                refine lv_aload_n hx hb dX10_readUnit_156 rfl (lv_at hl 1 rfl) ?_
                refine lv_iload_n hx hb dX10_readUnit_157 rfl (lv_at hl 0 rfl) ?_
                refine jnV (wr := [(z 3, aI V 900 fz3)]) (rnV (rest := []) ⟨hx, hb, hml, hown, hg⟩ (k_X10_codes_0 l V z 3005 f_107 pz0_0 pz0_5 v_108 v_109 pz0_8 v_110 v_111 v_112 v_113 pz0_13 pz0_14 pz0_18 pz0_19 pz0_22 pz0_23 pz0_29 tf_107 bpz0_5 bv_108 bv_109 bpz0_8 bv_111 bv_112 bv_113 bpz0_13 bpz0_14 bpz0_18 bpz0_22 bpz0_29 (PS_n hf1 rx_118 bv_108 (by decide) (by omega))) mt_X10_codes q_6_199 ⟨Nat.le_of_ble_eq_true rfl, Nat.le_of_ble_eq_true rfl⟩ hK hP hD hS hA hE [0, 2] rfl rfl 2 rfl rfl rfl rfl hl.1 rfl (Nat.le_of_ble_eq_true rfl) dX10_readUnit_158 ⟨Nat.le_of_ble_eq_true rfl, Nat.le_of_ble_eq_true rfl⟩) hP hD hS hA [0, 2] [1] rfl rfl rfl (by decide) (fun  w H locs hw hP hD hS => ?_)
                obtain ⟨f_119, tf_119, g_120, g_121, rfl⟩ := hw
                have hP : va_P V.1 vwCl [(z 3, aI V 900 fz3), (z 4, aI V 1025 f_119), (z 0, .inr (10, mo z pz0_0 pz0_5 v_108 v_109 pz0_8 v_110 v_111 v_112 v_113 pz0_13 pz0_14 pz0_18 pz0_19 pz0_22 pz0_23 pz0_29))] H := hP
                have hD : va_D A [(z 3, aI V 900 fz3), (z 4, aI V 1025 f_119), (z 0, .inr (10, mo z pz0_0 pz0_5 v_108 v_109 pz0_8 v_110 v_111 v_112 v_113 pz0_13 pz0_14 pz0_18 pz0_19 pz0_22 pz0_23 pz0_29))] := hD
                have rx_122 : RX pz0_11 pz0_6 fz4 v_112 v_108 f_119 1 ((8 : Int)) := by have q9 := RX_c rx_118 tf_107 g_120 (by decide) ⟨by decide, by decide⟩ (by decide) (PS_n hf1 rx_118 bv_108 (by decide) (by omega)); rw [(by decide : eff (3005 : Int32) = -1)] at q9; exact RX_w q9 (by omega)
                have hP := subP (ws' := [(z 4, aI V 1025 f_119), (z 3, aI V 900 fz3), (z 0, .inr (10, mo z pz0_0 pz0_5 v_108 v_109 pz0_8 v_110 v_111 v_112 v_113 pz0_13 pz0_14 pz0_18 pz0_19 pz0_22 pz0_23 pz0_29))]) hP [1, 0, 2] rfl
                have hD := hD.sub (ws' := [(z 4, aI V 1025 f_119), (z 3, aI V 900 fz3), (z 0, .inr (10, mo z pz0_0 pz0_5 v_108 v_109 pz0_8 v_110 v_111 v_112 v_113 pz0_13 pz0_14 pz0_18 pz0_19 pz0_22 pz0_23 pz0_29))]) [1, 0, 2] rfl rfl
                exact fiV hx hb hr hlk hK hP hD hS dX10_readUnit_161 (Nat.le_of_ble_eq_true rfl) (Nat.le_of_ble_eq_true rfl) (⟨f_119, v_108, v_109, v_110, v_111, v_112, v_113, tf_119, bv_108, bv_109, bv_111, bv_112, bv_113, g_114, (PS_x hf1 rx_122 (by omega)), (by have z_0 := g_20; have z_1 := g_116;have y_0 := hf0.1; have y_1 := g_18.1; have y_2 := g_114.1; omega), (RX_w rx_122 (by omega)), rfl⟩)
              · have b_123 : iv 1 1 r_99 := iv_n0 c_102 br_99 (iv_c (0 : Int32) (a := 0) (b := 0) (by decide)) (by decide)
                have c_124 : v_16 = 0 := (g_100 (iv_eqp b_123 (iv_c (1 : Int32) (by decide))))
                have b_125 : iv 0 0 v_16 := iv_q c_124 (iv_c (0 : Int32) (a := 0) (b := 0) (by decide))
                have c_126 : v_14 = 41 := (g_101 (iv_eqp b_123 (iv_c (1 : Int32) (by decide))))
                have b_127 : iv 41 41 v_14 := iv_q c_126 (iv_c (41 : Int32) (a := 41) (b := 41) (by decide))
                refine lv_aload_n hx hb dX10_readUnit_139 rfl (lv_at hl 1 rfl) ?_
                refine jnV (wr := [(z 4, aI V 1025 f_11)]) (rnV (rest := []) ⟨hx, hb, hml, hown, hg⟩ (k_X10_next_0 l V z pz0_0 pz0_5 v_12 v_13 pz0_8 v_14 v_15 v_16 v_17 pz0_13 pz0_14 pz0_18 pz0_19 pz0_22 pz0_23 pz0_29 fz3 bpz0_5 bv_12 bv_13 bpz0_8 bv_15 (iv_w b_125 (by decide)) bv_17 bpz0_13 bpz0_14 bpz0_18 bpz0_22 bpz0_29 g_18.2.1) mt_X10_next q_6_117 ⟨Nat.le_of_ble_eq_true rfl, Nat.le_of_ble_eq_true rfl⟩ hK hP hD hS hA hE [2, 1] rfl rfl 2 rfl rfl rfl rfl hl.1 rfl (Nat.le_of_ble_eq_true rfl) dX10_readUnit_140 ⟨Nat.le_of_ble_eq_true rfl, Nat.le_of_ble_eq_true rfl⟩) hP hD hS hA [2, 1] [0] rfl rfl rfl (by decide) (fun  w H locs hw hP hD hS => ?_)
                obtain ⟨v_128, v_129, v_130, v_131, bv_128, bv_129, bv_131, g_132, g_133, rfl⟩ := hw
                have hP : va_P V.1 vwCl [(z 4, aI V 1025 f_11), (z 0, .inr (10, mo z pz0_0 pz0_5 v_128 v_129 pz0_8 v_130 v_131 v_16 v_17 pz0_13 pz0_14 pz0_18 pz0_19 pz0_22 pz0_23 pz0_29)), (z 3, aI V 900 fz3)] H := hP
                have hD : va_D A [(z 4, aI V 1025 f_11), (z 0, .inr (10, mo z pz0_0 pz0_5 v_128 v_129 pz0_8 v_130 v_131 v_16 v_17 pz0_13 pz0_14 pz0_18 pz0_19 pz0_22 pz0_23 pz0_29)), (z 3, aI V 900 fz3)] := hD
                have rx_134 : RX pz0_11 pz0_6 fz4 v_16 v_128 f_11 1 ((1 : Int)) := by have q9 := RX_a (a' := v_128) rx_22 (fun q8 => q8) (t := 1) (by have q9 := g_133; have q8 := g_18.2.2 (by rw [c_126]; decide); omega); exact RX_w q9 (by omega)
                refine lv_goto (tgt := 151) hx hb dX10_readUnit_143 (by decide) ?_
                refine lv_aload_n hx hb dX10_readUnit_151 rfl (lv_at hl 1 rfl) ?_
                refine lv_iload_n hx hb dX10_readUnit_152 rfl (lv_at hl 2 rfl) ?_
                refine jnV (wr := []) (rnV (rest := []) ⟨hx, hb, hml, hown, hg⟩ (k_X10_readSum_0 l V z f_11 fz3 pz0_0 pz0_5 v_128 v_129 pz0_8 v_130 v_131 v_16 v_17 pz0_13 pz0_14 pz0_18 pz0_19 pz0_22 pz0_23 pz0_29 tf_11 bpz0_5 bv_128 bv_129 bpz0_8 bv_131 (iv_w b_125 (by decide)) bv_17 bpz0_13 bpz0_14 bpz0_18 bpz0_22 bpz0_29 g_132 (PS_x hf1 rx_134 (by omega))) mt_X10_readSum q_6_187 ⟨Nat.le_of_ble_eq_true rfl, Nat.le_of_ble_eq_true rfl⟩ hK hP hD hS hA hE [0, 2, 1] rfl rfl 1 rfl rfl rfl rfl hl.1 rfl (Nat.le_of_ble_eq_true rfl) dX10_readUnit_153 ⟨Nat.le_of_ble_eq_true rfl, Nat.le_of_ble_eq_true rfl⟩) hP hD hS hA [0, 2, 1] [] rfl rfl rfl (by decide) (fun  w H locs hw hP hD hS => ?_)
                obtain ⟨f_135, v_136, v_137, v_138, v_139, v_140, v_141, tf_135, bv_136, bv_137, bv_139, bv_140, bv_141, g_142, g_143, g_144, g_145, rfl⟩ := hw
                have hP : va_P V.1 vwCl [(z 4, aI V 1025 f_135), (z 3, aI V 900 fz3), (z 0, .inr (10, mo z pz0_0 pz0_5 v_136 v_137 pz0_8 v_138 v_139 v_140 v_141 pz0_13 pz0_14 pz0_18 pz0_19 pz0_22 pz0_23 pz0_29))] H := hP
                have hD : va_D A [(z 4, aI V 1025 f_135), (z 3, aI V 900 fz3), (z 0, .inr (10, mo z pz0_0 pz0_5 v_136 v_137 pz0_8 v_138 v_139 v_140 v_141 pz0_13 pz0_14 pz0_18 pz0_19 pz0_22 pz0_23 pz0_29))] := hD
                have rx_146 : RX pz0_11 pz0_6 fz4 v_140 v_136 f_135 2 ((1 : Int)) := by have q9 := RX_seq (by decide) rx_134 g_145; exact RX_w q9 (by omega)
                refine lv_aload_n hx hb dX10_readUnit_156 rfl (lv_at hl 1 rfl) ?_
                refine lv_iload_n hx hb dX10_readUnit_157 rfl (lv_at hl 0 rfl) ?_
                refine jnV (wr := [(z 3, aI V 900 fz3)]) (rnV (rest := []) ⟨hx, hb, hml, hown, hg⟩ (k_X10_codes_0 l V z 3005 f_135 pz0_0 pz0_5 v_136 v_137 pz0_8 v_138 v_139 v_140 v_141 pz0_13 pz0_14 pz0_18 pz0_19 pz0_22 pz0_23 pz0_29 tf_135 bpz0_5 bv_136 bv_137 bpz0_8 bv_139 bv_140 bv_141 bpz0_13 bpz0_14 bpz0_18 bpz0_22 bpz0_29 (PS_n hf1 rx_146 bv_136 (by decide) (by omega))) mt_X10_codes q_6_199 ⟨Nat.le_of_ble_eq_true rfl, Nat.le_of_ble_eq_true rfl⟩ hK hP hD hS hA hE [0, 2] rfl rfl 2 rfl rfl rfl rfl hl.1 rfl (Nat.le_of_ble_eq_true rfl) dX10_readUnit_158 ⟨Nat.le_of_ble_eq_true rfl, Nat.le_of_ble_eq_true rfl⟩) hP hD hS hA [0, 2] [1] rfl rfl rfl (by decide) (fun  w H locs hw hP hD hS => ?_)
                obtain ⟨f_147, tf_147, g_148, g_149, rfl⟩ := hw
                have hP : va_P V.1 vwCl [(z 3, aI V 900 fz3), (z 4, aI V 1025 f_147), (z 0, .inr (10, mo z pz0_0 pz0_5 v_136 v_137 pz0_8 v_138 v_139 v_140 v_141 pz0_13 pz0_14 pz0_18 pz0_19 pz0_22 pz0_23 pz0_29))] H := hP
                have hD : va_D A [(z 3, aI V 900 fz3), (z 4, aI V 1025 f_147), (z 0, .inr (10, mo z pz0_0 pz0_5 v_136 v_137 pz0_8 v_138 v_139 v_140 v_141 pz0_13 pz0_14 pz0_18 pz0_19 pz0_22 pz0_23 pz0_29))] := hD
                have rx_150 : RX pz0_11 pz0_6 fz4 v_140 v_136 f_147 1 ((0 : Int)) := by have q9 := RX_c rx_146 tf_135 g_148 (by decide) ⟨by decide, by decide⟩ (by decide) (PS_n hf1 rx_146 bv_136 (by decide) (by omega)); rw [(by decide : eff (3005 : Int32) = -1)] at q9; exact RX_w q9 (by omega)
                have hP := subP (ws' := [(z 4, aI V 1025 f_147), (z 3, aI V 900 fz3), (z 0, .inr (10, mo z pz0_0 pz0_5 v_136 v_137 pz0_8 v_138 v_139 v_140 v_141 pz0_13 pz0_14 pz0_18 pz0_19 pz0_22 pz0_23 pz0_29))]) hP [1, 0, 2] rfl
                have hD := hD.sub (ws' := [(z 4, aI V 1025 f_147), (z 3, aI V 900 fz3), (z 0, .inr (10, mo z pz0_0 pz0_5 v_136 v_137 pz0_8 v_138 v_139 v_140 v_141 pz0_13 pz0_14 pz0_18 pz0_19 pz0_22 pz0_23 pz0_29))]) [1, 0, 2] rfl rfl
                exact fiV hx hb hr hlk hK hP hD hS dX10_readUnit_161 (Nat.le_of_ble_eq_true rfl) (Nat.le_of_ble_eq_true rfl) (⟨f_147, v_136, v_137, v_138, v_139, v_140, v_141, tf_147, bv_136, bv_137, bv_139, bv_140, bv_141, g_142, (PS_x hf1 rx_150 (by omega)), (by have z_0 := g_20; have z_1 := g_133; have z_2 := g_144;have y_0 := hf0.1; have y_1 := g_18.1; have y_2 := g_132.1; have y_3 := g_142.1; omega), (RX_w rx_150 (by omega)), rfl⟩)
        · have b_151 : iv 1 1 r_28 := iv_n0 c_31 br_28 (iv_c (0 : Int32) (a := 0) (b := 0) (by decide)) (by decide)
          have c_152 : v_16 = 0 := (g_29 (iv_eqp b_151 (iv_c (1 : Int32) (by decide))))
          have b_153 : iv 0 0 v_16 := iv_q c_152 (iv_c (0 : Int32) (a := 0) (b := 0) (by decide))
          have c_154 : v_14 = 40 := (g_30 (iv_eqp b_151 (iv_c (1 : Int32) (by decide))))
          have b_155 : iv 40 40 v_14 := iv_q c_154 (iv_c (40 : Int32) (a := 40) (b := 40) (by decide))
          refine lv_sipush (v := 3004) hx hb dX10_readUnit_102 (by decide) ?_
          refine lv_goto (tgt := 111) hx hb dX10_readUnit_105 (by decide) ?_
          refine lv_istore_n (lv' := [(2, .int 3004), (0, .ref (z 0)), (1, .int 6)]) hx hb dX10_readUnit_111 rfl hl (by decide) rfl (fun ls hl => ?_)
          refine lv_aload_n hx hb dX10_readUnit_112 rfl (lv_at hl 1 rfl) ?_
          refine lv_bipush (v := 39) hx hb dX10_readUnit_113 (by decide) ?_
          refine jnI (wr := [(z 4, aI V 1025 f_11), (z 3, aI V 900 fz3)]) (rnV (rest := []) ⟨hx, hb, hml, hown, hg⟩ (k_X10_is_16 l V z pz0_0 pz0_5 v_12 v_13 pz0_8 v_14 v_15 v_16 v_17 pz0_13 pz0_14 pz0_18 pz0_19 pz0_22 pz0_23 pz0_29 bpz0_5 bv_12 bv_13 bpz0_8 bv_15 (iv_w b_153 (by decide)) bv_17 bpz0_13 bpz0_14 bpz0_18 bpz0_22 bpz0_29) mt_X10_is q_6_143 ⟨Nat.le_of_ble_eq_true rfl, Nat.le_of_ble_eq_true rfl⟩ hK hP hD hS hA hE [2] rfl rfl 2 rfl rfl rfl rfl hl.1 rfl (Nat.le_of_ble_eq_true rfl) dX10_readUnit_115 ⟨Nat.le_of_ble_eq_true rfl, Nat.le_of_ble_eq_true rfl⟩) hP hD hS hA [2] [0, 1] rfl rfl rfl (by decide) (fun r_156 w H locs hw hP hD hS => ?_)
          obtain ⟨br_156, g_157, g_158, rfl⟩ := hw
          have hP : va_P V.1 vwCl [(z 4, aI V 1025 f_11), (z 3, aI V 900 fz3), (z 0, .inr (10, mo z pz0_0 pz0_5 v_12 v_13 pz0_8 v_14 v_15 v_16 v_17 pz0_13 pz0_14 pz0_18 pz0_19 pz0_22 pz0_23 pz0_29))] H := hP
          have hD : va_D A [(z 4, aI V 1025 f_11), (z 3, aI V 900 fz3), (z 0, .inr (10, mo z pz0_0 pz0_5 v_12 v_13 pz0_8 v_14 v_15 v_16 v_17 pz0_13 pz0_14 pz0_18 pz0_19 pz0_22 pz0_23 pz0_29))] := hD
          refine lv_if_ne (tgt := 139) hx hb dX10_readUnit_118 (by decide) (fun c_159 => ?_) (fun c_159 => ?_)
          · have b_160 : iv 1 1 r_156 := iv_n0 c_159 br_156 (iv_c (0 : Int32) (a := 0) (b := 0) (by decide)) (by decide)
            have c_161 : v_16 = 0 := (g_157 (iv_eqp b_160 (iv_c (1 : Int32) (by decide))))
            have c_162 : v_14 = 39 := (g_158 (iv_eqp b_160 (iv_c (1 : Int32) (by decide))))
            have b_163 : iv 39 39 v_14 := iv_q c_162 (iv_c (39 : Int32) (a := 39) (b := 39) (by decide))
            refine lv_aload_n hx hb dX10_readUnit_139 rfl (lv_at hl 1 rfl) ?_
            refine jnV (wr := [(z 4, aI V 1025 f_11)]) (rnV (rest := []) ⟨hx, hb, hml, hown, hg⟩ (k_X10_next_0 l V z pz0_0 pz0_5 v_12 v_13 pz0_8 v_14 v_15 v_16 v_17 pz0_13 pz0_14 pz0_18 pz0_19 pz0_22 pz0_23 pz0_29 fz3 bpz0_5 bv_12 bv_13 bpz0_8 bv_15 (iv_w b_153 (by decide)) bv_17 bpz0_13 bpz0_14 bpz0_18 bpz0_22 bpz0_29 g_18.2.1) mt_X10_next q_6_117 ⟨Nat.le_of_ble_eq_true rfl, Nat.le_of_ble_eq_true rfl⟩ hK hP hD hS hA hE [2, 1] rfl rfl 2 rfl rfl rfl rfl hl.1 rfl (Nat.le_of_ble_eq_true rfl) dX10_readUnit_140 ⟨Nat.le_of_ble_eq_true rfl, Nat.le_of_ble_eq_true rfl⟩) hP hD hS hA [2, 1] [0] rfl rfl rfl (by decide) (fun  w H locs hw hP hD hS => ?_)
            obtain ⟨v_164, v_165, v_166, v_167, bv_164, bv_165, bv_167, g_168, g_169, rfl⟩ := hw
            have hP : va_P V.1 vwCl [(z 4, aI V 1025 f_11), (z 0, .inr (10, mo z pz0_0 pz0_5 v_164 v_165 pz0_8 v_166 v_167 v_16 v_17 pz0_13 pz0_14 pz0_18 pz0_19 pz0_22 pz0_23 pz0_29)), (z 3, aI V 900 fz3)] H := hP
            have hD : va_D A [(z 4, aI V 1025 f_11), (z 0, .inr (10, mo z pz0_0 pz0_5 v_164 v_165 pz0_8 v_166 v_167 v_16 v_17 pz0_13 pz0_14 pz0_18 pz0_19 pz0_22 pz0_23 pz0_29)), (z 3, aI V 900 fz3)] := hD
            have rx_170 : RX pz0_11 pz0_6 fz4 v_16 v_164 f_11 1 ((1 : Int)) := by have q9 := RX_a (a' := v_164) rx_22 (fun q8 => q8) (t := 1) (by have q9 := g_169; have q8 := g_18.2.2 (by rw [c_162]; decide); omega); exact RX_w q9 (by omega)
            refine lv_goto (tgt := 151) hx hb dX10_readUnit_143 (by decide) ?_
            refine lv_aload_n hx hb dX10_readUnit_151 rfl (lv_at hl 1 rfl) ?_
            refine lv_iload_n hx hb dX10_readUnit_152 rfl (lv_at hl 2 rfl) ?_
            refine jnV (wr := []) (rnV (rest := []) ⟨hx, hb, hml, hown, hg⟩ (k_X10_readSum_0 l V z f_11 fz3 pz0_0 pz0_5 v_164 v_165 pz0_8 v_166 v_167 v_16 v_17 pz0_13 pz0_14 pz0_18 pz0_19 pz0_22 pz0_23 pz0_29 tf_11 bpz0_5 bv_164 bv_165 bpz0_8 bv_167 (iv_w b_153 (by decide)) bv_17 bpz0_13 bpz0_14 bpz0_18 bpz0_22 bpz0_29 g_168 (PS_x hf1 rx_170 (by omega))) mt_X10_readSum q_6_187 ⟨Nat.le_of_ble_eq_true rfl, Nat.le_of_ble_eq_true rfl⟩ hK hP hD hS hA hE [0, 2, 1] rfl rfl 1 rfl rfl rfl rfl hl.1 rfl (Nat.le_of_ble_eq_true rfl) dX10_readUnit_153 ⟨Nat.le_of_ble_eq_true rfl, Nat.le_of_ble_eq_true rfl⟩) hP hD hS hA [0, 2, 1] [] rfl rfl rfl (by decide) (fun  w H locs hw hP hD hS => ?_)
            obtain ⟨f_171, v_172, v_173, v_174, v_175, v_176, v_177, tf_171, bv_172, bv_173, bv_175, bv_176, bv_177, g_178, g_179, g_180, g_181, rfl⟩ := hw
            have hP : va_P V.1 vwCl [(z 4, aI V 1025 f_171), (z 3, aI V 900 fz3), (z 0, .inr (10, mo z pz0_0 pz0_5 v_172 v_173 pz0_8 v_174 v_175 v_176 v_177 pz0_13 pz0_14 pz0_18 pz0_19 pz0_22 pz0_23 pz0_29))] H := hP
            have hD : va_D A [(z 4, aI V 1025 f_171), (z 3, aI V 900 fz3), (z 0, .inr (10, mo z pz0_0 pz0_5 v_172 v_173 pz0_8 v_174 v_175 v_176 v_177 pz0_13 pz0_14 pz0_18 pz0_19 pz0_22 pz0_23 pz0_29))] := hD
            have rx_182 : RX pz0_11 pz0_6 fz4 v_176 v_172 f_171 2 ((1 : Int)) := by have q9 := RX_seq (by decide) rx_170 g_181; exact RX_w q9 (by omega)
            refine lv_aload_n hx hb dX10_readUnit_156 rfl (lv_at hl 1 rfl) ?_
            refine lv_iload_n hx hb dX10_readUnit_157 rfl (lv_at hl 0 rfl) ?_
            refine jnV (wr := [(z 3, aI V 900 fz3)]) (rnV (rest := []) ⟨hx, hb, hml, hown, hg⟩ (k_X10_codes_0 l V z 3004 f_171 pz0_0 pz0_5 v_172 v_173 pz0_8 v_174 v_175 v_176 v_177 pz0_13 pz0_14 pz0_18 pz0_19 pz0_22 pz0_23 pz0_29 tf_171 bpz0_5 bv_172 bv_173 bpz0_8 bv_175 bv_176 bv_177 bpz0_13 bpz0_14 bpz0_18 bpz0_22 bpz0_29 (PS_n hf1 rx_182 bv_172 (by decide) (by omega))) mt_X10_codes q_6_199 ⟨Nat.le_of_ble_eq_true rfl, Nat.le_of_ble_eq_true rfl⟩ hK hP hD hS hA hE [0, 2] rfl rfl 2 rfl rfl rfl rfl hl.1 rfl (Nat.le_of_ble_eq_true rfl) dX10_readUnit_158 ⟨Nat.le_of_ble_eq_true rfl, Nat.le_of_ble_eq_true rfl⟩) hP hD hS hA [0, 2] [1] rfl rfl rfl (by decide) (fun  w H locs hw hP hD hS => ?_)
            obtain ⟨f_183, tf_183, g_184, g_185, rfl⟩ := hw
            have hP : va_P V.1 vwCl [(z 3, aI V 900 fz3), (z 4, aI V 1025 f_183), (z 0, .inr (10, mo z pz0_0 pz0_5 v_172 v_173 pz0_8 v_174 v_175 v_176 v_177 pz0_13 pz0_14 pz0_18 pz0_19 pz0_22 pz0_23 pz0_29))] H := hP
            have hD : va_D A [(z 3, aI V 900 fz3), (z 4, aI V 1025 f_183), (z 0, .inr (10, mo z pz0_0 pz0_5 v_172 v_173 pz0_8 v_174 v_175 v_176 v_177 pz0_13 pz0_14 pz0_18 pz0_19 pz0_22 pz0_23 pz0_29))] := hD
            have rx_186 : RX pz0_11 pz0_6 fz4 v_176 v_172 f_183 1 ((0 : Int)) := by have q9 := RX_c rx_182 tf_171 g_184 (by decide) ⟨by decide, by decide⟩ (by decide) (PS_n hf1 rx_182 bv_172 (by decide) (by omega)); rw [(by decide : eff (3004 : Int32) = -1)] at q9; exact RX_w q9 (by omega)
            have hP := subP (ws' := [(z 4, aI V 1025 f_183), (z 3, aI V 900 fz3), (z 0, .inr (10, mo z pz0_0 pz0_5 v_172 v_173 pz0_8 v_174 v_175 v_176 v_177 pz0_13 pz0_14 pz0_18 pz0_19 pz0_22 pz0_23 pz0_29))]) hP [1, 0, 2] rfl
            have hD := hD.sub (ws' := [(z 4, aI V 1025 f_183), (z 3, aI V 900 fz3), (z 0, .inr (10, mo z pz0_0 pz0_5 v_172 v_173 pz0_8 v_174 v_175 v_176 v_177 pz0_13 pz0_14 pz0_18 pz0_19 pz0_22 pz0_23 pz0_29))]) [1, 0, 2] rfl rfl
            exact fiV hx hb hr hlk hK hP hD hS dX10_readUnit_161 (Nat.le_of_ble_eq_true rfl) (Nat.le_of_ble_eq_true rfl) (⟨f_183, v_172, v_173, v_174, v_175, v_176, v_177, tf_183, bv_172, bv_173, bv_175, bv_176, bv_177, g_178, (PS_x hf1 rx_186 (by omega)), (by have z_0 := g_20; have z_1 := g_169; have z_2 := g_180;have y_0 := hf0.1; have y_1 := g_18.1; have y_2 := g_168.1; have y_3 := g_178.1; omega), (RX_w rx_186 (by omega)), rfl⟩)
          · have b_187 : iv 0 0 r_156 := iv_q c_159 (iv_c (0 : Int32) (a := 0) (b := 0) (by decide))
            refine lv_aload_n hx hb dX10_readUnit_121 rfl (lv_at hl 1 rfl) ?_
            refine lv_bipush (v := 40) hx hb dX10_readUnit_122 (by decide) ?_
            refine jnI (wr := [(z 4, aI V 1025 f_11), (z 3, aI V 900 fz3)]) (rnV (rest := []) ⟨hx, hb, hml, hown, hg⟩ (k_X10_is_17 l V z pz0_0 pz0_5 v_12 v_13 pz0_8 v_14 v_15 v_16 v_17 pz0_13 pz0_14 pz0_18 pz0_19 pz0_22 pz0_23 pz0_29 bpz0_5 bv_12 bv_13 bpz0_8 bv_15 (iv_w b_153 (by decide)) bv_17 bpz0_13 bpz0_14 bpz0_18 bpz0_22 bpz0_29) mt_X10_is q_6_143 ⟨Nat.le_of_ble_eq_true rfl, Nat.le_of_ble_eq_true rfl⟩ hK hP hD hS hA hE [2] rfl rfl 2 rfl rfl rfl rfl hl.1 rfl (Nat.le_of_ble_eq_true rfl) dX10_readUnit_124 ⟨Nat.le_of_ble_eq_true rfl, Nat.le_of_ble_eq_true rfl⟩) hP hD hS hA [2] [0, 1] rfl rfl rfl (by decide) (fun r_188 w H locs hw hP hD hS => ?_)
            obtain ⟨br_188, g_189, g_190, rfl⟩ := hw
            have hP : va_P V.1 vwCl [(z 4, aI V 1025 f_11), (z 3, aI V 900 fz3), (z 0, .inr (10, mo z pz0_0 pz0_5 v_12 v_13 pz0_8 v_14 v_15 v_16 v_17 pz0_13 pz0_14 pz0_18 pz0_19 pz0_22 pz0_23 pz0_29))] H := hP
            have hD : va_D A [(z 4, aI V 1025 f_11), (z 3, aI V 900 fz3), (z 0, .inr (10, mo z pz0_0 pz0_5 v_12 v_13 pz0_8 v_14 v_15 v_16 v_17 pz0_13 pz0_14 pz0_18 pz0_19 pz0_22 pz0_23 pz0_29))] := hD
            refine lv_if_ne (tgt := 139) hx hb dX10_readUnit_127 (by decide) (fun c_191 => ?_) (fun c_191 => ?_)
            · have b_192 : iv 1 1 r_188 := iv_n0 c_191 br_188 (iv_c (0 : Int32) (a := 0) (b := 0) (by decide)) (by decide)
              have c_193 : v_16 = 0 := (g_189 (iv_eqp b_192 (iv_c (1 : Int32) (by decide))))
              have c_194 : v_14 = 40 := (g_190 (iv_eqp b_192 (iv_c (1 : Int32) (by decide))))
              refine lv_aload_n hx hb dX10_readUnit_139 rfl (lv_at hl 1 rfl) ?_
              refine jnV (wr := [(z 4, aI V 1025 f_11)]) (rnV (rest := []) ⟨hx, hb, hml, hown, hg⟩ (k_X10_next_0 l V z pz0_0 pz0_5 v_12 v_13 pz0_8 v_14 v_15 v_16 v_17 pz0_13 pz0_14 pz0_18 pz0_19 pz0_22 pz0_23 pz0_29 fz3 bpz0_5 bv_12 bv_13 bpz0_8 bv_15 (iv_w b_153 (by decide)) bv_17 bpz0_13 bpz0_14 bpz0_18 bpz0_22 bpz0_29 g_18.2.1) mt_X10_next q_6_117 ⟨Nat.le_of_ble_eq_true rfl, Nat.le_of_ble_eq_true rfl⟩ hK hP hD hS hA hE [2, 1] rfl rfl 2 rfl rfl rfl rfl hl.1 rfl (Nat.le_of_ble_eq_true rfl) dX10_readUnit_140 ⟨Nat.le_of_ble_eq_true rfl, Nat.le_of_ble_eq_true rfl⟩) hP hD hS hA [2, 1] [0] rfl rfl rfl (by decide) (fun  w H locs hw hP hD hS => ?_)
              obtain ⟨v_195, v_196, v_197, v_198, bv_195, bv_196, bv_198, g_199, g_200, rfl⟩ := hw
              have hP : va_P V.1 vwCl [(z 4, aI V 1025 f_11), (z 0, .inr (10, mo z pz0_0 pz0_5 v_195 v_196 pz0_8 v_197 v_198 v_16 v_17 pz0_13 pz0_14 pz0_18 pz0_19 pz0_22 pz0_23 pz0_29)), (z 3, aI V 900 fz3)] H := hP
              have hD : va_D A [(z 4, aI V 1025 f_11), (z 0, .inr (10, mo z pz0_0 pz0_5 v_195 v_196 pz0_8 v_197 v_198 v_16 v_17 pz0_13 pz0_14 pz0_18 pz0_19 pz0_22 pz0_23 pz0_29)), (z 3, aI V 900 fz3)] := hD
              have rx_201 : RX pz0_11 pz0_6 fz4 v_16 v_195 f_11 1 ((1 : Int)) := by have q9 := RX_a (a' := v_195) rx_22 (fun q8 => q8) (t := 1) (by have q9 := g_200; have q8 := g_18.2.2 (by rw [c_194]; decide); omega); exact RX_w q9 (by omega)
              refine lv_goto (tgt := 151) hx hb dX10_readUnit_143 (by decide) ?_
              refine lv_aload_n hx hb dX10_readUnit_151 rfl (lv_at hl 1 rfl) ?_
              refine lv_iload_n hx hb dX10_readUnit_152 rfl (lv_at hl 2 rfl) ?_
              refine jnV (wr := []) (rnV (rest := []) ⟨hx, hb, hml, hown, hg⟩ (k_X10_readSum_0 l V z f_11 fz3 pz0_0 pz0_5 v_195 v_196 pz0_8 v_197 v_198 v_16 v_17 pz0_13 pz0_14 pz0_18 pz0_19 pz0_22 pz0_23 pz0_29 tf_11 bpz0_5 bv_195 bv_196 bpz0_8 bv_198 (iv_w b_153 (by decide)) bv_17 bpz0_13 bpz0_14 bpz0_18 bpz0_22 bpz0_29 g_199 (PS_x hf1 rx_201 (by omega))) mt_X10_readSum q_6_187 ⟨Nat.le_of_ble_eq_true rfl, Nat.le_of_ble_eq_true rfl⟩ hK hP hD hS hA hE [0, 2, 1] rfl rfl 1 rfl rfl rfl rfl hl.1 rfl (Nat.le_of_ble_eq_true rfl) dX10_readUnit_153 ⟨Nat.le_of_ble_eq_true rfl, Nat.le_of_ble_eq_true rfl⟩) hP hD hS hA [0, 2, 1] [] rfl rfl rfl (by decide) (fun  w H locs hw hP hD hS => ?_)
              obtain ⟨f_202, v_203, v_204, v_205, v_206, v_207, v_208, tf_202, bv_203, bv_204, bv_206, bv_207, bv_208, g_209, g_210, g_211, g_212, rfl⟩ := hw
              have hP : va_P V.1 vwCl [(z 4, aI V 1025 f_202), (z 3, aI V 900 fz3), (z 0, .inr (10, mo z pz0_0 pz0_5 v_203 v_204 pz0_8 v_205 v_206 v_207 v_208 pz0_13 pz0_14 pz0_18 pz0_19 pz0_22 pz0_23 pz0_29))] H := hP
              have hD : va_D A [(z 4, aI V 1025 f_202), (z 3, aI V 900 fz3), (z 0, .inr (10, mo z pz0_0 pz0_5 v_203 v_204 pz0_8 v_205 v_206 v_207 v_208 pz0_13 pz0_14 pz0_18 pz0_19 pz0_22 pz0_23 pz0_29))] := hD
              have rx_213 : RX pz0_11 pz0_6 fz4 v_207 v_203 f_202 2 ((1 : Int)) := by have q9 := RX_seq (by decide) rx_201 g_212; exact RX_w q9 (by omega)
              refine lv_aload_n hx hb dX10_readUnit_156 rfl (lv_at hl 1 rfl) ?_
              refine lv_iload_n hx hb dX10_readUnit_157 rfl (lv_at hl 0 rfl) ?_
              refine jnV (wr := [(z 3, aI V 900 fz3)]) (rnV (rest := []) ⟨hx, hb, hml, hown, hg⟩ (k_X10_codes_0 l V z 3004 f_202 pz0_0 pz0_5 v_203 v_204 pz0_8 v_205 v_206 v_207 v_208 pz0_13 pz0_14 pz0_18 pz0_19 pz0_22 pz0_23 pz0_29 tf_202 bpz0_5 bv_203 bv_204 bpz0_8 bv_206 bv_207 bv_208 bpz0_13 bpz0_14 bpz0_18 bpz0_22 bpz0_29 (PS_n hf1 rx_213 bv_203 (by decide) (by omega))) mt_X10_codes q_6_199 ⟨Nat.le_of_ble_eq_true rfl, Nat.le_of_ble_eq_true rfl⟩ hK hP hD hS hA hE [0, 2] rfl rfl 2 rfl rfl rfl rfl hl.1 rfl (Nat.le_of_ble_eq_true rfl) dX10_readUnit_158 ⟨Nat.le_of_ble_eq_true rfl, Nat.le_of_ble_eq_true rfl⟩) hP hD hS hA [0, 2] [1] rfl rfl rfl (by decide) (fun  w H locs hw hP hD hS => ?_)
              obtain ⟨f_214, tf_214, g_215, g_216, rfl⟩ := hw
              have hP : va_P V.1 vwCl [(z 3, aI V 900 fz3), (z 4, aI V 1025 f_214), (z 0, .inr (10, mo z pz0_0 pz0_5 v_203 v_204 pz0_8 v_205 v_206 v_207 v_208 pz0_13 pz0_14 pz0_18 pz0_19 pz0_22 pz0_23 pz0_29))] H := hP
              have hD : va_D A [(z 3, aI V 900 fz3), (z 4, aI V 1025 f_214), (z 0, .inr (10, mo z pz0_0 pz0_5 v_203 v_204 pz0_8 v_205 v_206 v_207 v_208 pz0_13 pz0_14 pz0_18 pz0_19 pz0_22 pz0_23 pz0_29))] := hD
              have rx_217 : RX pz0_11 pz0_6 fz4 v_207 v_203 f_214 1 ((0 : Int)) := by have q9 := RX_c rx_213 tf_202 g_215 (by decide) ⟨by decide, by decide⟩ (by decide) (PS_n hf1 rx_213 bv_203 (by decide) (by omega)); rw [(by decide : eff (3004 : Int32) = -1)] at q9; exact RX_w q9 (by omega)
              have hP := subP (ws' := [(z 4, aI V 1025 f_214), (z 3, aI V 900 fz3), (z 0, .inr (10, mo z pz0_0 pz0_5 v_203 v_204 pz0_8 v_205 v_206 v_207 v_208 pz0_13 pz0_14 pz0_18 pz0_19 pz0_22 pz0_23 pz0_29))]) hP [1, 0, 2] rfl
              have hD := hD.sub (ws' := [(z 4, aI V 1025 f_214), (z 3, aI V 900 fz3), (z 0, .inr (10, mo z pz0_0 pz0_5 v_203 v_204 pz0_8 v_205 v_206 v_207 v_208 pz0_13 pz0_14 pz0_18 pz0_19 pz0_22 pz0_23 pz0_29))]) [1, 0, 2] rfl rfl
              exact fiV hx hb hr hlk hK hP hD hS dX10_readUnit_161 (Nat.le_of_ble_eq_true rfl) (Nat.le_of_ble_eq_true rfl) (⟨f_214, v_203, v_204, v_205, v_206, v_207, v_208, tf_214, bv_203, bv_204, bv_206, bv_207, bv_208, g_209, (PS_x hf1 rx_217 (by omega)), (by have z_0 := g_20; have z_1 := g_200; have z_2 := g_211;have y_0 := hf0.1; have y_1 := g_18.1; have y_2 := g_199.1; have y_3 := g_209.1; omega), (RX_w rx_217 (by omega)), rfl⟩)
            · have b_218 : iv 0 0 r_188 := iv_q c_191 (iv_c (0 : Int32) (a := 0) (b := 0) (by decide))
              refine lv_aload_n hx hb dX10_readUnit_130 rfl (lv_at hl 1 rfl) ?_
              refine lv_bipush (v := 41) hx hb dX10_readUnit_131 (by decide) ?_
              refine jnI (wr := [(z 4, aI V 1025 f_11), (z 3, aI V 900 fz3)]) (rnV (rest := []) ⟨hx, hb, hml, hown, hg⟩ (k_X10_is_18 l V z pz0_0 pz0_5 v_12 v_13 pz0_8 v_14 v_15 v_16 v_17 pz0_13 pz0_14 pz0_18 pz0_19 pz0_22 pz0_23 pz0_29 bpz0_5 bv_12 bv_13 bpz0_8 bv_15 (iv_w b_153 (by decide)) bv_17 bpz0_13 bpz0_14 bpz0_18 bpz0_22 bpz0_29) mt_X10_is q_6_143 ⟨Nat.le_of_ble_eq_true rfl, Nat.le_of_ble_eq_true rfl⟩ hK hP hD hS hA hE [2] rfl rfl 2 rfl rfl rfl rfl hl.1 rfl (Nat.le_of_ble_eq_true rfl) dX10_readUnit_133 ⟨Nat.le_of_ble_eq_true rfl, Nat.le_of_ble_eq_true rfl⟩) hP hD hS hA [2] [0, 1] rfl rfl rfl (by decide) (fun r_219 w H locs hw hP hD hS => ?_)
              obtain ⟨br_219, g_220, g_221, rfl⟩ := hw
              have hP : va_P V.1 vwCl [(z 4, aI V 1025 f_11), (z 3, aI V 900 fz3), (z 0, .inr (10, mo z pz0_0 pz0_5 v_12 v_13 pz0_8 v_14 v_15 v_16 v_17 pz0_13 pz0_14 pz0_18 pz0_19 pz0_22 pz0_23 pz0_29))] H := hP
              have hD : va_D A [(z 4, aI V 1025 f_11), (z 3, aI V 900 fz3), (z 0, .inr (10, mo z pz0_0 pz0_5 v_12 v_13 pz0_8 v_14 v_15 v_16 v_17 pz0_13 pz0_14 pz0_18 pz0_19 pz0_22 pz0_23 pz0_29))] := hD
              refine lv_if_eq (tgt := 146) hx hb dX10_readUnit_136 (by decide) (fun c_222 => ?_) (fun c_222 => ?_)
              · have b_223 : iv 0 0 r_219 := iv_q c_222 (iv_c (0 : Int32) (a := 0) (b := 0) (by decide))
                refine lv_aload_n hx hb dX10_readUnit_146 rfl (lv_at hl 1 rfl) ?_
                refine lv_iconst (v := 2) hx hb dX10_readUnit_147 (by decide) ?_
                refine jnV (wr := [(z 4, aI V 1025 f_11), (z 3, aI V 900 fz3)]) (rnV (rest := []) ⟨hx, hb, hml, hown, hg⟩ (k_X10_fails_0 l V z 2 pz0_0 pz0_5 v_12 v_13 pz0_8 v_14 v_15 v_16 v_17 pz0_13 pz0_14 pz0_18 pz0_19 pz0_22 pz0_23 pz0_29 (iv_c (2 : Int32) (by decide)) bpz0_5 bv_12 bv_13 bpz0_8 bv_15 (iv_w b_153 (by decide)) bv_17 bpz0_13 bpz0_14 bpz0_18 bpz0_22 bpz0_29) mt_X10_fails q_6_147 ⟨Nat.le_of_ble_eq_true rfl, Nat.le_of_ble_eq_true rfl⟩ hK hP hD hS hA hE [2] rfl rfl 2 rfl rfl rfl rfl hl.1 rfl (Nat.le_of_ble_eq_true rfl) dX10_readUnit_148 ⟨Nat.le_of_ble_eq_true rfl, Nat.le_of_ble_eq_true rfl⟩) hP hD hS hA [2] [0, 1] rfl rfl rfl (by decide) (fun  w H locs hw hP hD hS => ?_)
                obtain ⟨v_224, v_225, bv_224, bv_225, rfl⟩ := hw
                have hP : va_P V.1 vwCl [(z 4, aI V 1025 f_11), (z 3, aI V 900 fz3), (z 0, .inr (10, mo z pz0_0 pz0_5 v_12 v_13 pz0_8 v_14 v_15 v_224 v_225 pz0_13 pz0_14 pz0_18 pz0_19 pz0_22 pz0_23 pz0_29))] H := hP
                have hD : va_D A [(z 4, aI V 1025 f_11), (z 3, aI V 900 fz3), (z 0, .inr (10, mo z pz0_0 pz0_5 v_12 v_13 pz0_8 v_14 v_15 v_224 v_225 pz0_13 pz0_14 pz0_18 pz0_19 pz0_22 pz0_23 pz0_29))] := hD
                have rx_226 : RX pz0_11 pz0_6 fz4 v_224 v_12 f_11 1 ((9 : Int)) := RX_f bv_224 (by decide)
                refine lv_aload_n hx hb dX10_readUnit_151 rfl (lv_at hl 1 rfl) ?_
                refine lv_iload_n hx hb dX10_readUnit_152 rfl (lv_at hl 2 rfl) ?_
                refine jnV (wr := []) (rnV (rest := []) ⟨hx, hb, hml, hown, hg⟩ (k_X10_readSum_0 l V z f_11 fz3 pz0_0 pz0_5 v_12 v_13 pz0_8 v_14 v_15 v_224 v_225 pz0_13 pz0_14 pz0_18 pz0_19 pz0_22 pz0_23 pz0_29 tf_11 bpz0_5 bv_12 bv_13 bpz0_8 bv_15 (iv_w bv_224 (by decide)) bv_225 bpz0_13 bpz0_14 bpz0_18 bpz0_22 bpz0_29 g_18 (PS_f bv_224 (by decide))) mt_X10_readSum q_6_187 ⟨Nat.le_of_ble_eq_true rfl, Nat.le_of_ble_eq_true rfl⟩ hK hP hD hS hA hE [0, 1, 2] rfl rfl 2 rfl rfl rfl rfl hl.1 rfl (Nat.le_of_ble_eq_true rfl) dX10_readUnit_153 ⟨Nat.le_of_ble_eq_true rfl, Nat.le_of_ble_eq_true rfl⟩) hP hD hS hA [0, 1, 2] [] rfl rfl rfl (by decide) (fun  w H locs hw hP hD hS => ?_)
                obtain ⟨f_227, v_228, v_229, v_230, v_231, v_232, v_233, tf_227, bv_228, bv_229, bv_231, bv_232, bv_233, g_234, g_235, g_236, g_237, rfl⟩ := hw
                have hP : va_P V.1 vwCl [(z 4, aI V 1025 f_227), (z 3, aI V 900 fz3), (z 0, .inr (10, mo z pz0_0 pz0_5 v_228 v_229 pz0_8 v_230 v_231 v_232 v_233 pz0_13 pz0_14 pz0_18 pz0_19 pz0_22 pz0_23 pz0_29))] H := hP
                have hD : va_D A [(z 4, aI V 1025 f_227), (z 3, aI V 900 fz3), (z 0, .inr (10, mo z pz0_0 pz0_5 v_228 v_229 pz0_8 v_230 v_231 v_232 v_233 pz0_13 pz0_14 pz0_18 pz0_19 pz0_22 pz0_23 pz0_29))] := hD
                have rx_238 : RX pz0_11 pz0_6 fz4 v_232 v_228 f_227 2 ((9 : Int)) := by have q9 := RX_seq (by decide) rx_226 g_237; exact RX_w q9 (by omega)
                refine lv_aload_n hx hb dX10_readUnit_156 rfl (lv_at hl 1 rfl) ?_
                refine lv_iload_n hx hb dX10_readUnit_157 rfl (lv_at hl 0 rfl) ?_
                refine jnV (wr := [(z 3, aI V 900 fz3)]) (rnV (rest := []) ⟨hx, hb, hml, hown, hg⟩ (k_X10_codes_0 l V z 3004 f_227 pz0_0 pz0_5 v_228 v_229 pz0_8 v_230 v_231 v_232 v_233 pz0_13 pz0_14 pz0_18 pz0_19 pz0_22 pz0_23 pz0_29 tf_227 bpz0_5 bv_228 bv_229 bpz0_8 bv_231 bv_232 bv_233 bpz0_13 bpz0_14 bpz0_18 bpz0_22 bpz0_29 (PS_n hf1 rx_238 bv_228 (by decide) (by omega))) mt_X10_codes q_6_199 ⟨Nat.le_of_ble_eq_true rfl, Nat.le_of_ble_eq_true rfl⟩ hK hP hD hS hA hE [0, 2] rfl rfl 2 rfl rfl rfl rfl hl.1 rfl (Nat.le_of_ble_eq_true rfl) dX10_readUnit_158 ⟨Nat.le_of_ble_eq_true rfl, Nat.le_of_ble_eq_true rfl⟩) hP hD hS hA [0, 2] [1] rfl rfl rfl (by decide) (fun  w H locs hw hP hD hS => ?_)
                obtain ⟨f_239, tf_239, g_240, g_241, rfl⟩ := hw
                have hP : va_P V.1 vwCl [(z 3, aI V 900 fz3), (z 4, aI V 1025 f_239), (z 0, .inr (10, mo z pz0_0 pz0_5 v_228 v_229 pz0_8 v_230 v_231 v_232 v_233 pz0_13 pz0_14 pz0_18 pz0_19 pz0_22 pz0_23 pz0_29))] H := hP
                have hD : va_D A [(z 3, aI V 900 fz3), (z 4, aI V 1025 f_239), (z 0, .inr (10, mo z pz0_0 pz0_5 v_228 v_229 pz0_8 v_230 v_231 v_232 v_233 pz0_13 pz0_14 pz0_18 pz0_19 pz0_22 pz0_23 pz0_29))] := hD
                have rx_242 : RX pz0_11 pz0_6 fz4 v_232 v_228 f_239 1 ((8 : Int)) := by have q9 := RX_c rx_238 tf_227 g_240 (by decide) ⟨by decide, by decide⟩ (by decide) (PS_n hf1 rx_238 bv_228 (by decide) (by omega)); rw [(by decide : eff (3004 : Int32) = -1)] at q9; exact RX_w q9 (by omega)
                have hP := subP (ws' := [(z 4, aI V 1025 f_239), (z 3, aI V 900 fz3), (z 0, .inr (10, mo z pz0_0 pz0_5 v_228 v_229 pz0_8 v_230 v_231 v_232 v_233 pz0_13 pz0_14 pz0_18 pz0_19 pz0_22 pz0_23 pz0_29))]) hP [1, 0, 2] rfl
                have hD := hD.sub (ws' := [(z 4, aI V 1025 f_239), (z 3, aI V 900 fz3), (z 0, .inr (10, mo z pz0_0 pz0_5 v_228 v_229 pz0_8 v_230 v_231 v_232 v_233 pz0_13 pz0_14 pz0_18 pz0_19 pz0_22 pz0_23 pz0_29))]) [1, 0, 2] rfl rfl
                exact fiV hx hb hr hlk hK hP hD hS dX10_readUnit_161 (Nat.le_of_ble_eq_true rfl) (Nat.le_of_ble_eq_true rfl) (⟨f_239, v_228, v_229, v_230, v_231, v_232, v_233, tf_239, bv_228, bv_229, bv_231, bv_232, bv_233, g_234, (PS_x hf1 rx_242 (by omega)), (by have z_0 := g_20; have z_1 := g_236;have y_0 := hf0.1; have y_1 := g_18.1; have y_2 := g_234.1; omega), (RX_w rx_242 (by omega)), rfl⟩)
              · have b_243 : iv 1 1 r_219 := iv_n0 c_222 br_219 (iv_c (0 : Int32) (a := 0) (b := 0) (by decide)) (by decide)
                have c_244 : v_16 = 0 := (g_220 (iv_eqp b_243 (iv_c (1 : Int32) (by decide))))
                have c_245 : v_14 = 41 := (g_221 (iv_eqp b_243 (iv_c (1 : Int32) (by decide))))
                have b_246 : iv 41 41 v_14 := iv_q c_245 (iv_c (41 : Int32) (a := 41) (b := 41) (by decide))
                refine lv_aload_n hx hb dX10_readUnit_139 rfl (lv_at hl 1 rfl) ?_
                refine jnV (wr := [(z 4, aI V 1025 f_11)]) (rnV (rest := []) ⟨hx, hb, hml, hown, hg⟩ (k_X10_next_0 l V z pz0_0 pz0_5 v_12 v_13 pz0_8 v_14 v_15 v_16 v_17 pz0_13 pz0_14 pz0_18 pz0_19 pz0_22 pz0_23 pz0_29 fz3 bpz0_5 bv_12 bv_13 bpz0_8 bv_15 (iv_w b_153 (by decide)) bv_17 bpz0_13 bpz0_14 bpz0_18 bpz0_22 bpz0_29 g_18.2.1) mt_X10_next q_6_117 ⟨Nat.le_of_ble_eq_true rfl, Nat.le_of_ble_eq_true rfl⟩ hK hP hD hS hA hE [2, 1] rfl rfl 2 rfl rfl rfl rfl hl.1 rfl (Nat.le_of_ble_eq_true rfl) dX10_readUnit_140 ⟨Nat.le_of_ble_eq_true rfl, Nat.le_of_ble_eq_true rfl⟩) hP hD hS hA [2, 1] [0] rfl rfl rfl (by decide) (fun  w H locs hw hP hD hS => ?_)
                obtain ⟨v_247, v_248, v_249, v_250, bv_247, bv_248, bv_250, g_251, g_252, rfl⟩ := hw
                have hP : va_P V.1 vwCl [(z 4, aI V 1025 f_11), (z 0, .inr (10, mo z pz0_0 pz0_5 v_247 v_248 pz0_8 v_249 v_250 v_16 v_17 pz0_13 pz0_14 pz0_18 pz0_19 pz0_22 pz0_23 pz0_29)), (z 3, aI V 900 fz3)] H := hP
                have hD : va_D A [(z 4, aI V 1025 f_11), (z 0, .inr (10, mo z pz0_0 pz0_5 v_247 v_248 pz0_8 v_249 v_250 v_16 v_17 pz0_13 pz0_14 pz0_18 pz0_19 pz0_22 pz0_23 pz0_29)), (z 3, aI V 900 fz3)] := hD
                have rx_253 : RX pz0_11 pz0_6 fz4 v_16 v_247 f_11 1 ((1 : Int)) := by have q9 := RX_a (a' := v_247) rx_22 (fun q8 => q8) (t := 1) (by have q9 := g_252; have q8 := g_18.2.2 (by rw [c_245]; decide); omega); exact RX_w q9 (by omega)
                refine lv_goto (tgt := 151) hx hb dX10_readUnit_143 (by decide) ?_
                refine lv_aload_n hx hb dX10_readUnit_151 rfl (lv_at hl 1 rfl) ?_
                refine lv_iload_n hx hb dX10_readUnit_152 rfl (lv_at hl 2 rfl) ?_
                refine jnV (wr := []) (rnV (rest := []) ⟨hx, hb, hml, hown, hg⟩ (k_X10_readSum_0 l V z f_11 fz3 pz0_0 pz0_5 v_247 v_248 pz0_8 v_249 v_250 v_16 v_17 pz0_13 pz0_14 pz0_18 pz0_19 pz0_22 pz0_23 pz0_29 tf_11 bpz0_5 bv_247 bv_248 bpz0_8 bv_250 (iv_w b_153 (by decide)) bv_17 bpz0_13 bpz0_14 bpz0_18 bpz0_22 bpz0_29 g_251 (PS_x hf1 rx_253 (by omega))) mt_X10_readSum q_6_187 ⟨Nat.le_of_ble_eq_true rfl, Nat.le_of_ble_eq_true rfl⟩ hK hP hD hS hA hE [0, 2, 1] rfl rfl 1 rfl rfl rfl rfl hl.1 rfl (Nat.le_of_ble_eq_true rfl) dX10_readUnit_153 ⟨Nat.le_of_ble_eq_true rfl, Nat.le_of_ble_eq_true rfl⟩) hP hD hS hA [0, 2, 1] [] rfl rfl rfl (by decide) (fun  w H locs hw hP hD hS => ?_)
                obtain ⟨f_254, v_255, v_256, v_257, v_258, v_259, v_260, tf_254, bv_255, bv_256, bv_258, bv_259, bv_260, g_261, g_262, g_263, g_264, rfl⟩ := hw
                have hP : va_P V.1 vwCl [(z 4, aI V 1025 f_254), (z 3, aI V 900 fz3), (z 0, .inr (10, mo z pz0_0 pz0_5 v_255 v_256 pz0_8 v_257 v_258 v_259 v_260 pz0_13 pz0_14 pz0_18 pz0_19 pz0_22 pz0_23 pz0_29))] H := hP
                have hD : va_D A [(z 4, aI V 1025 f_254), (z 3, aI V 900 fz3), (z 0, .inr (10, mo z pz0_0 pz0_5 v_255 v_256 pz0_8 v_257 v_258 v_259 v_260 pz0_13 pz0_14 pz0_18 pz0_19 pz0_22 pz0_23 pz0_29))] := hD
                have rx_265 : RX pz0_11 pz0_6 fz4 v_259 v_255 f_254 2 ((1 : Int)) := by have q9 := RX_seq (by decide) rx_253 g_264; exact RX_w q9 (by omega)
                refine lv_aload_n hx hb dX10_readUnit_156 rfl (lv_at hl 1 rfl) ?_
                refine lv_iload_n hx hb dX10_readUnit_157 rfl (lv_at hl 0 rfl) ?_
                refine jnV (wr := [(z 3, aI V 900 fz3)]) (rnV (rest := []) ⟨hx, hb, hml, hown, hg⟩ (k_X10_codes_0 l V z 3004 f_254 pz0_0 pz0_5 v_255 v_256 pz0_8 v_257 v_258 v_259 v_260 pz0_13 pz0_14 pz0_18 pz0_19 pz0_22 pz0_23 pz0_29 tf_254 bpz0_5 bv_255 bv_256 bpz0_8 bv_258 bv_259 bv_260 bpz0_13 bpz0_14 bpz0_18 bpz0_22 bpz0_29 (PS_n hf1 rx_265 bv_255 (by decide) (by omega))) mt_X10_codes q_6_199 ⟨Nat.le_of_ble_eq_true rfl, Nat.le_of_ble_eq_true rfl⟩ hK hP hD hS hA hE [0, 2] rfl rfl 2 rfl rfl rfl rfl hl.1 rfl (Nat.le_of_ble_eq_true rfl) dX10_readUnit_158 ⟨Nat.le_of_ble_eq_true rfl, Nat.le_of_ble_eq_true rfl⟩) hP hD hS hA [0, 2] [1] rfl rfl rfl (by decide) (fun  w H locs hw hP hD hS => ?_)
                obtain ⟨f_266, tf_266, g_267, g_268, rfl⟩ := hw
                have hP : va_P V.1 vwCl [(z 3, aI V 900 fz3), (z 4, aI V 1025 f_266), (z 0, .inr (10, mo z pz0_0 pz0_5 v_255 v_256 pz0_8 v_257 v_258 v_259 v_260 pz0_13 pz0_14 pz0_18 pz0_19 pz0_22 pz0_23 pz0_29))] H := hP
                have hD : va_D A [(z 3, aI V 900 fz3), (z 4, aI V 1025 f_266), (z 0, .inr (10, mo z pz0_0 pz0_5 v_255 v_256 pz0_8 v_257 v_258 v_259 v_260 pz0_13 pz0_14 pz0_18 pz0_19 pz0_22 pz0_23 pz0_29))] := hD
                have rx_269 : RX pz0_11 pz0_6 fz4 v_259 v_255 f_266 1 ((0 : Int)) := by have q9 := RX_c rx_265 tf_254 g_267 (by decide) ⟨by decide, by decide⟩ (by decide) (PS_n hf1 rx_265 bv_255 (by decide) (by omega)); rw [(by decide : eff (3004 : Int32) = -1)] at q9; exact RX_w q9 (by omega)
                have hP := subP (ws' := [(z 4, aI V 1025 f_266), (z 3, aI V 900 fz3), (z 0, .inr (10, mo z pz0_0 pz0_5 v_255 v_256 pz0_8 v_257 v_258 v_259 v_260 pz0_13 pz0_14 pz0_18 pz0_19 pz0_22 pz0_23 pz0_29))]) hP [1, 0, 2] rfl
                have hD := hD.sub (ws' := [(z 4, aI V 1025 f_266), (z 3, aI V 900 fz3), (z 0, .inr (10, mo z pz0_0 pz0_5 v_255 v_256 pz0_8 v_257 v_258 v_259 v_260 pz0_13 pz0_14 pz0_18 pz0_19 pz0_22 pz0_23 pz0_29))]) [1, 0, 2] rfl rfl
                exact fiV hx hb hr hlk hK hP hD hS dX10_readUnit_161 (Nat.le_of_ble_eq_true rfl) (Nat.le_of_ble_eq_true rfl) (⟨f_266, v_255, v_256, v_257, v_258, v_259, v_260, tf_266, bv_255, bv_256, bv_258, bv_259, bv_260, g_261, (PS_x hf1 rx_269 (by omega)), (by have z_0 := g_20; have z_1 := g_252; have z_2 := g_263;have y_0 := hf0.1; have y_1 := g_18.1; have y_2 := g_251.1; have y_3 := g_261.1; omega), (RX_w rx_269 (by omega)), rfl⟩)
      · have b_270 : iv 1 1 r_23 := iv_n0 c_26 br_23 (iv_c (0 : Int32) (a := 0) (b := 0) (by decide)) (by decide)
        have c_271 : v_16 = 0 := (g_24 (iv_eqp b_270 (iv_c (1 : Int32) (by decide))))
        have b_272 : iv 0 0 v_16 := iv_q c_271 (iv_c (0 : Int32) (a := 0) (b := 0) (by decide))
        have c_273 : v_14 = 39 := (g_25 (iv_eqp b_270 (iv_c (1 : Int32) (by decide))))
        have b_274 : iv 39 39 v_14 := iv_q c_273 (iv_c (39 : Int32) (a := 39) (b := 39) (by decide))
        refine lv_sipush (v := 3003) hx hb dX10_readUnit_87 (by decide) ?_
        refine lv_goto (tgt := 111) hx hb dX10_readUnit_90 (by decide) ?_
        refine lv_istore_n (lv' := [(2, .int 3003), (0, .ref (z 0)), (1, .int 6)]) hx hb dX10_readUnit_111 rfl hl (by decide) rfl (fun ls hl => ?_)
        refine lv_aload_n hx hb dX10_readUnit_112 rfl (lv_at hl 1 rfl) ?_
        refine lv_bipush (v := 39) hx hb dX10_readUnit_113 (by decide) ?_
        refine jnI (wr := [(z 4, aI V 1025 f_11), (z 3, aI V 900 fz3)]) (rnV (rest := []) ⟨hx, hb, hml, hown, hg⟩ (k_X10_is_16 l V z pz0_0 pz0_5 v_12 v_13 pz0_8 v_14 v_15 v_16 v_17 pz0_13 pz0_14 pz0_18 pz0_19 pz0_22 pz0_23 pz0_29 bpz0_5 bv_12 bv_13 bpz0_8 bv_15 (iv_w b_272 (by decide)) bv_17 bpz0_13 bpz0_14 bpz0_18 bpz0_22 bpz0_29) mt_X10_is q_6_143 ⟨Nat.le_of_ble_eq_true rfl, Nat.le_of_ble_eq_true rfl⟩ hK hP hD hS hA hE [2] rfl rfl 2 rfl rfl rfl rfl hl.1 rfl (Nat.le_of_ble_eq_true rfl) dX10_readUnit_115 ⟨Nat.le_of_ble_eq_true rfl, Nat.le_of_ble_eq_true rfl⟩) hP hD hS hA [2] [0, 1] rfl rfl rfl (by decide) (fun r_275 w H locs hw hP hD hS => ?_)
        obtain ⟨br_275, g_276, g_277, rfl⟩ := hw
        have hP : va_P V.1 vwCl [(z 4, aI V 1025 f_11), (z 3, aI V 900 fz3), (z 0, .inr (10, mo z pz0_0 pz0_5 v_12 v_13 pz0_8 v_14 v_15 v_16 v_17 pz0_13 pz0_14 pz0_18 pz0_19 pz0_22 pz0_23 pz0_29))] H := hP
        have hD : va_D A [(z 4, aI V 1025 f_11), (z 3, aI V 900 fz3), (z 0, .inr (10, mo z pz0_0 pz0_5 v_12 v_13 pz0_8 v_14 v_15 v_16 v_17 pz0_13 pz0_14 pz0_18 pz0_19 pz0_22 pz0_23 pz0_29))] := hD
        refine lv_if_ne (tgt := 139) hx hb dX10_readUnit_118 (by decide) (fun c_278 => ?_) (fun c_278 => ?_)
        · have b_279 : iv 1 1 r_275 := iv_n0 c_278 br_275 (iv_c (0 : Int32) (a := 0) (b := 0) (by decide)) (by decide)
          have c_280 : v_16 = 0 := (g_276 (iv_eqp b_279 (iv_c (1 : Int32) (by decide))))
          have c_281 : v_14 = 39 := (g_277 (iv_eqp b_279 (iv_c (1 : Int32) (by decide))))
          refine lv_aload_n hx hb dX10_readUnit_139 rfl (lv_at hl 1 rfl) ?_
          refine jnV (wr := [(z 4, aI V 1025 f_11)]) (rnV (rest := []) ⟨hx, hb, hml, hown, hg⟩ (k_X10_next_0 l V z pz0_0 pz0_5 v_12 v_13 pz0_8 v_14 v_15 v_16 v_17 pz0_13 pz0_14 pz0_18 pz0_19 pz0_22 pz0_23 pz0_29 fz3 bpz0_5 bv_12 bv_13 bpz0_8 bv_15 (iv_w b_272 (by decide)) bv_17 bpz0_13 bpz0_14 bpz0_18 bpz0_22 bpz0_29 g_18.2.1) mt_X10_next q_6_117 ⟨Nat.le_of_ble_eq_true rfl, Nat.le_of_ble_eq_true rfl⟩ hK hP hD hS hA hE [2, 1] rfl rfl 2 rfl rfl rfl rfl hl.1 rfl (Nat.le_of_ble_eq_true rfl) dX10_readUnit_140 ⟨Nat.le_of_ble_eq_true rfl, Nat.le_of_ble_eq_true rfl⟩) hP hD hS hA [2, 1] [0] rfl rfl rfl (by decide) (fun  w H locs hw hP hD hS => ?_)
          obtain ⟨v_282, v_283, v_284, v_285, bv_282, bv_283, bv_285, g_286, g_287, rfl⟩ := hw
          have hP : va_P V.1 vwCl [(z 4, aI V 1025 f_11), (z 0, .inr (10, mo z pz0_0 pz0_5 v_282 v_283 pz0_8 v_284 v_285 v_16 v_17 pz0_13 pz0_14 pz0_18 pz0_19 pz0_22 pz0_23 pz0_29)), (z 3, aI V 900 fz3)] H := hP
          have hD : va_D A [(z 4, aI V 1025 f_11), (z 0, .inr (10, mo z pz0_0 pz0_5 v_282 v_283 pz0_8 v_284 v_285 v_16 v_17 pz0_13 pz0_14 pz0_18 pz0_19 pz0_22 pz0_23 pz0_29)), (z 3, aI V 900 fz3)] := hD
          have rx_288 : RX pz0_11 pz0_6 fz4 v_16 v_282 f_11 1 ((1 : Int)) := by have q9 := RX_a (a' := v_282) rx_22 (fun q8 => q8) (t := 1) (by have q9 := g_287; have q8 := g_18.2.2 (by rw [c_281]; decide); omega); exact RX_w q9 (by omega)
          refine lv_goto (tgt := 151) hx hb dX10_readUnit_143 (by decide) ?_
          refine lv_aload_n hx hb dX10_readUnit_151 rfl (lv_at hl 1 rfl) ?_
          refine lv_iload_n hx hb dX10_readUnit_152 rfl (lv_at hl 2 rfl) ?_
          refine jnV (wr := []) (rnV (rest := []) ⟨hx, hb, hml, hown, hg⟩ (k_X10_readSum_0 l V z f_11 fz3 pz0_0 pz0_5 v_282 v_283 pz0_8 v_284 v_285 v_16 v_17 pz0_13 pz0_14 pz0_18 pz0_19 pz0_22 pz0_23 pz0_29 tf_11 bpz0_5 bv_282 bv_283 bpz0_8 bv_285 (iv_w b_272 (by decide)) bv_17 bpz0_13 bpz0_14 bpz0_18 bpz0_22 bpz0_29 g_286 (PS_x hf1 rx_288 (by omega))) mt_X10_readSum q_6_187 ⟨Nat.le_of_ble_eq_true rfl, Nat.le_of_ble_eq_true rfl⟩ hK hP hD hS hA hE [0, 2, 1] rfl rfl 1 rfl rfl rfl rfl hl.1 rfl (Nat.le_of_ble_eq_true rfl) dX10_readUnit_153 ⟨Nat.le_of_ble_eq_true rfl, Nat.le_of_ble_eq_true rfl⟩) hP hD hS hA [0, 2, 1] [] rfl rfl rfl (by decide) (fun  w H locs hw hP hD hS => ?_)
          obtain ⟨f_289, v_290, v_291, v_292, v_293, v_294, v_295, tf_289, bv_290, bv_291, bv_293, bv_294, bv_295, g_296, g_297, g_298, g_299, rfl⟩ := hw
          have hP : va_P V.1 vwCl [(z 4, aI V 1025 f_289), (z 3, aI V 900 fz3), (z 0, .inr (10, mo z pz0_0 pz0_5 v_290 v_291 pz0_8 v_292 v_293 v_294 v_295 pz0_13 pz0_14 pz0_18 pz0_19 pz0_22 pz0_23 pz0_29))] H := hP
          have hD : va_D A [(z 4, aI V 1025 f_289), (z 3, aI V 900 fz3), (z 0, .inr (10, mo z pz0_0 pz0_5 v_290 v_291 pz0_8 v_292 v_293 v_294 v_295 pz0_13 pz0_14 pz0_18 pz0_19 pz0_22 pz0_23 pz0_29))] := hD
          have rx_300 : RX pz0_11 pz0_6 fz4 v_294 v_290 f_289 2 ((1 : Int)) := by have q9 := RX_seq (by decide) rx_288 g_299; exact RX_w q9 (by omega)
          refine lv_aload_n hx hb dX10_readUnit_156 rfl (lv_at hl 1 rfl) ?_
          refine lv_iload_n hx hb dX10_readUnit_157 rfl (lv_at hl 0 rfl) ?_
          refine jnV (wr := [(z 3, aI V 900 fz3)]) (rnV (rest := []) ⟨hx, hb, hml, hown, hg⟩ (k_X10_codes_0 l V z 3003 f_289 pz0_0 pz0_5 v_290 v_291 pz0_8 v_292 v_293 v_294 v_295 pz0_13 pz0_14 pz0_18 pz0_19 pz0_22 pz0_23 pz0_29 tf_289 bpz0_5 bv_290 bv_291 bpz0_8 bv_293 bv_294 bv_295 bpz0_13 bpz0_14 bpz0_18 bpz0_22 bpz0_29 (PS_n hf1 rx_300 bv_290 (by decide) (by omega))) mt_X10_codes q_6_199 ⟨Nat.le_of_ble_eq_true rfl, Nat.le_of_ble_eq_true rfl⟩ hK hP hD hS hA hE [0, 2] rfl rfl 2 rfl rfl rfl rfl hl.1 rfl (Nat.le_of_ble_eq_true rfl) dX10_readUnit_158 ⟨Nat.le_of_ble_eq_true rfl, Nat.le_of_ble_eq_true rfl⟩) hP hD hS hA [0, 2] [1] rfl rfl rfl (by decide) (fun  w H locs hw hP hD hS => ?_)
          obtain ⟨f_301, tf_301, g_302, g_303, rfl⟩ := hw
          have hP : va_P V.1 vwCl [(z 3, aI V 900 fz3), (z 4, aI V 1025 f_301), (z 0, .inr (10, mo z pz0_0 pz0_5 v_290 v_291 pz0_8 v_292 v_293 v_294 v_295 pz0_13 pz0_14 pz0_18 pz0_19 pz0_22 pz0_23 pz0_29))] H := hP
          have hD : va_D A [(z 3, aI V 900 fz3), (z 4, aI V 1025 f_301), (z 0, .inr (10, mo z pz0_0 pz0_5 v_290 v_291 pz0_8 v_292 v_293 v_294 v_295 pz0_13 pz0_14 pz0_18 pz0_19 pz0_22 pz0_23 pz0_29))] := hD
          have rx_304 : RX pz0_11 pz0_6 fz4 v_294 v_290 f_301 1 ((0 : Int)) := by have q9 := RX_c rx_300 tf_289 g_302 (by decide) ⟨by decide, by decide⟩ (by decide) (PS_n hf1 rx_300 bv_290 (by decide) (by omega)); rw [(by decide : eff (3003 : Int32) = -1)] at q9; exact RX_w q9 (by omega)
          have hP := subP (ws' := [(z 4, aI V 1025 f_301), (z 3, aI V 900 fz3), (z 0, .inr (10, mo z pz0_0 pz0_5 v_290 v_291 pz0_8 v_292 v_293 v_294 v_295 pz0_13 pz0_14 pz0_18 pz0_19 pz0_22 pz0_23 pz0_29))]) hP [1, 0, 2] rfl
          have hD := hD.sub (ws' := [(z 4, aI V 1025 f_301), (z 3, aI V 900 fz3), (z 0, .inr (10, mo z pz0_0 pz0_5 v_290 v_291 pz0_8 v_292 v_293 v_294 v_295 pz0_13 pz0_14 pz0_18 pz0_19 pz0_22 pz0_23 pz0_29))]) [1, 0, 2] rfl rfl
          exact fiV hx hb hr hlk hK hP hD hS dX10_readUnit_161 (Nat.le_of_ble_eq_true rfl) (Nat.le_of_ble_eq_true rfl) (⟨f_301, v_290, v_291, v_292, v_293, v_294, v_295, tf_301, bv_290, bv_291, bv_293, bv_294, bv_295, g_296, (PS_x hf1 rx_304 (by omega)), (by have z_0 := g_20; have z_1 := g_287; have z_2 := g_298;have y_0 := hf0.1; have y_1 := g_18.1; have y_2 := g_286.1; have y_3 := g_296.1; omega), (RX_w rx_304 (by omega)), rfl⟩)
        · have b_305 : iv 0 0 r_275 := iv_q c_278 (iv_c (0 : Int32) (a := 0) (b := 0) (by decide))
          refine lv_aload_n hx hb dX10_readUnit_121 rfl (lv_at hl 1 rfl) ?_
          refine lv_bipush (v := 40) hx hb dX10_readUnit_122 (by decide) ?_
          refine jnI (wr := [(z 4, aI V 1025 f_11), (z 3, aI V 900 fz3)]) (rnV (rest := []) ⟨hx, hb, hml, hown, hg⟩ (k_X10_is_17 l V z pz0_0 pz0_5 v_12 v_13 pz0_8 v_14 v_15 v_16 v_17 pz0_13 pz0_14 pz0_18 pz0_19 pz0_22 pz0_23 pz0_29 bpz0_5 bv_12 bv_13 bpz0_8 bv_15 (iv_w b_272 (by decide)) bv_17 bpz0_13 bpz0_14 bpz0_18 bpz0_22 bpz0_29) mt_X10_is q_6_143 ⟨Nat.le_of_ble_eq_true rfl, Nat.le_of_ble_eq_true rfl⟩ hK hP hD hS hA hE [2] rfl rfl 2 rfl rfl rfl rfl hl.1 rfl (Nat.le_of_ble_eq_true rfl) dX10_readUnit_124 ⟨Nat.le_of_ble_eq_true rfl, Nat.le_of_ble_eq_true rfl⟩) hP hD hS hA [2] [0, 1] rfl rfl rfl (by decide) (fun r_306 w H locs hw hP hD hS => ?_)
          obtain ⟨br_306, g_307, g_308, rfl⟩ := hw
          have hP : va_P V.1 vwCl [(z 4, aI V 1025 f_11), (z 3, aI V 900 fz3), (z 0, .inr (10, mo z pz0_0 pz0_5 v_12 v_13 pz0_8 v_14 v_15 v_16 v_17 pz0_13 pz0_14 pz0_18 pz0_19 pz0_22 pz0_23 pz0_29))] H := hP
          have hD : va_D A [(z 4, aI V 1025 f_11), (z 3, aI V 900 fz3), (z 0, .inr (10, mo z pz0_0 pz0_5 v_12 v_13 pz0_8 v_14 v_15 v_16 v_17 pz0_13 pz0_14 pz0_18 pz0_19 pz0_22 pz0_23 pz0_29))] := hD
          refine lv_if_ne (tgt := 139) hx hb dX10_readUnit_127 (by decide) (fun c_309 => ?_) (fun c_309 => ?_)
          · have b_310 : iv 1 1 r_306 := iv_n0 c_309 br_306 (iv_c (0 : Int32) (a := 0) (b := 0) (by decide)) (by decide)
            have c_311 : v_16 = 0 := (g_307 (iv_eqp b_310 (iv_c (1 : Int32) (by decide))))
            have c_312 : v_14 = 40 := (g_308 (iv_eqp b_310 (iv_c (1 : Int32) (by decide))))
            have b_313 : iv 40 40 v_14 := iv_q c_312 (iv_c (40 : Int32) (a := 40) (b := 40) (by decide))
            refine lv_aload_n hx hb dX10_readUnit_139 rfl (lv_at hl 1 rfl) ?_
            refine jnV (wr := [(z 4, aI V 1025 f_11)]) (rnV (rest := []) ⟨hx, hb, hml, hown, hg⟩ (k_X10_next_0 l V z pz0_0 pz0_5 v_12 v_13 pz0_8 v_14 v_15 v_16 v_17 pz0_13 pz0_14 pz0_18 pz0_19 pz0_22 pz0_23 pz0_29 fz3 bpz0_5 bv_12 bv_13 bpz0_8 bv_15 (iv_w b_272 (by decide)) bv_17 bpz0_13 bpz0_14 bpz0_18 bpz0_22 bpz0_29 g_18.2.1) mt_X10_next q_6_117 ⟨Nat.le_of_ble_eq_true rfl, Nat.le_of_ble_eq_true rfl⟩ hK hP hD hS hA hE [2, 1] rfl rfl 2 rfl rfl rfl rfl hl.1 rfl (Nat.le_of_ble_eq_true rfl) dX10_readUnit_140 ⟨Nat.le_of_ble_eq_true rfl, Nat.le_of_ble_eq_true rfl⟩) hP hD hS hA [2, 1] [0] rfl rfl rfl (by decide) (fun  w H locs hw hP hD hS => ?_)
            obtain ⟨v_314, v_315, v_316, v_317, bv_314, bv_315, bv_317, g_318, g_319, rfl⟩ := hw
            have hP : va_P V.1 vwCl [(z 4, aI V 1025 f_11), (z 0, .inr (10, mo z pz0_0 pz0_5 v_314 v_315 pz0_8 v_316 v_317 v_16 v_17 pz0_13 pz0_14 pz0_18 pz0_19 pz0_22 pz0_23 pz0_29)), (z 3, aI V 900 fz3)] H := hP
            have hD : va_D A [(z 4, aI V 1025 f_11), (z 0, .inr (10, mo z pz0_0 pz0_5 v_314 v_315 pz0_8 v_316 v_317 v_16 v_17 pz0_13 pz0_14 pz0_18 pz0_19 pz0_22 pz0_23 pz0_29)), (z 3, aI V 900 fz3)] := hD
            have rx_320 : RX pz0_11 pz0_6 fz4 v_16 v_314 f_11 1 ((1 : Int)) := by have q9 := RX_a (a' := v_314) rx_22 (fun q8 => q8) (t := 1) (by have q9 := g_319; have q8 := g_18.2.2 (by rw [c_312]; decide); omega); exact RX_w q9 (by omega)
            refine lv_goto (tgt := 151) hx hb dX10_readUnit_143 (by decide) ?_
            refine lv_aload_n hx hb dX10_readUnit_151 rfl (lv_at hl 1 rfl) ?_
            refine lv_iload_n hx hb dX10_readUnit_152 rfl (lv_at hl 2 rfl) ?_
            refine jnV (wr := []) (rnV (rest := []) ⟨hx, hb, hml, hown, hg⟩ (k_X10_readSum_0 l V z f_11 fz3 pz0_0 pz0_5 v_314 v_315 pz0_8 v_316 v_317 v_16 v_17 pz0_13 pz0_14 pz0_18 pz0_19 pz0_22 pz0_23 pz0_29 tf_11 bpz0_5 bv_314 bv_315 bpz0_8 bv_317 (iv_w b_272 (by decide)) bv_17 bpz0_13 bpz0_14 bpz0_18 bpz0_22 bpz0_29 g_318 (PS_x hf1 rx_320 (by omega))) mt_X10_readSum q_6_187 ⟨Nat.le_of_ble_eq_true rfl, Nat.le_of_ble_eq_true rfl⟩ hK hP hD hS hA hE [0, 2, 1] rfl rfl 1 rfl rfl rfl rfl hl.1 rfl (Nat.le_of_ble_eq_true rfl) dX10_readUnit_153 ⟨Nat.le_of_ble_eq_true rfl, Nat.le_of_ble_eq_true rfl⟩) hP hD hS hA [0, 2, 1] [] rfl rfl rfl (by decide) (fun  w H locs hw hP hD hS => ?_)
            obtain ⟨f_321, v_322, v_323, v_324, v_325, v_326, v_327, tf_321, bv_322, bv_323, bv_325, bv_326, bv_327, g_328, g_329, g_330, g_331, rfl⟩ := hw
            have hP : va_P V.1 vwCl [(z 4, aI V 1025 f_321), (z 3, aI V 900 fz3), (z 0, .inr (10, mo z pz0_0 pz0_5 v_322 v_323 pz0_8 v_324 v_325 v_326 v_327 pz0_13 pz0_14 pz0_18 pz0_19 pz0_22 pz0_23 pz0_29))] H := hP
            have hD : va_D A [(z 4, aI V 1025 f_321), (z 3, aI V 900 fz3), (z 0, .inr (10, mo z pz0_0 pz0_5 v_322 v_323 pz0_8 v_324 v_325 v_326 v_327 pz0_13 pz0_14 pz0_18 pz0_19 pz0_22 pz0_23 pz0_29))] := hD
            have rx_332 : RX pz0_11 pz0_6 fz4 v_326 v_322 f_321 2 ((1 : Int)) := by have q9 := RX_seq (by decide) rx_320 g_331; exact RX_w q9 (by omega)
            refine lv_aload_n hx hb dX10_readUnit_156 rfl (lv_at hl 1 rfl) ?_
            refine lv_iload_n hx hb dX10_readUnit_157 rfl (lv_at hl 0 rfl) ?_
            refine jnV (wr := [(z 3, aI V 900 fz3)]) (rnV (rest := []) ⟨hx, hb, hml, hown, hg⟩ (k_X10_codes_0 l V z 3003 f_321 pz0_0 pz0_5 v_322 v_323 pz0_8 v_324 v_325 v_326 v_327 pz0_13 pz0_14 pz0_18 pz0_19 pz0_22 pz0_23 pz0_29 tf_321 bpz0_5 bv_322 bv_323 bpz0_8 bv_325 bv_326 bv_327 bpz0_13 bpz0_14 bpz0_18 bpz0_22 bpz0_29 (PS_n hf1 rx_332 bv_322 (by decide) (by omega))) mt_X10_codes q_6_199 ⟨Nat.le_of_ble_eq_true rfl, Nat.le_of_ble_eq_true rfl⟩ hK hP hD hS hA hE [0, 2] rfl rfl 2 rfl rfl rfl rfl hl.1 rfl (Nat.le_of_ble_eq_true rfl) dX10_readUnit_158 ⟨Nat.le_of_ble_eq_true rfl, Nat.le_of_ble_eq_true rfl⟩) hP hD hS hA [0, 2] [1] rfl rfl rfl (by decide) (fun  w H locs hw hP hD hS => ?_)
            obtain ⟨f_333, tf_333, g_334, g_335, rfl⟩ := hw
            have hP : va_P V.1 vwCl [(z 3, aI V 900 fz3), (z 4, aI V 1025 f_333), (z 0, .inr (10, mo z pz0_0 pz0_5 v_322 v_323 pz0_8 v_324 v_325 v_326 v_327 pz0_13 pz0_14 pz0_18 pz0_19 pz0_22 pz0_23 pz0_29))] H := hP
            have hD : va_D A [(z 3, aI V 900 fz3), (z 4, aI V 1025 f_333), (z 0, .inr (10, mo z pz0_0 pz0_5 v_322 v_323 pz0_8 v_324 v_325 v_326 v_327 pz0_13 pz0_14 pz0_18 pz0_19 pz0_22 pz0_23 pz0_29))] := hD
            have rx_336 : RX pz0_11 pz0_6 fz4 v_326 v_322 f_333 1 ((0 : Int)) := by have q9 := RX_c rx_332 tf_321 g_334 (by decide) ⟨by decide, by decide⟩ (by decide) (PS_n hf1 rx_332 bv_322 (by decide) (by omega)); rw [(by decide : eff (3003 : Int32) = -1)] at q9; exact RX_w q9 (by omega)
            have hP := subP (ws' := [(z 4, aI V 1025 f_333), (z 3, aI V 900 fz3), (z 0, .inr (10, mo z pz0_0 pz0_5 v_322 v_323 pz0_8 v_324 v_325 v_326 v_327 pz0_13 pz0_14 pz0_18 pz0_19 pz0_22 pz0_23 pz0_29))]) hP [1, 0, 2] rfl
            have hD := hD.sub (ws' := [(z 4, aI V 1025 f_333), (z 3, aI V 900 fz3), (z 0, .inr (10, mo z pz0_0 pz0_5 v_322 v_323 pz0_8 v_324 v_325 v_326 v_327 pz0_13 pz0_14 pz0_18 pz0_19 pz0_22 pz0_23 pz0_29))]) [1, 0, 2] rfl rfl
            exact fiV hx hb hr hlk hK hP hD hS dX10_readUnit_161 (Nat.le_of_ble_eq_true rfl) (Nat.le_of_ble_eq_true rfl) (⟨f_333, v_322, v_323, v_324, v_325, v_326, v_327, tf_333, bv_322, bv_323, bv_325, bv_326, bv_327, g_328, (PS_x hf1 rx_336 (by omega)), (by have z_0 := g_20; have z_1 := g_319; have z_2 := g_330;have y_0 := hf0.1; have y_1 := g_18.1; have y_2 := g_318.1; have y_3 := g_328.1; omega), (RX_w rx_336 (by omega)), rfl⟩)
          · have b_337 : iv 0 0 r_306 := iv_q c_309 (iv_c (0 : Int32) (a := 0) (b := 0) (by decide))
            refine lv_aload_n hx hb dX10_readUnit_130 rfl (lv_at hl 1 rfl) ?_
            refine lv_bipush (v := 41) hx hb dX10_readUnit_131 (by decide) ?_
            refine jnI (wr := [(z 4, aI V 1025 f_11), (z 3, aI V 900 fz3)]) (rnV (rest := []) ⟨hx, hb, hml, hown, hg⟩ (k_X10_is_18 l V z pz0_0 pz0_5 v_12 v_13 pz0_8 v_14 v_15 v_16 v_17 pz0_13 pz0_14 pz0_18 pz0_19 pz0_22 pz0_23 pz0_29 bpz0_5 bv_12 bv_13 bpz0_8 bv_15 (iv_w b_272 (by decide)) bv_17 bpz0_13 bpz0_14 bpz0_18 bpz0_22 bpz0_29) mt_X10_is q_6_143 ⟨Nat.le_of_ble_eq_true rfl, Nat.le_of_ble_eq_true rfl⟩ hK hP hD hS hA hE [2] rfl rfl 2 rfl rfl rfl rfl hl.1 rfl (Nat.le_of_ble_eq_true rfl) dX10_readUnit_133 ⟨Nat.le_of_ble_eq_true rfl, Nat.le_of_ble_eq_true rfl⟩) hP hD hS hA [2] [0, 1] rfl rfl rfl (by decide) (fun r_338 w H locs hw hP hD hS => ?_)
            obtain ⟨br_338, g_339, g_340, rfl⟩ := hw
            have hP : va_P V.1 vwCl [(z 4, aI V 1025 f_11), (z 3, aI V 900 fz3), (z 0, .inr (10, mo z pz0_0 pz0_5 v_12 v_13 pz0_8 v_14 v_15 v_16 v_17 pz0_13 pz0_14 pz0_18 pz0_19 pz0_22 pz0_23 pz0_29))] H := hP
            have hD : va_D A [(z 4, aI V 1025 f_11), (z 3, aI V 900 fz3), (z 0, .inr (10, mo z pz0_0 pz0_5 v_12 v_13 pz0_8 v_14 v_15 v_16 v_17 pz0_13 pz0_14 pz0_18 pz0_19 pz0_22 pz0_23 pz0_29))] := hD
            refine lv_if_eq (tgt := 146) hx hb dX10_readUnit_136 (by decide) (fun c_341 => ?_) (fun c_341 => ?_)
            · have b_342 : iv 0 0 r_338 := iv_q c_341 (iv_c (0 : Int32) (a := 0) (b := 0) (by decide))
              refine lv_aload_n hx hb dX10_readUnit_146 rfl (lv_at hl 1 rfl) ?_
              refine lv_iconst (v := 2) hx hb dX10_readUnit_147 (by decide) ?_
              refine jnV (wr := [(z 4, aI V 1025 f_11), (z 3, aI V 900 fz3)]) (rnV (rest := []) ⟨hx, hb, hml, hown, hg⟩ (k_X10_fails_0 l V z 2 pz0_0 pz0_5 v_12 v_13 pz0_8 v_14 v_15 v_16 v_17 pz0_13 pz0_14 pz0_18 pz0_19 pz0_22 pz0_23 pz0_29 (iv_c (2 : Int32) (by decide)) bpz0_5 bv_12 bv_13 bpz0_8 bv_15 (iv_w b_272 (by decide)) bv_17 bpz0_13 bpz0_14 bpz0_18 bpz0_22 bpz0_29) mt_X10_fails q_6_147 ⟨Nat.le_of_ble_eq_true rfl, Nat.le_of_ble_eq_true rfl⟩ hK hP hD hS hA hE [2] rfl rfl 2 rfl rfl rfl rfl hl.1 rfl (Nat.le_of_ble_eq_true rfl) dX10_readUnit_148 ⟨Nat.le_of_ble_eq_true rfl, Nat.le_of_ble_eq_true rfl⟩) hP hD hS hA [2] [0, 1] rfl rfl rfl (by decide) (fun  w H locs hw hP hD hS => ?_)
              obtain ⟨v_343, v_344, bv_343, bv_344, rfl⟩ := hw
              have hP : va_P V.1 vwCl [(z 4, aI V 1025 f_11), (z 3, aI V 900 fz3), (z 0, .inr (10, mo z pz0_0 pz0_5 v_12 v_13 pz0_8 v_14 v_15 v_343 v_344 pz0_13 pz0_14 pz0_18 pz0_19 pz0_22 pz0_23 pz0_29))] H := hP
              have hD : va_D A [(z 4, aI V 1025 f_11), (z 3, aI V 900 fz3), (z 0, .inr (10, mo z pz0_0 pz0_5 v_12 v_13 pz0_8 v_14 v_15 v_343 v_344 pz0_13 pz0_14 pz0_18 pz0_19 pz0_22 pz0_23 pz0_29))] := hD
              have rx_345 : RX pz0_11 pz0_6 fz4 v_343 v_12 f_11 1 ((9 : Int)) := RX_f bv_343 (by decide)
              refine lv_aload_n hx hb dX10_readUnit_151 rfl (lv_at hl 1 rfl) ?_
              refine lv_iload_n hx hb dX10_readUnit_152 rfl (lv_at hl 2 rfl) ?_
              refine jnV (wr := []) (rnV (rest := []) ⟨hx, hb, hml, hown, hg⟩ (k_X10_readSum_0 l V z f_11 fz3 pz0_0 pz0_5 v_12 v_13 pz0_8 v_14 v_15 v_343 v_344 pz0_13 pz0_14 pz0_18 pz0_19 pz0_22 pz0_23 pz0_29 tf_11 bpz0_5 bv_12 bv_13 bpz0_8 bv_15 (iv_w bv_343 (by decide)) bv_344 bpz0_13 bpz0_14 bpz0_18 bpz0_22 bpz0_29 g_18 (PS_f bv_343 (by decide))) mt_X10_readSum q_6_187 ⟨Nat.le_of_ble_eq_true rfl, Nat.le_of_ble_eq_true rfl⟩ hK hP hD hS hA hE [0, 1, 2] rfl rfl 2 rfl rfl rfl rfl hl.1 rfl (Nat.le_of_ble_eq_true rfl) dX10_readUnit_153 ⟨Nat.le_of_ble_eq_true rfl, Nat.le_of_ble_eq_true rfl⟩) hP hD hS hA [0, 1, 2] [] rfl rfl rfl (by decide) (fun  w H locs hw hP hD hS => ?_)
              obtain ⟨f_346, v_347, v_348, v_349, v_350, v_351, v_352, tf_346, bv_347, bv_348, bv_350, bv_351, bv_352, g_353, g_354, g_355, g_356, rfl⟩ := hw
              have hP : va_P V.1 vwCl [(z 4, aI V 1025 f_346), (z 3, aI V 900 fz3), (z 0, .inr (10, mo z pz0_0 pz0_5 v_347 v_348 pz0_8 v_349 v_350 v_351 v_352 pz0_13 pz0_14 pz0_18 pz0_19 pz0_22 pz0_23 pz0_29))] H := hP
              have hD : va_D A [(z 4, aI V 1025 f_346), (z 3, aI V 900 fz3), (z 0, .inr (10, mo z pz0_0 pz0_5 v_347 v_348 pz0_8 v_349 v_350 v_351 v_352 pz0_13 pz0_14 pz0_18 pz0_19 pz0_22 pz0_23 pz0_29))] := hD
              have rx_357 : RX pz0_11 pz0_6 fz4 v_351 v_347 f_346 2 ((9 : Int)) := by have q9 := RX_seq (by decide) rx_345 g_356; exact RX_w q9 (by omega)
              refine lv_aload_n hx hb dX10_readUnit_156 rfl (lv_at hl 1 rfl) ?_
              refine lv_iload_n hx hb dX10_readUnit_157 rfl (lv_at hl 0 rfl) ?_
              refine jnV (wr := [(z 3, aI V 900 fz3)]) (rnV (rest := []) ⟨hx, hb, hml, hown, hg⟩ (k_X10_codes_0 l V z 3003 f_346 pz0_0 pz0_5 v_347 v_348 pz0_8 v_349 v_350 v_351 v_352 pz0_13 pz0_14 pz0_18 pz0_19 pz0_22 pz0_23 pz0_29 tf_346 bpz0_5 bv_347 bv_348 bpz0_8 bv_350 bv_351 bv_352 bpz0_13 bpz0_14 bpz0_18 bpz0_22 bpz0_29 (PS_n hf1 rx_357 bv_347 (by decide) (by omega))) mt_X10_codes q_6_199 ⟨Nat.le_of_ble_eq_true rfl, Nat.le_of_ble_eq_true rfl⟩ hK hP hD hS hA hE [0, 2] rfl rfl 2 rfl rfl rfl rfl hl.1 rfl (Nat.le_of_ble_eq_true rfl) dX10_readUnit_158 ⟨Nat.le_of_ble_eq_true rfl, Nat.le_of_ble_eq_true rfl⟩) hP hD hS hA [0, 2] [1] rfl rfl rfl (by decide) (fun  w H locs hw hP hD hS => ?_)
              obtain ⟨f_358, tf_358, g_359, g_360, rfl⟩ := hw
              have hP : va_P V.1 vwCl [(z 3, aI V 900 fz3), (z 4, aI V 1025 f_358), (z 0, .inr (10, mo z pz0_0 pz0_5 v_347 v_348 pz0_8 v_349 v_350 v_351 v_352 pz0_13 pz0_14 pz0_18 pz0_19 pz0_22 pz0_23 pz0_29))] H := hP
              have hD : va_D A [(z 3, aI V 900 fz3), (z 4, aI V 1025 f_358), (z 0, .inr (10, mo z pz0_0 pz0_5 v_347 v_348 pz0_8 v_349 v_350 v_351 v_352 pz0_13 pz0_14 pz0_18 pz0_19 pz0_22 pz0_23 pz0_29))] := hD
              have rx_361 : RX pz0_11 pz0_6 fz4 v_351 v_347 f_358 1 ((8 : Int)) := by have q9 := RX_c rx_357 tf_346 g_359 (by decide) ⟨by decide, by decide⟩ (by decide) (PS_n hf1 rx_357 bv_347 (by decide) (by omega)); rw [(by decide : eff (3003 : Int32) = -1)] at q9; exact RX_w q9 (by omega)
              have hP := subP (ws' := [(z 4, aI V 1025 f_358), (z 3, aI V 900 fz3), (z 0, .inr (10, mo z pz0_0 pz0_5 v_347 v_348 pz0_8 v_349 v_350 v_351 v_352 pz0_13 pz0_14 pz0_18 pz0_19 pz0_22 pz0_23 pz0_29))]) hP [1, 0, 2] rfl
              have hD := hD.sub (ws' := [(z 4, aI V 1025 f_358), (z 3, aI V 900 fz3), (z 0, .inr (10, mo z pz0_0 pz0_5 v_347 v_348 pz0_8 v_349 v_350 v_351 v_352 pz0_13 pz0_14 pz0_18 pz0_19 pz0_22 pz0_23 pz0_29))]) [1, 0, 2] rfl rfl
              exact fiV hx hb hr hlk hK hP hD hS dX10_readUnit_161 (Nat.le_of_ble_eq_true rfl) (Nat.le_of_ble_eq_true rfl) (⟨f_358, v_347, v_348, v_349, v_350, v_351, v_352, tf_358, bv_347, bv_348, bv_350, bv_351, bv_352, g_353, (PS_x hf1 rx_361 (by omega)), (by have z_0 := g_20; have z_1 := g_355;have y_0 := hf0.1; have y_1 := g_18.1; have y_2 := g_353.1; omega), (RX_w rx_361 (by omega)), rfl⟩)
            · have b_362 : iv 1 1 r_338 := iv_n0 c_341 br_338 (iv_c (0 : Int32) (a := 0) (b := 0) (by decide)) (by decide)
              have c_363 : v_16 = 0 := (g_339 (iv_eqp b_362 (iv_c (1 : Int32) (by decide))))
              have c_364 : v_14 = 41 := (g_340 (iv_eqp b_362 (iv_c (1 : Int32) (by decide))))
              have b_365 : iv 41 41 v_14 := iv_q c_364 (iv_c (41 : Int32) (a := 41) (b := 41) (by decide))
              refine lv_aload_n hx hb dX10_readUnit_139 rfl (lv_at hl 1 rfl) ?_
              refine jnV (wr := [(z 4, aI V 1025 f_11)]) (rnV (rest := []) ⟨hx, hb, hml, hown, hg⟩ (k_X10_next_0 l V z pz0_0 pz0_5 v_12 v_13 pz0_8 v_14 v_15 v_16 v_17 pz0_13 pz0_14 pz0_18 pz0_19 pz0_22 pz0_23 pz0_29 fz3 bpz0_5 bv_12 bv_13 bpz0_8 bv_15 (iv_w b_272 (by decide)) bv_17 bpz0_13 bpz0_14 bpz0_18 bpz0_22 bpz0_29 g_18.2.1) mt_X10_next q_6_117 ⟨Nat.le_of_ble_eq_true rfl, Nat.le_of_ble_eq_true rfl⟩ hK hP hD hS hA hE [2, 1] rfl rfl 2 rfl rfl rfl rfl hl.1 rfl (Nat.le_of_ble_eq_true rfl) dX10_readUnit_140 ⟨Nat.le_of_ble_eq_true rfl, Nat.le_of_ble_eq_true rfl⟩) hP hD hS hA [2, 1] [0] rfl rfl rfl (by decide) (fun  w H locs hw hP hD hS => ?_)
              obtain ⟨v_366, v_367, v_368, v_369, bv_366, bv_367, bv_369, g_370, g_371, rfl⟩ := hw
              have hP : va_P V.1 vwCl [(z 4, aI V 1025 f_11), (z 0, .inr (10, mo z pz0_0 pz0_5 v_366 v_367 pz0_8 v_368 v_369 v_16 v_17 pz0_13 pz0_14 pz0_18 pz0_19 pz0_22 pz0_23 pz0_29)), (z 3, aI V 900 fz3)] H := hP
              have hD : va_D A [(z 4, aI V 1025 f_11), (z 0, .inr (10, mo z pz0_0 pz0_5 v_366 v_367 pz0_8 v_368 v_369 v_16 v_17 pz0_13 pz0_14 pz0_18 pz0_19 pz0_22 pz0_23 pz0_29)), (z 3, aI V 900 fz3)] := hD
              have rx_372 : RX pz0_11 pz0_6 fz4 v_16 v_366 f_11 1 ((1 : Int)) := by have q9 := RX_a (a' := v_366) rx_22 (fun q8 => q8) (t := 1) (by have q9 := g_371; have q8 := g_18.2.2 (by rw [c_364]; decide); omega); exact RX_w q9 (by omega)
              refine lv_goto (tgt := 151) hx hb dX10_readUnit_143 (by decide) ?_
              refine lv_aload_n hx hb dX10_readUnit_151 rfl (lv_at hl 1 rfl) ?_
              refine lv_iload_n hx hb dX10_readUnit_152 rfl (lv_at hl 2 rfl) ?_
              refine jnV (wr := []) (rnV (rest := []) ⟨hx, hb, hml, hown, hg⟩ (k_X10_readSum_0 l V z f_11 fz3 pz0_0 pz0_5 v_366 v_367 pz0_8 v_368 v_369 v_16 v_17 pz0_13 pz0_14 pz0_18 pz0_19 pz0_22 pz0_23 pz0_29 tf_11 bpz0_5 bv_366 bv_367 bpz0_8 bv_369 (iv_w b_272 (by decide)) bv_17 bpz0_13 bpz0_14 bpz0_18 bpz0_22 bpz0_29 g_370 (PS_x hf1 rx_372 (by omega))) mt_X10_readSum q_6_187 ⟨Nat.le_of_ble_eq_true rfl, Nat.le_of_ble_eq_true rfl⟩ hK hP hD hS hA hE [0, 2, 1] rfl rfl 1 rfl rfl rfl rfl hl.1 rfl (Nat.le_of_ble_eq_true rfl) dX10_readUnit_153 ⟨Nat.le_of_ble_eq_true rfl, Nat.le_of_ble_eq_true rfl⟩) hP hD hS hA [0, 2, 1] [] rfl rfl rfl (by decide) (fun  w H locs hw hP hD hS => ?_)
              obtain ⟨f_373, v_374, v_375, v_376, v_377, v_378, v_379, tf_373, bv_374, bv_375, bv_377, bv_378, bv_379, g_380, g_381, g_382, g_383, rfl⟩ := hw
              have hP : va_P V.1 vwCl [(z 4, aI V 1025 f_373), (z 3, aI V 900 fz3), (z 0, .inr (10, mo z pz0_0 pz0_5 v_374 v_375 pz0_8 v_376 v_377 v_378 v_379 pz0_13 pz0_14 pz0_18 pz0_19 pz0_22 pz0_23 pz0_29))] H := hP
              have hD : va_D A [(z 4, aI V 1025 f_373), (z 3, aI V 900 fz3), (z 0, .inr (10, mo z pz0_0 pz0_5 v_374 v_375 pz0_8 v_376 v_377 v_378 v_379 pz0_13 pz0_14 pz0_18 pz0_19 pz0_22 pz0_23 pz0_29))] := hD
              have rx_384 : RX pz0_11 pz0_6 fz4 v_378 v_374 f_373 2 ((1 : Int)) := by have q9 := RX_seq (by decide) rx_372 g_383; exact RX_w q9 (by omega)
              refine lv_aload_n hx hb dX10_readUnit_156 rfl (lv_at hl 1 rfl) ?_
              refine lv_iload_n hx hb dX10_readUnit_157 rfl (lv_at hl 0 rfl) ?_
              refine jnV (wr := [(z 3, aI V 900 fz3)]) (rnV (rest := []) ⟨hx, hb, hml, hown, hg⟩ (k_X10_codes_0 l V z 3003 f_373 pz0_0 pz0_5 v_374 v_375 pz0_8 v_376 v_377 v_378 v_379 pz0_13 pz0_14 pz0_18 pz0_19 pz0_22 pz0_23 pz0_29 tf_373 bpz0_5 bv_374 bv_375 bpz0_8 bv_377 bv_378 bv_379 bpz0_13 bpz0_14 bpz0_18 bpz0_22 bpz0_29 (PS_n hf1 rx_384 bv_374 (by decide) (by omega))) mt_X10_codes q_6_199 ⟨Nat.le_of_ble_eq_true rfl, Nat.le_of_ble_eq_true rfl⟩ hK hP hD hS hA hE [0, 2] rfl rfl 2 rfl rfl rfl rfl hl.1 rfl (Nat.le_of_ble_eq_true rfl) dX10_readUnit_158 ⟨Nat.le_of_ble_eq_true rfl, Nat.le_of_ble_eq_true rfl⟩) hP hD hS hA [0, 2] [1] rfl rfl rfl (by decide) (fun  w H locs hw hP hD hS => ?_)
              obtain ⟨f_385, tf_385, g_386, g_387, rfl⟩ := hw
              have hP : va_P V.1 vwCl [(z 3, aI V 900 fz3), (z 4, aI V 1025 f_385), (z 0, .inr (10, mo z pz0_0 pz0_5 v_374 v_375 pz0_8 v_376 v_377 v_378 v_379 pz0_13 pz0_14 pz0_18 pz0_19 pz0_22 pz0_23 pz0_29))] H := hP
              have hD : va_D A [(z 3, aI V 900 fz3), (z 4, aI V 1025 f_385), (z 0, .inr (10, mo z pz0_0 pz0_5 v_374 v_375 pz0_8 v_376 v_377 v_378 v_379 pz0_13 pz0_14 pz0_18 pz0_19 pz0_22 pz0_23 pz0_29))] := hD
              have rx_388 : RX pz0_11 pz0_6 fz4 v_378 v_374 f_385 1 ((0 : Int)) := by have q9 := RX_c rx_384 tf_373 g_386 (by decide) ⟨by decide, by decide⟩ (by decide) (PS_n hf1 rx_384 bv_374 (by decide) (by omega)); rw [(by decide : eff (3003 : Int32) = -1)] at q9; exact RX_w q9 (by omega)
              have hP := subP (ws' := [(z 4, aI V 1025 f_385), (z 3, aI V 900 fz3), (z 0, .inr (10, mo z pz0_0 pz0_5 v_374 v_375 pz0_8 v_376 v_377 v_378 v_379 pz0_13 pz0_14 pz0_18 pz0_19 pz0_22 pz0_23 pz0_29))]) hP [1, 0, 2] rfl
              have hD := hD.sub (ws' := [(z 4, aI V 1025 f_385), (z 3, aI V 900 fz3), (z 0, .inr (10, mo z pz0_0 pz0_5 v_374 v_375 pz0_8 v_376 v_377 v_378 v_379 pz0_13 pz0_14 pz0_18 pz0_19 pz0_22 pz0_23 pz0_29))]) [1, 0, 2] rfl rfl
              exact fiV hx hb hr hlk hK hP hD hS dX10_readUnit_161 (Nat.le_of_ble_eq_true rfl) (Nat.le_of_ble_eq_true rfl) (⟨f_385, v_374, v_375, v_376, v_377, v_378, v_379, tf_385, bv_374, bv_375, bv_377, bv_378, bv_379, g_380, (PS_x hf1 rx_388 (by omega)), (by have z_0 := g_20; have z_1 := g_371; have z_2 := g_382;have y_0 := hf0.1; have y_1 := g_18.1; have y_2 := g_370.1; have y_3 := g_380.1; omega), (RX_w rx_388 (by omega)), rfl⟩)
    · have b_389 : iv 1 1 r_6 := iv_n0 c_9 br_6 (iv_c (0 : Int32) (a := 0) (b := 0) (by decide)) (by decide)
      have c_390 : pz0_11 = 0 := (g_7 (iv_eqp b_389 (iv_c (1 : Int32) (by decide))))
      have b_391 : iv 0 0 pz0_11 := iv_q c_390 (iv_c (0 : Int32) (a := 0) (b := 0) (by decide))
      have c_392 : pz0_9 = 37 := (g_8 (iv_eqp b_389 (iv_c (1 : Int32) (by decide))))
      have b_393 : iv 37 37 pz0_9 := iv_q c_392 (iv_c (37 : Int32) (a := 37) (b := 37) (by decide))
      refine lv_aload_n hx hb dX10_readUnit_42 rfl (lv_at hl 0 rfl) ?_
      refine lv_iload_n hx hb dX10_readUnit_43 rfl (lv_at hl 1 rfl) ?_
      refine jnI (wr := [(z 4, aI V 1025 fz4), (z 3, aI V 900 fz3)]) (rnV (rest := []) ⟨hx, hb, hml, hown, hg⟩ (k_X10_goesIn_6 l V z pz0_0 pz0_5 pz0_6 pz0_7 pz0_8 pz0_9 pz0_10 pz0_11 pz0_12 pz0_13 pz0_14 pz0_18 pz0_19 pz0_22 pz0_23 pz0_29 bpz0_5 bpz0_6 bpz0_7 bpz0_8 bpz0_10 (iv_w b_391 (by decide)) bpz0_12 bpz0_13 bpz0_14 bpz0_18 bpz0_22 bpz0_29 hf0) mt_X10_goesIn q_6_207 ⟨Nat.le_of_ble_eq_true rfl, Nat.le_of_ble_eq_true rfl⟩ hK hP hD hS hA hE [2] rfl rfl 2 rfl rfl rfl rfl hl.1 rfl (Nat.le_of_ble_eq_true rfl) dX10_readUnit_44 ⟨Nat.le_of_ble_eq_true rfl, Nat.le_of_ble_eq_true rfl⟩) hP hD hS hA [2] [0, 1] rfl rfl rfl (by decide) (fun r_394 w H locs hw hP hD hS => ?_)
      obtain ⟨v_395, v_396, bv_395, bv_396, rfl, g_397, g_398, g_399, g_400, g_401, g_402, rfl⟩ := hw
      have hP : va_P V.1 vwCl [(z 4, aI V 1025 fz4), (z 3, aI V 900 fz3), (z 0, .inr (10, mo z pz0_0 pz0_5 pz0_6 pz0_7 pz0_8 pz0_9 pz0_10 v_395 v_396 pz0_13 pz0_14 pz0_18 pz0_19 pz0_22 pz0_23 pz0_29))] H := hP
      have hD : va_D A [(z 4, aI V 1025 fz4), (z 3, aI V 900 fz3), (z 0, .inr (10, mo z pz0_0 pz0_5 pz0_6 pz0_7 pz0_8 pz0_9 pz0_10 v_395 v_396 pz0_13 pz0_14 pz0_18 pz0_19 pz0_22 pz0_23 pz0_29))] := hD
      have c_403 : ¬ v_395 = 0 := (g_402 rfl)
      have b_404 : iv 1 4 v_395 := iv_n0 c_403 bv_395 (iv_c (0 : Int32) (a := 0) (b := 0) (by decide)) (by decide)
      have rx_405 : RX pz0_11 pz0_6 fz4 v_395 pz0_6 fz4 0 ((9 : Int)) := RX_f b_404 (by decide)
      refine lv_if_ne (tgt := 51) hx hb dX10_readUnit_47 (by decide) (fun c_407 => absurd c_407 (by decide)) (fun _ => ?_)
      exact fiV hx hb hr hlk hK hP hD hS dX10_readUnit_50 (Nat.le_of_ble_eq_true rfl) (Nat.le_of_ble_eq_true rfl) (⟨fz4, pz0_6, pz0_7, pz0_9, pz0_10, v_395, v_396, tfz4, bpz0_6, bpz0_7, bpz0_10, (iv_w b_404 (by decide)), bv_396, g_397, (PS_f b_404 (by decide)), (Int.le_refl _), (RX_f b_404 (by decide)), rfl⟩)
  · have b_408 : iv 1 1 r_1 := iv_n0 c_4 br_1 (iv_c (0 : Int32) (a := 0) (b := 0) (by decide)) (by decide)
    have c_409 : pz0_11 = 0 := (g_2 (iv_eqp b_408 (iv_c (1 : Int32) (by decide))))
    have b_410 : iv 0 0 pz0_11 := iv_q c_409 (iv_c (0 : Int32) (a := 0) (b := 0) (by decide))
    have c_411 : pz0_9 = 21 := (g_3 (iv_eqp b_408 (iv_c (1 : Int32) (by decide))))
    have b_412 : iv 21 21 pz0_9 := iv_q c_411 (iv_c (21 : Int32) (a := 21) (b := 21) (by decide))
    refine lv_aload_n hx hb dX10_readUnit_9 rfl (lv_at hl 0 rfl) ?_
    refine lv_iload_n hx hb dX10_readUnit_10 rfl (lv_at hl 1 rfl) ?_
    refine jnI (wr := [(z 4, aI V 1025 fz4), (z 3, aI V 900 fz3)]) (rnV (rest := []) ⟨hx, hb, hml, hown, hg⟩ (k_X10_goesIn_6 l V z pz0_0 pz0_5 pz0_6 pz0_7 pz0_8 pz0_9 pz0_10 pz0_11 pz0_12 pz0_13 pz0_14 pz0_18 pz0_19 pz0_22 pz0_23 pz0_29 bpz0_5 bpz0_6 bpz0_7 bpz0_8 bpz0_10 (iv_w b_410 (by decide)) bpz0_12 bpz0_13 bpz0_14 bpz0_18 bpz0_22 bpz0_29 hf0) mt_X10_goesIn q_6_207 ⟨Nat.le_of_ble_eq_true rfl, Nat.le_of_ble_eq_true rfl⟩ hK hP hD hS hA hE [2] rfl rfl 2 rfl rfl rfl rfl hl.1 rfl (Nat.le_of_ble_eq_true rfl) dX10_readUnit_11 ⟨Nat.le_of_ble_eq_true rfl, Nat.le_of_ble_eq_true rfl⟩) hP hD hS hA [2] [0, 1] rfl rfl rfl (by decide) (fun r_413 w H locs hw hP hD hS => ?_)
    obtain ⟨v_414, v_415, bv_414, bv_415, rfl, g_416, g_417, g_418, g_419, g_420, g_421, rfl⟩ := hw
    have hP : va_P V.1 vwCl [(z 4, aI V 1025 fz4), (z 3, aI V 900 fz3), (z 0, .inr (10, mo z pz0_0 pz0_5 pz0_6 pz0_7 pz0_8 pz0_9 pz0_10 v_414 v_415 pz0_13 pz0_14 pz0_18 pz0_19 pz0_22 pz0_23 pz0_29))] H := hP
    have hD : va_D A [(z 4, aI V 1025 fz4), (z 3, aI V 900 fz3), (z 0, .inr (10, mo z pz0_0 pz0_5 pz0_6 pz0_7 pz0_8 pz0_9 pz0_10 v_414 v_415 pz0_13 pz0_14 pz0_18 pz0_19 pz0_22 pz0_23 pz0_29))] := hD
    have c_422 : ¬ v_414 = 0 := (g_421 rfl)
    have b_423 : iv 1 4 v_414 := iv_n0 c_422 bv_414 (iv_c (0 : Int32) (a := 0) (b := 0) (by decide)) (by decide)
    have rx_424 : RX pz0_11 pz0_6 fz4 v_414 pz0_6 fz4 0 ((9 : Int)) := RX_f b_423 (by decide)
    refine lv_if_ne (tgt := 18) hx hb dX10_readUnit_14 (by decide) (fun c_426 => absurd c_426 (by decide)) (fun _ => ?_)
    exact fiV hx hb hr hlk hK hP hD hS dX10_readUnit_17 (Nat.le_of_ble_eq_true rfl) (Nat.le_of_ble_eq_true rfl) (⟨fz4, pz0_6, pz0_7, pz0_9, pz0_10, v_414, v_415, tfz4, bpz0_6, bpz0_7, bpz0_10, (iv_w b_423 (by decide)), bv_415, g_416, (PS_f b_423 (by decide)), (Int.le_refl _), (RX_f b_423 (by decide)), rfl⟩)
set_option maxHeartbeats 4000000 in
set_option maxRecDepth 100000 in
theorem k_X10_is_19 (l : Launch) (V : GV) (z : Nat → Nat) (pz0_0 : Int32) (pz0_5 : Int32) (pz0_6 : Int32) (pz0_7 : Int32) (pz0_8 : Int32) (pz0_9 : Int32) (pz0_10 : Int32) (pz0_11 : Int32) (pz0_12 : Int32) (pz0_13 : Int32) (pz0_14 : Int32) (pz0_18 : Int32) (pz0_19 : Int32) (pz0_22 : Int32) (pz0_23 : Int32) (pz0_29 : Int32) (bpz0_5 : iv 0 900 pz0_5) (bpz0_6 : iv 0 900 pz0_6) (bpz0_7 : iv 0 900 pz0_7) (bpz0_8 : iv 0 900 pz0_8) (bpz0_10 : iv 0 999 pz0_10) (bpz0_11 : iv 0 4 pz0_11) (bpz0_12 : iv 0 900 pz0_12) (bpz0_13 : iv 0 4 pz0_13) (bpz0_14 : iv (-1) 900 pz0_14) (bpz0_18 : iv 0 2 pz0_18) (bpz0_22 : iv 0 9999 pz0_22) (bpz0_29 : iv 0 10000 pz0_29) : Ct l V yX10_is (.code yX10_is cX10_is 2 (some .boolean)) 1 [.ref (z 0), .int 19] [(z 0, .inr (10, mo z pz0_0 pz0_5 pz0_6 pz0_7 pz0_8 pz0_9 pz0_10 pz0_11 pz0_12 pz0_13 pz0_14 pz0_18 pz0_19 pz0_22 pz0_23 pz0_29))] 0 0 (QI V (fun (r : Int32) (w : va_W) => iv 0 1 r ∧ (r = 1 → pz0_11 = 0) ∧ (r = 1 → pz0_9 = (19 : Int32)) ∧ w = [(z 0, .inr (10, mo z pz0_0 pz0_5 pz0_6 pz0_7 pz0_8 pz0_9 pz0_10 pz0_11 pz0_12 pz0_13 pz0_14 pz0_18 pz0_19 pz0_22 pz0_23 pz0_29))])) := by
  refine Ct.of (by decide) (Nat.le_of_ble_eq_true rfl) (fun p e s m below meth c A ls hx hb hr hml hown hlk hnm hg hP hK hD hE hA hS hl => ?_)
  have hl : lv_has ls 2 [(0, .ref (z 0)), (1, .int 19)] := hl
  refine lv_aload_n hx hb dX10_is_0 rfl (lv_at hl 0 rfl) ?_
  refine va_get (ci := 10) (v := .int pz0_11) (C := RX10) (T := TX10) (N := 40) hx hb hg inX10 hown hK hP 0 rfl rfl 11 (by decide) (hg _ q_5_235) (fun _ h9 => h9) rfl dX10_is_1 ?_
  refine lv_if_ne (tgt := 19) hx hb dX10_is_4 (by decide) (fun c_1 => ?_) (fun c_1 => ?_)
  · have b_2 : iv 1 4 pz0_11 := iv_n0 c_1 bpz0_11 (iv_c (0 : Int32) (a := 0) (b := 0) (by decide)) (by decide)
    refine lv_iconst (v := 0) hx hb dX10_is_19 (by decide) ?_
    exact fiZ rfl hx hb hr hlk hK hP hD hS dX10_is_20 (Nat.le_of_ble_eq_true rfl) (Nat.le_of_ble_eq_true rfl) (⟨(iv_c (0 : Int32) (by decide)), (fun q9 => absurd q9 (by decide)), (fun q9 => absurd q9 (by decide)), rfl⟩)
  · have b_3 : iv 0 0 pz0_11 := iv_q c_1 (iv_c (0 : Int32) (a := 0) (b := 0) (by decide))
    refine lv_aload_n hx hb dX10_is_7 rfl (lv_at hl 0 rfl) ?_
    refine va_get (ci := 10) (v := .int pz0_9) (C := RX10) (T := TX10) (N := 40) hx hb hg inX10 hown hK hP 0 rfl rfl 9 (by decide) (hg _ q_5_233) (fun _ h9 => h9) rfl dX10_is_8 ?_
    refine lv_iload_n hx hb dX10_is_11 rfl (lv_at hl 1 rfl) ?_
    refine lv_icmp_ne (tgt := 19) hx hb dX10_is_12 (by decide) (fun c_4 => ?_) (fun c_4 => ?_)
    · refine lv_iconst (v := 0) hx hb dX10_is_19 (by decide) ?_
      exact fiZ rfl hx hb hr hlk hK hP hD hS dX10_is_20 (Nat.le_of_ble_eq_true rfl) (Nat.le_of_ble_eq_true rfl) (⟨(iv_c (0 : Int32) (by decide)), (fun q9 => absurd q9 (by decide)), (fun q9 => absurd q9 (by decide)), rfl⟩)
    · have b_5 : iv 19 19 pz0_9 := iv_q c_4 (iv_c (19 : Int32) (a := 19) (b := 19) (by decide))
      refine lv_iconst (v := 1) hx hb dX10_is_15 (by decide) ?_
      refine lv_goto (tgt := 20) hx hb dX10_is_16 (by decide) ?_
      exact fiZ rfl hx hb hr hlk hK hP hD hS dX10_is_20 (Nat.le_of_ble_eq_true rfl) (Nat.le_of_ble_eq_true rfl) (⟨(iv_c (1 : Int32) (by decide)), (fun _ => c_1), (fun _ => c_4), rfl⟩)
set_option maxHeartbeats 4000000 in
set_option maxRecDepth 100000 in
theorem k_X10_eats_5 (l : Launch) (V : GV) (z : Nat → Nat) (fz3 : Nat → Int32) (pz0_0 : Int32) (pz0_5 : Int32) (pz0_6 : Int32) (pz0_7 : Int32) (pz0_8 : Int32) (pz0_9 : Int32) (pz0_10 : Int32) (pz0_11 : Int32) (pz0_12 : Int32) (pz0_13 : Int32) (pz0_14 : Int32) (pz0_18 : Int32) (pz0_19 : Int32) (pz0_22 : Int32) (pz0_23 : Int32) (pz0_29 : Int32) (bpz0_5 : iv 0 900 pz0_5) (bpz0_6 : iv 0 900 pz0_6) (bpz0_7 : iv 0 900 pz0_7) (bpz0_8 : iv 0 900 pz0_8) (bpz0_10 : iv 0 999 pz0_10) (bpz0_11 : iv 0 4 pz0_11) (bpz0_12 : iv 0 900 pz0_12) (bpz0_13 : iv 0 4 pz0_13) (bpz0_14 : iv (-1) 900 pz0_14) (bpz0_18 : iv 0 2 pz0_18) (bpz0_22 : iv 0 9999 pz0_22) (bpz0_29 : iv 0 10000 pz0_29) (hf0 : PT pz0_6 pz0_7 pz0_8 pz0_9) : Ct l V yX10_eats (.code yX10_eats cX10_eats 2 (some .boolean)) 7 [.ref (z 0), .int 19] [(z 3, aI V 900 fz3), (z 0, .inr (10, mo z pz0_0 pz0_5 pz0_6 pz0_7 pz0_8 pz0_9 pz0_10 pz0_11 pz0_12 pz0_13 pz0_14 pz0_18 pz0_19 pz0_22 pz0_23 pz0_29))] 0 0 (QI V (fun (r : Int32) (w : va_W) => ∃ (v0 : Int32) (v1 : Int32) (v2 : Int32) (v3 : Int32), iv 0 900 v0 ∧ iv 0 900 v1 ∧ iv 0 999 v3 ∧ iv 0 1 r ∧ (PT v0 v1 pz0_8 v2) ∧ ((pz0_6 : Int32).toInt ≤ (v0 : Int32).toInt) ∧ (r = 1 → pz0_11 = 0) ∧ (r = 1 → (pz0_6 : Int32).toInt + 1 ≤ (v0 : Int32).toInt) ∧ w = [(z 3, aI V 900 fz3), (z 0, .inr (10, mo z pz0_0 pz0_5 v0 v1 pz0_8 v2 v3 pz0_11 pz0_12 pz0_13 pz0_14 pz0_18 pz0_19 pz0_22 pz0_23 pz0_29))])) := by
  refine Ct.of (by decide) (Nat.le_of_ble_eq_true rfl) (fun p e s m below meth c A ls hx hb hr hml hown hlk hnm hg hP hK hD hE hA hS hl => ?_)
  have hl : lv_has ls 2 [(0, .ref (z 0)), (1, .int 19)] := hl
  refine lv_aload_n hx hb dX10_eats_0 rfl (lv_at hl 0 rfl) ?_
  refine lv_iload_n hx hb dX10_eats_1 rfl (lv_at hl 1 rfl) ?_
  refine jnI (wr := [(z 3, aI V 900 fz3)]) (rnV (rest := []) ⟨hx, hb, hml, hown, hg⟩ (k_X10_is_19 l V z pz0_0 pz0_5 pz0_6 pz0_7 pz0_8 pz0_9 pz0_10 pz0_11 pz0_12 pz0_13 pz0_14 pz0_18 pz0_19 pz0_22 pz0_23 pz0_29 bpz0_5 bpz0_6 bpz0_7 bpz0_8 bpz0_10 bpz0_11 bpz0_12 bpz0_13 bpz0_14 bpz0_18 bpz0_22 bpz0_29) mt_X10_is q_6_143 ⟨Nat.le_of_ble_eq_true rfl, Nat.le_of_ble_eq_true rfl⟩ hK hP hD hS hA hE [1] rfl rfl 1 rfl rfl rfl rfl hl.1 rfl (Nat.le_of_ble_eq_true rfl) dX10_eats_2 ⟨Nat.le_of_ble_eq_true rfl, Nat.le_of_ble_eq_true rfl⟩) hP hD hS hA [1] [0] rfl rfl rfl (by decide) (fun r_1 w H locs hw hP hD hS => ?_)
  obtain ⟨br_1, g_2, g_3, rfl⟩ := hw
  have hP : va_P V.1 vwCl [(z 3, aI V 900 fz3), (z 0, .inr (10, mo z pz0_0 pz0_5 pz0_6 pz0_7 pz0_8 pz0_9 pz0_10 pz0_11 pz0_12 pz0_13 pz0_14 pz0_18 pz0_19 pz0_22 pz0_23 pz0_29))] H := hP
  have hD : va_D A [(z 3, aI V 900 fz3), (z 0, .inr (10, mo z pz0_0 pz0_5 pz0_6 pz0_7 pz0_8 pz0_9 pz0_10 pz0_11 pz0_12 pz0_13 pz0_14 pz0_18 pz0_19 pz0_22 pz0_23 pz0_29))] := hD
  refine lv_if_ne (tgt := 10) hx hb dX10_eats_5 (by decide) (fun c_4 => ?_) (fun c_4 => ?_)
  · have b_5 : iv 1 1 r_1 := iv_n0 c_4 br_1 (iv_c (0 : Int32) (a := 0) (b := 0) (by decide)) (by decide)
    have c_6 : pz0_11 = 0 := (g_2 (iv_eqp b_5 (iv_c (1 : Int32) (by decide))))
    have b_7 : iv 0 0 pz0_11 := iv_q c_6 (iv_c (0 : Int32) (a := 0) (b := 0) (by decide))
    have c_8 : pz0_9 = 19 := (g_3 (iv_eqp b_5 (iv_c (1 : Int32) (by decide))))
    have b_9 : iv 19 19 pz0_9 := iv_q c_8 (iv_c (19 : Int32) (a := 19) (b := 19) (by decide))
    refine lv_aload_n hx hb dX10_eats_10 rfl (lv_at hl 0 rfl) ?_
    refine jnV (wr := []) (rnV (rest := []) ⟨hx, hb, hml, hown, hg⟩ (k_X10_next_0 l V z pz0_0 pz0_5 pz0_6 pz0_7 pz0_8 pz0_9 pz0_10 pz0_11 pz0_12 pz0_13 pz0_14 pz0_18 pz0_19 pz0_22 pz0_23 pz0_29 fz3 bpz0_5 bpz0_6 bpz0_7 bpz0_8 bpz0_10 (iv_w b_7 (by decide)) bpz0_12 bpz0_13 bpz0_14 bpz0_18 bpz0_22 bpz0_29 hf0.2.1) mt_X10_next q_6_117 ⟨Nat.le_of_ble_eq_true rfl, Nat.le_of_ble_eq_true rfl⟩ hK hP hD hS hA hE [1, 0] rfl rfl 1 rfl rfl rfl rfl hl.1 rfl (Nat.le_of_ble_eq_true rfl) dX10_eats_11 ⟨Nat.le_of_ble_eq_true rfl, Nat.le_of_ble_eq_true rfl⟩) hP hD hS hA [1, 0] [] rfl rfl rfl (by decide) (fun  w H locs hw hP hD hS => ?_)
    obtain ⟨v_10, v_11, v_12, v_13, bv_10, bv_11, bv_13, g_14, g_15, rfl⟩ := hw
    have hP : va_P V.1 vwCl [(z 0, .inr (10, mo z pz0_0 pz0_5 v_10 v_11 pz0_8 v_12 v_13 pz0_11 pz0_12 pz0_13 pz0_14 pz0_18 pz0_19 pz0_22 pz0_23 pz0_29)), (z 3, aI V 900 fz3)] H := hP
    have hD : va_D A [(z 0, .inr (10, mo z pz0_0 pz0_5 v_10 v_11 pz0_8 v_12 v_13 pz0_11 pz0_12 pz0_13 pz0_14 pz0_18 pz0_19 pz0_22 pz0_23 pz0_29)), (z 3, aI V 900 fz3)] := hD
    refine lv_iconst (v := 1) hx hb dX10_eats_14 (by decide) ?_
    have hP := subP (ws' := [(z 3, aI V 900 fz3), (z 0, .inr (10, mo z pz0_0 pz0_5 v_10 v_11 pz0_8 v_12 v_13 pz0_11 pz0_12 pz0_13 pz0_14 pz0_18 pz0_19 pz0_22 pz0_23 pz0_29))]) hP [1, 0] rfl
    have hD := hD.sub (ws' := [(z 3, aI V 900 fz3), (z 0, .inr (10, mo z pz0_0 pz0_5 v_10 v_11 pz0_8 v_12 v_13 pz0_11 pz0_12 pz0_13 pz0_14 pz0_18 pz0_19 pz0_22 pz0_23 pz0_29))]) [1, 0] rfl rfl
    exact fiZ rfl hx hb hr hlk hK hP hD hS dX10_eats_15 (Nat.le_of_ble_eq_true rfl) (Nat.le_of_ble_eq_true rfl) (⟨v_10, v_11, v_12, v_13, bv_10, bv_11, bv_13, (iv_c (1 : Int32) (by decide)), g_14, (by have q9 := g_15; have q8 := hf0.1; omega), (fun _ => iv_eqp b_7 (iv_c (0 : Int32) (by decide))), (fun _ => by have q9 := g_15; have q8 := hf0.2.2 (by rw [c_8]; decide); omega), rfl⟩)
  · have b_16 : iv 0 0 r_1 := iv_q c_4 (iv_c (0 : Int32) (a := 0) (b := 0) (by decide))
    refine lv_iconst (v := 0) hx hb dX10_eats_8 (by decide) ?_
    exact fiZ rfl hx hb hr hlk hK hP hD hS dX10_eats_9 (Nat.le_of_ble_eq_true rfl) (Nat.le_of_ble_eq_true rfl) (⟨pz0_6, pz0_7, pz0_9, pz0_10, bpz0_6, bpz0_7, bpz0_10, (iv_c (0 : Int32) (by decide)), hf0, (Int.le_refl _), (fun q9 => absurd q9 (by decide)), (fun q9 => absurd q9 (by decide)), rfl⟩)
theorem dX10_readBoth_0 : decode cX10_readBoth 0 = .ok (.aload_n 0, 1) := by decide +kernel
theorem dX10_readBoth_1 : decode cX10_readBoth 1 = .ok (.iload_n 1, 1) := by decide +kernel
theorem q_6_226 : Cond.code yX10_readUnit prog_12_method_23_code 3 none ∈ gw := gw_6 (i := 226) (rfl) rfl
theorem q_6_225 : Cond.instanceMethod yX10_readUnit ∈ gw := gw_6 (i := 225) (by decide +kernel) rfl
theorem q_s_78 : Cond.selects "BeaconDelayModel" yX10_readUnit yX10_readUnit ∈ gw := gw_s (i := 78) (by decide +kernel) rfl
theorem mt_X10_readUnit : MtV yX10_readUnit cX10_readUnit 3 none 1 := ⟨⟨q_6_226, q_1_9, by decide +kernel, by decide +kernel, by decide +kernel⟩, q_6_225, q_s_78⟩
theorem q_6_223 : Cond.methodLink "BeaconDelayModel" 190 yX10_readUnit ∈ gw := gw_6 (i := 223) (by decide +kernel) rfl
theorem dX10_readBoth_2 : decode cX10_readBoth 2 = .ok (.invokevirtual 190, 3) := by decide +kernel
theorem dX10_readBoth_5 : decode cX10_readBoth 5 = .ok (.aload_n 0, 1) := by decide +kernel
theorem dX10_readBoth_6 : decode cX10_readBoth 6 = .ok (.bipush 19, 2) := by decide +kernel
theorem dX10_readBoth_8 : decode cX10_readBoth 8 = .ok (.invokevirtual 175, 3) := by decide +kernel
theorem dX10_readBoth_11 : decode cX10_readBoth 11 = .ok (.ifCond .eq 18, 3) := by decide +kernel
theorem dX10_readBoth_29 : decode cX10_readBoth 29 = .ok (.return_, 1) := by decide +kernel
theorem dX10_readBoth_14 : decode cX10_readBoth 14 = .ok (.aload_n 0, 1) := by decide +kernel
theorem dX10_readBoth_15 : decode cX10_readBoth 15 = .ok (.iload_n 1, 1) := by decide +kernel
theorem dX10_readBoth_16 : decode cX10_readBoth 16 = .ok (.invokevirtual 190, 3) := by decide +kernel
theorem dX10_readBoth_19 : decode cX10_readBoth 19 = .ok (.aload_n 0, 1) := by decide +kernel
theorem dX10_readBoth_20 : decode cX10_readBoth 20 = .ok (.sipush 3007, 3) := by decide +kernel
theorem dX10_readBoth_23 : decode cX10_readBoth 23 = .ok (.invokevirtual 163, 3) := by decide +kernel
theorem dX10_readBoth_26 : decode cX10_readBoth 26 = .ok (.goto (-21), 3) := by decide +kernel
set_option maxHeartbeats 4000000 in
set_option maxRecDepth 100000 in
theorem k_X10_readBoth_0 (l : Launch) (V : GV) (z : Nat → Nat) (fz4 : Nat → Int32) (fz3 : Nat → Int32) (pz0_0 : Int32) (pz0_5 : Int32) (pz0_6 : Int32) (pz0_7 : Int32) (pz0_8 : Int32) (pz0_9 : Int32) (pz0_10 : Int32) (pz0_11 : Int32) (pz0_12 : Int32) (pz0_13 : Int32) (pz0_14 : Int32) (pz0_18 : Int32) (pz0_19 : Int32) (pz0_22 : Int32) (pz0_23 : Int32) (pz0_29 : Int32) (tfz4 : ivT tF fz4) (bpz0_5 : iv 0 900 pz0_5) (bpz0_6 : iv 0 900 pz0_6) (bpz0_7 : iv 0 900 pz0_7) (bpz0_8 : iv 0 900 pz0_8) (bpz0_10 : iv 0 999 pz0_10) (bpz0_11 : iv 0 4 pz0_11) (bpz0_12 : iv 0 900 pz0_12) (bpz0_13 : iv 0 4 pz0_13) (bpz0_14 : iv (-1) 900 pz0_14) (bpz0_18 : iv 0 2 pz0_18) (bpz0_22 : iv 0 9999 pz0_22) (bpz0_29 : iv 0 10000 pz0_29) (hf0 : PT pz0_6 pz0_7 pz0_8 pz0_9) (hf1 : PS pz0_11 pz0_6 fz4) : Ct l V yX10_readBoth (.code yX10_readBoth cX10_readBoth 2 none) 11 [.ref (z 0), .int 6] [(z 4, aI V 1025 fz4), (z 3, aI V 900 fz3), (z 0, .inr (10, mo z pz0_0 pz0_5 pz0_6 pz0_7 pz0_8 pz0_9 pz0_10 pz0_11 pz0_12 pz0_13 pz0_14 pz0_18 pz0_19 pz0_22 pz0_23 pz0_29))] 0 0 (QV V (fun (w : va_W) => ∃ (g0 : Nat → Int32) (v1 : Int32) (v2 : Int32) (v3 : Int32) (v4 : Int32) (v5 : Int32) (v6 : Int32), (ivT tF g0) ∧ iv 0 900 v1 ∧ iv 0 900 v2 ∧ iv 0 999 v4 ∧ iv 0 4 v5 ∧ iv 0 900 v6 ∧ (PT v1 v2 pz0_8 v3) ∧ (PS v5 v1 g0) ∧ ((pz0_6 : Int32).toInt ≤ (v1 : Int32).toInt) ∧ (RX pz0_11 pz0_6 fz4 v5 v1 g0 1 0) ∧ w = [(z 4, aI V 1025 g0), (z 3, aI V 900 fz3), (z 0, .inr (10, mo z pz0_0 pz0_5 v1 v2 pz0_8 v3 v4 v5 v6 pz0_13 pz0_14 pz0_18 pz0_19 pz0_22 pz0_23 pz0_29))])) := by
  refine Ct.of (by decide) (Nat.le_of_ble_eq_true rfl) (fun p e s m below meth c A ls hx hb hr hml hown hlk hnm hg hP hK hD hE hA hS hl => ?_)
  have hl : lv_has ls 2 [(0, .ref (z 0)), (1, .int 6)] := hl
  refine lv_aload_n hx hb dX10_readBoth_0 rfl (lv_at hl 0 rfl) ?_
  refine lv_iload_n hx hb dX10_readBoth_1 rfl (lv_at hl 1 rfl) ?_
  refine jnV (wr := []) (rnV (rest := []) ⟨hx, hb, hml, hown, hg⟩ (k_X10_readUnit_0 l V z fz4 fz3 pz0_0 pz0_5 pz0_6 pz0_7 pz0_8 pz0_9 pz0_10 pz0_11 pz0_12 pz0_13 pz0_14 pz0_18 pz0_19 pz0_22 pz0_23 pz0_29 tfz4 bpz0_5 bpz0_6 bpz0_7 bpz0_8 bpz0_10 bpz0_11 bpz0_12 bpz0_13 bpz0_14 bpz0_18 bpz0_22 bpz0_29 hf0 hf1) mt_X10_readUnit q_6_223 ⟨Nat.le_of_ble_eq_true rfl, Nat.le_of_ble_eq_true rfl⟩ hK hP hD hS hA hE [0, 1, 2] rfl rfl 2 rfl rfl rfl rfl hl.1 rfl (Nat.le_of_ble_eq_true rfl) dX10_readBoth_2 ⟨Nat.le_of_ble_eq_true rfl, Nat.le_of_ble_eq_true rfl⟩) hP hD hS hA [0, 1, 2] [] rfl rfl rfl (by decide) (fun  w H locs hw hP hD hS => ?_)
  obtain ⟨f_1, v_2, v_3, v_4, v_5, v_6, v_7, tf_1, bv_2, bv_3, bv_5, bv_6, bv_7, g_8, g_9, g_10, g_11, rfl⟩ := hw
  have hP : va_P V.1 vwCl [(z 4, aI V 1025 f_1), (z 3, aI V 900 fz3), (z 0, .inr (10, mo z pz0_0 pz0_5 v_2 v_3 pz0_8 v_4 v_5 v_6 v_7 pz0_13 pz0_14 pz0_18 pz0_19 pz0_22 pz0_23 pz0_29))] H := hP
  have hD : va_D A [(z 4, aI V 1025 f_1), (z 3, aI V 900 fz3), (z 0, .inr (10, mo z pz0_0 pz0_5 v_2 v_3 pz0_8 v_4 v_5 v_6 v_7 pz0_13 pz0_14 pz0_18 pz0_19 pz0_22 pz0_23 pz0_29))] := hD
  have rx_12 : RX pz0_11 pz0_6 fz4 v_6 v_2 f_1 1 ((0 : Int)) := by have q9 := RX_seq (by decide) (RX_0 (w := pz0_11) (a := pz0_6) tfz4) g_11; exact RX_w q9 (by omega)
  refine loopF (X := fun (n_20 : Nat) (H : Heap) (locs : List Loc) (ls : Array Slot) => ∃ (f_13 : Nat → Int32) (u_14 : Int32) (u_15 : Int32) (u_16 : Int32) (u_17 : Int32) (u_18 : Int32) (u_19 : Int32), (ivT tF f_13) ∧ (iv 0 900 u_14) ∧ (iv 0 900 u_15) ∧ (iv 0 999 u_17) ∧ (iv 0 4 u_18) ∧ (iv 0 900 u_19) ∧ ((pz0_6 : Int32).toInt ≤ (u_14 : Int32).toInt) ∧ (RX pz0_11 pz0_6 fz4 u_18 u_14 f_13 1 0) ∧ (PT u_14 u_15 pz0_8 u_16) ∧ (PS u_18 u_14 f_13) ∧ n_20 = (900 - (u_14 : Int32).toInt).toNat ∧ va_P V.1 vwCl [(z 4, aI V 1025 f_13), (z 3, aI V 900 fz3), (z 0, .inr (10, mo z pz0_0 pz0_5 u_14 u_15 pz0_8 u_16 u_17 u_18 u_19 pz0_13 pz0_14 pz0_18 pz0_19 pz0_22 pz0_23 pz0_29))] H ∧ va_D A [(z 4, aI V 1025 f_13), (z 3, aI V 900 fz3), (z 0, .inr (10, mo z pz0_0 pz0_5 u_14 u_15 pz0_8 u_16 u_17 u_18 u_19 pz0_13 pz0_14 pz0_18 pz0_19 pz0_22 pz0_23 pz0_29))] ∧ va_S A s.heap H locs ∧ lv_has ls 2 [(0, .ref (z 0)), (1, .int 6)]) (g := fun ls => F0 m 5 ls []) (fun n_20 H locs ls hX ihn_20 => ?_) _ ⟨f_1, v_2, v_3, v_4, v_5, v_6, v_7, tf_1, bv_2, bv_3, bv_5, bv_6, bv_7, (by have z_0 := g_10;have y_0 := hf0.1; have y_1 := g_8.1; omega), (RX_w rx_12 (by omega)), g_8, g_9, rfl, hP, hD, hS, lv_sub hl [0, 1] rfl⟩
  obtain ⟨f_13, u_14, u_15, u_16, u_17, u_18, u_19, tf_13, bu_14, bu_15, bu_17, bu_18, bu_19, inn_20_0, inn_20_1, inn_20_2, inn_20_3, en_20, hP, hD, hS, hl⟩ := hX
  refine lv_aload_n hx hb dX10_readBoth_5 rfl (lv_at hl 0 rfl) ?_
  refine lv_bipush (v := 19) hx hb dX10_readBoth_6 (by decide) ?_
  refine jnI (wr := [(z 4, aI V 1025 f_13)]) (rnV (rest := []) ⟨hx, hb, hml, hown, hg⟩ (k_X10_eats_5 l V z fz3 pz0_0 pz0_5 u_14 u_15 pz0_8 u_16 u_17 u_18 u_19 pz0_13 pz0_14 pz0_18 pz0_19 pz0_22 pz0_23 pz0_29 bpz0_5 bu_14 bu_15 bpz0_8 bu_17 bu_18 bu_19 bpz0_13 bpz0_14 bpz0_18 bpz0_22 bpz0_29 inn_20_2) mt_X10_eats q_6_139 ⟨Nat.le_of_ble_eq_true rfl, Nat.le_of_ble_eq_true rfl⟩ hK hP hD hS hA hE [1, 2] rfl rfl 2 rfl rfl rfl rfl hl.1 rfl (Nat.le_of_ble_eq_true rfl) dX10_readBoth_8 ⟨Nat.le_of_ble_eq_true rfl, Nat.le_of_ble_eq_true rfl⟩) hP hD hS hA [1, 2] [0] rfl rfl rfl (by decide) (fun r_21 w H locs hw hP hD hS => ?_)
  obtain ⟨v_22, v_23, v_24, v_25, bv_22, bv_23, bv_25, br_21, g_26, g_27, g_28, g_29, rfl⟩ := hw
  have hP : va_P V.1 vwCl [(z 4, aI V 1025 f_13), (z 3, aI V 900 fz3), (z 0, .inr (10, mo z pz0_0 pz0_5 v_22 v_23 pz0_8 v_24 v_25 u_18 u_19 pz0_13 pz0_14 pz0_18 pz0_19 pz0_22 pz0_23 pz0_29))] H := hP
  have hD : va_D A [(z 4, aI V 1025 f_13), (z 3, aI V 900 fz3), (z 0, .inr (10, mo z pz0_0 pz0_5 v_22 v_23 pz0_8 v_24 v_25 u_18 u_19 pz0_13 pz0_14 pz0_18 pz0_19 pz0_22 pz0_23 pz0_29))] := hD
  have rx_30 : RX pz0_11 pz0_6 fz4 u_18 v_22 f_13 1 ((0 : Int) + adv r_21) := by have q9 := RX_a inn_20_1 (fun q8 => q8) (adv_le g_27 g_29); exact RX_w q9 (by omega)
  refine lv_if_eq (tgt := 29) hx hb dX10_readBoth_11 (by decide) (fun c_31 => ?_) (fun c_31 => ?_)
  · have b_32 : iv 0 0 r_21 := iv_q c_31 (iv_c (0 : Int32) (a := 0) (b := 0) (by decide))
    exact fiV hx hb hr hlk hK hP hD hS dX10_readBoth_29 (Nat.le_of_ble_eq_true rfl) (Nat.le_of_ble_eq_true rfl) (⟨f_13, v_22, v_23, v_24, v_25, u_18, u_19, tf_13, bv_22, bv_23, bv_25, bu_18, bu_19, g_26, (PS_x hf1 rx_30 (by have z_r_21 := adv_0 r_21; omega)), (by have z_0 := g_10; have z_1 := inn_20_0; have z_2 := g_27;have y_0 := hf0.1; have y_1 := g_8.1; have y_2 := inn_20_2.1; have y_3 := g_26.1; omega), (RX_w rx_30 (by have z_r_21 := adv_0 r_21; omega)), rfl⟩)
  · have b_33 : iv 1 1 r_21 := iv_n0 c_31 br_21 (iv_c (0 : Int32) (a := 0) (b := 0) (by decide)) (by decide)
    have c_34 : u_18 = 0 := (g_28 (iv_eqp b_33 (iv_c (1 : Int32) (by decide))))
    have b_35 : iv 0 0 u_18 := iv_q c_34 (iv_c (0 : Int32) (a := 0) (b := 0) (by decide))
    refine lv_aload_n hx hb dX10_readBoth_14 rfl (lv_at hl 0 rfl) ?_
    refine lv_iload_n hx hb dX10_readBoth_15 rfl (lv_at hl 1 rfl) ?_
    refine jnV (wr := []) (rnV (rest := []) ⟨hx, hb, hml, hown, hg⟩ (k_X10_readUnit_0 l V z f_13 fz3 pz0_0 pz0_5 v_22 v_23 pz0_8 v_24 v_25 u_18 u_19 pz0_13 pz0_14 pz0_18 pz0_19 pz0_22 pz0_23 pz0_29 tf_13 bpz0_5 bv_22 bv_23 bpz0_8 bv_25 (iv_w b_35 (by decide)) bu_19 bpz0_13 bpz0_14 bpz0_18 bpz0_22 bpz0_29 g_26 (PS_x hf1 rx_30 (by have z_r_21 := adv_1 (iv_eqp b_33 (iv_c (1 : Int32) (by decide))); omega))) mt_X10_readUnit q_6_223 ⟨Nat.le_of_ble_eq_true rfl, Nat.le_of_ble_eq_true rfl⟩ hK hP hD hS hA hE [0, 1, 2] rfl rfl 2 rfl rfl rfl rfl hl.1 rfl (Nat.le_of_ble_eq_true rfl) dX10_readBoth_16 ⟨Nat.le_of_ble_eq_true rfl, Nat.le_of_ble_eq_true rfl⟩) hP hD hS hA [0, 1, 2] [] rfl rfl rfl (by decide) (fun  w H locs hw hP hD hS => ?_)
    obtain ⟨f_36, v_37, v_38, v_39, v_40, v_41, v_42, tf_36, bv_37, bv_38, bv_40, bv_41, bv_42, g_43, g_44, g_45, g_46, rfl⟩ := hw
    have hP : va_P V.1 vwCl [(z 4, aI V 1025 f_36), (z 3, aI V 900 fz3), (z 0, .inr (10, mo z pz0_0 pz0_5 v_37 v_38 pz0_8 v_39 v_40 v_41 v_42 pz0_13 pz0_14 pz0_18 pz0_19 pz0_22 pz0_23 pz0_29))] H := hP
    have hD : va_D A [(z 4, aI V 1025 f_36), (z 3, aI V 900 fz3), (z 0, .inr (10, mo z pz0_0 pz0_5 v_37 v_38 pz0_8 v_39 v_40 v_41 v_42 pz0_13 pz0_14 pz0_18 pz0_19 pz0_22 pz0_23 pz0_29))] := hD
    have rx_47 : RX pz0_11 pz0_6 fz4 v_41 v_37 f_36 2 ((0 : Int) + adv r_21) := by have q9 := RX_seq (by decide) rx_30 g_46; exact RX_w q9 (by omega)
    refine lv_aload_n hx hb dX10_readBoth_19 rfl (lv_at hl 0 rfl) ?_
    refine lv_sipush (v := 3007) hx hb dX10_readBoth_20 (by decide) ?_
    refine jnV (wr := [(z 3, aI V 900 fz3)]) (rnV (rest := []) ⟨hx, hb, hml, hown, hg⟩ (k_X10_codes_0 l V z 3007 f_36 pz0_0 pz0_5 v_37 v_38 pz0_8 v_39 v_40 v_41 v_42 pz0_13 pz0_14 pz0_18 pz0_19 pz0_22 pz0_23 pz0_29 tf_36 bpz0_5 bv_37 bv_38 bpz0_8 bv_40 bv_41 bv_42 bpz0_13 bpz0_14 bpz0_18 bpz0_22 bpz0_29 (PS_n hf1 rx_47 bv_37 (by decide) (by have z_r_21 := adv_1 (iv_eqp b_33 (iv_c (1 : Int32) (by decide))); omega))) mt_X10_codes q_6_199 ⟨Nat.le_of_ble_eq_true rfl, Nat.le_of_ble_eq_true rfl⟩ hK hP hD hS hA hE [0, 2] rfl rfl 2 rfl rfl rfl rfl hl.1 rfl (Nat.le_of_ble_eq_true rfl) dX10_readBoth_23 ⟨Nat.le_of_ble_eq_true rfl, Nat.le_of_ble_eq_true rfl⟩) hP hD hS hA [0, 2] [1] rfl rfl rfl (by decide) (fun  w H locs hw hP hD hS => ?_)
    obtain ⟨f_48, tf_48, g_49, g_50, rfl⟩ := hw
    have hP : va_P V.1 vwCl [(z 3, aI V 900 fz3), (z 4, aI V 1025 f_48), (z 0, .inr (10, mo z pz0_0 pz0_5 v_37 v_38 pz0_8 v_39 v_40 v_41 v_42 pz0_13 pz0_14 pz0_18 pz0_19 pz0_22 pz0_23 pz0_29))] H := hP
    have hD : va_D A [(z 3, aI V 900 fz3), (z 4, aI V 1025 f_48), (z 0, .inr (10, mo z pz0_0 pz0_5 v_37 v_38 pz0_8 v_39 v_40 v_41 v_42 pz0_13 pz0_14 pz0_18 pz0_19 pz0_22 pz0_23 pz0_29))] := hD
    have rx_51 : RX pz0_11 pz0_6 fz4 v_41 v_37 f_48 1 ((-1 : Int) + adv r_21) := by have q9 := RX_c rx_47 tf_36 g_49 (by decide) ⟨by decide, by decide⟩ (by decide) (PS_n hf1 rx_47 bv_37 (by decide) (by have z_r_21 := adv_1 (iv_eqp b_33 (iv_c (1 : Int32) (by decide))); omega)); rw [(by decide : eff (3007 : Int32) = -1)] at q9; exact RX_w q9 (by omega)
    refine lv_goto (tgt := 5) hx hb dX10_readBoth_26 (by decide) ?_
    have hP := subP (ws' := [(z 4, aI V 1025 f_48), (z 3, aI V 900 fz3), (z 0, .inr (10, mo z pz0_0 pz0_5 v_37 v_38 pz0_8 v_39 v_40 v_41 v_42 pz0_13 pz0_14 pz0_18 pz0_19 pz0_22 pz0_23 pz0_29))]) hP [1, 0, 2] rfl
    have hD := hD.sub (ws' := [(z 4, aI V 1025 f_48), (z 3, aI V 900 fz3), (z 0, .inr (10, mo z pz0_0 pz0_5 v_37 v_38 pz0_8 v_39 v_40 v_41 v_42 pz0_13 pz0_14 pz0_18 pz0_19 pz0_22 pz0_23 pz0_29))]) [1, 0, 2] rfl rfl
    exact ihn_20 _ _ _ _ (by rw [en_20]; have z_0 := g_10; have z_1 := inn_20_0; have z_2 := g_27; have z_3 := g_45; have z_4 := (g_29 (iv_eqp b_33 (iv_c (1 : Int32) (by decide)))); have z_5 := hf0.1; have z_6 := g_8.1; have z_7 := inn_20_2.1; have z_8 := g_26.1; have z_9 := g_43.1; have q9 := bv_37; unfold iv at q9; omega) ⟨f_48, v_37, v_38, v_39, v_40, v_41, v_42, tf_48, bv_37, bv_38, bv_40, bv_41, bv_42, (by have z_0 := g_10; have z_1 := inn_20_0; have z_2 := g_27; have z_3 := g_45;have y_0 := hf0.1; have y_1 := g_8.1; have y_2 := inn_20_2.1; have y_3 := g_26.1; have y_4 := g_43.1; omega), (RX_w rx_51 (by have z_r_21 := adv_1 (iv_eqp b_33 (iv_c (1 : Int32) (by decide))); omega)), g_43, (PS_x hf1 rx_51 (by have z_r_21 := adv_1 (iv_eqp b_33 (iv_c (1 : Int32) (by decide))); omega)), rfl, hP, hD, hS, lv_sub hl [0, 1] rfl⟩
set_option maxHeartbeats 4000000 in
set_option maxRecDepth 100000 in
theorem k_X10_is_20 (l : Launch) (V : GV) (z : Nat → Nat) (pz0_0 : Int32) (pz0_5 : Int32) (pz0_6 : Int32) (pz0_7 : Int32) (pz0_8 : Int32) (pz0_9 : Int32) (pz0_10 : Int32) (pz0_11 : Int32) (pz0_12 : Int32) (pz0_13 : Int32) (pz0_14 : Int32) (pz0_18 : Int32) (pz0_19 : Int32) (pz0_22 : Int32) (pz0_23 : Int32) (pz0_29 : Int32) (bpz0_5 : iv 0 900 pz0_5) (bpz0_6 : iv 0 900 pz0_6) (bpz0_7 : iv 0 900 pz0_7) (bpz0_8 : iv 0 900 pz0_8) (bpz0_10 : iv 0 999 pz0_10) (bpz0_11 : iv 0 4 pz0_11) (bpz0_12 : iv 0 900 pz0_12) (bpz0_13 : iv 0 4 pz0_13) (bpz0_14 : iv (-1) 900 pz0_14) (bpz0_18 : iv 0 2 pz0_18) (bpz0_22 : iv 0 9999 pz0_22) (bpz0_29 : iv 0 10000 pz0_29) : Ct l V yX10_is (.code yX10_is cX10_is 2 (some .boolean)) 1 [.ref (z 0), .int 20] [(z 0, .inr (10, mo z pz0_0 pz0_5 pz0_6 pz0_7 pz0_8 pz0_9 pz0_10 pz0_11 pz0_12 pz0_13 pz0_14 pz0_18 pz0_19 pz0_22 pz0_23 pz0_29))] 0 0 (QI V (fun (r : Int32) (w : va_W) => iv 0 1 r ∧ (r = 1 → pz0_11 = 0) ∧ (r = 1 → pz0_9 = (20 : Int32)) ∧ w = [(z 0, .inr (10, mo z pz0_0 pz0_5 pz0_6 pz0_7 pz0_8 pz0_9 pz0_10 pz0_11 pz0_12 pz0_13 pz0_14 pz0_18 pz0_19 pz0_22 pz0_23 pz0_29))])) := by
  refine Ct.of (by decide) (Nat.le_of_ble_eq_true rfl) (fun p e s m below meth c A ls hx hb hr hml hown hlk hnm hg hP hK hD hE hA hS hl => ?_)
  have hl : lv_has ls 2 [(0, .ref (z 0)), (1, .int 20)] := hl
  refine lv_aload_n hx hb dX10_is_0 rfl (lv_at hl 0 rfl) ?_
  refine va_get (ci := 10) (v := .int pz0_11) (C := RX10) (T := TX10) (N := 40) hx hb hg inX10 hown hK hP 0 rfl rfl 11 (by decide) (hg _ q_5_235) (fun _ h9 => h9) rfl dX10_is_1 ?_
  refine lv_if_ne (tgt := 19) hx hb dX10_is_4 (by decide) (fun c_1 => ?_) (fun c_1 => ?_)
  · have b_2 : iv 1 4 pz0_11 := iv_n0 c_1 bpz0_11 (iv_c (0 : Int32) (a := 0) (b := 0) (by decide)) (by decide)
    refine lv_iconst (v := 0) hx hb dX10_is_19 (by decide) ?_
    exact fiZ rfl hx hb hr hlk hK hP hD hS dX10_is_20 (Nat.le_of_ble_eq_true rfl) (Nat.le_of_ble_eq_true rfl) (⟨(iv_c (0 : Int32) (by decide)), (fun q9 => absurd q9 (by decide)), (fun q9 => absurd q9 (by decide)), rfl⟩)
  · have b_3 : iv 0 0 pz0_11 := iv_q c_1 (iv_c (0 : Int32) (a := 0) (b := 0) (by decide))
    refine lv_aload_n hx hb dX10_is_7 rfl (lv_at hl 0 rfl) ?_
    refine va_get (ci := 10) (v := .int pz0_9) (C := RX10) (T := TX10) (N := 40) hx hb hg inX10 hown hK hP 0 rfl rfl 9 (by decide) (hg _ q_5_233) (fun _ h9 => h9) rfl dX10_is_8 ?_
    refine lv_iload_n hx hb dX10_is_11 rfl (lv_at hl 1 rfl) ?_
    refine lv_icmp_ne (tgt := 19) hx hb dX10_is_12 (by decide) (fun c_4 => ?_) (fun c_4 => ?_)
    · refine lv_iconst (v := 0) hx hb dX10_is_19 (by decide) ?_
      exact fiZ rfl hx hb hr hlk hK hP hD hS dX10_is_20 (Nat.le_of_ble_eq_true rfl) (Nat.le_of_ble_eq_true rfl) (⟨(iv_c (0 : Int32) (by decide)), (fun q9 => absurd q9 (by decide)), (fun q9 => absurd q9 (by decide)), rfl⟩)
    · have b_5 : iv 20 20 pz0_9 := iv_q c_4 (iv_c (20 : Int32) (a := 20) (b := 20) (by decide))
      refine lv_iconst (v := 1) hx hb dX10_is_15 (by decide) ?_
      refine lv_goto (tgt := 20) hx hb dX10_is_16 (by decide) ?_
      exact fiZ rfl hx hb hr hlk hK hP hD hS dX10_is_20 (Nat.le_of_ble_eq_true rfl) (Nat.le_of_ble_eq_true rfl) (⟨(iv_c (1 : Int32) (by decide)), (fun _ => c_1), (fun _ => c_4), rfl⟩)
set_option maxHeartbeats 4000000 in
set_option maxRecDepth 100000 in
theorem k_X10_eats_6 (l : Launch) (V : GV) (z : Nat → Nat) (fz3 : Nat → Int32) (pz0_0 : Int32) (pz0_5 : Int32) (pz0_6 : Int32) (pz0_7 : Int32) (pz0_8 : Int32) (pz0_9 : Int32) (pz0_10 : Int32) (pz0_11 : Int32) (pz0_12 : Int32) (pz0_13 : Int32) (pz0_14 : Int32) (pz0_18 : Int32) (pz0_19 : Int32) (pz0_22 : Int32) (pz0_23 : Int32) (pz0_29 : Int32) (bpz0_5 : iv 0 900 pz0_5) (bpz0_6 : iv 0 900 pz0_6) (bpz0_7 : iv 0 900 pz0_7) (bpz0_8 : iv 0 900 pz0_8) (bpz0_10 : iv 0 999 pz0_10) (bpz0_11 : iv 0 4 pz0_11) (bpz0_12 : iv 0 900 pz0_12) (bpz0_13 : iv 0 4 pz0_13) (bpz0_14 : iv (-1) 900 pz0_14) (bpz0_18 : iv 0 2 pz0_18) (bpz0_22 : iv 0 9999 pz0_22) (bpz0_29 : iv 0 10000 pz0_29) (hf0 : PT pz0_6 pz0_7 pz0_8 pz0_9) : Ct l V yX10_eats (.code yX10_eats cX10_eats 2 (some .boolean)) 7 [.ref (z 0), .int 20] [(z 3, aI V 900 fz3), (z 0, .inr (10, mo z pz0_0 pz0_5 pz0_6 pz0_7 pz0_8 pz0_9 pz0_10 pz0_11 pz0_12 pz0_13 pz0_14 pz0_18 pz0_19 pz0_22 pz0_23 pz0_29))] 0 0 (QI V (fun (r : Int32) (w : va_W) => ∃ (v0 : Int32) (v1 : Int32) (v2 : Int32) (v3 : Int32), iv 0 900 v0 ∧ iv 0 900 v1 ∧ iv 0 999 v3 ∧ iv 0 1 r ∧ (PT v0 v1 pz0_8 v2) ∧ ((pz0_6 : Int32).toInt ≤ (v0 : Int32).toInt) ∧ (r = 1 → pz0_11 = 0) ∧ (r = 1 → (pz0_6 : Int32).toInt + 1 ≤ (v0 : Int32).toInt) ∧ w = [(z 3, aI V 900 fz3), (z 0, .inr (10, mo z pz0_0 pz0_5 v0 v1 pz0_8 v2 v3 pz0_11 pz0_12 pz0_13 pz0_14 pz0_18 pz0_19 pz0_22 pz0_23 pz0_29))])) := by
  refine Ct.of (by decide) (Nat.le_of_ble_eq_true rfl) (fun p e s m below meth c A ls hx hb hr hml hown hlk hnm hg hP hK hD hE hA hS hl => ?_)
  have hl : lv_has ls 2 [(0, .ref (z 0)), (1, .int 20)] := hl
  refine lv_aload_n hx hb dX10_eats_0 rfl (lv_at hl 0 rfl) ?_
  refine lv_iload_n hx hb dX10_eats_1 rfl (lv_at hl 1 rfl) ?_
  refine jnI (wr := [(z 3, aI V 900 fz3)]) (rnV (rest := []) ⟨hx, hb, hml, hown, hg⟩ (k_X10_is_20 l V z pz0_0 pz0_5 pz0_6 pz0_7 pz0_8 pz0_9 pz0_10 pz0_11 pz0_12 pz0_13 pz0_14 pz0_18 pz0_19 pz0_22 pz0_23 pz0_29 bpz0_5 bpz0_6 bpz0_7 bpz0_8 bpz0_10 bpz0_11 bpz0_12 bpz0_13 bpz0_14 bpz0_18 bpz0_22 bpz0_29) mt_X10_is q_6_143 ⟨Nat.le_of_ble_eq_true rfl, Nat.le_of_ble_eq_true rfl⟩ hK hP hD hS hA hE [1] rfl rfl 1 rfl rfl rfl rfl hl.1 rfl (Nat.le_of_ble_eq_true rfl) dX10_eats_2 ⟨Nat.le_of_ble_eq_true rfl, Nat.le_of_ble_eq_true rfl⟩) hP hD hS hA [1] [0] rfl rfl rfl (by decide) (fun r_1 w H locs hw hP hD hS => ?_)
  obtain ⟨br_1, g_2, g_3, rfl⟩ := hw
  have hP : va_P V.1 vwCl [(z 3, aI V 900 fz3), (z 0, .inr (10, mo z pz0_0 pz0_5 pz0_6 pz0_7 pz0_8 pz0_9 pz0_10 pz0_11 pz0_12 pz0_13 pz0_14 pz0_18 pz0_19 pz0_22 pz0_23 pz0_29))] H := hP
  have hD : va_D A [(z 3, aI V 900 fz3), (z 0, .inr (10, mo z pz0_0 pz0_5 pz0_6 pz0_7 pz0_8 pz0_9 pz0_10 pz0_11 pz0_12 pz0_13 pz0_14 pz0_18 pz0_19 pz0_22 pz0_23 pz0_29))] := hD
  refine lv_if_ne (tgt := 10) hx hb dX10_eats_5 (by decide) (fun c_4 => ?_) (fun c_4 => ?_)
  · have b_5 : iv 1 1 r_1 := iv_n0 c_4 br_1 (iv_c (0 : Int32) (a := 0) (b := 0) (by decide)) (by decide)
    have c_6 : pz0_11 = 0 := (g_2 (iv_eqp b_5 (iv_c (1 : Int32) (by decide))))
    have b_7 : iv 0 0 pz0_11 := iv_q c_6 (iv_c (0 : Int32) (a := 0) (b := 0) (by decide))
    have c_8 : pz0_9 = 20 := (g_3 (iv_eqp b_5 (iv_c (1 : Int32) (by decide))))
    have b_9 : iv 20 20 pz0_9 := iv_q c_8 (iv_c (20 : Int32) (a := 20) (b := 20) (by decide))
    refine lv_aload_n hx hb dX10_eats_10 rfl (lv_at hl 0 rfl) ?_
    refine jnV (wr := []) (rnV (rest := []) ⟨hx, hb, hml, hown, hg⟩ (k_X10_next_0 l V z pz0_0 pz0_5 pz0_6 pz0_7 pz0_8 pz0_9 pz0_10 pz0_11 pz0_12 pz0_13 pz0_14 pz0_18 pz0_19 pz0_22 pz0_23 pz0_29 fz3 bpz0_5 bpz0_6 bpz0_7 bpz0_8 bpz0_10 (iv_w b_7 (by decide)) bpz0_12 bpz0_13 bpz0_14 bpz0_18 bpz0_22 bpz0_29 hf0.2.1) mt_X10_next q_6_117 ⟨Nat.le_of_ble_eq_true rfl, Nat.le_of_ble_eq_true rfl⟩ hK hP hD hS hA hE [1, 0] rfl rfl 1 rfl rfl rfl rfl hl.1 rfl (Nat.le_of_ble_eq_true rfl) dX10_eats_11 ⟨Nat.le_of_ble_eq_true rfl, Nat.le_of_ble_eq_true rfl⟩) hP hD hS hA [1, 0] [] rfl rfl rfl (by decide) (fun  w H locs hw hP hD hS => ?_)
    obtain ⟨v_10, v_11, v_12, v_13, bv_10, bv_11, bv_13, g_14, g_15, rfl⟩ := hw
    have hP : va_P V.1 vwCl [(z 0, .inr (10, mo z pz0_0 pz0_5 v_10 v_11 pz0_8 v_12 v_13 pz0_11 pz0_12 pz0_13 pz0_14 pz0_18 pz0_19 pz0_22 pz0_23 pz0_29)), (z 3, aI V 900 fz3)] H := hP
    have hD : va_D A [(z 0, .inr (10, mo z pz0_0 pz0_5 v_10 v_11 pz0_8 v_12 v_13 pz0_11 pz0_12 pz0_13 pz0_14 pz0_18 pz0_19 pz0_22 pz0_23 pz0_29)), (z 3, aI V 900 fz3)] := hD
    refine lv_iconst (v := 1) hx hb dX10_eats_14 (by decide) ?_
    have hP := subP (ws' := [(z 3, aI V 900 fz3), (z 0, .inr (10, mo z pz0_0 pz0_5 v_10 v_11 pz0_8 v_12 v_13 pz0_11 pz0_12 pz0_13 pz0_14 pz0_18 pz0_19 pz0_22 pz0_23 pz0_29))]) hP [1, 0] rfl
    have hD := hD.sub (ws' := [(z 3, aI V 900 fz3), (z 0, .inr (10, mo z pz0_0 pz0_5 v_10 v_11 pz0_8 v_12 v_13 pz0_11 pz0_12 pz0_13 pz0_14 pz0_18 pz0_19 pz0_22 pz0_23 pz0_29))]) [1, 0] rfl rfl
    exact fiZ rfl hx hb hr hlk hK hP hD hS dX10_eats_15 (Nat.le_of_ble_eq_true rfl) (Nat.le_of_ble_eq_true rfl) (⟨v_10, v_11, v_12, v_13, bv_10, bv_11, bv_13, (iv_c (1 : Int32) (by decide)), g_14, (by have q9 := g_15; have q8 := hf0.1; omega), (fun _ => iv_eqp b_7 (iv_c (0 : Int32) (by decide))), (fun _ => by have q9 := g_15; have q8 := hf0.2.2 (by rw [c_8]; decide); omega), rfl⟩)
  · have b_16 : iv 0 0 r_1 := iv_q c_4 (iv_c (0 : Int32) (a := 0) (b := 0) (by decide))
    refine lv_iconst (v := 0) hx hb dX10_eats_8 (by decide) ?_
    exact fiZ rfl hx hb hr hlk hK hP hD hS dX10_eats_9 (Nat.le_of_ble_eq_true rfl) (Nat.le_of_ble_eq_true rfl) (⟨pz0_6, pz0_7, pz0_9, pz0_10, bpz0_6, bpz0_7, bpz0_10, (iv_c (0 : Int32) (by decide)), hf0, (Int.le_refl _), (fun q9 => absurd q9 (by decide)), (fun q9 => absurd q9 (by decide)), rfl⟩)
theorem dX10_readTruth_0 : decode cX10_readTruth 0 = .ok (.aload_n 0, 1) := by decide +kernel
theorem dX10_readTruth_1 : decode cX10_readTruth 1 = .ok (.iload_n 1, 1) := by decide +kernel
theorem q_6_222 : Cond.code yX10_readBoth prog_12_method_24_code 2 none ∈ gw := gw_6 (i := 222) (rfl) rfl
theorem q_6_221 : Cond.instanceMethod yX10_readBoth ∈ gw := gw_6 (i := 221) (by decide +kernel) rfl
theorem q_s_77 : Cond.selects "BeaconDelayModel" yX10_readBoth yX10_readBoth ∈ gw := gw_s (i := 77) (by decide +kernel) rfl
theorem mt_X10_readBoth : MtV yX10_readBoth cX10_readBoth 2 none 1 := ⟨⟨q_6_222, q_1_9, by decide +kernel, by decide +kernel, by decide +kernel⟩, q_6_221, q_s_77⟩
theorem q_6_219 : Cond.methodLink "BeaconDelayModel" 193 yX10_readBoth ∈ gw := gw_6 (i := 219) (by decide +kernel) rfl
theorem dX10_readTruth_2 : decode cX10_readTruth 2 = .ok (.invokevirtual 193, 3) := by decide +kernel
theorem dX10_readTruth_5 : decode cX10_readTruth 5 = .ok (.aload_n 0, 1) := by decide +kernel
theorem dX10_readTruth_6 : decode cX10_readTruth 6 = .ok (.bipush 20, 2) := by decide +kernel
theorem dX10_readTruth_8 : decode cX10_readTruth 8 = .ok (.invokevirtual 175, 3) := by decide +kernel
theorem dX10_readTruth_11 : decode cX10_readTruth 11 = .ok (.ifCond .eq 18, 3) := by decide +kernel
theorem dX10_readTruth_29 : decode cX10_readTruth 29 = .ok (.return_, 1) := by decide +kernel
theorem dX10_readTruth_14 : decode cX10_readTruth 14 = .ok (.aload_n 0, 1) := by decide +kernel
theorem dX10_readTruth_15 : decode cX10_readTruth 15 = .ok (.iload_n 1, 1) := by decide +kernel
theorem dX10_readTruth_16 : decode cX10_readTruth 16 = .ok (.invokevirtual 193, 3) := by decide +kernel
theorem dX10_readTruth_19 : decode cX10_readTruth 19 = .ok (.aload_n 0, 1) := by decide +kernel
theorem dX10_readTruth_20 : decode cX10_readTruth 20 = .ok (.sipush 3008, 3) := by decide +kernel
theorem dX10_readTruth_23 : decode cX10_readTruth 23 = .ok (.invokevirtual 163, 3) := by decide +kernel
theorem dX10_readTruth_26 : decode cX10_readTruth 26 = .ok (.goto (-21), 3) := by decide +kernel
set_option maxHeartbeats 4000000 in
set_option maxRecDepth 100000 in
theorem k_X10_readTruth_0 (l : Launch) (V : GV) (z : Nat → Nat) (fz4 : Nat → Int32) (fz3 : Nat → Int32) (pz0_0 : Int32) (pz0_5 : Int32) (pz0_6 : Int32) (pz0_7 : Int32) (pz0_8 : Int32) (pz0_9 : Int32) (pz0_10 : Int32) (pz0_11 : Int32) (pz0_12 : Int32) (pz0_13 : Int32) (pz0_14 : Int32) (pz0_18 : Int32) (pz0_19 : Int32) (pz0_22 : Int32) (pz0_23 : Int32) (pz0_29 : Int32) (tfz4 : ivT tF fz4) (bpz0_5 : iv 0 900 pz0_5) (bpz0_6 : iv 0 900 pz0_6) (bpz0_7 : iv 0 900 pz0_7) (bpz0_8 : iv 0 900 pz0_8) (bpz0_10 : iv 0 999 pz0_10) (bpz0_11 : iv 0 4 pz0_11) (bpz0_12 : iv 0 900 pz0_12) (bpz0_13 : iv 0 4 pz0_13) (bpz0_14 : iv (-1) 900 pz0_14) (bpz0_18 : iv 0 2 pz0_18) (bpz0_22 : iv 0 9999 pz0_22) (bpz0_29 : iv 0 10000 pz0_29) (hf0 : PT pz0_6 pz0_7 pz0_8 pz0_9) (hf1 : PS pz0_11 pz0_6 fz4) : Ct l V yX10_readTruth (.code yX10_readTruth cX10_readTruth 2 none) 12 [.ref (z 0), .int 6] [(z 4, aI V 1025 fz4), (z 3, aI V 900 fz3), (z 0, .inr (10, mo z pz0_0 pz0_5 pz0_6 pz0_7 pz0_8 pz0_9 pz0_10 pz0_11 pz0_12 pz0_13 pz0_14 pz0_18 pz0_19 pz0_22 pz0_23 pz0_29))] 0 0 (QV V (fun (w : va_W) => ∃ (g0 : Nat → Int32) (v1 : Int32) (v2 : Int32) (v3 : Int32) (v4 : Int32) (v5 : Int32) (v6 : Int32), (ivT tF g0) ∧ iv 0 900 v1 ∧ iv 0 900 v2 ∧ iv 0 999 v4 ∧ iv 0 4 v5 ∧ iv 0 900 v6 ∧ (PT v1 v2 pz0_8 v3) ∧ (PS v5 v1 g0) ∧ ((pz0_6 : Int32).toInt ≤ (v1 : Int32).toInt) ∧ (RX pz0_11 pz0_6 fz4 v5 v1 g0 1 0) ∧ w = [(z 4, aI V 1025 g0), (z 3, aI V 900 fz3), (z 0, .inr (10, mo z pz0_0 pz0_5 v1 v2 pz0_8 v3 v4 v5 v6 pz0_13 pz0_14 pz0_18 pz0_19 pz0_22 pz0_23 pz0_29))])) := by
  refine Ct.of (by decide) (Nat.le_of_ble_eq_true rfl) (fun p e s m below meth c A ls hx hb hr hml hown hlk hnm hg hP hK hD hE hA hS hl => ?_)
  have hl : lv_has ls 2 [(0, .ref (z 0)), (1, .int 6)] := hl
  refine lv_aload_n hx hb dX10_readTruth_0 rfl (lv_at hl 0 rfl) ?_
  refine lv_iload_n hx hb dX10_readTruth_1 rfl (lv_at hl 1 rfl) ?_
  refine jnV (wr := []) (rnV (rest := []) ⟨hx, hb, hml, hown, hg⟩ (k_X10_readBoth_0 l V z fz4 fz3 pz0_0 pz0_5 pz0_6 pz0_7 pz0_8 pz0_9 pz0_10 pz0_11 pz0_12 pz0_13 pz0_14 pz0_18 pz0_19 pz0_22 pz0_23 pz0_29 tfz4 bpz0_5 bpz0_6 bpz0_7 bpz0_8 bpz0_10 bpz0_11 bpz0_12 bpz0_13 bpz0_14 bpz0_18 bpz0_22 bpz0_29 hf0 hf1) mt_X10_readBoth q_6_219 ⟨Nat.le_of_ble_eq_true rfl, Nat.le_of_ble_eq_true rfl⟩ hK hP hD hS hA hE [0, 1, 2] rfl rfl 2 rfl rfl rfl rfl hl.1 rfl (Nat.le_of_ble_eq_true rfl) dX10_readTruth_2 ⟨Nat.le_of_ble_eq_true rfl, Nat.le_of_ble_eq_true rfl⟩) hP hD hS hA [0, 1, 2] [] rfl rfl rfl (by decide) (fun  w H locs hw hP hD hS => ?_)
  obtain ⟨f_1, v_2, v_3, v_4, v_5, v_6, v_7, tf_1, bv_2, bv_3, bv_5, bv_6, bv_7, g_8, g_9, g_10, g_11, rfl⟩ := hw
  have hP : va_P V.1 vwCl [(z 4, aI V 1025 f_1), (z 3, aI V 900 fz3), (z 0, .inr (10, mo z pz0_0 pz0_5 v_2 v_3 pz0_8 v_4 v_5 v_6 v_7 pz0_13 pz0_14 pz0_18 pz0_19 pz0_22 pz0_23 pz0_29))] H := hP
  have hD : va_D A [(z 4, aI V 1025 f_1), (z 3, aI V 900 fz3), (z 0, .inr (10, mo z pz0_0 pz0_5 v_2 v_3 pz0_8 v_4 v_5 v_6 v_7 pz0_13 pz0_14 pz0_18 pz0_19 pz0_22 pz0_23 pz0_29))] := hD
  have rx_12 : RX pz0_11 pz0_6 fz4 v_6 v_2 f_1 1 ((0 : Int)) := by have q9 := RX_seq (by decide) (RX_0 (w := pz0_11) (a := pz0_6) tfz4) g_11; exact RX_w q9 (by omega)
  refine loopF (X := fun (n_20 : Nat) (H : Heap) (locs : List Loc) (ls : Array Slot) => ∃ (f_13 : Nat → Int32) (u_14 : Int32) (u_15 : Int32) (u_16 : Int32) (u_17 : Int32) (u_18 : Int32) (u_19 : Int32), (ivT tF f_13) ∧ (iv 0 900 u_14) ∧ (iv 0 900 u_15) ∧ (iv 0 999 u_17) ∧ (iv 0 4 u_18) ∧ (iv 0 900 u_19) ∧ ((pz0_6 : Int32).toInt ≤ (u_14 : Int32).toInt) ∧ (RX pz0_11 pz0_6 fz4 u_18 u_14 f_13 1 0) ∧ (PT u_14 u_15 pz0_8 u_16) ∧ (PS u_18 u_14 f_13) ∧ n_20 = (900 - (u_14 : Int32).toInt).toNat ∧ va_P V.1 vwCl [(z 4, aI V 1025 f_13), (z 3, aI V 900 fz3), (z 0, .inr (10, mo z pz0_0 pz0_5 u_14 u_15 pz0_8 u_16 u_17 u_18 u_19 pz0_13 pz0_14 pz0_18 pz0_19 pz0_22 pz0_23 pz0_29))] H ∧ va_D A [(z 4, aI V 1025 f_13), (z 3, aI V 900 fz3), (z 0, .inr (10, mo z pz0_0 pz0_5 u_14 u_15 pz0_8 u_16 u_17 u_18 u_19 pz0_13 pz0_14 pz0_18 pz0_19 pz0_22 pz0_23 pz0_29))] ∧ va_S A s.heap H locs ∧ lv_has ls 2 [(0, .ref (z 0)), (1, .int 6)]) (g := fun ls => F0 m 5 ls []) (fun n_20 H locs ls hX ihn_20 => ?_) _ ⟨f_1, v_2, v_3, v_4, v_5, v_6, v_7, tf_1, bv_2, bv_3, bv_5, bv_6, bv_7, (by have z_0 := g_10;have y_0 := hf0.1; have y_1 := g_8.1; omega), (RX_w rx_12 (by omega)), g_8, g_9, rfl, hP, hD, hS, lv_sub hl [0, 1] rfl⟩
  obtain ⟨f_13, u_14, u_15, u_16, u_17, u_18, u_19, tf_13, bu_14, bu_15, bu_17, bu_18, bu_19, inn_20_0, inn_20_1, inn_20_2, inn_20_3, en_20, hP, hD, hS, hl⟩ := hX
  refine lv_aload_n hx hb dX10_readTruth_5 rfl (lv_at hl 0 rfl) ?_
  refine lv_bipush (v := 20) hx hb dX10_readTruth_6 (by decide) ?_
  refine jnI (wr := [(z 4, aI V 1025 f_13)]) (rnV (rest := []) ⟨hx, hb, hml, hown, hg⟩ (k_X10_eats_6 l V z fz3 pz0_0 pz0_5 u_14 u_15 pz0_8 u_16 u_17 u_18 u_19 pz0_13 pz0_14 pz0_18 pz0_19 pz0_22 pz0_23 pz0_29 bpz0_5 bu_14 bu_15 bpz0_8 bu_17 bu_18 bu_19 bpz0_13 bpz0_14 bpz0_18 bpz0_22 bpz0_29 inn_20_2) mt_X10_eats q_6_139 ⟨Nat.le_of_ble_eq_true rfl, Nat.le_of_ble_eq_true rfl⟩ hK hP hD hS hA hE [1, 2] rfl rfl 2 rfl rfl rfl rfl hl.1 rfl (Nat.le_of_ble_eq_true rfl) dX10_readTruth_8 ⟨Nat.le_of_ble_eq_true rfl, Nat.le_of_ble_eq_true rfl⟩) hP hD hS hA [1, 2] [0] rfl rfl rfl (by decide) (fun r_21 w H locs hw hP hD hS => ?_)
  obtain ⟨v_22, v_23, v_24, v_25, bv_22, bv_23, bv_25, br_21, g_26, g_27, g_28, g_29, rfl⟩ := hw
  have hP : va_P V.1 vwCl [(z 4, aI V 1025 f_13), (z 3, aI V 900 fz3), (z 0, .inr (10, mo z pz0_0 pz0_5 v_22 v_23 pz0_8 v_24 v_25 u_18 u_19 pz0_13 pz0_14 pz0_18 pz0_19 pz0_22 pz0_23 pz0_29))] H := hP
  have hD : va_D A [(z 4, aI V 1025 f_13), (z 3, aI V 900 fz3), (z 0, .inr (10, mo z pz0_0 pz0_5 v_22 v_23 pz0_8 v_24 v_25 u_18 u_19 pz0_13 pz0_14 pz0_18 pz0_19 pz0_22 pz0_23 pz0_29))] := hD
  have rx_30 : RX pz0_11 pz0_6 fz4 u_18 v_22 f_13 1 ((0 : Int) + adv r_21) := by have q9 := RX_a inn_20_1 (fun q8 => q8) (adv_le g_27 g_29); exact RX_w q9 (by omega)
  refine lv_if_eq (tgt := 29) hx hb dX10_readTruth_11 (by decide) (fun c_31 => ?_) (fun c_31 => ?_)
  · have b_32 : iv 0 0 r_21 := iv_q c_31 (iv_c (0 : Int32) (a := 0) (b := 0) (by decide))
    exact fiV hx hb hr hlk hK hP hD hS dX10_readTruth_29 (Nat.le_of_ble_eq_true rfl) (Nat.le_of_ble_eq_true rfl) (⟨f_13, v_22, v_23, v_24, v_25, u_18, u_19, tf_13, bv_22, bv_23, bv_25, bu_18, bu_19, g_26, (PS_x hf1 rx_30 (by have z_r_21 := adv_0 r_21; omega)), (by have z_0 := g_10; have z_1 := inn_20_0; have z_2 := g_27;have y_0 := hf0.1; have y_1 := g_8.1; have y_2 := inn_20_2.1; have y_3 := g_26.1; omega), (RX_w rx_30 (by have z_r_21 := adv_0 r_21; omega)), rfl⟩)
  · have b_33 : iv 1 1 r_21 := iv_n0 c_31 br_21 (iv_c (0 : Int32) (a := 0) (b := 0) (by decide)) (by decide)
    have c_34 : u_18 = 0 := (g_28 (iv_eqp b_33 (iv_c (1 : Int32) (by decide))))
    have b_35 : iv 0 0 u_18 := iv_q c_34 (iv_c (0 : Int32) (a := 0) (b := 0) (by decide))
    refine lv_aload_n hx hb dX10_readTruth_14 rfl (lv_at hl 0 rfl) ?_
    refine lv_iload_n hx hb dX10_readTruth_15 rfl (lv_at hl 1 rfl) ?_
    refine jnV (wr := []) (rnV (rest := []) ⟨hx, hb, hml, hown, hg⟩ (k_X10_readBoth_0 l V z f_13 fz3 pz0_0 pz0_5 v_22 v_23 pz0_8 v_24 v_25 u_18 u_19 pz0_13 pz0_14 pz0_18 pz0_19 pz0_22 pz0_23 pz0_29 tf_13 bpz0_5 bv_22 bv_23 bpz0_8 bv_25 (iv_w b_35 (by decide)) bu_19 bpz0_13 bpz0_14 bpz0_18 bpz0_22 bpz0_29 g_26 (PS_x hf1 rx_30 (by have z_r_21 := adv_1 (iv_eqp b_33 (iv_c (1 : Int32) (by decide))); omega))) mt_X10_readBoth q_6_219 ⟨Nat.le_of_ble_eq_true rfl, Nat.le_of_ble_eq_true rfl⟩ hK hP hD hS hA hE [0, 1, 2] rfl rfl 2 rfl rfl rfl rfl hl.1 rfl (Nat.le_of_ble_eq_true rfl) dX10_readTruth_16 ⟨Nat.le_of_ble_eq_true rfl, Nat.le_of_ble_eq_true rfl⟩) hP hD hS hA [0, 1, 2] [] rfl rfl rfl (by decide) (fun  w H locs hw hP hD hS => ?_)
    obtain ⟨f_36, v_37, v_38, v_39, v_40, v_41, v_42, tf_36, bv_37, bv_38, bv_40, bv_41, bv_42, g_43, g_44, g_45, g_46, rfl⟩ := hw
    have hP : va_P V.1 vwCl [(z 4, aI V 1025 f_36), (z 3, aI V 900 fz3), (z 0, .inr (10, mo z pz0_0 pz0_5 v_37 v_38 pz0_8 v_39 v_40 v_41 v_42 pz0_13 pz0_14 pz0_18 pz0_19 pz0_22 pz0_23 pz0_29))] H := hP
    have hD : va_D A [(z 4, aI V 1025 f_36), (z 3, aI V 900 fz3), (z 0, .inr (10, mo z pz0_0 pz0_5 v_37 v_38 pz0_8 v_39 v_40 v_41 v_42 pz0_13 pz0_14 pz0_18 pz0_19 pz0_22 pz0_23 pz0_29))] := hD
    have rx_47 : RX pz0_11 pz0_6 fz4 v_41 v_37 f_36 2 ((0 : Int) + adv r_21) := by have q9 := RX_seq (by decide) rx_30 g_46; exact RX_w q9 (by omega)
    refine lv_aload_n hx hb dX10_readTruth_19 rfl (lv_at hl 0 rfl) ?_
    refine lv_sipush (v := 3008) hx hb dX10_readTruth_20 (by decide) ?_
    refine jnV (wr := [(z 3, aI V 900 fz3)]) (rnV (rest := []) ⟨hx, hb, hml, hown, hg⟩ (k_X10_codes_0 l V z 3008 f_36 pz0_0 pz0_5 v_37 v_38 pz0_8 v_39 v_40 v_41 v_42 pz0_13 pz0_14 pz0_18 pz0_19 pz0_22 pz0_23 pz0_29 tf_36 bpz0_5 bv_37 bv_38 bpz0_8 bv_40 bv_41 bv_42 bpz0_13 bpz0_14 bpz0_18 bpz0_22 bpz0_29 (PS_n hf1 rx_47 bv_37 (by decide) (by have z_r_21 := adv_1 (iv_eqp b_33 (iv_c (1 : Int32) (by decide))); omega))) mt_X10_codes q_6_199 ⟨Nat.le_of_ble_eq_true rfl, Nat.le_of_ble_eq_true rfl⟩ hK hP hD hS hA hE [0, 2] rfl rfl 2 rfl rfl rfl rfl hl.1 rfl (Nat.le_of_ble_eq_true rfl) dX10_readTruth_23 ⟨Nat.le_of_ble_eq_true rfl, Nat.le_of_ble_eq_true rfl⟩) hP hD hS hA [0, 2] [1] rfl rfl rfl (by decide) (fun  w H locs hw hP hD hS => ?_)
    obtain ⟨f_48, tf_48, g_49, g_50, rfl⟩ := hw
    have hP : va_P V.1 vwCl [(z 3, aI V 900 fz3), (z 4, aI V 1025 f_48), (z 0, .inr (10, mo z pz0_0 pz0_5 v_37 v_38 pz0_8 v_39 v_40 v_41 v_42 pz0_13 pz0_14 pz0_18 pz0_19 pz0_22 pz0_23 pz0_29))] H := hP
    have hD : va_D A [(z 3, aI V 900 fz3), (z 4, aI V 1025 f_48), (z 0, .inr (10, mo z pz0_0 pz0_5 v_37 v_38 pz0_8 v_39 v_40 v_41 v_42 pz0_13 pz0_14 pz0_18 pz0_19 pz0_22 pz0_23 pz0_29))] := hD
    have rx_51 : RX pz0_11 pz0_6 fz4 v_41 v_37 f_48 1 ((-1 : Int) + adv r_21) := by have q9 := RX_c rx_47 tf_36 g_49 (by decide) ⟨by decide, by decide⟩ (by decide) (PS_n hf1 rx_47 bv_37 (by decide) (by have z_r_21 := adv_1 (iv_eqp b_33 (iv_c (1 : Int32) (by decide))); omega)); rw [(by decide : eff (3008 : Int32) = -1)] at q9; exact RX_w q9 (by omega)
    refine lv_goto (tgt := 5) hx hb dX10_readTruth_26 (by decide) ?_
    have hP := subP (ws' := [(z 4, aI V 1025 f_48), (z 3, aI V 900 fz3), (z 0, .inr (10, mo z pz0_0 pz0_5 v_37 v_38 pz0_8 v_39 v_40 v_41 v_42 pz0_13 pz0_14 pz0_18 pz0_19 pz0_22 pz0_23 pz0_29))]) hP [1, 0, 2] rfl
    have hD := hD.sub (ws' := [(z 4, aI V 1025 f_48), (z 3, aI V 900 fz3), (z 0, .inr (10, mo z pz0_0 pz0_5 v_37 v_38 pz0_8 v_39 v_40 v_41 v_42 pz0_13 pz0_14 pz0_18 pz0_19 pz0_22 pz0_23 pz0_29))]) [1, 0, 2] rfl rfl
    exact ihn_20 _ _ _ _ (by rw [en_20]; have z_0 := g_10; have z_1 := inn_20_0; have z_2 := g_27; have z_3 := g_45; have z_4 := (g_29 (iv_eqp b_33 (iv_c (1 : Int32) (by decide)))); have z_5 := hf0.1; have z_6 := g_8.1; have z_7 := inn_20_2.1; have z_8 := g_26.1; have z_9 := g_43.1; have q9 := bv_37; unfold iv at q9; omega) ⟨f_48, v_37, v_38, v_39, v_40, v_41, v_42, tf_48, bv_37, bv_38, bv_40, bv_41, bv_42, (by have z_0 := g_10; have z_1 := inn_20_0; have z_2 := g_27; have z_3 := g_45;have y_0 := hf0.1; have y_1 := g_8.1; have y_2 := inn_20_2.1; have y_3 := g_26.1; have y_4 := g_43.1; omega), (RX_w rx_51 (by have z_r_21 := adv_1 (iv_eqp b_33 (iv_c (1 : Int32) (by decide))); omega)), g_43, (PS_x hf1 rx_51 (by have z_r_21 := adv_1 (iv_eqp b_33 (iv_c (1 : Int32) (by decide))); omega)), rfl, hP, hD, hS, lv_sub hl [0, 1] rfl⟩
set_option maxHeartbeats 4000000 in
set_option maxRecDepth 100000 in
theorem k_X10_is_21 (l : Launch) (V : GV) (z : Nat → Nat) (pz0_0 : Int32) (pz0_5 : Int32) (pz0_6 : Int32) (pz0_7 : Int32) (pz0_8 : Int32) (pz0_9 : Int32) (pz0_10 : Int32) (pz0_11 : Int32) (pz0_12 : Int32) (pz0_13 : Int32) (pz0_14 : Int32) (pz0_18 : Int32) (pz0_19 : Int32) (pz0_22 : Int32) (pz0_23 : Int32) (pz0_29 : Int32) (bpz0_5 : iv 0 900 pz0_5) (bpz0_6 : iv 0 900 pz0_6) (bpz0_7 : iv 0 900 pz0_7) (bpz0_8 : iv 0 900 pz0_8) (bpz0_10 : iv 0 999 pz0_10) (bpz0_11 : iv 0 4 pz0_11) (bpz0_12 : iv 0 900 pz0_12) (bpz0_13 : iv 0 4 pz0_13) (bpz0_14 : iv (-1) 900 pz0_14) (bpz0_18 : iv 0 2 pz0_18) (bpz0_22 : iv 0 9999 pz0_22) (bpz0_29 : iv 0 10000 pz0_29) : Ct l V yX10_is (.code yX10_is cX10_is 2 (some .boolean)) 1 [.ref (z 0), .int 14] [(z 0, .inr (10, mo z pz0_0 pz0_5 pz0_6 pz0_7 pz0_8 pz0_9 pz0_10 pz0_11 pz0_12 pz0_13 pz0_14 pz0_18 pz0_19 pz0_22 pz0_23 pz0_29))] 0 0 (QI V (fun (r : Int32) (w : va_W) => iv 0 1 r ∧ (r = 1 → pz0_11 = 0) ∧ (r = 1 → pz0_9 = (14 : Int32)) ∧ w = [(z 0, .inr (10, mo z pz0_0 pz0_5 pz0_6 pz0_7 pz0_8 pz0_9 pz0_10 pz0_11 pz0_12 pz0_13 pz0_14 pz0_18 pz0_19 pz0_22 pz0_23 pz0_29))])) := by
  refine Ct.of (by decide) (Nat.le_of_ble_eq_true rfl) (fun p e s m below meth c A ls hx hb hr hml hown hlk hnm hg hP hK hD hE hA hS hl => ?_)
  have hl : lv_has ls 2 [(0, .ref (z 0)), (1, .int 14)] := hl
  refine lv_aload_n hx hb dX10_is_0 rfl (lv_at hl 0 rfl) ?_
  refine va_get (ci := 10) (v := .int pz0_11) (C := RX10) (T := TX10) (N := 40) hx hb hg inX10 hown hK hP 0 rfl rfl 11 (by decide) (hg _ q_5_235) (fun _ h9 => h9) rfl dX10_is_1 ?_
  refine lv_if_ne (tgt := 19) hx hb dX10_is_4 (by decide) (fun c_1 => ?_) (fun c_1 => ?_)
  · have b_2 : iv 1 4 pz0_11 := iv_n0 c_1 bpz0_11 (iv_c (0 : Int32) (a := 0) (b := 0) (by decide)) (by decide)
    refine lv_iconst (v := 0) hx hb dX10_is_19 (by decide) ?_
    exact fiZ rfl hx hb hr hlk hK hP hD hS dX10_is_20 (Nat.le_of_ble_eq_true rfl) (Nat.le_of_ble_eq_true rfl) (⟨(iv_c (0 : Int32) (by decide)), (fun q9 => absurd q9 (by decide)), (fun q9 => absurd q9 (by decide)), rfl⟩)
  · have b_3 : iv 0 0 pz0_11 := iv_q c_1 (iv_c (0 : Int32) (a := 0) (b := 0) (by decide))
    refine lv_aload_n hx hb dX10_is_7 rfl (lv_at hl 0 rfl) ?_
    refine va_get (ci := 10) (v := .int pz0_9) (C := RX10) (T := TX10) (N := 40) hx hb hg inX10 hown hK hP 0 rfl rfl 9 (by decide) (hg _ q_5_233) (fun _ h9 => h9) rfl dX10_is_8 ?_
    refine lv_iload_n hx hb dX10_is_11 rfl (lv_at hl 1 rfl) ?_
    refine lv_icmp_ne (tgt := 19) hx hb dX10_is_12 (by decide) (fun c_4 => ?_) (fun c_4 => ?_)
    · refine lv_iconst (v := 0) hx hb dX10_is_19 (by decide) ?_
      exact fiZ rfl hx hb hr hlk hK hP hD hS dX10_is_20 (Nat.le_of_ble_eq_true rfl) (Nat.le_of_ble_eq_true rfl) (⟨(iv_c (0 : Int32) (by decide)), (fun q9 => absurd q9 (by decide)), (fun q9 => absurd q9 (by decide)), rfl⟩)
    · have b_5 : iv 14 14 pz0_9 := iv_q c_4 (iv_c (14 : Int32) (a := 14) (b := 14) (by decide))
      refine lv_iconst (v := 1) hx hb dX10_is_15 (by decide) ?_
      refine lv_goto (tgt := 20) hx hb dX10_is_16 (by decide) ?_
      exact fiZ rfl hx hb hr hlk hK hP hD hS dX10_is_20 (Nat.le_of_ble_eq_true rfl) (Nat.le_of_ble_eq_true rfl) (⟨(iv_c (1 : Int32) (by decide)), (fun _ => c_1), (fun _ => c_4), rfl⟩)
set_option maxHeartbeats 4000000 in
set_option maxRecDepth 100000 in
theorem k_X10_eats_7 (l : Launch) (V : GV) (z : Nat → Nat) (fz3 : Nat → Int32) (pz0_0 : Int32) (pz0_5 : Int32) (pz0_6 : Int32) (pz0_7 : Int32) (pz0_8 : Int32) (pz0_9 : Int32) (pz0_10 : Int32) (pz0_11 : Int32) (pz0_12 : Int32) (pz0_13 : Int32) (pz0_14 : Int32) (pz0_18 : Int32) (pz0_19 : Int32) (pz0_22 : Int32) (pz0_23 : Int32) (pz0_29 : Int32) (bpz0_5 : iv 0 900 pz0_5) (bpz0_6 : iv 0 900 pz0_6) (bpz0_7 : iv 0 900 pz0_7) (bpz0_8 : iv 0 900 pz0_8) (bpz0_10 : iv 0 999 pz0_10) (bpz0_11 : iv 0 4 pz0_11) (bpz0_12 : iv 0 900 pz0_12) (bpz0_13 : iv 0 4 pz0_13) (bpz0_14 : iv (-1) 900 pz0_14) (bpz0_18 : iv 0 2 pz0_18) (bpz0_22 : iv 0 9999 pz0_22) (bpz0_29 : iv 0 10000 pz0_29) (hf0 : PT pz0_6 pz0_7 pz0_8 pz0_9) : Ct l V yX10_eats (.code yX10_eats cX10_eats 2 (some .boolean)) 7 [.ref (z 0), .int 14] [(z 3, aI V 900 fz3), (z 0, .inr (10, mo z pz0_0 pz0_5 pz0_6 pz0_7 pz0_8 pz0_9 pz0_10 pz0_11 pz0_12 pz0_13 pz0_14 pz0_18 pz0_19 pz0_22 pz0_23 pz0_29))] 0 0 (QI V (fun (r : Int32) (w : va_W) => ∃ (v0 : Int32) (v1 : Int32) (v2 : Int32) (v3 : Int32), iv 0 900 v0 ∧ iv 0 900 v1 ∧ iv 0 999 v3 ∧ iv 0 1 r ∧ (PT v0 v1 pz0_8 v2) ∧ ((pz0_6 : Int32).toInt ≤ (v0 : Int32).toInt) ∧ (r = 1 → pz0_11 = 0) ∧ (r = 1 → (pz0_6 : Int32).toInt + 1 ≤ (v0 : Int32).toInt) ∧ w = [(z 3, aI V 900 fz3), (z 0, .inr (10, mo z pz0_0 pz0_5 v0 v1 pz0_8 v2 v3 pz0_11 pz0_12 pz0_13 pz0_14 pz0_18 pz0_19 pz0_22 pz0_23 pz0_29))])) := by
  refine Ct.of (by decide) (Nat.le_of_ble_eq_true rfl) (fun p e s m below meth c A ls hx hb hr hml hown hlk hnm hg hP hK hD hE hA hS hl => ?_)
  have hl : lv_has ls 2 [(0, .ref (z 0)), (1, .int 14)] := hl
  refine lv_aload_n hx hb dX10_eats_0 rfl (lv_at hl 0 rfl) ?_
  refine lv_iload_n hx hb dX10_eats_1 rfl (lv_at hl 1 rfl) ?_
  refine jnI (wr := [(z 3, aI V 900 fz3)]) (rnV (rest := []) ⟨hx, hb, hml, hown, hg⟩ (k_X10_is_21 l V z pz0_0 pz0_5 pz0_6 pz0_7 pz0_8 pz0_9 pz0_10 pz0_11 pz0_12 pz0_13 pz0_14 pz0_18 pz0_19 pz0_22 pz0_23 pz0_29 bpz0_5 bpz0_6 bpz0_7 bpz0_8 bpz0_10 bpz0_11 bpz0_12 bpz0_13 bpz0_14 bpz0_18 bpz0_22 bpz0_29) mt_X10_is q_6_143 ⟨Nat.le_of_ble_eq_true rfl, Nat.le_of_ble_eq_true rfl⟩ hK hP hD hS hA hE [1] rfl rfl 1 rfl rfl rfl rfl hl.1 rfl (Nat.le_of_ble_eq_true rfl) dX10_eats_2 ⟨Nat.le_of_ble_eq_true rfl, Nat.le_of_ble_eq_true rfl⟩) hP hD hS hA [1] [0] rfl rfl rfl (by decide) (fun r_1 w H locs hw hP hD hS => ?_)
  obtain ⟨br_1, g_2, g_3, rfl⟩ := hw
  have hP : va_P V.1 vwCl [(z 3, aI V 900 fz3), (z 0, .inr (10, mo z pz0_0 pz0_5 pz0_6 pz0_7 pz0_8 pz0_9 pz0_10 pz0_11 pz0_12 pz0_13 pz0_14 pz0_18 pz0_19 pz0_22 pz0_23 pz0_29))] H := hP
  have hD : va_D A [(z 3, aI V 900 fz3), (z 0, .inr (10, mo z pz0_0 pz0_5 pz0_6 pz0_7 pz0_8 pz0_9 pz0_10 pz0_11 pz0_12 pz0_13 pz0_14 pz0_18 pz0_19 pz0_22 pz0_23 pz0_29))] := hD
  refine lv_if_ne (tgt := 10) hx hb dX10_eats_5 (by decide) (fun c_4 => ?_) (fun c_4 => ?_)
  · have b_5 : iv 1 1 r_1 := iv_n0 c_4 br_1 (iv_c (0 : Int32) (a := 0) (b := 0) (by decide)) (by decide)
    have c_6 : pz0_11 = 0 := (g_2 (iv_eqp b_5 (iv_c (1 : Int32) (by decide))))
    have b_7 : iv 0 0 pz0_11 := iv_q c_6 (iv_c (0 : Int32) (a := 0) (b := 0) (by decide))
    have c_8 : pz0_9 = 14 := (g_3 (iv_eqp b_5 (iv_c (1 : Int32) (by decide))))
    have b_9 : iv 14 14 pz0_9 := iv_q c_8 (iv_c (14 : Int32) (a := 14) (b := 14) (by decide))
    refine lv_aload_n hx hb dX10_eats_10 rfl (lv_at hl 0 rfl) ?_
    refine jnV (wr := []) (rnV (rest := []) ⟨hx, hb, hml, hown, hg⟩ (k_X10_next_0 l V z pz0_0 pz0_5 pz0_6 pz0_7 pz0_8 pz0_9 pz0_10 pz0_11 pz0_12 pz0_13 pz0_14 pz0_18 pz0_19 pz0_22 pz0_23 pz0_29 fz3 bpz0_5 bpz0_6 bpz0_7 bpz0_8 bpz0_10 (iv_w b_7 (by decide)) bpz0_12 bpz0_13 bpz0_14 bpz0_18 bpz0_22 bpz0_29 hf0.2.1) mt_X10_next q_6_117 ⟨Nat.le_of_ble_eq_true rfl, Nat.le_of_ble_eq_true rfl⟩ hK hP hD hS hA hE [1, 0] rfl rfl 1 rfl rfl rfl rfl hl.1 rfl (Nat.le_of_ble_eq_true rfl) dX10_eats_11 ⟨Nat.le_of_ble_eq_true rfl, Nat.le_of_ble_eq_true rfl⟩) hP hD hS hA [1, 0] [] rfl rfl rfl (by decide) (fun  w H locs hw hP hD hS => ?_)
    obtain ⟨v_10, v_11, v_12, v_13, bv_10, bv_11, bv_13, g_14, g_15, rfl⟩ := hw
    have hP : va_P V.1 vwCl [(z 0, .inr (10, mo z pz0_0 pz0_5 v_10 v_11 pz0_8 v_12 v_13 pz0_11 pz0_12 pz0_13 pz0_14 pz0_18 pz0_19 pz0_22 pz0_23 pz0_29)), (z 3, aI V 900 fz3)] H := hP
    have hD : va_D A [(z 0, .inr (10, mo z pz0_0 pz0_5 v_10 v_11 pz0_8 v_12 v_13 pz0_11 pz0_12 pz0_13 pz0_14 pz0_18 pz0_19 pz0_22 pz0_23 pz0_29)), (z 3, aI V 900 fz3)] := hD
    refine lv_iconst (v := 1) hx hb dX10_eats_14 (by decide) ?_
    have hP := subP (ws' := [(z 3, aI V 900 fz3), (z 0, .inr (10, mo z pz0_0 pz0_5 v_10 v_11 pz0_8 v_12 v_13 pz0_11 pz0_12 pz0_13 pz0_14 pz0_18 pz0_19 pz0_22 pz0_23 pz0_29))]) hP [1, 0] rfl
    have hD := hD.sub (ws' := [(z 3, aI V 900 fz3), (z 0, .inr (10, mo z pz0_0 pz0_5 v_10 v_11 pz0_8 v_12 v_13 pz0_11 pz0_12 pz0_13 pz0_14 pz0_18 pz0_19 pz0_22 pz0_23 pz0_29))]) [1, 0] rfl rfl
    exact fiZ rfl hx hb hr hlk hK hP hD hS dX10_eats_15 (Nat.le_of_ble_eq_true rfl) (Nat.le_of_ble_eq_true rfl) (⟨v_10, v_11, v_12, v_13, bv_10, bv_11, bv_13, (iv_c (1 : Int32) (by decide)), g_14, (by have q9 := g_15; have q8 := hf0.1; omega), (fun _ => iv_eqp b_7 (iv_c (0 : Int32) (by decide))), (fun _ => by have q9 := g_15; have q8 := hf0.2.2 (by rw [c_8]; decide); omega), rfl⟩)
  · have b_16 : iv 0 0 r_1 := iv_q c_4 (iv_c (0 : Int32) (a := 0) (b := 0) (by decide))
    refine lv_iconst (v := 0) hx hb dX10_eats_8 (by decide) ?_
    exact fiZ rfl hx hb hr hlk hK hP hD hS dX10_eats_9 (Nat.le_of_ble_eq_true rfl) (Nat.le_of_ble_eq_true rfl) (⟨pz0_6, pz0_7, pz0_9, pz0_10, bpz0_6, bpz0_7, bpz0_10, (iv_c (0 : Int32) (by decide)), hf0, (Int.le_refl _), (fun q9 => absurd q9 (by decide)), (fun q9 => absurd q9 (by decide)), rfl⟩)
