theorem dX10_is_0 : decode cX10_is 0 = .ok (.aload_n 0, 1) := by decide +kernel
theorem q_5_235 : Cond.fieldLink "BeaconDelayModel" 143 "BeaconDelayModel" "wrong" "I" ∈ gw := gw_5 (i := 235) (by decide +kernel) rfl
theorem dX10_is_1 : decode cX10_is 1 = .ok (.getfield 143, 3) := by decide +kernel
theorem dX10_is_4 : decode cX10_is 4 = .ok (.ifCond .ne 15, 3) := by decide +kernel
theorem dX10_is_19 : decode cX10_is 19 = .ok (.iconst 0, 1) := by decide +kernel
theorem dX10_is_20 : decode cX10_is 20 = .ok (.ireturn, 1) := by decide +kernel
theorem dX10_is_7 : decode cX10_is 7 = .ok (.aload_n 0, 1) := by decide +kernel
theorem dX10_is_8 : decode cX10_is 8 = .ok (.getfield 125, 3) := by decide +kernel
theorem dX10_is_11 : decode cX10_is 11 = .ok (.iload_n 1, 1) := by decide +kernel
theorem dX10_is_12 : decode cX10_is 12 = .ok (.if_icmp .ne 7, 3) := by decide +kernel
theorem dX10_is_15 : decode cX10_is 15 = .ok (.iconst 1, 1) := by decide +kernel
theorem dX10_is_16 : decode cX10_is 16 = .ok (.goto 4, 3) := by decide +kernel
set_option maxHeartbeats 4000000 in
set_option maxRecDepth 100000 in
theorem k_X10_is_0 (l : Launch) (V : GV) (z : Nat → Nat) (pz0_0 : Int32) (pz0_5 : Int32) (pz0_6 : Int32) (pz0_7 : Int32) (pz0_8 : Int32) (pz0_9 : Int32) (pz0_10 : Int32) (pz0_11 : Int32) (pz0_12 : Int32) (pz0_13 : Int32) (pz0_14 : Int32) (pz0_18 : Int32) (pz0_19 : Int32) (pz0_22 : Int32) (pz0_23 : Int32) (pz0_29 : Int32) (bpz0_5 : iv 0 900 pz0_5) (bpz0_6 : iv 0 900 pz0_6) (bpz0_7 : iv 0 900 pz0_7) (bpz0_8 : iv 0 900 pz0_8) (bpz0_10 : iv 0 999 pz0_10) (bpz0_11 : iv 0 4 pz0_11) (bpz0_12 : iv 0 900 pz0_12) (bpz0_13 : iv 0 4 pz0_13) (bpz0_14 : iv (-1) 900 pz0_14) (bpz0_18 : iv 0 2 pz0_18) (bpz0_22 : iv 0 9999 pz0_22) (bpz0_29 : iv 0 10000 pz0_29) : Ct l V yX10_is (.code yX10_is cX10_is 2 (some .boolean)) 1 [.ref (z 0), .int 0] [(z 0, .inr (10, mo z pz0_0 pz0_5 pz0_6 pz0_7 pz0_8 pz0_9 pz0_10 pz0_11 pz0_12 pz0_13 pz0_14 pz0_18 pz0_19 pz0_22 pz0_23 pz0_29))] 0 0 (QI V (fun (r : Int32) (w : va_W) => iv 0 1 r ∧ (r = 1 → pz0_11 = 0) ∧ (r = 1 → pz0_9 = (0 : Int32)) ∧ (r = 0 → ¬ (pz0_11 = 0 ∧ pz0_9 = (0 : Int32))) ∧ w = [(z 0, .inr (10, mo z pz0_0 pz0_5 pz0_6 pz0_7 pz0_8 pz0_9 pz0_10 pz0_11 pz0_12 pz0_13 pz0_14 pz0_18 pz0_19 pz0_22 pz0_23 pz0_29))])) := by
  refine Ct.of (by decide) (Nat.le_of_ble_eq_true rfl) (fun p e s m below meth c A ls hx hb hr hml hown hlk hnm hg hP hK hD hE hA hS hl => ?_)
  have hl : lv_has ls 2 [(0, .ref (z 0)), (1, .int 0)] := hl
  refine lv_aload_n hx hb dX10_is_0 rfl (lv_at hl 0 rfl) ?_
  refine va_get (ci := 10) (v := .int pz0_11) (C := RX10) (T := TX10) (N := 40) hx hb hg inX10 hown hK hP 0 rfl rfl 11 (by decide) (hg _ q_5_235) (fun _ h9 => h9) rfl dX10_is_1 ?_
  refine lv_if_ne (tgt := 19) hx hb dX10_is_4 (by decide) (fun c_1 => ?_) (fun c_1 => ?_)
  · have b_2 : iv 1 4 pz0_11 := iv_n0 c_1 bpz0_11 (iv_c (0 : Int32) (a := 0) (b := 0) (by decide)) (by decide)
    refine lv_iconst (v := 0) hx hb dX10_is_19 (by decide) ?_
    exact fiZ rfl hx hb hr hlk hK hP hD hS dX10_is_20 (Nat.le_of_ble_eq_true rfl) (Nat.le_of_ble_eq_true rfl) (⟨(iv_c (0 : Int32) (by decide)), (fun q9 => absurd q9 (by decide)), (fun q9 => absurd q9 (by decide)), (fun _ q9 => c_1 q9.1), rfl⟩)
  · have b_3 : iv 0 0 pz0_11 := iv_q c_1 (iv_c (0 : Int32) (a := 0) (b := 0) (by decide))
    refine lv_aload_n hx hb dX10_is_7 rfl (lv_at hl 0 rfl) ?_
    refine va_get (ci := 10) (v := .int pz0_9) (C := RX10) (T := TX10) (N := 40) hx hb hg inX10 hown hK hP 0 rfl rfl 9 (by decide) (hg _ q_5_233) (fun _ h9 => h9) rfl dX10_is_8 ?_
    refine lv_iload_n hx hb dX10_is_11 rfl (lv_at hl 1 rfl) ?_
    refine lv_icmp_ne (tgt := 19) hx hb dX10_is_12 (by decide) (fun c_4 => ?_) (fun c_4 => ?_)
    · refine lv_iconst (v := 0) hx hb dX10_is_19 (by decide) ?_
      exact fiZ rfl hx hb hr hlk hK hP hD hS dX10_is_20 (Nat.le_of_ble_eq_true rfl) (Nat.le_of_ble_eq_true rfl) (⟨(iv_c (0 : Int32) (by decide)), (fun q9 => absurd q9 (by decide)), (fun q9 => absurd q9 (by decide)), (fun _ q9 => c_4 q9.2), rfl⟩)
    · have b_5 : iv 0 0 pz0_9 := iv_q c_4 (iv_c (0 : Int32) (a := 0) (b := 0) (by decide))
      refine lv_iconst (v := 1) hx hb dX10_is_15 (by decide) ?_
      refine lv_goto (tgt := 20) hx hb dX10_is_16 (by decide) ?_
      exact fiZ rfl hx hb hr hlk hK hP hD hS dX10_is_20 (Nat.le_of_ble_eq_true rfl) (Nat.le_of_ble_eq_true rfl) (⟨(iv_c (1 : Int32) (by decide)), (fun _ => c_1), (fun _ => c_4), (fun q9 => absurd q9 (by decide)), rfl⟩)
theorem dX10_eats_0 : decode cX10_eats 0 = .ok (.aload_n 0, 1) := by decide +kernel
theorem dX10_eats_1 : decode cX10_eats 1 = .ok (.iload_n 1, 1) := by decide +kernel
theorem q_6_146 : Cond.code yX10_is prog_12_method_12_code 2 (some FieldType.boolean) ∈ gw := gw_6 (i := 146) (rfl) rfl
theorem q_6_145 : Cond.instanceMethod yX10_is ∈ gw := gw_6 (i := 145) (by decide +kernel) rfl
theorem q_s_58 : Cond.selects "BeaconDelayModel" yX10_is yX10_is ∈ gw := gw_s (i := 58) (by decide +kernel) rfl
theorem mt_X10_is : MtV yX10_is cX10_is 2 (some .boolean) 1 := ⟨⟨q_6_146, q_1_9, by decide +kernel, by decide +kernel, by decide +kernel⟩, q_6_145, q_s_58⟩
theorem q_6_143 : Cond.methodLink "BeaconDelayModel" 149 yX10_is ∈ gw := gw_6 (i := 143) (by decide +kernel) rfl
theorem dX10_eats_2 : decode cX10_eats 2 = .ok (.invokevirtual 149, 3) := by decide +kernel
theorem dX10_eats_5 : decode cX10_eats 5 = .ok (.ifCond .ne 5, 3) := by decide +kernel
theorem dX10_eats_10 : decode cX10_eats 10 = .ok (.aload_n 0, 1) := by decide +kernel
theorem q_6_120 : Cond.code yX10_next prog_12_method_10_code 2 none ∈ gw := gw_6 (i := 120) (rfl) rfl
theorem q_6_119 : Cond.instanceMethod yX10_next ∈ gw := gw_6 (i := 119) (by decide +kernel) rfl
theorem q_s_54 : Cond.selects "BeaconDelayModel" yX10_next yX10_next ∈ gw := gw_s (i := 54) (by decide +kernel) rfl
theorem mt_X10_next : MtV yX10_next cX10_next 2 none 0 := ⟨⟨q_6_120, q_1_9, by decide +kernel, by decide +kernel, by decide +kernel⟩, q_6_119, q_s_54⟩
theorem q_6_117 : Cond.methodLink "BeaconDelayModel" 152 yX10_next ∈ gw := gw_6 (i := 117) (by decide +kernel) rfl
theorem dX10_eats_11 : decode cX10_eats 11 = .ok (.invokevirtual 152, 3) := by decide +kernel
theorem dX10_eats_14 : decode cX10_eats 14 = .ok (.iconst 1, 1) := by decide +kernel
theorem dX10_eats_15 : decode cX10_eats 15 = .ok (.ireturn, 1) := by decide +kernel
theorem dX10_eats_8 : decode cX10_eats 8 = .ok (.iconst 0, 1) := by decide +kernel
theorem dX10_eats_9 : decode cX10_eats 9 = .ok (.ireturn, 1) := by decide +kernel
set_option maxHeartbeats 4000000 in
set_option maxRecDepth 100000 in
theorem k_X10_eats_0 (l : Launch) (V : GV) (z : Nat → Nat) (pz0_0 : Int32) (pz0_5 : Int32) (pz0_6 : Int32) (pz0_7 : Int32) (pz0_8 : Int32) (pz0_9 : Int32) (pz0_10 : Int32) (pz0_11 : Int32) (pz0_12 : Int32) (pz0_13 : Int32) (pz0_14 : Int32) (pz0_18 : Int32) (pz0_19 : Int32) (pz0_22 : Int32) (pz0_23 : Int32) (pz0_29 : Int32) (fz3 : Nat → Int32) (bpz0_5 : iv 0 900 pz0_5) (bpz0_6 : iv 0 900 pz0_6) (bpz0_7 : iv 0 900 pz0_7) (bpz0_8 : iv 0 900 pz0_8) (bpz0_10 : iv 0 999 pz0_10) (bpz0_11 : iv 0 4 pz0_11) (bpz0_12 : iv 0 900 pz0_12) (bpz0_13 : iv 0 4 pz0_13) (bpz0_14 : iv (-1) 900 pz0_14) (bpz0_18 : iv 0 2 pz0_18) (bpz0_22 : iv 0 9999 pz0_22) (bpz0_29 : iv 0 10000 pz0_29) (tfz3 : ∀ j, iv 0 255 (fz3 j)) (hf0 : PT pz0_6 pz0_7 pz0_8 pz0_9) : Ct l V yX10_eats (.code yX10_eats cX10_eats 2 (some .boolean)) 7 [.ref (z 0), .int 0] [(z 0, .inr (10, mo z pz0_0 pz0_5 pz0_6 pz0_7 pz0_8 pz0_9 pz0_10 pz0_11 pz0_12 pz0_13 pz0_14 pz0_18 pz0_19 pz0_22 pz0_23 pz0_29)), (z 3, aI V 900 fz3)] 0 0 (QI V (fun (r : Int32) (w : va_W) => ∃ (v0 : Int32) (v1 : Int32) (v2 : Int32) (v3 : Int32), iv 0 900 v0 ∧ iv 0 900 v1 ∧ iv 0 999 v3 ∧ iv 0 1 r ∧ (PT v0 v1 pz0_8 v2) ∧ ((pz0_6 : Int32).toInt ≤ (v0 : Int32).toInt) ∧ (r = 1 → pz0_11 = 0) ∧ (r = 1 → (pz0_6 : Int32).toInt + 1 ≤ (v0 : Int32).toInt) ∧ (∀ q9 : Sg, RZ fz3 pz0_8 q9 pz0_11 pz0_12 pz0_9 pz0_6 pz0_7 pz0_10 → (r = 1 → isQ (tkX fz3 pz0_8) q9 (0 : Int32) = true ∧ RZ fz3 pz0_8 (nxP (tkX fz3 pz0_8) q9) pz0_11 pz0_12 v2 v0 v1 v3) ∧ (r = 0 → isQ (tkX fz3 pz0_8) q9 (0 : Int32) = false ∧ RZ fz3 pz0_8 q9 pz0_11 pz0_12 v2 v0 v1 v3)) ∧ w = [(z 0, .inr (10, mo z pz0_0 pz0_5 v0 v1 pz0_8 v2 v3 pz0_11 pz0_12 pz0_13 pz0_14 pz0_18 pz0_19 pz0_22 pz0_23 pz0_29)), (z 3, aI V 900 fz3)])) := by
  refine Ct.of (by decide) (Nat.le_of_ble_eq_true rfl) (fun p e s m below meth c A ls hx hb hr hml hown hlk hnm hg hP hK hD hE hA hS hl => ?_)
  have hl : lv_has ls 2 [(0, .ref (z 0)), (1, .int 0)] := hl
  refine lv_aload_n hx hb dX10_eats_0 rfl (lv_at hl 0 rfl) ?_
  refine lv_iload_n hx hb dX10_eats_1 rfl (lv_at hl 1 rfl) ?_
  refine jnI (wr := [(z 3, aI V 900 fz3)]) (rnV (rest := []) ⟨hx, hb, hml, hown, hg⟩ (k_X10_is_0 l V z pz0_0 pz0_5 pz0_6 pz0_7 pz0_8 pz0_9 pz0_10 pz0_11 pz0_12 pz0_13 pz0_14 pz0_18 pz0_19 pz0_22 pz0_23 pz0_29 bpz0_5 bpz0_6 bpz0_7 bpz0_8 bpz0_10 bpz0_11 bpz0_12 bpz0_13 bpz0_14 bpz0_18 bpz0_22 bpz0_29) mt_X10_is q_6_143 ⟨Nat.le_of_ble_eq_true rfl, Nat.le_of_ble_eq_true rfl⟩ hK hP hD hS hA hE [0] rfl rfl 0 rfl rfl rfl rfl hl.1 rfl (Nat.le_of_ble_eq_true rfl) dX10_eats_2 ⟨Nat.le_of_ble_eq_true rfl, Nat.le_of_ble_eq_true rfl⟩) hP hD hS hA [0] [1] rfl rfl rfl (by decide) (fun r_1 w H locs hw hP hD hS => ?_)
  obtain ⟨br_1, g_2, g_3, g_4, rfl⟩ := hw
  have hP : va_P V.1 vwCl [(z 3, aI V 900 fz3), (z 0, .inr (10, mo z pz0_0 pz0_5 pz0_6 pz0_7 pz0_8 pz0_9 pz0_10 pz0_11 pz0_12 pz0_13 pz0_14 pz0_18 pz0_19 pz0_22 pz0_23 pz0_29))] H := hP
  have hD := cpD hP hD
  refine lv_if_ne (tgt := 10) hx hb dX10_eats_5 (by decide) (fun c_5 => ?_) (fun c_5 => ?_)
  · have b_6 : iv 1 1 r_1 := iv_n0 c_5 br_1 (iv_c (0 : Int32) (a := 0) (b := 0) (by decide)) (by decide)
    have c_7 : pz0_11 = 0 := (g_2 (iv_eqp b_6 (iv_c (1 : Int32) (by decide))))
    have b_8 : iv 0 0 pz0_11 := iv_q c_7 (iv_c (0 : Int32) (a := 0) (b := 0) (by decide))
    have c_9 : pz0_9 = 0 := (g_3 (iv_eqp b_6 (iv_c (1 : Int32) (by decide))))
    have b_10 : iv 0 0 pz0_9 := iv_q c_9 (iv_c (0 : Int32) (a := 0) (b := 0) (by decide))
    refine lv_aload_n hx hb dX10_eats_10 rfl (lv_at hl 0 rfl) ?_
    refine jnV (wr := []) (rnV (rest := []) ⟨hx, hb, hml, hown, hg⟩ (k_X10_next_0 l V z pz0_0 pz0_5 pz0_6 pz0_7 pz0_8 pz0_9 pz0_10 pz0_11 pz0_12 pz0_13 pz0_14 pz0_18 pz0_19 pz0_22 pz0_23 pz0_29 fz3 bpz0_5 bpz0_6 bpz0_7 bpz0_8 bpz0_10 (iv_w b_8 (by decide)) bpz0_12 bpz0_13 bpz0_14 bpz0_18 bpz0_22 bpz0_29 tfz3 hf0.2.1) mt_X10_next q_6_117 ⟨Nat.le_of_ble_eq_true rfl, Nat.le_of_ble_eq_true rfl⟩ hK hP hD hS hA hE [1, 0] rfl rfl 1 rfl rfl rfl rfl hl.1 rfl (Nat.le_of_ble_eq_true rfl) dX10_eats_11 ⟨Nat.le_of_ble_eq_true rfl, Nat.le_of_ble_eq_true rfl⟩) hP hD hS hA [1, 0] [] rfl rfl rfl (by decide) (fun  w H locs hw hP hD hS => ?_)
    obtain ⟨v_11, v_12, v_13, v_14, bv_11, bv_12, bv_14, g_15, g_16, g_17, rfl⟩ := hw
    have hP : va_P V.1 vwCl [(z 0, .inr (10, mo z pz0_0 pz0_5 v_11 v_12 pz0_8 v_13 v_14 pz0_11 pz0_12 pz0_13 pz0_14 pz0_18 pz0_19 pz0_22 pz0_23 pz0_29)), (z 3, aI V 900 fz3)] H := hP
    have hD := cpD hP hD
    refine lv_iconst (v := 1) hx hb dX10_eats_14 (by decide) ?_
    exact fiZ rfl hx hb hr hlk hK hP hD hS dX10_eats_15 (Nat.le_of_ble_eq_true rfl) (Nat.le_of_ble_eq_true rfl) (⟨v_11, v_12, v_13, v_14, bv_11, bv_12, bv_14, (iv_c (1 : Int32) (by decide)), g_15, (by have q9 := g_16; have q8 := hf0.1; omega), (fun _ => iv_eqp b_8 (iv_c (0 : Int32) (by decide))), (fun _ => by have q9 := g_16; have q8 := hf0.2.2 (by rw [c_9]; decide); omega), (fun q9 h9 => by have b_1 := RZ_i1 (k := 0) h9 (by decide) g_2 g_3 b_6; have h_2 := RZ_nx bpz0_8.2 h9 (isQ_iff.mp b_1).1 g_17; exact ⟨fun _ => ⟨b_1, h_2⟩, fun z => absurd z (by decide)⟩), rfl⟩)
  · have b_18 : iv 0 0 r_1 := iv_q c_5 (iv_c (0 : Int32) (a := 0) (b := 0) (by decide))
    refine lv_iconst (v := 0) hx hb dX10_eats_8 (by decide) ?_
    have hP := subP (ws' := [(z 0, .inr (10, mo z pz0_0 pz0_5 pz0_6 pz0_7 pz0_8 pz0_9 pz0_10 pz0_11 pz0_12 pz0_13 pz0_14 pz0_18 pz0_19 pz0_22 pz0_23 pz0_29)), (z 3, aI V 900 fz3)]) hP [1, 0] rfl
    have hD := subD hP hD [1, 0] rfl rfl
    exact fiZ rfl hx hb hr hlk hK hP hD hS dX10_eats_9 (Nat.le_of_ble_eq_true rfl) (Nat.le_of_ble_eq_true rfl) (⟨pz0_6, pz0_7, pz0_9, pz0_10, bpz0_6, bpz0_7, bpz0_10, (iv_c (0 : Int32) (by decide)), hf0, (Int.le_refl _), (fun q9 => absurd q9 (by decide)), (fun q9 => absurd q9 (by decide)), (fun q9 h9 => by have b_1 := RZ_i0 (k := 0) h9 (by decide) g_4 b_18; exact ⟨fun z => absurd z (by decide), fun _ => ⟨b_1, h9⟩⟩), rfl⟩)
set_option maxHeartbeats 4000000 in
set_option maxRecDepth 100000 in
theorem k_X10_is_1 (l : Launch) (V : GV) (z : Nat → Nat) (pz0_0 : Int32) (pz0_5 : Int32) (pz0_6 : Int32) (pz0_7 : Int32) (pz0_8 : Int32) (pz0_9 : Int32) (pz0_10 : Int32) (pz0_11 : Int32) (pz0_12 : Int32) (pz0_13 : Int32) (pz0_14 : Int32) (pz0_18 : Int32) (pz0_19 : Int32) (pz0_22 : Int32) (pz0_23 : Int32) (pz0_29 : Int32) (bpz0_5 : iv 0 900 pz0_5) (bpz0_6 : iv 0 900 pz0_6) (bpz0_7 : iv 0 900 pz0_7) (bpz0_8 : iv 0 900 pz0_8) (bpz0_10 : iv 0 999 pz0_10) (bpz0_11 : iv 0 4 pz0_11) (bpz0_12 : iv 0 900 pz0_12) (bpz0_13 : iv 0 4 pz0_13) (bpz0_14 : iv (-1) 900 pz0_14) (bpz0_18 : iv 0 2 pz0_18) (bpz0_22 : iv 0 9999 pz0_22) (bpz0_29 : iv 0 10000 pz0_29) : Ct l V yX10_is (.code yX10_is cX10_is 2 (some .boolean)) 1 [.ref (z 0), .int 1] [(z 0, .inr (10, mo z pz0_0 pz0_5 pz0_6 pz0_7 pz0_8 pz0_9 pz0_10 pz0_11 pz0_12 pz0_13 pz0_14 pz0_18 pz0_19 pz0_22 pz0_23 pz0_29))] 0 0 (QI V (fun (r : Int32) (w : va_W) => iv 0 1 r ∧ (r = 1 → pz0_11 = 0) ∧ (r = 1 → pz0_9 = (1 : Int32)) ∧ (r = 0 → ¬ (pz0_11 = 0 ∧ pz0_9 = (1 : Int32))) ∧ w = [(z 0, .inr (10, mo z pz0_0 pz0_5 pz0_6 pz0_7 pz0_8 pz0_9 pz0_10 pz0_11 pz0_12 pz0_13 pz0_14 pz0_18 pz0_19 pz0_22 pz0_23 pz0_29))])) := by
  refine Ct.of (by decide) (Nat.le_of_ble_eq_true rfl) (fun p e s m below meth c A ls hx hb hr hml hown hlk hnm hg hP hK hD hE hA hS hl => ?_)
  have hl : lv_has ls 2 [(0, .ref (z 0)), (1, .int 1)] := hl
  refine lv_aload_n hx hb dX10_is_0 rfl (lv_at hl 0 rfl) ?_
  refine va_get (ci := 10) (v := .int pz0_11) (C := RX10) (T := TX10) (N := 40) hx hb hg inX10 hown hK hP 0 rfl rfl 11 (by decide) (hg _ q_5_235) (fun _ h9 => h9) rfl dX10_is_1 ?_
  refine lv_if_ne (tgt := 19) hx hb dX10_is_4 (by decide) (fun c_1 => ?_) (fun c_1 => ?_)
  · have b_2 : iv 1 4 pz0_11 := iv_n0 c_1 bpz0_11 (iv_c (0 : Int32) (a := 0) (b := 0) (by decide)) (by decide)
    refine lv_iconst (v := 0) hx hb dX10_is_19 (by decide) ?_
    exact fiZ rfl hx hb hr hlk hK hP hD hS dX10_is_20 (Nat.le_of_ble_eq_true rfl) (Nat.le_of_ble_eq_true rfl) (⟨(iv_c (0 : Int32) (by decide)), (fun q9 => absurd q9 (by decide)), (fun q9 => absurd q9 (by decide)), (fun _ q9 => c_1 q9.1), rfl⟩)
  · have b_3 : iv 0 0 pz0_11 := iv_q c_1 (iv_c (0 : Int32) (a := 0) (b := 0) (by decide))
    refine lv_aload_n hx hb dX10_is_7 rfl (lv_at hl 0 rfl) ?_
    refine va_get (ci := 10) (v := .int pz0_9) (C := RX10) (T := TX10) (N := 40) hx hb hg inX10 hown hK hP 0 rfl rfl 9 (by decide) (hg _ q_5_233) (fun _ h9 => h9) rfl dX10_is_8 ?_
    refine lv_iload_n hx hb dX10_is_11 rfl (lv_at hl 1 rfl) ?_
    refine lv_icmp_ne (tgt := 19) hx hb dX10_is_12 (by decide) (fun c_4 => ?_) (fun c_4 => ?_)
    · refine lv_iconst (v := 0) hx hb dX10_is_19 (by decide) ?_
      exact fiZ rfl hx hb hr hlk hK hP hD hS dX10_is_20 (Nat.le_of_ble_eq_true rfl) (Nat.le_of_ble_eq_true rfl) (⟨(iv_c (0 : Int32) (by decide)), (fun q9 => absurd q9 (by decide)), (fun q9 => absurd q9 (by decide)), (fun _ q9 => c_4 q9.2), rfl⟩)
    · have b_5 : iv 1 1 pz0_9 := iv_q c_4 (iv_c (1 : Int32) (a := 1) (b := 1) (by decide))
      refine lv_iconst (v := 1) hx hb dX10_is_15 (by decide) ?_
      refine lv_goto (tgt := 20) hx hb dX10_is_16 (by decide) ?_
      exact fiZ rfl hx hb hr hlk hK hP hD hS dX10_is_20 (Nat.le_of_ble_eq_true rfl) (Nat.le_of_ble_eq_true rfl) (⟨(iv_c (1 : Int32) (by decide)), (fun _ => c_1), (fun _ => c_4), (fun q9 => absurd q9 (by decide)), rfl⟩)
set_option maxHeartbeats 4000000 in
set_option maxRecDepth 100000 in
theorem k_X10_eats_1 (l : Launch) (V : GV) (z : Nat → Nat) (pz0_0 : Int32) (pz0_5 : Int32) (pz0_6 : Int32) (pz0_7 : Int32) (pz0_8 : Int32) (pz0_9 : Int32) (pz0_10 : Int32) (pz0_11 : Int32) (pz0_12 : Int32) (pz0_13 : Int32) (pz0_14 : Int32) (pz0_18 : Int32) (pz0_19 : Int32) (pz0_22 : Int32) (pz0_23 : Int32) (pz0_29 : Int32) (fz3 : Nat → Int32) (bpz0_5 : iv 0 900 pz0_5) (bpz0_6 : iv 0 900 pz0_6) (bpz0_7 : iv 0 900 pz0_7) (bpz0_8 : iv 0 900 pz0_8) (bpz0_10 : iv 0 999 pz0_10) (bpz0_11 : iv 0 4 pz0_11) (bpz0_12 : iv 0 900 pz0_12) (bpz0_13 : iv 0 4 pz0_13) (bpz0_14 : iv (-1) 900 pz0_14) (bpz0_18 : iv 0 2 pz0_18) (bpz0_22 : iv 0 9999 pz0_22) (bpz0_29 : iv 0 10000 pz0_29) (tfz3 : ∀ j, iv 0 255 (fz3 j)) (hf0 : PT pz0_6 pz0_7 pz0_8 pz0_9) : Ct l V yX10_eats (.code yX10_eats cX10_eats 2 (some .boolean)) 7 [.ref (z 0), .int 1] [(z 0, .inr (10, mo z pz0_0 pz0_5 pz0_6 pz0_7 pz0_8 pz0_9 pz0_10 pz0_11 pz0_12 pz0_13 pz0_14 pz0_18 pz0_19 pz0_22 pz0_23 pz0_29)), (z 3, aI V 900 fz3)] 0 0 (QI V (fun (r : Int32) (w : va_W) => ∃ (v0 : Int32) (v1 : Int32) (v2 : Int32) (v3 : Int32), iv 0 900 v0 ∧ iv 0 900 v1 ∧ iv 0 999 v3 ∧ iv 0 1 r ∧ (PT v0 v1 pz0_8 v2) ∧ ((pz0_6 : Int32).toInt ≤ (v0 : Int32).toInt) ∧ (r = 1 → pz0_11 = 0) ∧ (r = 1 → (pz0_6 : Int32).toInt + 1 ≤ (v0 : Int32).toInt) ∧ (∀ q9 : Sg, RZ fz3 pz0_8 q9 pz0_11 pz0_12 pz0_9 pz0_6 pz0_7 pz0_10 → (r = 1 → isQ (tkX fz3 pz0_8) q9 (1 : Int32) = true ∧ RZ fz3 pz0_8 (nxP (tkX fz3 pz0_8) q9) pz0_11 pz0_12 v2 v0 v1 v3) ∧ (r = 0 → isQ (tkX fz3 pz0_8) q9 (1 : Int32) = false ∧ RZ fz3 pz0_8 q9 pz0_11 pz0_12 v2 v0 v1 v3)) ∧ w = [(z 0, .inr (10, mo z pz0_0 pz0_5 v0 v1 pz0_8 v2 v3 pz0_11 pz0_12 pz0_13 pz0_14 pz0_18 pz0_19 pz0_22 pz0_23 pz0_29)), (z 3, aI V 900 fz3)])) := by
  refine Ct.of (by decide) (Nat.le_of_ble_eq_true rfl) (fun p e s m below meth c A ls hx hb hr hml hown hlk hnm hg hP hK hD hE hA hS hl => ?_)
  have hl : lv_has ls 2 [(0, .ref (z 0)), (1, .int 1)] := hl
  refine lv_aload_n hx hb dX10_eats_0 rfl (lv_at hl 0 rfl) ?_
  refine lv_iload_n hx hb dX10_eats_1 rfl (lv_at hl 1 rfl) ?_
  refine jnI (wr := [(z 3, aI V 900 fz3)]) (rnV (rest := []) ⟨hx, hb, hml, hown, hg⟩ (k_X10_is_1 l V z pz0_0 pz0_5 pz0_6 pz0_7 pz0_8 pz0_9 pz0_10 pz0_11 pz0_12 pz0_13 pz0_14 pz0_18 pz0_19 pz0_22 pz0_23 pz0_29 bpz0_5 bpz0_6 bpz0_7 bpz0_8 bpz0_10 bpz0_11 bpz0_12 bpz0_13 bpz0_14 bpz0_18 bpz0_22 bpz0_29) mt_X10_is q_6_143 ⟨Nat.le_of_ble_eq_true rfl, Nat.le_of_ble_eq_true rfl⟩ hK hP hD hS hA hE [0] rfl rfl 0 rfl rfl rfl rfl hl.1 rfl (Nat.le_of_ble_eq_true rfl) dX10_eats_2 ⟨Nat.le_of_ble_eq_true rfl, Nat.le_of_ble_eq_true rfl⟩) hP hD hS hA [0] [1] rfl rfl rfl (by decide) (fun r_1 w H locs hw hP hD hS => ?_)
  obtain ⟨br_1, g_2, g_3, g_4, rfl⟩ := hw
  have hP : va_P V.1 vwCl [(z 3, aI V 900 fz3), (z 0, .inr (10, mo z pz0_0 pz0_5 pz0_6 pz0_7 pz0_8 pz0_9 pz0_10 pz0_11 pz0_12 pz0_13 pz0_14 pz0_18 pz0_19 pz0_22 pz0_23 pz0_29))] H := hP
  have hD := cpD hP hD
  refine lv_if_ne (tgt := 10) hx hb dX10_eats_5 (by decide) (fun c_5 => ?_) (fun c_5 => ?_)
  · have b_6 : iv 1 1 r_1 := iv_n0 c_5 br_1 (iv_c (0 : Int32) (a := 0) (b := 0) (by decide)) (by decide)
    have c_7 : pz0_11 = 0 := (g_2 (iv_eqp b_6 (iv_c (1 : Int32) (by decide))))
    have b_8 : iv 0 0 pz0_11 := iv_q c_7 (iv_c (0 : Int32) (a := 0) (b := 0) (by decide))
    have c_9 : pz0_9 = 1 := (g_3 (iv_eqp b_6 (iv_c (1 : Int32) (by decide))))
    have b_10 : iv 1 1 pz0_9 := iv_q c_9 (iv_c (1 : Int32) (a := 1) (b := 1) (by decide))
    refine lv_aload_n hx hb dX10_eats_10 rfl (lv_at hl 0 rfl) ?_
    refine jnV (wr := []) (rnV (rest := []) ⟨hx, hb, hml, hown, hg⟩ (k_X10_next_0 l V z pz0_0 pz0_5 pz0_6 pz0_7 pz0_8 pz0_9 pz0_10 pz0_11 pz0_12 pz0_13 pz0_14 pz0_18 pz0_19 pz0_22 pz0_23 pz0_29 fz3 bpz0_5 bpz0_6 bpz0_7 bpz0_8 bpz0_10 (iv_w b_8 (by decide)) bpz0_12 bpz0_13 bpz0_14 bpz0_18 bpz0_22 bpz0_29 tfz3 hf0.2.1) mt_X10_next q_6_117 ⟨Nat.le_of_ble_eq_true rfl, Nat.le_of_ble_eq_true rfl⟩ hK hP hD hS hA hE [1, 0] rfl rfl 1 rfl rfl rfl rfl hl.1 rfl (Nat.le_of_ble_eq_true rfl) dX10_eats_11 ⟨Nat.le_of_ble_eq_true rfl, Nat.le_of_ble_eq_true rfl⟩) hP hD hS hA [1, 0] [] rfl rfl rfl (by decide) (fun  w H locs hw hP hD hS => ?_)
    obtain ⟨v_11, v_12, v_13, v_14, bv_11, bv_12, bv_14, g_15, g_16, g_17, rfl⟩ := hw
    have hP : va_P V.1 vwCl [(z 0, .inr (10, mo z pz0_0 pz0_5 v_11 v_12 pz0_8 v_13 v_14 pz0_11 pz0_12 pz0_13 pz0_14 pz0_18 pz0_19 pz0_22 pz0_23 pz0_29)), (z 3, aI V 900 fz3)] H := hP
    have hD := cpD hP hD
    refine lv_iconst (v := 1) hx hb dX10_eats_14 (by decide) ?_
    exact fiZ rfl hx hb hr hlk hK hP hD hS dX10_eats_15 (Nat.le_of_ble_eq_true rfl) (Nat.le_of_ble_eq_true rfl) (⟨v_11, v_12, v_13, v_14, bv_11, bv_12, bv_14, (iv_c (1 : Int32) (by decide)), g_15, (by have q9 := g_16; have q8 := hf0.1; omega), (fun _ => iv_eqp b_8 (iv_c (0 : Int32) (by decide))), (fun _ => by have q9 := g_16; have q8 := hf0.2.2 (by rw [c_9]; decide); omega), (fun q9 h9 => by have b_1 := RZ_i1 (k := 1) h9 (by decide) g_2 g_3 b_6; have h_2 := RZ_nx bpz0_8.2 h9 (isQ_iff.mp b_1).1 g_17; exact ⟨fun _ => ⟨b_1, h_2⟩, fun z => absurd z (by decide)⟩), rfl⟩)
  · have b_18 : iv 0 0 r_1 := iv_q c_5 (iv_c (0 : Int32) (a := 0) (b := 0) (by decide))
    refine lv_iconst (v := 0) hx hb dX10_eats_8 (by decide) ?_
    have hP := subP (ws' := [(z 0, .inr (10, mo z pz0_0 pz0_5 pz0_6 pz0_7 pz0_8 pz0_9 pz0_10 pz0_11 pz0_12 pz0_13 pz0_14 pz0_18 pz0_19 pz0_22 pz0_23 pz0_29)), (z 3, aI V 900 fz3)]) hP [1, 0] rfl
    have hD := subD hP hD [1, 0] rfl rfl
    exact fiZ rfl hx hb hr hlk hK hP hD hS dX10_eats_9 (Nat.le_of_ble_eq_true rfl) (Nat.le_of_ble_eq_true rfl) (⟨pz0_6, pz0_7, pz0_9, pz0_10, bpz0_6, bpz0_7, bpz0_10, (iv_c (0 : Int32) (by decide)), hf0, (Int.le_refl _), (fun q9 => absurd q9 (by decide)), (fun q9 => absurd q9 (by decide)), (fun q9 h9 => by have b_1 := RZ_i0 (k := 1) h9 (by decide) g_4 b_18; exact ⟨fun z => absurd z (by decide), fun _ => ⟨b_1, h9⟩⟩), rfl⟩)
set_option maxHeartbeats 4000000 in
set_option maxRecDepth 100000 in
theorem k_X10_is_2 (l : Launch) (V : GV) (z : Nat → Nat) (pz0_0 : Int32) (pz0_5 : Int32) (pz0_6 : Int32) (pz0_7 : Int32) (pz0_8 : Int32) (pz0_9 : Int32) (pz0_10 : Int32) (pz0_11 : Int32) (pz0_12 : Int32) (pz0_13 : Int32) (pz0_14 : Int32) (pz0_18 : Int32) (pz0_19 : Int32) (pz0_22 : Int32) (pz0_23 : Int32) (pz0_29 : Int32) (bpz0_5 : iv 0 900 pz0_5) (bpz0_6 : iv 0 900 pz0_6) (bpz0_7 : iv 0 900 pz0_7) (bpz0_8 : iv 0 900 pz0_8) (bpz0_10 : iv 0 999 pz0_10) (bpz0_11 : iv 0 4 pz0_11) (bpz0_12 : iv 0 900 pz0_12) (bpz0_13 : iv 0 4 pz0_13) (bpz0_14 : iv (-1) 900 pz0_14) (bpz0_18 : iv 0 2 pz0_18) (bpz0_22 : iv 0 9999 pz0_22) (bpz0_29 : iv 0 10000 pz0_29) : Ct l V yX10_is (.code yX10_is cX10_is 2 (some .boolean)) 1 [.ref (z 0), .int 23] [(z 0, .inr (10, mo z pz0_0 pz0_5 pz0_6 pz0_7 pz0_8 pz0_9 pz0_10 pz0_11 pz0_12 pz0_13 pz0_14 pz0_18 pz0_19 pz0_22 pz0_23 pz0_29))] 0 0 (QI V (fun (r : Int32) (w : va_W) => iv 0 1 r ∧ (r = 1 → pz0_11 = 0) ∧ (r = 1 → pz0_9 = (23 : Int32)) ∧ (r = 0 → ¬ (pz0_11 = 0 ∧ pz0_9 = (23 : Int32))) ∧ w = [(z 0, .inr (10, mo z pz0_0 pz0_5 pz0_6 pz0_7 pz0_8 pz0_9 pz0_10 pz0_11 pz0_12 pz0_13 pz0_14 pz0_18 pz0_19 pz0_22 pz0_23 pz0_29))])) := by
  refine Ct.of (by decide) (Nat.le_of_ble_eq_true rfl) (fun p e s m below meth c A ls hx hb hr hml hown hlk hnm hg hP hK hD hE hA hS hl => ?_)
  have hl : lv_has ls 2 [(0, .ref (z 0)), (1, .int 23)] := hl
  refine lv_aload_n hx hb dX10_is_0 rfl (lv_at hl 0 rfl) ?_
  refine va_get (ci := 10) (v := .int pz0_11) (C := RX10) (T := TX10) (N := 40) hx hb hg inX10 hown hK hP 0 rfl rfl 11 (by decide) (hg _ q_5_235) (fun _ h9 => h9) rfl dX10_is_1 ?_
  refine lv_if_ne (tgt := 19) hx hb dX10_is_4 (by decide) (fun c_1 => ?_) (fun c_1 => ?_)
  · have b_2 : iv 1 4 pz0_11 := iv_n0 c_1 bpz0_11 (iv_c (0 : Int32) (a := 0) (b := 0) (by decide)) (by decide)
    refine lv_iconst (v := 0) hx hb dX10_is_19 (by decide) ?_
    exact fiZ rfl hx hb hr hlk hK hP hD hS dX10_is_20 (Nat.le_of_ble_eq_true rfl) (Nat.le_of_ble_eq_true rfl) (⟨(iv_c (0 : Int32) (by decide)), (fun q9 => absurd q9 (by decide)), (fun q9 => absurd q9 (by decide)), (fun _ q9 => c_1 q9.1), rfl⟩)
  · have b_3 : iv 0 0 pz0_11 := iv_q c_1 (iv_c (0 : Int32) (a := 0) (b := 0) (by decide))
    refine lv_aload_n hx hb dX10_is_7 rfl (lv_at hl 0 rfl) ?_
    refine va_get (ci := 10) (v := .int pz0_9) (C := RX10) (T := TX10) (N := 40) hx hb hg inX10 hown hK hP 0 rfl rfl 9 (by decide) (hg _ q_5_233) (fun _ h9 => h9) rfl dX10_is_8 ?_
    refine lv_iload_n hx hb dX10_is_11 rfl (lv_at hl 1 rfl) ?_
    refine lv_icmp_ne (tgt := 19) hx hb dX10_is_12 (by decide) (fun c_4 => ?_) (fun c_4 => ?_)
    · refine lv_iconst (v := 0) hx hb dX10_is_19 (by decide) ?_
      exact fiZ rfl hx hb hr hlk hK hP hD hS dX10_is_20 (Nat.le_of_ble_eq_true rfl) (Nat.le_of_ble_eq_true rfl) (⟨(iv_c (0 : Int32) (by decide)), (fun q9 => absurd q9 (by decide)), (fun q9 => absurd q9 (by decide)), (fun _ q9 => c_4 q9.2), rfl⟩)
    · have b_5 : iv 23 23 pz0_9 := iv_q c_4 (iv_c (23 : Int32) (a := 23) (b := 23) (by decide))
      refine lv_iconst (v := 1) hx hb dX10_is_15 (by decide) ?_
      refine lv_goto (tgt := 20) hx hb dX10_is_16 (by decide) ?_
      exact fiZ rfl hx hb hr hlk hK hP hD hS dX10_is_20 (Nat.le_of_ble_eq_true rfl) (Nat.le_of_ble_eq_true rfl) (⟨(iv_c (1 : Int32) (by decide)), (fun _ => c_1), (fun _ => c_4), (fun q9 => absurd q9 (by decide)), rfl⟩)
theorem dX10_fails_0 : decode cX10_fails 0 = .ok (.aload_n 0, 1) := by decide +kernel
theorem dX10_fails_1 : decode cX10_fails 1 = .ok (.getfield 143, 3) := by decide +kernel
theorem dX10_fails_4 : decode cX10_fails 4 = .ok (.ifCond .eq 4, 3) := by decide +kernel
theorem dX10_fails_8 : decode cX10_fails 8 = .ok (.aload_n 0, 1) := by decide +kernel
theorem dX10_fails_9 : decode cX10_fails 9 = .ok (.aload_n 0, 1) := by decide +kernel
theorem dX10_fails_10 : decode cX10_fails 10 = .ok (.getfield 125, 3) := by decide +kernel
theorem dX10_fails_13 : decode cX10_fails 13 = .ok (.bipush 25, 2) := by decide +kernel
theorem dX10_fails_15 : decode cX10_fails 15 = .ok (.if_icmp .ne 7, 3) := by decide +kernel
theorem dX10_fails_22 : decode cX10_fails 22 = .ok (.iload_n 1, 1) := by decide +kernel
theorem dX10_fails_23 : decode cX10_fails 23 = .ok (.putfield 143, 3) := by decide +kernel
theorem dX10_fails_26 : decode cX10_fails 26 = .ok (.aload_n 0, 1) := by decide +kernel
theorem dX10_fails_27 : decode cX10_fails 27 = .ok (.aload_n 0, 1) := by decide +kernel
theorem dX10_fails_28 : decode cX10_fails 28 = .ok (.getfield 115, 3) := by decide +kernel
theorem q_5_236 : Cond.fieldLink "BeaconDelayModel" 146 "BeaconDelayModel" "wrongAt" "I" ∈ gw := gw_5 (i := 236) (by decide +kernel) rfl
theorem dX10_fails_31 : decode cX10_fails 31 = .ok (.putfield 146, 3) := by decide +kernel
theorem dX10_fails_34 : decode cX10_fails 34 = .ok (.return_, 1) := by decide +kernel
theorem dX10_fails_18 : decode cX10_fails 18 = .ok (.iconst 1, 1) := by decide +kernel
theorem dX10_fails_19 : decode cX10_fails 19 = .ok (.goto 4, 3) := by decide +kernel
theorem dX10_fails_7 : decode cX10_fails 7 = .ok (.return_, 1) := by decide +kernel
set_option maxHeartbeats 4000000 in
set_option maxRecDepth 100000 in
theorem k_X10_fails_0 (l : Launch) (V : GV) (z : Nat → Nat) (a1 : Int32) (pz0_0 : Int32) (pz0_5 : Int32) (pz0_6 : Int32) (pz0_7 : Int32) (pz0_8 : Int32) (pz0_9 : Int32) (pz0_10 : Int32) (pz0_11 : Int32) (pz0_12 : Int32) (pz0_13 : Int32) (pz0_14 : Int32) (pz0_18 : Int32) (pz0_19 : Int32) (pz0_22 : Int32) (pz0_23 : Int32) (pz0_29 : Int32) (ba1 : iv 1 4 a1) (bpz0_5 : iv 0 900 pz0_5) (bpz0_6 : iv 0 900 pz0_6) (bpz0_7 : iv 0 900 pz0_7) (bpz0_8 : iv 0 900 pz0_8) (bpz0_10 : iv 0 999 pz0_10) (bpz0_11 : iv 0 4 pz0_11) (bpz0_12 : iv 0 900 pz0_12) (bpz0_13 : iv 0 4 pz0_13) (bpz0_14 : iv (-1) 900 pz0_14) (bpz0_18 : iv 0 2 pz0_18) (bpz0_22 : iv 0 9999 pz0_22) (bpz0_29 : iv 0 10000 pz0_29) : Ct l V yX10_fails (.code yX10_fails cX10_fails 2 none) 1 [.ref (z 0), .int a1] [(z 0, .inr (10, mo z pz0_0 pz0_5 pz0_6 pz0_7 pz0_8 pz0_9 pz0_10 pz0_11 pz0_12 pz0_13 pz0_14 pz0_18 pz0_19 pz0_22 pz0_23 pz0_29))] 0 0 (QV V (fun (w : va_W) => ∃ (v0 : Int32) (v1 : Int32), iv 1 4 v0 ∧ iv 0 900 v1 ∧ (FZ pz0_11 pz0_12 pz0_9 pz0_6 a1 v0 v1) ∧ w = [(z 0, .inr (10, mo z pz0_0 pz0_5 pz0_6 pz0_7 pz0_8 pz0_9 pz0_10 v0 v1 pz0_13 pz0_14 pz0_18 pz0_19 pz0_22 pz0_23 pz0_29))])) := by
  refine Ct.of (by decide) (Nat.le_of_ble_eq_true rfl) (fun p e s m below meth c A ls hx hb hr hml hown hlk hnm hg hP hK hD hE hA hS hl => ?_)
  have hl : lv_has ls 2 [(0, .ref (z 0)), (1, .int a1)] := hl
  refine lv_aload_n hx hb dX10_fails_0 rfl (lv_at hl 0 rfl) ?_
  refine va_get (ci := 10) (v := .int pz0_11) (C := RX10) (T := TX10) (N := 40) hx hb hg inX10 hown hK hP 0 rfl rfl 11 (by decide) (hg _ q_5_235) (fun _ h9 => h9) rfl dX10_fails_1 ?_
  refine lv_if_eq (tgt := 8) hx hb dX10_fails_4 (by decide) (fun c_1 => ?_) (fun c_1 => ?_)
  · have b_2 : iv 0 0 pz0_11 := iv_q c_1 (iv_c (0 : Int32) (a := 0) (b := 0) (by decide))
    refine lv_aload_n hx hb dX10_fails_8 rfl (lv_at hl 0 rfl) ?_
    refine lv_aload_n hx hb dX10_fails_9 rfl (lv_at hl 0 rfl) ?_
    refine va_get (ci := 10) (v := .int pz0_9) (C := RX10) (T := TX10) (N := 40) hx hb hg inX10 hown hK hP 0 rfl rfl 9 (by decide) (hg _ q_5_233) (fun _ h9 => h9) rfl dX10_fails_10 ?_
    refine lv_bipush (v := 25) hx hb dX10_fails_13 (by decide) ?_
    refine lv_icmp_ne (tgt := 22) hx hb dX10_fails_15 (by decide) (fun c_3 => ?_) (fun c_3 => ?_)
    · refine lv_iload_n hx hb dX10_fails_22 rfl (lv_at hl 1 rfl) ?_
      refine va_put (ci := 10) (v := .int a1) (ty := .int) (C := RX10) (T := TX10) (N := 40) hx hb hg inX10 tyX10 tyX10_ok nmX10 hown hK hP hD hS 0 rfl rfl 11 (by decide) (hg _ q_5_235) (fun _ h9 => h9) rfl (by decide +kernel) rfl rfl (Nat.le_of_ble_eq_true rfl) dX10_fails_23 (fun H locs hP hD hS => ?_)
      have hP : va_P V.1 vwCl [(z 0, .inr (10, mo z pz0_0 pz0_5 pz0_6 pz0_7 pz0_8 pz0_9 pz0_10 a1 pz0_12 pz0_13 pz0_14 pz0_18 pz0_19 pz0_22 pz0_23 pz0_29))] H := hP
      have hD := cpD hP hD
      refine lv_aload_n hx hb dX10_fails_26 rfl (lv_at hl 0 rfl) ?_
      refine lv_aload_n hx hb dX10_fails_27 rfl (lv_at hl 0 rfl) ?_
      refine va_get (ci := 10) (v := .int pz0_6) (C := RX10) (T := TX10) (N := 40) hx hb hg inX10 hown hK hP 0 rfl rfl 6 (by decide) (hg _ q_5_230) (fun _ h9 => h9) rfl dX10_fails_28 ?_
      refine va_put (ci := 10) (v := .int pz0_6) (ty := .int) (C := RX10) (T := TX10) (N := 40) hx hb hg inX10 tyX10 tyX10_ok nmX10 hown hK hP hD hS 0 rfl rfl 12 (by decide) (hg _ q_5_236) (fun _ h9 => h9) rfl (by decide +kernel) rfl rfl (Nat.le_of_ble_eq_true rfl) dX10_fails_31 (fun H locs hP hD hS => ?_)
      have hP : va_P V.1 vwCl [(z 0, .inr (10, mo z pz0_0 pz0_5 pz0_6 pz0_7 pz0_8 pz0_9 pz0_10 a1 pz0_6 pz0_13 pz0_14 pz0_18 pz0_19 pz0_22 pz0_23 pz0_29))] H := hP
      have hD := cpD hP hD
      exact fiV hx hb hr hlk hK hP hD hS dX10_fails_34 (Nat.le_of_ble_eq_true rfl) (Nat.le_of_ble_eq_true rfl) (⟨a1, pz0_6, ba1, bpz0_6, ⟨fun _ => ⟨fun q9 => absurd q9 c_3, fun _ => rfl, rfl⟩, fun q9 => absurd c_1 q9⟩, rfl⟩)
    · have b_4 : iv 25 25 pz0_9 := iv_q c_3 (iv_c (25 : Int32) (a := 25) (b := 25) (by decide))
      refine lv_iconst (v := 1) hx hb dX10_fails_18 (by decide) ?_
      refine lv_goto (tgt := 23) hx hb dX10_fails_19 (by decide) ?_
      refine va_put (ci := 10) (v := .int 1) (ty := .int) (C := RX10) (T := TX10) (N := 40) hx hb hg inX10 tyX10 tyX10_ok nmX10 hown hK hP hD hS 0 rfl rfl 11 (by decide) (hg _ q_5_235) (fun _ h9 => h9) rfl (by decide +kernel) rfl rfl (Nat.le_of_ble_eq_true rfl) dX10_fails_23 (fun H locs hP hD hS => ?_)
      have hP : va_P V.1 vwCl [(z 0, .inr (10, mo z pz0_0 pz0_5 pz0_6 pz0_7 pz0_8 pz0_9 pz0_10 1 pz0_12 pz0_13 pz0_14 pz0_18 pz0_19 pz0_22 pz0_23 pz0_29))] H := hP
      have hD := cpD hP hD
      refine lv_aload_n hx hb dX10_fails_26 rfl (lv_at hl 0 rfl) ?_
      refine lv_aload_n hx hb dX10_fails_27 rfl (lv_at hl 0 rfl) ?_
      refine va_get (ci := 10) (v := .int pz0_6) (C := RX10) (T := TX10) (N := 40) hx hb hg inX10 hown hK hP 0 rfl rfl 6 (by decide) (hg _ q_5_230) (fun _ h9 => h9) rfl dX10_fails_28 ?_
      refine va_put (ci := 10) (v := .int pz0_6) (ty := .int) (C := RX10) (T := TX10) (N := 40) hx hb hg inX10 tyX10 tyX10_ok nmX10 hown hK hP hD hS 0 rfl rfl 12 (by decide) (hg _ q_5_236) (fun _ h9 => h9) rfl (by decide +kernel) rfl rfl (Nat.le_of_ble_eq_true rfl) dX10_fails_31 (fun H locs hP hD hS => ?_)
      have hP : va_P V.1 vwCl [(z 0, .inr (10, mo z pz0_0 pz0_5 pz0_6 pz0_7 pz0_8 pz0_9 pz0_10 1 pz0_6 pz0_13 pz0_14 pz0_18 pz0_19 pz0_22 pz0_23 pz0_29))] H := hP
      have hD := cpD hP hD
      exact fiV hx hb hr hlk hK hP hD hS dX10_fails_34 (Nat.le_of_ble_eq_true rfl) (Nat.le_of_ble_eq_true rfl) (⟨1, pz0_6, (iv_c (1 : Int32) (by decide)), bpz0_6, ⟨fun _ => ⟨fun _ => rfl, fun q9 => absurd c_3 q9, rfl⟩, fun q9 => absurd c_1 q9⟩, rfl⟩)
  · have b_5 : iv 1 4 pz0_11 := iv_n0 c_1 bpz0_11 (iv_c (0 : Int32) (a := 0) (b := 0) (by decide)) (by decide)
    exact fiV hx hb hr hlk hK hP hD hS dX10_fails_7 (Nat.le_of_ble_eq_true rfl) (Nat.le_of_ble_eq_true rfl) (⟨pz0_11, pz0_12, b_5, bpz0_12, ⟨fun q9 => absurd q9 c_1, fun _ => ⟨rfl, rfl⟩⟩, rfl⟩)
theorem dX10_takesOne_0 : decode cX10_takesOne 0 = .ok (.aload_n 0, 1) := by decide +kernel
theorem dX10_takesOne_1 : decode cX10_takesOne 1 = .ok (.bipush 23, 2) := by decide +kernel
theorem dX10_takesOne_3 : decode cX10_takesOne 3 = .ok (.invokevirtual 149, 3) := by decide +kernel
theorem dX10_takesOne_6 : decode cX10_takesOne 6 = .ok (.ifCond .ne 11, 3) := by decide +kernel
theorem dX10_takesOne_17 : decode cX10_takesOne 17 = .ok (.aload_n 0, 1) := by decide +kernel
theorem dX10_takesOne_18 : decode cX10_takesOne 18 = .ok (.getfield 138, 3) := by decide +kernel
theorem dX10_takesOne_21 : decode cX10_takesOne 21 = .ok (.i2l, 1) := by decide +kernel
theorem dX10_takesOne_22 : decode cX10_takesOne 22 = .ok (.iload_n 1, 1) := by decide +kernel
theorem dX10_takesOne_23 : decode cX10_takesOne 23 = .ok (.i2l, 1) := by decide +kernel
theorem dX10_takesOne_24 : decode cX10_takesOne 24 = .ok (.iload_n 2, 1) := by decide +kernel
theorem dX10_takesOne_25 : decode cX10_takesOne 25 = .ok (.i2l, 1) := by decide +kernel
theorem q_6_116 : Cond.code yX10_within prog_12_method_2_code 6 (some FieldType.boolean) ∈ gw := gw_6 (i := 116) (rfl) rfl
theorem q_6_115 : Cond.static yX10_within ∈ gw := gw_6 (i := 115) (by decide +kernel) rfl
theorem mt_X10_within : MtS yX10_within cX10_within 6 (some .boolean) 3 := ⟨⟨q_6_116, q_1_9, by decide +kernel, by decide +kernel, by decide +kernel⟩, q_6_115⟩
theorem q_6_114 : Cond.methodLink "BeaconDelayModel" 159 yX10_within ∈ gw := gw_6 (i := 114) (by decide +kernel) rfl
theorem dX10_takesOne_26 : decode cX10_takesOne 26 = .ok (.invokestatic 159, 3) := by decide +kernel
theorem dX10_takesOne_29 : decode cX10_takesOne 29 = .ok (.ifCond .ne 8, 3) := by decide +kernel
theorem dX10_takesOne_37 : decode cX10_takesOne 37 = .ok (.aload_n 0, 1) := by decide +kernel
theorem dX10_takesOne_38 : decode cX10_takesOne 38 = .ok (.getfield 138, 3) := by decide +kernel
theorem dX10_takesOne_41 : decode cX10_takesOne 41 = .ok (.istore_n 3, 1) := by decide +kernel
theorem dX10_takesOne_42 : decode cX10_takesOne 42 = .ok (.aload_n 0, 1) := by decide +kernel
theorem dX10_takesOne_43 : decode cX10_takesOne 43 = .ok (.getfield 143, 3) := by decide +kernel
theorem dX10_takesOne_46 : decode cX10_takesOne 46 = .ok (.ifCond .ne 7, 3) := by decide +kernel
theorem dX10_takesOne_49 : decode cX10_takesOne 49 = .ok (.aload_n 0, 1) := by decide +kernel
theorem dX10_takesOne_50 : decode cX10_takesOne 50 = .ok (.invokevirtual 152, 3) := by decide +kernel
theorem dX10_takesOne_53 : decode cX10_takesOne 53 = .ok (.iload_n 3, 1) := by decide +kernel
theorem dX10_takesOne_54 : decode cX10_takesOne 54 = .ok (.ireturn, 1) := by decide +kernel
theorem dX10_takesOne_32 : decode cX10_takesOne 32 = .ok (.aload_n 0, 1) := by decide +kernel
theorem dX10_takesOne_33 : decode cX10_takesOne 33 = .ok (.iconst 3, 1) := by decide +kernel
theorem q_6_150 : Cond.code yX10_fails prog_12_method_11_code 2 none ∈ gw := gw_6 (i := 150) (rfl) rfl
theorem q_6_149 : Cond.instanceMethod yX10_fails ∈ gw := gw_6 (i := 149) (by decide +kernel) rfl
theorem q_s_59 : Cond.selects "BeaconDelayModel" yX10_fails yX10_fails ∈ gw := gw_s (i := 59) (by decide +kernel) rfl
theorem mt_X10_fails : MtV yX10_fails cX10_fails 2 none 1 := ⟨⟨q_6_150, q_1_9, by decide +kernel, by decide +kernel, by decide +kernel⟩, q_6_149, q_s_59⟩
theorem q_6_147 : Cond.methodLink "BeaconDelayModel" 155 yX10_fails ∈ gw := gw_6 (i := 147) (by decide +kernel) rfl
theorem dX10_takesOne_34 : decode cX10_takesOne 34 = .ok (.invokevirtual 155, 3) := by decide +kernel
theorem dX10_takesOne_9 : decode cX10_takesOne 9 = .ok (.aload_n 0, 1) := by decide +kernel
theorem dX10_takesOne_10 : decode cX10_takesOne 10 = .ok (.iconst 2, 1) := by decide +kernel
theorem dX10_takesOne_11 : decode cX10_takesOne 11 = .ok (.invokevirtual 155, 3) := by decide +kernel
theorem dX10_takesOne_14 : decode cX10_takesOne 14 = .ok (.goto 23, 3) := by decide +kernel
set_option maxHeartbeats 4000000 in
set_option maxRecDepth 100000 in
theorem k_X10_takesOne_0 (l : Launch) (V : GV) (z : Nat → Nat) (a1 : Int32) (a2 : Int32) (pz0_0 : Int32) (pz0_5 : Int32) (pz0_6 : Int32) (pz0_7 : Int32) (pz0_8 : Int32) (pz0_9 : Int32) (pz0_10 : Int32) (pz0_11 : Int32) (pz0_12 : Int32) (pz0_13 : Int32) (pz0_14 : Int32) (pz0_18 : Int32) (pz0_19 : Int32) (pz0_22 : Int32) (pz0_23 : Int32) (pz0_29 : Int32) (fz3 : Nat → Int32) (bpz0_5 : iv 0 900 pz0_5) (bpz0_6 : iv 0 900 pz0_6) (bpz0_7 : iv 0 900 pz0_7) (bpz0_8 : iv 0 900 pz0_8) (bpz0_10 : iv 0 999 pz0_10) (bpz0_11 : iv 0 4 pz0_11) (bpz0_12 : iv 0 900 pz0_12) (bpz0_13 : iv 0 4 pz0_13) (bpz0_14 : iv (-1) 900 pz0_14) (bpz0_18 : iv 0 2 pz0_18) (bpz0_22 : iv 0 9999 pz0_22) (bpz0_29 : iv 0 10000 pz0_29) (tfz3 : ∀ j, iv 0 255 (fz3 j)) (hf0 : PT pz0_6 pz0_7 pz0_8 pz0_9) : Ct l V yX10_takesOne (.code yX10_takesOne cX10_takesOne 4 (some .int)) 7 [.ref (z 0), .int a1, .int a2] [(z 0, .inr (10, mo z pz0_0 pz0_5 pz0_6 pz0_7 pz0_8 pz0_9 pz0_10 pz0_11 pz0_12 pz0_13 pz0_14 pz0_18 pz0_19 pz0_22 pz0_23 pz0_29)), (z 3, aI V 900 fz3)] 0 0 (QI V (fun (r : Int32) (w : va_W) => ∃ (v0 : Int32) (v1 : Int32) (v2 : Int32) (v3 : Int32) (v4 : Int32) (v5 : Int32), iv 0 900 v0 ∧ iv 0 900 v1 ∧ iv 0 999 v3 ∧ iv 0 4 v4 ∧ iv 0 900 v5 ∧ iv 0 999 r ∧ (PT v0 v1 pz0_8 v2) ∧ ((pz0_6 : Int32).toInt ≤ (v0 : Int32).toInt) ∧ (v4 = 0 → pz0_11 = 0) ∧ (v4 = 0 → (a1 : Int32).toInt ≤ (r : Int32).toInt ∧ (r : Int32).toInt ≤ (a2 : Int32).toInt) ∧ (a1 = 0 → ∀ q9 : Sg, RZ fz3 pz0_8 q9 pz0_11 pz0_12 pz0_9 pz0_6 pz0_7 pz0_10 → RZ fz3 pz0_8 (nuP (tkX fz3 pz0_8) a2 q9) v4 v5 v2 v0 v1 v3) ∧ (a1 = 0 → ∀ q9 : Sg, RZ fz3 pz0_8 q9 pz0_11 pz0_12 pz0_9 pz0_6 pz0_7 pz0_10 → (nuP (tkX fz3 pz0_8) a2 q9).1 = 0 → r = ((tkX fz3 pz0_8) q9.2.2.1).2.2.2) ∧ w = [(z 0, .inr (10, mo z pz0_0 pz0_5 v0 v1 pz0_8 v2 v3 v4 v5 pz0_13 pz0_14 pz0_18 pz0_19 pz0_22 pz0_23 pz0_29)), (z 3, aI V 900 fz3)])) := by
  refine Ct.of (by decide) (Nat.le_of_ble_eq_true rfl) (fun p e s m below meth c A ls hx hb hr hml hown hlk hnm hg hP hK hD hE hA hS hl => ?_)
  have hl : lv_has ls 4 [(0, .ref (z 0)), (1, .int a1), (2, .int a2)] := hl
  refine lv_aload_n hx hb dX10_takesOne_0 rfl (lv_at hl 0 rfl) ?_
  refine lv_bipush (v := 23) hx hb dX10_takesOne_1 (by decide) ?_
  refine jnI (wr := [(z 3, aI V 900 fz3)]) (rnV (rest := []) ⟨hx, hb, hml, hown, hg⟩ (k_X10_is_2 l V z pz0_0 pz0_5 pz0_6 pz0_7 pz0_8 pz0_9 pz0_10 pz0_11 pz0_12 pz0_13 pz0_14 pz0_18 pz0_19 pz0_22 pz0_23 pz0_29 bpz0_5 bpz0_6 bpz0_7 bpz0_8 bpz0_10 bpz0_11 bpz0_12 bpz0_13 bpz0_14 bpz0_18 bpz0_22 bpz0_29) mt_X10_is q_6_143 ⟨Nat.le_of_ble_eq_true rfl, Nat.le_of_ble_eq_true rfl⟩ hK hP hD hS hA hE [0] rfl rfl 0 rfl rfl rfl rfl hl.1 rfl (Nat.le_of_ble_eq_true rfl) dX10_takesOne_3 ⟨Nat.le_of_ble_eq_true rfl, Nat.le_of_ble_eq_true rfl⟩) hP hD hS hA [0] [1] rfl rfl rfl (by decide) (fun r_1 w H locs hw hP hD hS => ?_)
  obtain ⟨br_1, g_2, g_3, g_4, rfl⟩ := hw
  have hP : va_P V.1 vwCl [(z 3, aI V 900 fz3), (z 0, .inr (10, mo z pz0_0 pz0_5 pz0_6 pz0_7 pz0_8 pz0_9 pz0_10 pz0_11 pz0_12 pz0_13 pz0_14 pz0_18 pz0_19 pz0_22 pz0_23 pz0_29))] H := hP
  have hD := cpD hP hD
  refine lv_if_ne (tgt := 17) hx hb dX10_takesOne_6 (by decide) (fun c_5 => ?_) (fun c_5 => ?_)
  · have b_6 : iv 1 1 r_1 := iv_n0 c_5 br_1 (iv_c (0 : Int32) (a := 0) (b := 0) (by decide)) (by decide)
    have c_7 : pz0_11 = 0 := (g_2 (iv_eqp b_6 (iv_c (1 : Int32) (by decide))))
    have b_8 : iv 0 0 pz0_11 := iv_q c_7 (iv_c (0 : Int32) (a := 0) (b := 0) (by decide))
    have c_9 : pz0_9 = 23 := (g_3 (iv_eqp b_6 (iv_c (1 : Int32) (by decide))))
    have b_10 : iv 23 23 pz0_9 := iv_q c_9 (iv_c (23 : Int32) (a := 23) (b := 23) (by decide))
    refine lv_aload_n hx hb dX10_takesOne_17 rfl (lv_at hl 0 rfl) ?_
    refine va_get (ci := 10) (v := .int pz0_10) (C := RX10) (T := TX10) (N := 40) hx hb hg inX10 hown hK hP 1 rfl rfl 10 (by decide) (hg _ q_5_234) (fun _ h9 => h9) rfl dX10_takesOne_18 ?_
    refine lv_i2l hx hb dX10_takesOne_21 rfl ?_
    refine lv_topl (fun j_11 ej_11 => ?_)
    have bj_11 : ivL 0 999 j_11 := by rw [ej_11]; exact ivL_of bpz0_10
    refine lv_iload_n hx hb dX10_takesOne_22 rfl (lv_at hl 1 rfl) ?_
    refine lv_i2l hx hb dX10_takesOne_23 rfl ?_
    refine lv_topl (fun j_12 ej_12 => ?_)
    refine lv_iload_n hx hb dX10_takesOne_24 rfl (lv_at hl 2 rfl) ?_
    refine lv_i2l hx hb dX10_takesOne_25 rfl ?_
    refine lv_topl (fun j_13 ej_13 => ?_)
    refine jnI (wr := [(z 3, aI V 900 fz3), (z 0, .inr (10, mo z pz0_0 pz0_5 pz0_6 pz0_7 pz0_8 pz0_9 pz0_10 pz0_11 pz0_12 pz0_13 pz0_14 pz0_18 pz0_19 pz0_22 pz0_23 pz0_29))]) (rnS (rest := []) ⟨hx, hb, hml, hown, hg⟩ (k_X10_within_0 l V j_11 j_12 j_13) mt_X10_within q_6_114 ⟨Nat.le_of_ble_eq_true rfl, Nat.le_of_ble_eq_true rfl⟩ hK hP hD hS hA hE [] rfl rfl rfl hl.1 rfl (Nat.le_of_ble_eq_true rfl) dX10_takesOne_26 ⟨Nat.le_of_ble_eq_true rfl, Nat.le_of_ble_eq_true rfl⟩) hP hD hS hA [] [0, 1] rfl rfl rfl (by decide) (fun r_14 w H locs hw hP hD hS => ?_)
    obtain ⟨br_14, g_15, g_16, g_17, et_18, rfl⟩ := hw
    have hP : va_P V.1 vwCl [(z 3, aI V 900 fz3), (z 0, .inr (10, mo z pz0_0 pz0_5 pz0_6 pz0_7 pz0_8 pz0_9 pz0_10 pz0_11 pz0_12 pz0_13 pz0_14 pz0_18 pz0_19 pz0_22 pz0_23 pz0_29))] H := hP
    have hD := cpD hP hD
    refine lv_if_ne (tgt := 37) hx hb dX10_takesOne_29 (by decide) (fun c_19 => ?_) (fun c_19 => ?_)
    · have b_20 : iv 1 1 r_14 := iv_n0 c_19 br_14 (iv_c (0 : Int32) (a := 0) (b := 0) (by decide)) (by decide)
      have c_21 : j_12 ≤ j_11 := (g_16 (iv_eqp b_20 (iv_c (1 : Int32) (by decide))))
      have b_22 : ivL (-9223372036854775808) 999 j_12 := ivL_e1 c_21 (ivL_top j_12) bj_11 (by decide)
      have b_23 : iv (-2147483648) 999 a1 := iv_cap (ivL_i ej_12 b_22) (iv_top a1) (by decide)
      have c_24 : j_11 ≤ j_13 := (g_17 (iv_eqp b_20 (iv_c (1 : Int32) (by decide))))
      have b_25 : ivL 0 9223372036854775807 j_13 := ivL_e2 c_24 bj_11 (ivL_top j_13) (by decide)
      have b_26 : iv 0 2147483647 a2 := iv_cap (ivL_i ej_13 b_25) (iv_top a2) (by decide)
      refine lv_aload_n hx hb dX10_takesOne_37 rfl (lv_at hl 0 rfl) ?_
      refine va_get (ci := 10) (v := .int pz0_10) (C := RX10) (T := TX10) (N := 40) hx hb hg inX10 hown hK hP 1 rfl rfl 10 (by decide) (hg _ q_5_234) (fun _ h9 => h9) rfl dX10_takesOne_38 ?_
      refine lv_istore_n (lv' := [(3, .int pz0_10), (0, .ref (z 0)), (1, .int a1), (2, .int a2)]) hx hb dX10_takesOne_41 rfl hl (by decide) rfl (fun ls hl => ?_)
      refine lv_aload_n hx hb dX10_takesOne_42 rfl (lv_at hl 1 rfl) ?_
      refine va_get (ci := 10) (v := .int pz0_11) (C := RX10) (T := TX10) (N := 40) hx hb hg inX10 hown hK hP 1 rfl rfl 11 (by decide) (hg _ q_5_235) (fun _ h9 => h9) rfl dX10_takesOne_43 ?_
      refine lv_if_ne (tgt := 53) hx hb dX10_takesOne_46 (by decide) (fun c_28 => absurd c_7 c_28) (fun _ => ?_)
      refine lv_aload_n hx hb dX10_takesOne_49 rfl (lv_at hl 1 rfl) ?_
      refine jnV (wr := []) (rnV (rest := []) ⟨hx, hb, hml, hown, hg⟩ (k_X10_next_0 l V z pz0_0 pz0_5 pz0_6 pz0_7 pz0_8 pz0_9 pz0_10 pz0_11 pz0_12 pz0_13 pz0_14 pz0_18 pz0_19 pz0_22 pz0_23 pz0_29 fz3 bpz0_5 bpz0_6 bpz0_7 bpz0_8 bpz0_10 (iv_w b_8 (by decide)) bpz0_12 bpz0_13 bpz0_14 bpz0_18 bpz0_22 bpz0_29 tfz3 hf0.2.1) mt_X10_next q_6_117 ⟨Nat.le_of_ble_eq_true rfl, Nat.le_of_ble_eq_true rfl⟩ hK hP hD hS hA hE [1, 0] rfl rfl 1 rfl rfl rfl rfl hl.1 rfl (Nat.le_of_ble_eq_true rfl) dX10_takesOne_50 ⟨Nat.le_of_ble_eq_true rfl, Nat.le_of_ble_eq_true rfl⟩) hP hD hS hA [1, 0] [] rfl rfl rfl (by decide) (fun  w H locs hw hP hD hS => ?_)
      obtain ⟨v_29, v_30, v_31, v_32, bv_29, bv_30, bv_32, g_33, g_34, g_35, rfl⟩ := hw
      have hP : va_P V.1 vwCl [(z 0, .inr (10, mo z pz0_0 pz0_5 v_29 v_30 pz0_8 v_31 v_32 pz0_11 pz0_12 pz0_13 pz0_14 pz0_18 pz0_19 pz0_22 pz0_23 pz0_29)), (z 3, aI V 900 fz3)] H := hP
      have hD := cpD hP hD
      refine lv_iload_n hx hb dX10_takesOne_53 rfl (lv_at hl 0 rfl) ?_
      exact fiI hx hb hr hlk hK hP hD hS dX10_takesOne_54 (Nat.le_of_ble_eq_true rfl) (Nat.le_of_ble_eq_true rfl) (⟨v_29, v_30, v_31, v_32, pz0_11, pz0_12, bv_29, bv_30, bv_32, (iv_w b_8 (by decide)), bpz0_12, bpz0_10, g_33, (by have q9 := g_34; have q8 := hf0.1; omega), (fun q9 => q9), (fun _ => by have z1 := Int64.le_iff_toInt_le.mp c_21; have z2 := Int64.le_iff_toInt_le.mp c_24; rw [ej_12, toI64, ej_11, toI64] at z1; rw [ej_11, toI64, ej_13, toI64] at z2; exact ⟨z1, z2⟩), (fun z9 q9 h9 => by have b_1 := RZ_i1 (k := 23) h9 (by decide) g_2 g_3 b_6; have h_2 := RZ_nx bpz0_8.2 h9 (isQ_iff.mp b_1).1 g_35; exact RZ_cg (nuP_1 b_1 (tz_1 h9 b_1 ej_11 ej_13 c_24)) h_2), (fun z9 q9 h9 w9 => by have b_1 := RZ_i1 (k := 23) h9 (by decide) g_2 g_3 b_6; have h_2 := RZ_nx bpz0_8.2 h9 (isQ_iff.mp b_1).1 g_35; exact tz_v h9 b_1), rfl⟩)
    · have b_36 : iv 0 0 r_14 := iv_q c_19 (iv_c (0 : Int32) (a := 0) (b := 0) (by decide))
      refine lv_aload_n hx hb dX10_takesOne_32 rfl (lv_at hl 0 rfl) ?_
      refine lv_iconst (v := 3) hx hb dX10_takesOne_33 (by decide) ?_
      refine jnV (wr := [(z 3, aI V 900 fz3)]) (rnV (rest := []) ⟨hx, hb, hml, hown, hg⟩ (k_X10_fails_0 l V z 3 pz0_0 pz0_5 pz0_6 pz0_7 pz0_8 pz0_9 pz0_10 pz0_11 pz0_12 pz0_13 pz0_14 pz0_18 pz0_19 pz0_22 pz0_23 pz0_29 (iv_c (3 : Int32) (by decide)) bpz0_5 bpz0_6 bpz0_7 bpz0_8 bpz0_10 (iv_w b_8 (by decide)) bpz0_12 bpz0_13 bpz0_14 bpz0_18 bpz0_22 bpz0_29) mt_X10_fails q_6_147 ⟨Nat.le_of_ble_eq_true rfl, Nat.le_of_ble_eq_true rfl⟩ hK hP hD hS hA hE [1] rfl rfl 1 rfl rfl rfl rfl hl.1 rfl (Nat.le_of_ble_eq_true rfl) dX10_takesOne_34 ⟨Nat.le_of_ble_eq_true rfl, Nat.le_of_ble_eq_true rfl⟩) hP hD hS hA [1] [0] rfl rfl rfl (by decide) (fun  w H locs hw hP hD hS => ?_)
      obtain ⟨v_37, v_38, bv_37, bv_38, g_39, rfl⟩ := hw
      have hP : va_P V.1 vwCl [(z 3, aI V 900 fz3), (z 0, .inr (10, mo z pz0_0 pz0_5 pz0_6 pz0_7 pz0_8 pz0_9 pz0_10 v_37 v_38 pz0_13 pz0_14 pz0_18 pz0_19 pz0_22 pz0_23 pz0_29))] H := hP
      have hD := cpD hP hD
      refine lv_aload_n hx hb dX10_takesOne_37 rfl (lv_at hl 0 rfl) ?_
      refine va_get (ci := 10) (v := .int pz0_10) (C := RX10) (T := TX10) (N := 40) hx hb hg inX10 hown hK hP 1 rfl rfl 10 (by decide) (hg _ q_5_234) (fun _ h9 => h9) rfl dX10_takesOne_38 ?_
      refine lv_istore_n (lv' := [(3, .int pz0_10), (0, .ref (z 0)), (1, .int a1), (2, .int a2)]) hx hb dX10_takesOne_41 rfl hl (by decide) rfl (fun ls hl => ?_)
      refine lv_aload_n hx hb dX10_takesOne_42 rfl (lv_at hl 1 rfl) ?_
      refine va_get (ci := 10) (v := .int v_37) (C := RX10) (T := TX10) (N := 40) hx hb hg inX10 hown hK hP 1 rfl rfl 11 (by decide) (hg _ q_5_235) (fun _ h9 => h9) rfl dX10_takesOne_43 ?_
      refine lv_if_ne (tgt := 53) hx hb dX10_takesOne_46 (by decide) (fun _ => ?_) (fun c_40 => absurd c_40 (iv_ne bv_37 (iv_c (0 : Int32) (a := 0) (b := 0) (by decide)) (by decide)))
      refine lv_iload_n hx hb dX10_takesOne_53 rfl (lv_at hl 0 rfl) ?_
      have hP := subP (ws' := [(z 0, .inr (10, mo z pz0_0 pz0_5 pz0_6 pz0_7 pz0_8 pz0_9 pz0_10 v_37 v_38 pz0_13 pz0_14 pz0_18 pz0_19 pz0_22 pz0_23 pz0_29)), (z 3, aI V 900 fz3)]) hP [1, 0] rfl
      have hD := subD hP hD [1, 0] rfl rfl
      exact fiI hx hb hr hlk hK hP hD hS dX10_takesOne_54 (Nat.le_of_ble_eq_true rfl) (Nat.le_of_ble_eq_true rfl) (⟨pz0_6, pz0_7, pz0_9, pz0_10, v_37, v_38, bpz0_6, bpz0_7, bpz0_10, (iv_w bv_37 (by decide)), bv_38, bpz0_10, hf0, (Int.le_refl _), (fun q9 => absurd q9 (iv_nz bv_37 (by decide))), (fun q9 => absurd q9 (iv_nz bv_37 (by decide))), (fun z9 q9 h9 => by have b_1 := RZ_i1 (k := 23) h9 (by decide) g_2 g_3 b_6; have h_2 := RZ_fl h9 g_39 (by decide); exact RZ_cg (nuP_3 b_1 (tz_3 h9 b_1 z9 bpz0_10 ej_11 ej_12 ej_13 (g_15 (iv_eqp b_36 (iv_c (0 : Int32) (by decide)))))) h_2), (fun z9 q9 h9 w9 => by have b_1 := RZ_i1 (k := 23) h9 (by decide) g_2 g_3 b_6; have h_2 := RZ_fl h9 g_39 (by decide); rw [nuP_3 b_1 (tz_3 h9 b_1 z9 bpz0_10 ej_11 ej_12 ej_13 (g_15 (iv_eqp b_36 (iv_c (0 : Int32) (by decide)))))] at w9; exact fl_zn (by decide) w9), rfl⟩)
  · have b_41 : iv 0 0 r_1 := iv_q c_5 (iv_c (0 : Int32) (a := 0) (b := 0) (by decide))
    refine lv_aload_n hx hb dX10_takesOne_9 rfl (lv_at hl 0 rfl) ?_
    refine lv_iconst (v := 2) hx hb dX10_takesOne_10 (by decide) ?_
    refine jnV (wr := [(z 3, aI V 900 fz3)]) (rnV (rest := []) ⟨hx, hb, hml, hown, hg⟩ (k_X10_fails_0 l V z 2 pz0_0 pz0_5 pz0_6 pz0_7 pz0_8 pz0_9 pz0_10 pz0_11 pz0_12 pz0_13 pz0_14 pz0_18 pz0_19 pz0_22 pz0_23 pz0_29 (iv_c (2 : Int32) (by decide)) bpz0_5 bpz0_6 bpz0_7 bpz0_8 bpz0_10 bpz0_11 bpz0_12 bpz0_13 bpz0_14 bpz0_18 bpz0_22 bpz0_29) mt_X10_fails q_6_147 ⟨Nat.le_of_ble_eq_true rfl, Nat.le_of_ble_eq_true rfl⟩ hK hP hD hS hA hE [1] rfl rfl 1 rfl rfl rfl rfl hl.1 rfl (Nat.le_of_ble_eq_true rfl) dX10_takesOne_11 ⟨Nat.le_of_ble_eq_true rfl, Nat.le_of_ble_eq_true rfl⟩) hP hD hS hA [1] [0] rfl rfl rfl (by decide) (fun  w H locs hw hP hD hS => ?_)
    obtain ⟨v_42, v_43, bv_42, bv_43, g_44, rfl⟩ := hw
    have hP : va_P V.1 vwCl [(z 3, aI V 900 fz3), (z 0, .inr (10, mo z pz0_0 pz0_5 pz0_6 pz0_7 pz0_8 pz0_9 pz0_10 v_42 v_43 pz0_13 pz0_14 pz0_18 pz0_19 pz0_22 pz0_23 pz0_29))] H := hP
    have hD := cpD hP hD
    refine lv_goto (tgt := 37) hx hb dX10_takesOne_14 (by decide) ?_
    refine lv_aload_n hx hb dX10_takesOne_37 rfl (lv_at hl 0 rfl) ?_
    refine va_get (ci := 10) (v := .int pz0_10) (C := RX10) (T := TX10) (N := 40) hx hb hg inX10 hown hK hP 1 rfl rfl 10 (by decide) (hg _ q_5_234) (fun _ h9 => h9) rfl dX10_takesOne_38 ?_
    refine lv_istore_n (lv' := [(3, .int pz0_10), (0, .ref (z 0)), (1, .int a1), (2, .int a2)]) hx hb dX10_takesOne_41 rfl hl (by decide) rfl (fun ls hl => ?_)
    refine lv_aload_n hx hb dX10_takesOne_42 rfl (lv_at hl 1 rfl) ?_
    refine va_get (ci := 10) (v := .int v_42) (C := RX10) (T := TX10) (N := 40) hx hb hg inX10 hown hK hP 1 rfl rfl 11 (by decide) (hg _ q_5_235) (fun _ h9 => h9) rfl dX10_takesOne_43 ?_
    refine lv_if_ne (tgt := 53) hx hb dX10_takesOne_46 (by decide) (fun _ => ?_) (fun c_45 => absurd c_45 (iv_ne bv_42 (iv_c (0 : Int32) (a := 0) (b := 0) (by decide)) (by decide)))
    refine lv_iload_n hx hb dX10_takesOne_53 rfl (lv_at hl 0 rfl) ?_
    have hP := subP (ws' := [(z 0, .inr (10, mo z pz0_0 pz0_5 pz0_6 pz0_7 pz0_8 pz0_9 pz0_10 v_42 v_43 pz0_13 pz0_14 pz0_18 pz0_19 pz0_22 pz0_23 pz0_29)), (z 3, aI V 900 fz3)]) hP [1, 0] rfl
    have hD := subD hP hD [1, 0] rfl rfl
    exact fiI hx hb hr hlk hK hP hD hS dX10_takesOne_54 (Nat.le_of_ble_eq_true rfl) (Nat.le_of_ble_eq_true rfl) (⟨pz0_6, pz0_7, pz0_9, pz0_10, v_42, v_43, bpz0_6, bpz0_7, bpz0_10, (iv_w bv_42 (by decide)), bv_43, bpz0_10, hf0, (Int.le_refl _), (fun q9 => absurd q9 (iv_nz bv_42 (by decide))), (fun q9 => absurd q9 (iv_nz bv_42 (by decide))), (fun z9 q9 h9 => by have b_1 := RZ_i0 (k := 23) h9 (by decide) g_4 b_41; have h_2 := RZ_fl h9 g_44 (by decide); exact RZ_cg (nuP_0 b_1) h_2), (fun z9 q9 h9 w9 => by have b_1 := RZ_i0 (k := 23) h9 (by decide) g_4 b_41; have h_2 := RZ_fl h9 g_44 (by decide); rw [nuP_0 b_1] at w9; exact fl_zn (by decide) w9), rfl⟩)
theorem dX10_named_0 : decode cX10_named 0 = .ok (.aload_n 0, 1) := by decide +kernel
theorem dX10_named_1 : decode cX10_named 1 = .ok (.iload_n 1, 1) := by decide +kernel
theorem q_6_142 : Cond.code yX10_eats prog_12_method_13_code 2 (some FieldType.boolean) ∈ gw := gw_6 (i := 142) (rfl) rfl
theorem q_6_141 : Cond.instanceMethod yX10_eats ∈ gw := gw_6 (i := 141) (by decide +kernel) rfl
theorem q_s_57 : Cond.selects "BeaconDelayModel" yX10_eats yX10_eats ∈ gw := gw_s (i := 57) (by decide +kernel) rfl
theorem mt_X10_eats : MtV yX10_eats cX10_eats 2 (some .boolean) 1 := ⟨⟨q_6_142, q_1_9, by decide +kernel, by decide +kernel, by decide +kernel⟩, q_6_141, q_s_57⟩
theorem q_6_139 : Cond.methodLink "BeaconDelayModel" 175 yX10_eats ∈ gw := gw_6 (i := 139) (by decide +kernel) rfl
theorem dX10_named_2 : decode cX10_named 2 = .ok (.invokevirtual 175, 3) := by decide +kernel
theorem dX10_named_5 : decode cX10_named 5 = .ok (.ifCond .ne 8, 3) := by decide +kernel
theorem dX10_named_13 : decode cX10_named 13 = .ok (.aload_n 0, 1) := by decide +kernel
theorem dX10_named_14 : decode cX10_named 14 = .ok (.iload_n 2, 1) := by decide +kernel
theorem dX10_named_15 : decode cX10_named 15 = .ok (.iload_n 3, 1) := by decide +kernel
theorem q_6_158 : Cond.code yX10_takesOne prog_12_method_14_code 4 (some FieldType.int) ∈ gw := gw_6 (i := 158) (rfl) rfl
theorem q_6_157 : Cond.instanceMethod yX10_takesOne ∈ gw := gw_6 (i := 157) (by decide +kernel) rfl
theorem q_s_61 : Cond.selects "BeaconDelayModel" yX10_takesOne yX10_takesOne ∈ gw := gw_s (i := 61) (by decide +kernel) rfl
theorem mt_X10_takesOne : MtV yX10_takesOne cX10_takesOne 4 (some .int) 2 := ⟨⟨q_6_158, q_1_9, by decide +kernel, by decide +kernel, by decide +kernel⟩, q_6_157, q_s_61⟩
theorem q_6_155 : Cond.methodLink "BeaconDelayModel" 196 yX10_takesOne ∈ gw := gw_6 (i := 155) (by decide +kernel) rfl
theorem dX10_named_16 : decode cX10_named 16 = .ok (.invokevirtual 196, 3) := by decide +kernel
theorem dX10_named_19 : decode cX10_named 19 = .ok (.ireturn, 1) := by decide +kernel
theorem dX10_named_8 : decode cX10_named 8 = .ok (.aload_n 0, 1) := by decide +kernel
theorem dX10_named_9 : decode cX10_named 9 = .ok (.iconst 2, 1) := by decide +kernel
theorem dX10_named_10 : decode cX10_named 10 = .ok (.invokevirtual 155, 3) := by decide +kernel
set_option maxHeartbeats 4000000 in
set_option maxRecDepth 100000 in
theorem k_X10_named_0 (l : Launch) (V : GV) (z : Nat → Nat) (a2 : Int32) (a3 : Int32) (pz0_0 : Int32) (pz0_5 : Int32) (pz0_6 : Int32) (pz0_7 : Int32) (pz0_8 : Int32) (pz0_9 : Int32) (pz0_10 : Int32) (pz0_11 : Int32) (pz0_12 : Int32) (pz0_13 : Int32) (pz0_14 : Int32) (pz0_18 : Int32) (pz0_19 : Int32) (pz0_22 : Int32) (pz0_23 : Int32) (pz0_29 : Int32) (fz3 : Nat → Int32) (bpz0_5 : iv 0 900 pz0_5) (bpz0_6 : iv 0 900 pz0_6) (bpz0_7 : iv 0 900 pz0_7) (bpz0_8 : iv 0 900 pz0_8) (bpz0_10 : iv 0 999 pz0_10) (bpz0_11 : iv 0 4 pz0_11) (bpz0_12 : iv 0 900 pz0_12) (bpz0_13 : iv 0 4 pz0_13) (bpz0_14 : iv (-1) 900 pz0_14) (bpz0_18 : iv 0 2 pz0_18) (bpz0_22 : iv 0 9999 pz0_22) (bpz0_29 : iv 0 10000 pz0_29) (tfz3 : ∀ j, iv 0 255 (fz3 j)) (hf0 : PT pz0_6 pz0_7 pz0_8 pz0_9) : Ct l V yX10_named (.code yX10_named cX10_named 4 (some .int)) 8 [.ref (z 0), .int 1, .int a2, .int a3] [(z 0, .inr (10, mo z pz0_0 pz0_5 pz0_6 pz0_7 pz0_8 pz0_9 pz0_10 pz0_11 pz0_12 pz0_13 pz0_14 pz0_18 pz0_19 pz0_22 pz0_23 pz0_29)), (z 3, aI V 900 fz3)] 0 0 (QI V (fun (r : Int32) (w : va_W) => ∃ (v0 : Int32) (v1 : Int32) (v2 : Int32) (v3 : Int32) (v4 : Int32) (v5 : Int32), iv 0 900 v0 ∧ iv 0 900 v1 ∧ iv 0 999 v3 ∧ iv 0 4 v4 ∧ iv 0 900 v5 ∧ iv 0 999 r ∧ (PT v0 v1 pz0_8 v2) ∧ ((pz0_6 : Int32).toInt ≤ (v0 : Int32).toInt) ∧ (v4 = 0 → pz0_11 = 0) ∧ (v4 = 0 → (a2 : Int32).toInt ≤ (r : Int32).toInt ∧ (r : Int32).toInt ≤ (a3 : Int32).toInt) ∧ (a2 = 0 → ∀ q9 : Sg, RZ fz3 pz0_8 q9 pz0_11 pz0_12 pz0_9 pz0_6 pz0_7 pz0_10 → RZ fz3 pz0_8 (nuP (tkX fz3 pz0_8) a3 (exP (tkX fz3 pz0_8) (1 : Int32) q9)) v4 v5 v2 v0 v1 v3) ∧ (a2 = 0 → ∀ q9 : Sg, RZ fz3 pz0_8 q9 pz0_11 pz0_12 pz0_9 pz0_6 pz0_7 pz0_10 → (nuP (tkX fz3 pz0_8) a3 (exP (tkX fz3 pz0_8) (1 : Int32) q9)).1 = 0 → r = ((tkX fz3 pz0_8) (exP (tkX fz3 pz0_8) (1 : Int32) q9).2.2.1).2.2.2) ∧ w = [(z 0, .inr (10, mo z pz0_0 pz0_5 v0 v1 pz0_8 v2 v3 v4 v5 pz0_13 pz0_14 pz0_18 pz0_19 pz0_22 pz0_23 pz0_29)), (z 3, aI V 900 fz3)])) := by
  refine Ct.of (by decide) (Nat.le_of_ble_eq_true rfl) (fun p e s m below meth c A ls hx hb hr hml hown hlk hnm hg hP hK hD hE hA hS hl => ?_)
  have hl : lv_has ls 4 [(0, .ref (z 0)), (1, .int 1), (2, .int a2), (3, .int a3)] := hl
  refine lv_aload_n hx hb dX10_named_0 rfl (lv_at hl 0 rfl) ?_
  refine lv_iload_n hx hb dX10_named_1 rfl (lv_at hl 1 rfl) ?_
  refine jnI (wr := []) (rnV (rest := []) ⟨hx, hb, hml, hown, hg⟩ (k_X10_eats_1 l V z pz0_0 pz0_5 pz0_6 pz0_7 pz0_8 pz0_9 pz0_10 pz0_11 pz0_12 pz0_13 pz0_14 pz0_18 pz0_19 pz0_22 pz0_23 pz0_29 fz3 bpz0_5 bpz0_6 bpz0_7 bpz0_8 bpz0_10 bpz0_11 bpz0_12 bpz0_13 bpz0_14 bpz0_18 bpz0_22 bpz0_29 tfz3 hf0) mt_X10_eats q_6_139 ⟨Nat.le_of_ble_eq_true rfl, Nat.le_of_ble_eq_true rfl⟩ hK hP hD hS hA hE [0, 1] rfl rfl 0 rfl rfl rfl rfl hl.1 rfl (Nat.le_of_ble_eq_true rfl) dX10_named_2 ⟨Nat.le_of_ble_eq_true rfl, Nat.le_of_ble_eq_true rfl⟩) hP hD hS hA [0, 1] [] rfl rfl rfl (by decide) (fun r_1 w H locs hw hP hD hS => ?_)
  obtain ⟨v_2, v_3, v_4, v_5, bv_2, bv_3, bv_5, br_1, g_6, g_7, g_8, g_9, g_10, rfl⟩ := hw
  have hP : va_P V.1 vwCl [(z 0, .inr (10, mo z pz0_0 pz0_5 v_2 v_3 pz0_8 v_4 v_5 pz0_11 pz0_12 pz0_13 pz0_14 pz0_18 pz0_19 pz0_22 pz0_23 pz0_29)), (z 3, aI V 900 fz3)] H := hP
  have hD := cpD hP hD
  refine lv_if_ne (tgt := 13) hx hb dX10_named_5 (by decide) (fun c_11 => ?_) (fun c_11 => ?_)
  · have b_12 : iv 1 1 r_1 := iv_n0 c_11 br_1 (iv_c (0 : Int32) (a := 0) (b := 0) (by decide)) (by decide)
    have c_13 : pz0_11 = 0 := (g_8 (iv_eqp b_12 (iv_c (1 : Int32) (by decide))))
    have b_14 : iv 0 0 pz0_11 := iv_q c_13 (iv_c (0 : Int32) (a := 0) (b := 0) (by decide))
    refine lv_aload_n hx hb dX10_named_13 rfl (lv_at hl 0 rfl) ?_
    refine lv_iload_n hx hb dX10_named_14 rfl (lv_at hl 2 rfl) ?_
    refine lv_iload_n hx hb dX10_named_15 rfl (lv_at hl 3 rfl) ?_
    refine jnI (wr := []) (rnV (rest := []) ⟨hx, hb, hml, hown, hg⟩ (k_X10_takesOne_0 l V z a2 a3 pz0_0 pz0_5 v_2 v_3 pz0_8 v_4 v_5 pz0_11 pz0_12 pz0_13 pz0_14 pz0_18 pz0_19 pz0_22 pz0_23 pz0_29 fz3 bpz0_5 bv_2 bv_3 bpz0_8 bv_5 (iv_w b_14 (by decide)) bpz0_12 bpz0_13 bpz0_14 bpz0_18 bpz0_22 bpz0_29 tfz3 g_6) mt_X10_takesOne q_6_155 ⟨Nat.le_of_ble_eq_true rfl, Nat.le_of_ble_eq_true rfl⟩ hK hP hD hS hA hE [0, 1] rfl rfl 0 rfl rfl rfl rfl hl.1 rfl (Nat.le_of_ble_eq_true rfl) dX10_named_16 ⟨Nat.le_of_ble_eq_true rfl, Nat.le_of_ble_eq_true rfl⟩) hP hD hS hA [0, 1] [] rfl rfl rfl (by decide) (fun r_15 w H locs hw hP hD hS => ?_)
    obtain ⟨v_16, v_17, v_18, v_19, v_20, v_21, bv_16, bv_17, bv_19, bv_20, bv_21, br_15, g_22, g_23, g_24, g_25, g_26, g_27, rfl⟩ := hw
    have hP : va_P V.1 vwCl [(z 0, .inr (10, mo z pz0_0 pz0_5 v_16 v_17 pz0_8 v_18 v_19 v_20 v_21 pz0_13 pz0_14 pz0_18 pz0_19 pz0_22 pz0_23 pz0_29)), (z 3, aI V 900 fz3)] H := hP
    have hD := cpD hP hD
    exact fiI hx hb hr hlk hK hP hD hS dX10_named_19 (Nat.le_of_ble_eq_true rfl) (Nat.le_of_ble_eq_true rfl) (⟨v_16, v_17, v_18, v_19, v_20, v_21, bv_16, bv_17, bv_19, bv_20, bv_21, br_15, g_22, (by have z_0 := g_7; have z_1 := g_23;have y_0 := hf0.1; have y_1 := g_6.1; have y_2 := g_22.1; omega), (fun q9 => ((g_24) q9)), g_25, (fun z9 q9 h9 => by obtain ⟨b_1, h_1⟩ := (g_10 _ h9).1 (iv_eqp b_12 (iv_c (1 : Int32) (by decide))); have h_1x := RZ_cg (exP_1 b_1) h_1; have h_2 := g_26 z9 _ h_1x; exact h_2), (fun z9 q9 h9 w9 => by obtain ⟨b_1, h_1⟩ := (g_10 _ h9).1 (iv_eqp b_12 (iv_c (1 : Int32) (by decide))); have h_1x := RZ_cg (exP_1 b_1) h_1; have h_2 := g_26 z9 _ h_1x; exact g_27 z9 _ h_1x w9), rfl⟩)
  · have b_28 : iv 0 0 r_1 := iv_q c_11 (iv_c (0 : Int32) (a := 0) (b := 0) (by decide))
    refine lv_aload_n hx hb dX10_named_8 rfl (lv_at hl 0 rfl) ?_
    refine lv_iconst (v := 2) hx hb dX10_named_9 (by decide) ?_
    refine jnV (wr := [(z 3, aI V 900 fz3)]) (rnV (rest := []) ⟨hx, hb, hml, hown, hg⟩ (k_X10_fails_0 l V z 2 pz0_0 pz0_5 v_2 v_3 pz0_8 v_4 v_5 pz0_11 pz0_12 pz0_13 pz0_14 pz0_18 pz0_19 pz0_22 pz0_23 pz0_29 (iv_c (2 : Int32) (by decide)) bpz0_5 bv_2 bv_3 bpz0_8 bv_5 bpz0_11 bpz0_12 bpz0_13 bpz0_14 bpz0_18 bpz0_22 bpz0_29) mt_X10_fails q_6_147 ⟨Nat.le_of_ble_eq_true rfl, Nat.le_of_ble_eq_true rfl⟩ hK hP hD hS hA hE [0] rfl rfl 0 rfl rfl rfl rfl hl.1 rfl (Nat.le_of_ble_eq_true rfl) dX10_named_10 ⟨Nat.le_of_ble_eq_true rfl, Nat.le_of_ble_eq_true rfl⟩) hP hD hS hA [0] [1] rfl rfl rfl (by decide) (fun  w H locs hw hP hD hS => ?_)
    obtain ⟨v_29, v_30, bv_29, bv_30, g_31, rfl⟩ := hw
    have hP : va_P V.1 vwCl [(z 3, aI V 900 fz3), (z 0, .inr (10, mo z pz0_0 pz0_5 v_2 v_3 pz0_8 v_4 v_5 v_29 v_30 pz0_13 pz0_14 pz0_18 pz0_19 pz0_22 pz0_23 pz0_29))] H := hP
    have hD := cpD hP hD
    refine lv_aload_n hx hb dX10_named_13 rfl (lv_at hl 0 rfl) ?_
    refine lv_iload_n hx hb dX10_named_14 rfl (lv_at hl 2 rfl) ?_
    refine lv_iload_n hx hb dX10_named_15 rfl (lv_at hl 3 rfl) ?_
    refine jnI (wr := []) (rnV (rest := []) ⟨hx, hb, hml, hown, hg⟩ (k_X10_takesOne_0 l V z a2 a3 pz0_0 pz0_5 v_2 v_3 pz0_8 v_4 v_5 v_29 v_30 pz0_13 pz0_14 pz0_18 pz0_19 pz0_22 pz0_23 pz0_29 fz3 bpz0_5 bv_2 bv_3 bpz0_8 bv_5 (iv_w bv_29 (by decide)) bv_30 bpz0_13 bpz0_14 bpz0_18 bpz0_22 bpz0_29 tfz3 g_6) mt_X10_takesOne q_6_155 ⟨Nat.le_of_ble_eq_true rfl, Nat.le_of_ble_eq_true rfl⟩ hK hP hD hS hA hE [1, 0] rfl rfl 1 rfl rfl rfl rfl hl.1 rfl (Nat.le_of_ble_eq_true rfl) dX10_named_16 ⟨Nat.le_of_ble_eq_true rfl, Nat.le_of_ble_eq_true rfl⟩) hP hD hS hA [1, 0] [] rfl rfl rfl (by decide) (fun r_32 w H locs hw hP hD hS => ?_)
    obtain ⟨v_33, v_34, v_35, v_36, v_37, v_38, bv_33, bv_34, bv_36, bv_37, bv_38, br_32, g_39, g_40, g_41, g_42, g_43, g_44, rfl⟩ := hw
    have hP : va_P V.1 vwCl [(z 0, .inr (10, mo z pz0_0 pz0_5 v_33 v_34 pz0_8 v_35 v_36 v_37 v_38 pz0_13 pz0_14 pz0_18 pz0_19 pz0_22 pz0_23 pz0_29)), (z 3, aI V 900 fz3)] H := hP
    have hD := cpD hP hD
    exact fiI hx hb hr hlk hK hP hD hS dX10_named_19 (Nat.le_of_ble_eq_true rfl) (Nat.le_of_ble_eq_true rfl) (⟨v_33, v_34, v_35, v_36, v_37, v_38, bv_33, bv_34, bv_36, bv_37, bv_38, br_32, g_39, (by have z_0 := g_7; have z_1 := g_40;have y_0 := hf0.1; have y_1 := g_6.1; have y_2 := g_39.1; omega), (fun q9 => ((fun q8 => absurd q8 (iv_nz bv_29 (by decide))) ((g_41) q9))), g_42, (fun z9 q9 h9 => by obtain ⟨b_1, h_1⟩ := (g_10 _ h9).2 (iv_eqp b_28 (iv_c (0 : Int32) (by decide))); have h_2 := RZ_cg (exP_0 b_1) (RZ_fl h_1 g_31 (by decide)); have h_3 := g_43 z9 _ h_2; exact h_3), (fun z9 q9 h9 w9 => by obtain ⟨b_1, h_1⟩ := (g_10 _ h9).2 (iv_eqp b_28 (iv_c (0 : Int32) (by decide))); have h_2 := RZ_cg (exP_0 b_1) (RZ_fl h_1 g_31 (by decide)); have h_3 := g_43 z9 _ h_2; exact g_44 z9 _ h_2 w9), rfl⟩)
set_option maxHeartbeats 4000000 in
set_option maxRecDepth 100000 in
theorem k_X10_is_3 (l : Launch) (V : GV) (z : Nat → Nat) (pz0_0 : Int32) (pz0_5 : Int32) (pz0_6 : Int32) (pz0_7 : Int32) (pz0_8 : Int32) (pz0_9 : Int32) (pz0_10 : Int32) (pz0_11 : Int32) (pz0_12 : Int32) (pz0_13 : Int32) (pz0_14 : Int32) (pz0_18 : Int32) (pz0_19 : Int32) (pz0_22 : Int32) (pz0_23 : Int32) (pz0_29 : Int32) (bpz0_5 : iv 0 900 pz0_5) (bpz0_6 : iv 0 900 pz0_6) (bpz0_7 : iv 0 900 pz0_7) (bpz0_8 : iv 0 900 pz0_8) (bpz0_10 : iv 0 999 pz0_10) (bpz0_11 : iv 0 4 pz0_11) (bpz0_12 : iv 0 900 pz0_12) (bpz0_13 : iv 0 4 pz0_13) (bpz0_14 : iv (-1) 900 pz0_14) (bpz0_18 : iv 0 2 pz0_18) (bpz0_22 : iv 0 9999 pz0_22) (bpz0_29 : iv 0 10000 pz0_29) : Ct l V yX10_is (.code yX10_is cX10_is 2 (some .boolean)) 1 [.ref (z 0), .int 30] [(z 0, .inr (10, mo z pz0_0 pz0_5 pz0_6 pz0_7 pz0_8 pz0_9 pz0_10 pz0_11 pz0_12 pz0_13 pz0_14 pz0_18 pz0_19 pz0_22 pz0_23 pz0_29))] 0 0 (QI V (fun (r : Int32) (w : va_W) => iv 0 1 r ∧ (r = 1 → pz0_11 = 0) ∧ (r = 1 → pz0_9 = (30 : Int32)) ∧ (r = 0 → ¬ (pz0_11 = 0 ∧ pz0_9 = (30 : Int32))) ∧ w = [(z 0, .inr (10, mo z pz0_0 pz0_5 pz0_6 pz0_7 pz0_8 pz0_9 pz0_10 pz0_11 pz0_12 pz0_13 pz0_14 pz0_18 pz0_19 pz0_22 pz0_23 pz0_29))])) := by
  refine Ct.of (by decide) (Nat.le_of_ble_eq_true rfl) (fun p e s m below meth c A ls hx hb hr hml hown hlk hnm hg hP hK hD hE hA hS hl => ?_)
  have hl : lv_has ls 2 [(0, .ref (z 0)), (1, .int 30)] := hl
  refine lv_aload_n hx hb dX10_is_0 rfl (lv_at hl 0 rfl) ?_
  refine va_get (ci := 10) (v := .int pz0_11) (C := RX10) (T := TX10) (N := 40) hx hb hg inX10 hown hK hP 0 rfl rfl 11 (by decide) (hg _ q_5_235) (fun _ h9 => h9) rfl dX10_is_1 ?_
  refine lv_if_ne (tgt := 19) hx hb dX10_is_4 (by decide) (fun c_1 => ?_) (fun c_1 => ?_)
  · have b_2 : iv 1 4 pz0_11 := iv_n0 c_1 bpz0_11 (iv_c (0 : Int32) (a := 0) (b := 0) (by decide)) (by decide)
    refine lv_iconst (v := 0) hx hb dX10_is_19 (by decide) ?_
    exact fiZ rfl hx hb hr hlk hK hP hD hS dX10_is_20 (Nat.le_of_ble_eq_true rfl) (Nat.le_of_ble_eq_true rfl) (⟨(iv_c (0 : Int32) (by decide)), (fun q9 => absurd q9 (by decide)), (fun q9 => absurd q9 (by decide)), (fun _ q9 => c_1 q9.1), rfl⟩)
  · have b_3 : iv 0 0 pz0_11 := iv_q c_1 (iv_c (0 : Int32) (a := 0) (b := 0) (by decide))
    refine lv_aload_n hx hb dX10_is_7 rfl (lv_at hl 0 rfl) ?_
    refine va_get (ci := 10) (v := .int pz0_9) (C := RX10) (T := TX10) (N := 40) hx hb hg inX10 hown hK hP 0 rfl rfl 9 (by decide) (hg _ q_5_233) (fun _ h9 => h9) rfl dX10_is_8 ?_
    refine lv_iload_n hx hb dX10_is_11 rfl (lv_at hl 1 rfl) ?_
    refine lv_icmp_ne (tgt := 19) hx hb dX10_is_12 (by decide) (fun c_4 => ?_) (fun c_4 => ?_)
    · refine lv_iconst (v := 0) hx hb dX10_is_19 (by decide) ?_
      exact fiZ rfl hx hb hr hlk hK hP hD hS dX10_is_20 (Nat.le_of_ble_eq_true rfl) (Nat.le_of_ble_eq_true rfl) (⟨(iv_c (0 : Int32) (by decide)), (fun q9 => absurd q9 (by decide)), (fun q9 => absurd q9 (by decide)), (fun _ q9 => c_4 q9.2), rfl⟩)
    · have b_5 : iv 30 30 pz0_9 := iv_q c_4 (iv_c (30 : Int32) (a := 30) (b := 30) (by decide))
      refine lv_iconst (v := 1) hx hb dX10_is_15 (by decide) ?_
      refine lv_goto (tgt := 20) hx hb dX10_is_16 (by decide) ?_
      exact fiZ rfl hx hb hr hlk hK hP hD hS dX10_is_20 (Nat.le_of_ble_eq_true rfl) (Nat.le_of_ble_eq_true rfl) (⟨(iv_c (1 : Int32) (by decide)), (fun _ => c_1), (fun _ => c_4), (fun q9 => absurd q9 (by decide)), rfl⟩)
set_option maxHeartbeats 4000000 in
set_option maxRecDepth 100000 in
theorem k_X10_eats_2 (l : Launch) (V : GV) (z : Nat → Nat) (pz0_0 : Int32) (pz0_5 : Int32) (pz0_6 : Int32) (pz0_7 : Int32) (pz0_8 : Int32) (pz0_9 : Int32) (pz0_10 : Int32) (pz0_11 : Int32) (pz0_12 : Int32) (pz0_13 : Int32) (pz0_14 : Int32) (pz0_18 : Int32) (pz0_19 : Int32) (pz0_22 : Int32) (pz0_23 : Int32) (pz0_29 : Int32) (fz3 : Nat → Int32) (bpz0_5 : iv 0 900 pz0_5) (bpz0_6 : iv 0 900 pz0_6) (bpz0_7 : iv 0 900 pz0_7) (bpz0_8 : iv 0 900 pz0_8) (bpz0_10 : iv 0 999 pz0_10) (bpz0_11 : iv 0 4 pz0_11) (bpz0_12 : iv 0 900 pz0_12) (bpz0_13 : iv 0 4 pz0_13) (bpz0_14 : iv (-1) 900 pz0_14) (bpz0_18 : iv 0 2 pz0_18) (bpz0_22 : iv 0 9999 pz0_22) (bpz0_29 : iv 0 10000 pz0_29) (tfz3 : ∀ j, iv 0 255 (fz3 j)) (hf0 : PT pz0_6 pz0_7 pz0_8 pz0_9) : Ct l V yX10_eats (.code yX10_eats cX10_eats 2 (some .boolean)) 7 [.ref (z 0), .int 30] [(z 0, .inr (10, mo z pz0_0 pz0_5 pz0_6 pz0_7 pz0_8 pz0_9 pz0_10 pz0_11 pz0_12 pz0_13 pz0_14 pz0_18 pz0_19 pz0_22 pz0_23 pz0_29)), (z 3, aI V 900 fz3)] 0 0 (QI V (fun (r : Int32) (w : va_W) => ∃ (v0 : Int32) (v1 : Int32) (v2 : Int32) (v3 : Int32), iv 0 900 v0 ∧ iv 0 900 v1 ∧ iv 0 999 v3 ∧ iv 0 1 r ∧ (PT v0 v1 pz0_8 v2) ∧ ((pz0_6 : Int32).toInt ≤ (v0 : Int32).toInt) ∧ (r = 1 → pz0_11 = 0) ∧ (r = 1 → (pz0_6 : Int32).toInt + 1 ≤ (v0 : Int32).toInt) ∧ (∀ q9 : Sg, RZ fz3 pz0_8 q9 pz0_11 pz0_12 pz0_9 pz0_6 pz0_7 pz0_10 → (r = 1 → isQ (tkX fz3 pz0_8) q9 (30 : Int32) = true ∧ RZ fz3 pz0_8 (nxP (tkX fz3 pz0_8) q9) pz0_11 pz0_12 v2 v0 v1 v3) ∧ (r = 0 → isQ (tkX fz3 pz0_8) q9 (30 : Int32) = false ∧ RZ fz3 pz0_8 q9 pz0_11 pz0_12 v2 v0 v1 v3)) ∧ w = [(z 0, .inr (10, mo z pz0_0 pz0_5 v0 v1 pz0_8 v2 v3 pz0_11 pz0_12 pz0_13 pz0_14 pz0_18 pz0_19 pz0_22 pz0_23 pz0_29)), (z 3, aI V 900 fz3)])) := by
  refine Ct.of (by decide) (Nat.le_of_ble_eq_true rfl) (fun p e s m below meth c A ls hx hb hr hml hown hlk hnm hg hP hK hD hE hA hS hl => ?_)
  have hl : lv_has ls 2 [(0, .ref (z 0)), (1, .int 30)] := hl
  refine lv_aload_n hx hb dX10_eats_0 rfl (lv_at hl 0 rfl) ?_
  refine lv_iload_n hx hb dX10_eats_1 rfl (lv_at hl 1 rfl) ?_
  refine jnI (wr := [(z 3, aI V 900 fz3)]) (rnV (rest := []) ⟨hx, hb, hml, hown, hg⟩ (k_X10_is_3 l V z pz0_0 pz0_5 pz0_6 pz0_7 pz0_8 pz0_9 pz0_10 pz0_11 pz0_12 pz0_13 pz0_14 pz0_18 pz0_19 pz0_22 pz0_23 pz0_29 bpz0_5 bpz0_6 bpz0_7 bpz0_8 bpz0_10 bpz0_11 bpz0_12 bpz0_13 bpz0_14 bpz0_18 bpz0_22 bpz0_29) mt_X10_is q_6_143 ⟨Nat.le_of_ble_eq_true rfl, Nat.le_of_ble_eq_true rfl⟩ hK hP hD hS hA hE [0] rfl rfl 0 rfl rfl rfl rfl hl.1 rfl (Nat.le_of_ble_eq_true rfl) dX10_eats_2 ⟨Nat.le_of_ble_eq_true rfl, Nat.le_of_ble_eq_true rfl⟩) hP hD hS hA [0] [1] rfl rfl rfl (by decide) (fun r_1 w H locs hw hP hD hS => ?_)
  obtain ⟨br_1, g_2, g_3, g_4, rfl⟩ := hw
  have hP : va_P V.1 vwCl [(z 3, aI V 900 fz3), (z 0, .inr (10, mo z pz0_0 pz0_5 pz0_6 pz0_7 pz0_8 pz0_9 pz0_10 pz0_11 pz0_12 pz0_13 pz0_14 pz0_18 pz0_19 pz0_22 pz0_23 pz0_29))] H := hP
  have hD := cpD hP hD
  refine lv_if_ne (tgt := 10) hx hb dX10_eats_5 (by decide) (fun c_5 => ?_) (fun c_5 => ?_)
  · have b_6 : iv 1 1 r_1 := iv_n0 c_5 br_1 (iv_c (0 : Int32) (a := 0) (b := 0) (by decide)) (by decide)
    have c_7 : pz0_11 = 0 := (g_2 (iv_eqp b_6 (iv_c (1 : Int32) (by decide))))
    have b_8 : iv 0 0 pz0_11 := iv_q c_7 (iv_c (0 : Int32) (a := 0) (b := 0) (by decide))
    have c_9 : pz0_9 = 30 := (g_3 (iv_eqp b_6 (iv_c (1 : Int32) (by decide))))
    have b_10 : iv 30 30 pz0_9 := iv_q c_9 (iv_c (30 : Int32) (a := 30) (b := 30) (by decide))
    refine lv_aload_n hx hb dX10_eats_10 rfl (lv_at hl 0 rfl) ?_
    refine jnV (wr := []) (rnV (rest := []) ⟨hx, hb, hml, hown, hg⟩ (k_X10_next_0 l V z pz0_0 pz0_5 pz0_6 pz0_7 pz0_8 pz0_9 pz0_10 pz0_11 pz0_12 pz0_13 pz0_14 pz0_18 pz0_19 pz0_22 pz0_23 pz0_29 fz3 bpz0_5 bpz0_6 bpz0_7 bpz0_8 bpz0_10 (iv_w b_8 (by decide)) bpz0_12 bpz0_13 bpz0_14 bpz0_18 bpz0_22 bpz0_29 tfz3 hf0.2.1) mt_X10_next q_6_117 ⟨Nat.le_of_ble_eq_true rfl, Nat.le_of_ble_eq_true rfl⟩ hK hP hD hS hA hE [1, 0] rfl rfl 1 rfl rfl rfl rfl hl.1 rfl (Nat.le_of_ble_eq_true rfl) dX10_eats_11 ⟨Nat.le_of_ble_eq_true rfl, Nat.le_of_ble_eq_true rfl⟩) hP hD hS hA [1, 0] [] rfl rfl rfl (by decide) (fun  w H locs hw hP hD hS => ?_)
    obtain ⟨v_11, v_12, v_13, v_14, bv_11, bv_12, bv_14, g_15, g_16, g_17, rfl⟩ := hw
    have hP : va_P V.1 vwCl [(z 0, .inr (10, mo z pz0_0 pz0_5 v_11 v_12 pz0_8 v_13 v_14 pz0_11 pz0_12 pz0_13 pz0_14 pz0_18 pz0_19 pz0_22 pz0_23 pz0_29)), (z 3, aI V 900 fz3)] H := hP
    have hD := cpD hP hD
    refine lv_iconst (v := 1) hx hb dX10_eats_14 (by decide) ?_
    exact fiZ rfl hx hb hr hlk hK hP hD hS dX10_eats_15 (Nat.le_of_ble_eq_true rfl) (Nat.le_of_ble_eq_true rfl) (⟨v_11, v_12, v_13, v_14, bv_11, bv_12, bv_14, (iv_c (1 : Int32) (by decide)), g_15, (by have q9 := g_16; have q8 := hf0.1; omega), (fun _ => iv_eqp b_8 (iv_c (0 : Int32) (by decide))), (fun _ => by have q9 := g_16; have q8 := hf0.2.2 (by rw [c_9]; decide); omega), (fun q9 h9 => by have b_1 := RZ_i1 (k := 30) h9 (by decide) g_2 g_3 b_6; have h_2 := RZ_nx bpz0_8.2 h9 (isQ_iff.mp b_1).1 g_17; exact ⟨fun _ => ⟨b_1, h_2⟩, fun z => absurd z (by decide)⟩), rfl⟩)
  · have b_18 : iv 0 0 r_1 := iv_q c_5 (iv_c (0 : Int32) (a := 0) (b := 0) (by decide))
    refine lv_iconst (v := 0) hx hb dX10_eats_8 (by decide) ?_
    have hP := subP (ws' := [(z 0, .inr (10, mo z pz0_0 pz0_5 pz0_6 pz0_7 pz0_8 pz0_9 pz0_10 pz0_11 pz0_12 pz0_13 pz0_14 pz0_18 pz0_19 pz0_22 pz0_23 pz0_29)), (z 3, aI V 900 fz3)]) hP [1, 0] rfl
    have hD := subD hP hD [1, 0] rfl rfl
    exact fiZ rfl hx hb hr hlk hK hP hD hS dX10_eats_9 (Nat.le_of_ble_eq_true rfl) (Nat.le_of_ble_eq_true rfl) (⟨pz0_6, pz0_7, pz0_9, pz0_10, bpz0_6, bpz0_7, bpz0_10, (iv_c (0 : Int32) (by decide)), hf0, (Int.le_refl _), (fun q9 => absurd q9 (by decide)), (fun q9 => absurd q9 (by decide)), (fun q9 h9 => by have b_1 := RZ_i0 (k := 30) h9 (by decide) g_4 b_18; exact ⟨fun z => absurd z (by decide), fun _ => ⟨b_1, h9⟩⟩), rfl⟩)
theorem dX10_closes_0 : decode cX10_closes 0 = .ok (.aload_n 0, 1) := by decide +kernel
theorem dX10_closes_1 : decode cX10_closes 1 = .ok (.bipush 30, 2) := by decide +kernel
theorem dX10_closes_3 : decode cX10_closes 3 = .ok (.invokevirtual 175, 3) := by decide +kernel
theorem dX10_closes_6 : decode cX10_closes 6 = .ok (.ifCond .ne 8, 3) := by decide +kernel
theorem dX10_closes_14 : decode cX10_closes 14 = .ok (.aload_n 0, 1) := by decide +kernel
theorem q_5_228 : Cond.fieldLink "BeaconDelayModel" 24 "BeaconDelayModel" "fresh" "[I" ∈ gw := gw_5 (i := 228) (by decide +kernel) rfl
theorem dX10_closes_15 : decode cX10_closes 15 = .ok (.getfield 24, 3) := by decide +kernel
theorem dX10_closes_18 : decode cX10_closes 18 = .ok (.iconst 0, 1) := by decide +kernel
theorem dX10_closes_19 : decode cX10_closes 19 = .ok (.dup2, 1) := by decide +kernel
theorem dX10_closes_20 : decode cX10_closes 20 = .ok (.iaload, 1) := by decide +kernel
theorem dX10_closes_21 : decode cX10_closes 21 = .ok (.iconst 1, 1) := by decide +kernel
theorem dX10_closes_22 : decode cX10_closes 22 = .ok (.iadd, 1) := by decide +kernel
theorem dX10_closes_23 : decode cX10_closes 23 = .ok (.iastore, 1) := by decide +kernel
theorem dX10_closes_24 : decode cX10_closes 24 = .ok (.return_, 1) := by decide +kernel
theorem dX10_closes_9 : decode cX10_closes 9 = .ok (.aload_n 0, 1) := by decide +kernel
theorem dX10_closes_10 : decode cX10_closes 10 = .ok (.iconst 2, 1) := by decide +kernel
theorem dX10_closes_11 : decode cX10_closes 11 = .ok (.invokevirtual 155, 3) := by decide +kernel
set_option maxHeartbeats 4000000 in
set_option maxRecDepth 100000 in
theorem k_X10_closes_0 (l : Launch) (V : GV) (z : Nat → Nat) (fz4 : Nat → Int32) (pz0_0 : Int32) (pz0_5 : Int32) (pz0_6 : Int32) (pz0_7 : Int32) (pz0_8 : Int32) (pz0_9 : Int32) (pz0_10 : Int32) (pz0_11 : Int32) (pz0_12 : Int32) (pz0_13 : Int32) (pz0_14 : Int32) (pz0_18 : Int32) (pz0_19 : Int32) (pz0_22 : Int32) (pz0_23 : Int32) (pz0_29 : Int32) (fz3 : Nat → Int32) (tfz4 : ivT tF fz4) (bpz0_5 : iv 0 900 pz0_5) (bpz0_6 : iv 0 900 pz0_6) (bpz0_7 : iv 0 900 pz0_7) (bpz0_8 : iv 0 900 pz0_8) (bpz0_10 : iv 0 999 pz0_10) (bpz0_11 : iv 0 4 pz0_11) (bpz0_12 : iv 0 900 pz0_12) (bpz0_13 : iv 0 4 pz0_13) (bpz0_14 : iv (-1) 900 pz0_14) (bpz0_18 : iv 0 2 pz0_18) (bpz0_22 : iv 0 9999 pz0_22) (bpz0_29 : iv 0 10000 pz0_29) (tfz3 : ∀ j, iv 0 255 (fz3 j)) (hf0 : PT pz0_6 pz0_7 pz0_8 pz0_9) (hf1 : PS pz0_11 pz0_6 fz4) : Ct l V yX10_closes (.code yX10_closes cX10_closes 1 none) 8 [.ref (z 0)] [(z 4, aI V 1025 fz4), (z 0, .inr (10, mo z pz0_0 pz0_5 pz0_6 pz0_7 pz0_8 pz0_9 pz0_10 pz0_11 pz0_12 pz0_13 pz0_14 pz0_18 pz0_19 pz0_22 pz0_23 pz0_29)), (z 3, aI V 900 fz3)] 0 0 (QV V (fun (w : va_W) => ∃ (g0 : Nat → Int32) (v1 : Int32) (v2 : Int32) (v3 : Int32) (v4 : Int32) (v5 : Int32) (v6 : Int32), (ivT tF g0) ∧ iv 0 900 v1 ∧ iv 0 900 v2 ∧ iv 0 999 v4 ∧ iv 0 4 v5 ∧ iv 0 900 v6 ∧ (PT v1 v2 pz0_8 v3) ∧ (PS v5 v1 g0) ∧ ((pz0_6 : Int32).toInt ≤ (v1 : Int32).toInt) ∧ (v5 = 0 → pz0_11 = 0) ∧ (v5 = 0 → (pz0_6 : Int32).toInt + 1 ≤ (v1 : Int32).toInt) ∧ (∀ (q9 : Sg) (d9 : Nat → Int32), RZ fz3 pz0_8 q9 pz0_11 pz0_12 pz0_9 pz0_6 pz0_7 pz0_10 → RD q9.1 d9 (fz4 (0 : Int32).toNatClampNeg) (fz4 (1 : Int32).toNatClampNeg) (fz4 (2 : Int32).toNatClampNeg) (fz4 (3 : Int32).toNatClampNeg) → RZ fz3 pz0_8 (exP (tkX fz3 pz0_8) 30 q9) v5 v6 v3 v1 v2 v4 ∧ RD (exP (tkX fz3 pz0_8) 30 q9).1 (upd d9 0 (d9 0 + 1)) (g0 (0 : Int32).toNatClampNeg) (g0 (1 : Int32).toNatClampNeg) (g0 (2 : Int32).toNatClampNeg) (g0 (3 : Int32).toNatClampNeg)) ∧ (∀ j : Nat, 124 ≤ j → g0 j = fz4 j) ∧ (∀ d9 : Nat → Int32, (∀ j : Nat, j < 124 → fz4 j = d9 j) → (∀ j : Nat, j < 124 → g0 j = (upd d9 0 (d9 0 + 1)) j)) ∧ w = [(z 4, aI V 1025 g0), (z 0, .inr (10, mo z pz0_0 pz0_5 v1 v2 pz0_8 v3 v4 v5 v6 pz0_13 pz0_14 pz0_18 pz0_19 pz0_22 pz0_23 pz0_29)), (z 3, aI V 900 fz3)])) := by
  refine Ct.of (by decide) (Nat.le_of_ble_eq_true rfl) (fun p e s m below meth c A ls hx hb hr hml hown hlk hnm hg hP hK hD hE hA hS hl => ?_)
  have hl : lv_has ls 1 [(0, .ref (z 0))] := hl
  refine lv_aload_n hx hb dX10_closes_0 rfl (lv_at hl 0 rfl) ?_
  refine lv_bipush (v := 30) hx hb dX10_closes_1 (by decide) ?_
  refine jnI (wr := [(z 4, aI V 1025 fz4)]) (rnV (rest := []) ⟨hx, hb, hml, hown, hg⟩ (k_X10_eats_2 l V z pz0_0 pz0_5 pz0_6 pz0_7 pz0_8 pz0_9 pz0_10 pz0_11 pz0_12 pz0_13 pz0_14 pz0_18 pz0_19 pz0_22 pz0_23 pz0_29 fz3 bpz0_5 bpz0_6 bpz0_7 bpz0_8 bpz0_10 bpz0_11 bpz0_12 bpz0_13 bpz0_14 bpz0_18 bpz0_22 bpz0_29 tfz3 hf0) mt_X10_eats q_6_139 ⟨Nat.le_of_ble_eq_true rfl, Nat.le_of_ble_eq_true rfl⟩ hK hP hD hS hA hE [1, 2] rfl rfl 1 rfl rfl rfl rfl hl.1 rfl (Nat.le_of_ble_eq_true rfl) dX10_closes_3 ⟨Nat.le_of_ble_eq_true rfl, Nat.le_of_ble_eq_true rfl⟩) hP hD hS hA [1, 2] [0] rfl rfl rfl (by decide) (fun r_1 w H locs hw hP hD hS => ?_)
  obtain ⟨v_2, v_3, v_4, v_5, bv_2, bv_3, bv_5, br_1, g_6, g_7, g_8, g_9, g_10, rfl⟩ := hw
  have hP : va_P V.1 vwCl [(z 4, aI V 1025 fz4), (z 0, .inr (10, mo z pz0_0 pz0_5 v_2 v_3 pz0_8 v_4 v_5 pz0_11 pz0_12 pz0_13 pz0_14 pz0_18 pz0_19 pz0_22 pz0_23 pz0_29)), (z 3, aI V 900 fz3)] H := hP
  have hD := cpD hP hD
  refine lv_if_ne (tgt := 14) hx hb dX10_closes_6 (by decide) (fun c_11 => ?_) (fun c_11 => ?_)
  · have b_12 : iv 1 1 r_1 := iv_n0 c_11 br_1 (iv_c (0 : Int32) (a := 0) (b := 0) (by decide)) (by decide)
    have c_13 : pz0_11 = 0 := (g_8 (iv_eqp b_12 (iv_c (1 : Int32) (by decide))))
    have b_14 : iv 0 0 pz0_11 := iv_q c_13 (iv_c (0 : Int32) (a := 0) (b := 0) (by decide))
    refine lv_aload_n hx hb dX10_closes_14 rfl (lv_at hl 0 rfl) ?_
    refine va_get (ci := 10) (v := .ref (z 4)) (C := RX10) (T := TX10) (N := 40) hx hb hg inX10 hown hK hP 1 rfl rfl 4 (by decide) (hg _ q_5_228) (fun _ h9 => h9) rfl dX10_closes_15 ?_
    refine lv_iconst (v := 0) hx hb dX10_closes_18 (by decide) ?_
    refine lv_dup2_11 hx hb dX10_closes_19 rfl rfl ?_
    refine va_iald hx hb hK hP 0 0 rfl rfl (vin (by decide +kernel)) dX10_closes_20 ?_
    refine lv_topi (fun x_15 ex_15 => ?_)
    refine lv_iconst (v := 1) hx hb dX10_closes_21 (by decide) ?_
    refine lv_iadd hx hb dX10_closes_22 ?_
    refine lv_topi (fun x_16 ex_16 => ?_)
    refine va_iast hx hb hK hP hD hS 0 0 rfl rfl (vin (by decide +kernel)) dX10_closes_23 (fun H locs hP hD hS => ?_)
    obtain ⟨f_17, ef_17, tf_17, hP, hD⟩ : ∃ f_17 : Nat → Int32, f_17 = (upd fz4 (0 : Int32).toNatClampNeg x_16) ∧ (ivT tF f_17) ∧ va_P V.1 vwCl [(z 4, aI V 1025 f_17), (z 0, .inr (10, mo z pz0_0 pz0_5 v_2 v_3 pz0_8 v_4 v_5 pz0_11 pz0_12 pz0_13 pz0_14 pz0_18 pz0_19 pz0_22 pz0_23 pz0_29)), (z 3, aI V 900 fz3)] H ∧ va_D A [(z 4, aI V 1025 f_17), (z 0, .inr (10, mo z pz0_0 pz0_5 v_2 v_3 pz0_8 v_4 v_5 pz0_11 pz0_12 pz0_13 pz0_14 pz0_18 pz0_19 pz0_22 pz0_23 pz0_29)), (z 3, aI V 900 fz3)] := ⟨_, rfl, upT (lo := (-2147483648)) (hi := 2147483647) (a := 0) (n := 1) tfz4 (iv_c (0 : Int32) (a := 0) (b := 0) (by decide)) (by decide) (iv_top x_16) (by decide +kernel), hP, hD⟩
    exact fiV hx hb hr hlk hK hP hD hS dX10_closes_24 (Nat.le_of_ble_eq_true rfl) (Nat.le_of_ble_eq_true rfl) (⟨f_17, v_2, v_3, v_4, v_5, pz0_11, pz0_12, tf_17, bv_2, bv_3, bv_5, (iv_w b_14 (by decide)), bpz0_12, g_6, (PS_up (lo := (-2147483648)) (hi := 2147483647) (c := 0) (k := 1) (i := 0) (n := 1) (PS_a hf1 (fun q9 => q9) (by have z_0 := g_7;have y_0 := hf0.1; have y_1 := g_6.1; omega)) ef_17 (show (0 : Int32).toInt = 0 + 1 * (0 : Int32).toInt from (by omega)) (iv_c (0 : Int32) (a := 0) (b := 0) (by decide)) (by decide) (by decide +kernel) (fun _ => (iv_top x_16)) (iv_c (0 : Int32) (a := 0) (b := 0) (by decide)) (by decide)), (by have z_0 := g_7;have y_0 := hf0.1; have y_1 := g_6.1; omega), (fun q9 => q9), (fun _ => (g_9 (iv_eqp b_12 (iv_c (1 : Int32) (by decide))))), (fun q9 d9 h9 g9 => by obtain ⟨b_1, h_1⟩ := (g_10 _ h9).1 (iv_eqp b_12 (iv_c (1 : Int32) (by decide))); have h_1x := RZ_cg (exP_1 b_1) h_1; have y1 : (f_17 (1 : Int32).toNatClampNeg) = (fz4 (1 : Int32).toNatClampNeg) := (show f_17 (1 : Int32).toNatClampNeg = fz4 (1 : Int32).toNatClampNeg from by rw [ef_17]; exact upd_ne (cl_ne (iv_c (1 : Int32) (a := 1) (b := 1) (by decide)) (iv_c (0 : Int32) (a := 0) (b := 0) (by decide)) (by decide))); have y2 : (f_17 (2 : Int32).toNatClampNeg) = (fz4 (2 : Int32).toNatClampNeg) := (show f_17 (2 : Int32).toNatClampNeg = fz4 (2 : Int32).toNatClampNeg from by rw [ef_17]; exact upd_ne (cl_ne (iv_c (2 : Int32) (a := 2) (b := 2) (by decide)) (iv_c (0 : Int32) (a := 0) (b := 0) (by decide)) (by decide))); have y3 : (f_17 (3 : Int32).toNatClampNeg) = (fz4 (3 : Int32).toNatClampNeg) := (show f_17 (3 : Int32).toNatClampNeg = fz4 (3 : Int32).toNatClampNeg from by rw [ef_17]; exact upd_ne (cl_ne (iv_c (3 : Int32) (a := 3) (b := 3) (by decide)) (iv_c (0 : Int32) (a := 0) (b := 0) (by decide)) (by decide))); have y0 : (f_17 (0 : Int32).toNatClampNeg) = (fz4 (0 : Int32).toNatClampNeg) + 1 := (by rw [show (f_17 (0 : Int32).toNatClampNeg) = x_16 from (show f_17 (0 : Int32).toNatClampNeg = x_16 from by rw [ef_17]; exact upd_at), ex_16, ex_15]); exact ⟨h_1x, by rw [y1, y2, y3]; exact RD_x g9 y0⟩), (fk_u ef_17 (iv_c (0 : Int32) (a := 0) (b := 0) (by decide)) (by decide)), (fun d9 a9 => cl_z a9 ef_17 ex_16 ex_15), rfl⟩)
  · have b_18 : iv 0 0 r_1 := iv_q c_11 (iv_c (0 : Int32) (a := 0) (b := 0) (by decide))
    refine lv_aload_n hx hb dX10_closes_9 rfl (lv_at hl 0 rfl) ?_
    refine lv_iconst (v := 2) hx hb dX10_closes_10 (by decide) ?_
    refine jnV (wr := [(z 4, aI V 1025 fz4), (z 3, aI V 900 fz3)]) (rnV (rest := []) ⟨hx, hb, hml, hown, hg⟩ (k_X10_fails_0 l V z 2 pz0_0 pz0_5 v_2 v_3 pz0_8 v_4 v_5 pz0_11 pz0_12 pz0_13 pz0_14 pz0_18 pz0_19 pz0_22 pz0_23 pz0_29 (iv_c (2 : Int32) (by decide)) bpz0_5 bv_2 bv_3 bpz0_8 bv_5 bpz0_11 bpz0_12 bpz0_13 bpz0_14 bpz0_18 bpz0_22 bpz0_29) mt_X10_fails q_6_147 ⟨Nat.le_of_ble_eq_true rfl, Nat.le_of_ble_eq_true rfl⟩ hK hP hD hS hA hE [1] rfl rfl 1 rfl rfl rfl rfl hl.1 rfl (Nat.le_of_ble_eq_true rfl) dX10_closes_11 ⟨Nat.le_of_ble_eq_true rfl, Nat.le_of_ble_eq_true rfl⟩) hP hD hS hA [1] [0, 2] rfl rfl rfl (by decide) (fun  w H locs hw hP hD hS => ?_)
    obtain ⟨v_19, v_20, bv_19, bv_20, g_21, rfl⟩ := hw
    have hP : va_P V.1 vwCl [(z 4, aI V 1025 fz4), (z 3, aI V 900 fz3), (z 0, .inr (10, mo z pz0_0 pz0_5 v_2 v_3 pz0_8 v_4 v_5 v_19 v_20 pz0_13 pz0_14 pz0_18 pz0_19 pz0_22 pz0_23 pz0_29))] H := hP
    have hD := cpD hP hD
    refine lv_aload_n hx hb dX10_closes_14 rfl (lv_at hl 0 rfl) ?_
    refine va_get (ci := 10) (v := .ref (z 4)) (C := RX10) (T := TX10) (N := 40) hx hb hg inX10 hown hK hP 2 rfl rfl 4 (by decide) (hg _ q_5_228) (fun _ h9 => h9) rfl dX10_closes_15 ?_
    refine lv_iconst (v := 0) hx hb dX10_closes_18 (by decide) ?_
    refine lv_dup2_11 hx hb dX10_closes_19 rfl rfl ?_
    refine va_iald hx hb hK hP 0 0 rfl rfl (vin (by decide +kernel)) dX10_closes_20 ?_
    refine lv_topi (fun x_22 ex_22 => ?_)
    refine lv_iconst (v := 1) hx hb dX10_closes_21 (by decide) ?_
    refine lv_iadd hx hb dX10_closes_22 ?_
    refine lv_topi (fun x_23 ex_23 => ?_)
    refine va_iast hx hb hK hP hD hS 0 0 rfl rfl (vin (by decide +kernel)) dX10_closes_23 (fun H locs hP hD hS => ?_)
    obtain ⟨f_24, ef_24, tf_24, hP, hD⟩ : ∃ f_24 : Nat → Int32, f_24 = (upd fz4 (0 : Int32).toNatClampNeg x_23) ∧ (ivT tF f_24) ∧ va_P V.1 vwCl [(z 4, aI V 1025 f_24), (z 3, aI V 900 fz3), (z 0, .inr (10, mo z pz0_0 pz0_5 v_2 v_3 pz0_8 v_4 v_5 v_19 v_20 pz0_13 pz0_14 pz0_18 pz0_19 pz0_22 pz0_23 pz0_29))] H ∧ va_D A [(z 4, aI V 1025 f_24), (z 3, aI V 900 fz3), (z 0, .inr (10, mo z pz0_0 pz0_5 v_2 v_3 pz0_8 v_4 v_5 v_19 v_20 pz0_13 pz0_14 pz0_18 pz0_19 pz0_22 pz0_23 pz0_29))] := ⟨_, rfl, upT (lo := (-2147483648)) (hi := 2147483647) (a := 0) (n := 1) tfz4 (iv_c (0 : Int32) (a := 0) (b := 0) (by decide)) (by decide) (iv_top x_23) (by decide +kernel), hP, hD⟩
    have hP := subP (ws' := [(z 4, aI V 1025 f_24), (z 0, .inr (10, mo z pz0_0 pz0_5 v_2 v_3 pz0_8 v_4 v_5 v_19 v_20 pz0_13 pz0_14 pz0_18 pz0_19 pz0_22 pz0_23 pz0_29)), (z 3, aI V 900 fz3)]) hP [0, 2, 1] rfl
    have hD := subD hP hD [0, 2, 1] rfl rfl
    exact fiV hx hb hr hlk hK hP hD hS dX10_closes_24 (Nat.le_of_ble_eq_true rfl) (Nat.le_of_ble_eq_true rfl) (⟨f_24, v_2, v_3, v_4, v_5, v_19, v_20, tf_24, bv_2, bv_3, bv_5, (iv_w bv_19 (by decide)), bv_20, g_6, (PS_f bv_19 (by decide)), (by have z_0 := g_7;have y_0 := hf0.1; have y_1 := g_6.1; omega), (fun q9 => ((fun q8 => absurd q8 (iv_nz bv_19 (by decide))) q9)), (fun q9 => absurd q9 (iv_nz bv_19 (by decide))), (fun q9 d9 h9 g9 => by obtain ⟨b_1, h_1⟩ := (g_10 _ h9).2 (iv_eqp b_18 (iv_c (0 : Int32) (by decide))); have h_2 := RZ_cg (exP_0 b_1) (RZ_fl h_1 g_21 (by decide)); have y1 : (f_24 (1 : Int32).toNatClampNeg) = (fz4 (1 : Int32).toNatClampNeg) := (show f_24 (1 : Int32).toNatClampNeg = fz4 (1 : Int32).toNatClampNeg from by rw [ef_24]; exact upd_ne (cl_ne (iv_c (1 : Int32) (a := 1) (b := 1) (by decide)) (iv_c (0 : Int32) (a := 0) (b := 0) (by decide)) (by decide))); have y2 : (f_24 (2 : Int32).toNatClampNeg) = (fz4 (2 : Int32).toNatClampNeg) := (show f_24 (2 : Int32).toNatClampNeg = fz4 (2 : Int32).toNatClampNeg from by rw [ef_24]; exact upd_ne (cl_ne (iv_c (2 : Int32) (a := 2) (b := 2) (by decide)) (iv_c (0 : Int32) (a := 0) (b := 0) (by decide)) (by decide))); have y3 : (f_24 (3 : Int32).toNatClampNeg) = (fz4 (3 : Int32).toNatClampNeg) := (show f_24 (3 : Int32).toNatClampNeg = fz4 (3 : Int32).toNatClampNeg from by rw [ef_24]; exact upd_ne (cl_ne (iv_c (3 : Int32) (a := 3) (b := 3) (by decide)) (iv_c (0 : Int32) (a := 0) (b := 0) (by decide)) (by decide))); have y0 : (f_24 (0 : Int32).toNatClampNeg) = (fz4 (0 : Int32).toNatClampNeg) + 1 := (by rw [show (f_24 (0 : Int32).toNatClampNeg) = x_23 from (show f_24 (0 : Int32).toNatClampNeg = x_23 from by rw [ef_24]; exact upd_at), ex_23, ex_22]); exact ⟨h_2, by rw [y1, y2, y3]; exact RD_x g9 y0⟩), (fk_u ef_24 (iv_c (0 : Int32) (a := 0) (b := 0) (by decide)) (by decide)), (fun d9 a9 => cl_z a9 ef_24 ex_23 ex_22), rfl⟩)
set_option maxHeartbeats 4000000 in
set_option maxRecDepth 100000 in
theorem k_X10_is_4 (l : Launch) (V : GV) (z : Nat → Nat) (pz0_0 : Int32) (pz0_5 : Int32) (pz0_6 : Int32) (pz0_7 : Int32) (pz0_8 : Int32) (pz0_9 : Int32) (pz0_10 : Int32) (pz0_11 : Int32) (pz0_12 : Int32) (pz0_13 : Int32) (pz0_14 : Int32) (pz0_18 : Int32) (pz0_19 : Int32) (pz0_22 : Int32) (pz0_23 : Int32) (pz0_29 : Int32) (bpz0_5 : iv 0 900 pz0_5) (bpz0_6 : iv 0 900 pz0_6) (bpz0_7 : iv 0 900 pz0_7) (bpz0_8 : iv 0 900 pz0_8) (bpz0_10 : iv 0 999 pz0_10) (bpz0_11 : iv 0 4 pz0_11) (bpz0_12 : iv 0 900 pz0_12) (bpz0_13 : iv 0 4 pz0_13) (bpz0_14 : iv (-1) 900 pz0_14) (bpz0_18 : iv 0 2 pz0_18) (bpz0_22 : iv 0 9999 pz0_22) (bpz0_29 : iv 0 10000 pz0_29) : Ct l V yX10_is (.code yX10_is cX10_is 2 (some .boolean)) 1 [.ref (z 0), .int 2] [(z 0, .inr (10, mo z pz0_0 pz0_5 pz0_6 pz0_7 pz0_8 pz0_9 pz0_10 pz0_11 pz0_12 pz0_13 pz0_14 pz0_18 pz0_19 pz0_22 pz0_23 pz0_29))] 0 0 (QI V (fun (r : Int32) (w : va_W) => iv 0 1 r ∧ (r = 1 → pz0_11 = 0) ∧ (r = 1 → pz0_9 = (2 : Int32)) ∧ (r = 0 → ¬ (pz0_11 = 0 ∧ pz0_9 = (2 : Int32))) ∧ w = [(z 0, .inr (10, mo z pz0_0 pz0_5 pz0_6 pz0_7 pz0_8 pz0_9 pz0_10 pz0_11 pz0_12 pz0_13 pz0_14 pz0_18 pz0_19 pz0_22 pz0_23 pz0_29))])) := by
  refine Ct.of (by decide) (Nat.le_of_ble_eq_true rfl) (fun p e s m below meth c A ls hx hb hr hml hown hlk hnm hg hP hK hD hE hA hS hl => ?_)
  have hl : lv_has ls 2 [(0, .ref (z 0)), (1, .int 2)] := hl
  refine lv_aload_n hx hb dX10_is_0 rfl (lv_at hl 0 rfl) ?_
  refine va_get (ci := 10) (v := .int pz0_11) (C := RX10) (T := TX10) (N := 40) hx hb hg inX10 hown hK hP 0 rfl rfl 11 (by decide) (hg _ q_5_235) (fun _ h9 => h9) rfl dX10_is_1 ?_
  refine lv_if_ne (tgt := 19) hx hb dX10_is_4 (by decide) (fun c_1 => ?_) (fun c_1 => ?_)
  · have b_2 : iv 1 4 pz0_11 := iv_n0 c_1 bpz0_11 (iv_c (0 : Int32) (a := 0) (b := 0) (by decide)) (by decide)
    refine lv_iconst (v := 0) hx hb dX10_is_19 (by decide) ?_
    exact fiZ rfl hx hb hr hlk hK hP hD hS dX10_is_20 (Nat.le_of_ble_eq_true rfl) (Nat.le_of_ble_eq_true rfl) (⟨(iv_c (0 : Int32) (by decide)), (fun q9 => absurd q9 (by decide)), (fun q9 => absurd q9 (by decide)), (fun _ q9 => c_1 q9.1), rfl⟩)
  · have b_3 : iv 0 0 pz0_11 := iv_q c_1 (iv_c (0 : Int32) (a := 0) (b := 0) (by decide))
    refine lv_aload_n hx hb dX10_is_7 rfl (lv_at hl 0 rfl) ?_
    refine va_get (ci := 10) (v := .int pz0_9) (C := RX10) (T := TX10) (N := 40) hx hb hg inX10 hown hK hP 0 rfl rfl 9 (by decide) (hg _ q_5_233) (fun _ h9 => h9) rfl dX10_is_8 ?_
    refine lv_iload_n hx hb dX10_is_11 rfl (lv_at hl 1 rfl) ?_
    refine lv_icmp_ne (tgt := 19) hx hb dX10_is_12 (by decide) (fun c_4 => ?_) (fun c_4 => ?_)
    · refine lv_iconst (v := 0) hx hb dX10_is_19 (by decide) ?_
      exact fiZ rfl hx hb hr hlk hK hP hD hS dX10_is_20 (Nat.le_of_ble_eq_true rfl) (Nat.le_of_ble_eq_true rfl) (⟨(iv_c (0 : Int32) (by decide)), (fun q9 => absurd q9 (by decide)), (fun q9 => absurd q9 (by decide)), (fun _ q9 => c_4 q9.2), rfl⟩)
    · have b_5 : iv 2 2 pz0_9 := iv_q c_4 (iv_c (2 : Int32) (a := 2) (b := 2) (by decide))
      refine lv_iconst (v := 1) hx hb dX10_is_15 (by decide) ?_
      refine lv_goto (tgt := 20) hx hb dX10_is_16 (by decide) ?_
      exact fiZ rfl hx hb hr hlk hK hP hD hS dX10_is_20 (Nat.le_of_ble_eq_true rfl) (Nat.le_of_ble_eq_true rfl) (⟨(iv_c (1 : Int32) (by decide)), (fun _ => c_1), (fun _ => c_4), (fun q9 => absurd q9 (by decide)), rfl⟩)
set_option maxHeartbeats 4000000 in
set_option maxRecDepth 100000 in
theorem k_X10_is_5 (l : Launch) (V : GV) (z : Nat → Nat) (pz0_0 : Int32) (pz0_5 : Int32) (pz0_6 : Int32) (pz0_7 : Int32) (pz0_8 : Int32) (pz0_9 : Int32) (pz0_10 : Int32) (pz0_11 : Int32) (pz0_12 : Int32) (pz0_13 : Int32) (pz0_14 : Int32) (pz0_18 : Int32) (pz0_19 : Int32) (pz0_22 : Int32) (pz0_23 : Int32) (pz0_29 : Int32) (bpz0_5 : iv 0 900 pz0_5) (bpz0_6 : iv 0 900 pz0_6) (bpz0_7 : iv 0 900 pz0_7) (bpz0_8 : iv 0 900 pz0_8) (bpz0_10 : iv 0 999 pz0_10) (bpz0_11 : iv 0 4 pz0_11) (bpz0_12 : iv 0 900 pz0_12) (bpz0_13 : iv 0 4 pz0_13) (bpz0_14 : iv (-1) 900 pz0_14) (bpz0_18 : iv 0 2 pz0_18) (bpz0_22 : iv 0 9999 pz0_22) (bpz0_29 : iv 0 10000 pz0_29) : Ct l V yX10_is (.code yX10_is cX10_is 2 (some .boolean)) 1 [.ref (z 0), .int 7] [(z 0, .inr (10, mo z pz0_0 pz0_5 pz0_6 pz0_7 pz0_8 pz0_9 pz0_10 pz0_11 pz0_12 pz0_13 pz0_14 pz0_18 pz0_19 pz0_22 pz0_23 pz0_29))] 0 0 (QI V (fun (r : Int32) (w : va_W) => iv 0 1 r ∧ (r = 1 → pz0_11 = 0) ∧ (r = 1 → pz0_9 = (7 : Int32)) ∧ (r = 0 → ¬ (pz0_11 = 0 ∧ pz0_9 = (7 : Int32))) ∧ w = [(z 0, .inr (10, mo z pz0_0 pz0_5 pz0_6 pz0_7 pz0_8 pz0_9 pz0_10 pz0_11 pz0_12 pz0_13 pz0_14 pz0_18 pz0_19 pz0_22 pz0_23 pz0_29))])) := by
  refine Ct.of (by decide) (Nat.le_of_ble_eq_true rfl) (fun p e s m below meth c A ls hx hb hr hml hown hlk hnm hg hP hK hD hE hA hS hl => ?_)
  have hl : lv_has ls 2 [(0, .ref (z 0)), (1, .int 7)] := hl
  refine lv_aload_n hx hb dX10_is_0 rfl (lv_at hl 0 rfl) ?_
  refine va_get (ci := 10) (v := .int pz0_11) (C := RX10) (T := TX10) (N := 40) hx hb hg inX10 hown hK hP 0 rfl rfl 11 (by decide) (hg _ q_5_235) (fun _ h9 => h9) rfl dX10_is_1 ?_
  refine lv_if_ne (tgt := 19) hx hb dX10_is_4 (by decide) (fun c_1 => ?_) (fun c_1 => ?_)
  · have b_2 : iv 1 4 pz0_11 := iv_n0 c_1 bpz0_11 (iv_c (0 : Int32) (a := 0) (b := 0) (by decide)) (by decide)
    refine lv_iconst (v := 0) hx hb dX10_is_19 (by decide) ?_
    exact fiZ rfl hx hb hr hlk hK hP hD hS dX10_is_20 (Nat.le_of_ble_eq_true rfl) (Nat.le_of_ble_eq_true rfl) (⟨(iv_c (0 : Int32) (by decide)), (fun q9 => absurd q9 (by decide)), (fun q9 => absurd q9 (by decide)), (fun _ q9 => c_1 q9.1), rfl⟩)
  · have b_3 : iv 0 0 pz0_11 := iv_q c_1 (iv_c (0 : Int32) (a := 0) (b := 0) (by decide))
    refine lv_aload_n hx hb dX10_is_7 rfl (lv_at hl 0 rfl) ?_
    refine va_get (ci := 10) (v := .int pz0_9) (C := RX10) (T := TX10) (N := 40) hx hb hg inX10 hown hK hP 0 rfl rfl 9 (by decide) (hg _ q_5_233) (fun _ h9 => h9) rfl dX10_is_8 ?_
    refine lv_iload_n hx hb dX10_is_11 rfl (lv_at hl 1 rfl) ?_
    refine lv_icmp_ne (tgt := 19) hx hb dX10_is_12 (by decide) (fun c_4 => ?_) (fun c_4 => ?_)
    · refine lv_iconst (v := 0) hx hb dX10_is_19 (by decide) ?_
      exact fiZ rfl hx hb hr hlk hK hP hD hS dX10_is_20 (Nat.le_of_ble_eq_true rfl) (Nat.le_of_ble_eq_true rfl) (⟨(iv_c (0 : Int32) (by decide)), (fun q9 => absurd q9 (by decide)), (fun q9 => absurd q9 (by decide)), (fun _ q9 => c_4 q9.2), rfl⟩)
    · have b_5 : iv 7 7 pz0_9 := iv_q c_4 (iv_c (7 : Int32) (a := 7) (b := 7) (by decide))
      refine lv_iconst (v := 1) hx hb dX10_is_15 (by decide) ?_
      refine lv_goto (tgt := 20) hx hb dX10_is_16 (by decide) ?_
      exact fiZ rfl hx hb hr hlk hK hP hD hS dX10_is_20 (Nat.le_of_ble_eq_true rfl) (Nat.le_of_ble_eq_true rfl) (⟨(iv_c (1 : Int32) (by decide)), (fun _ => c_1), (fun _ => c_4), (fun q9 => absurd q9 (by decide)), rfl⟩)
set_option maxHeartbeats 4000000 in
set_option maxRecDepth 100000 in
theorem k_X10_is_6 (l : Launch) (V : GV) (z : Nat → Nat) (pz0_0 : Int32) (pz0_5 : Int32) (pz0_6 : Int32) (pz0_7 : Int32) (pz0_8 : Int32) (pz0_9 : Int32) (pz0_10 : Int32) (pz0_11 : Int32) (pz0_12 : Int32) (pz0_13 : Int32) (pz0_14 : Int32) (pz0_18 : Int32) (pz0_19 : Int32) (pz0_22 : Int32) (pz0_23 : Int32) (pz0_29 : Int32) (bpz0_5 : iv 0 900 pz0_5) (bpz0_6 : iv 0 900 pz0_6) (bpz0_7 : iv 0 900 pz0_7) (bpz0_8 : iv 0 900 pz0_8) (bpz0_10 : iv 0 999 pz0_10) (bpz0_11 : iv 0 4 pz0_11) (bpz0_12 : iv 0 900 pz0_12) (bpz0_13 : iv 0 4 pz0_13) (bpz0_14 : iv (-1) 900 pz0_14) (bpz0_18 : iv 0 2 pz0_18) (bpz0_22 : iv 0 9999 pz0_22) (bpz0_29 : iv 0 10000 pz0_29) : Ct l V yX10_is (.code yX10_is cX10_is 2 (some .boolean)) 1 [.ref (z 0), .int 9] [(z 0, .inr (10, mo z pz0_0 pz0_5 pz0_6 pz0_7 pz0_8 pz0_9 pz0_10 pz0_11 pz0_12 pz0_13 pz0_14 pz0_18 pz0_19 pz0_22 pz0_23 pz0_29))] 0 0 (QI V (fun (r : Int32) (w : va_W) => iv 0 1 r ∧ (r = 1 → pz0_11 = 0) ∧ (r = 1 → pz0_9 = (9 : Int32)) ∧ (r = 0 → ¬ (pz0_11 = 0 ∧ pz0_9 = (9 : Int32))) ∧ w = [(z 0, .inr (10, mo z pz0_0 pz0_5 pz0_6 pz0_7 pz0_8 pz0_9 pz0_10 pz0_11 pz0_12 pz0_13 pz0_14 pz0_18 pz0_19 pz0_22 pz0_23 pz0_29))])) := by
  refine Ct.of (by decide) (Nat.le_of_ble_eq_true rfl) (fun p e s m below meth c A ls hx hb hr hml hown hlk hnm hg hP hK hD hE hA hS hl => ?_)
  have hl : lv_has ls 2 [(0, .ref (z 0)), (1, .int 9)] := hl
  refine lv_aload_n hx hb dX10_is_0 rfl (lv_at hl 0 rfl) ?_
  refine va_get (ci := 10) (v := .int pz0_11) (C := RX10) (T := TX10) (N := 40) hx hb hg inX10 hown hK hP 0 rfl rfl 11 (by decide) (hg _ q_5_235) (fun _ h9 => h9) rfl dX10_is_1 ?_
  refine lv_if_ne (tgt := 19) hx hb dX10_is_4 (by decide) (fun c_1 => ?_) (fun c_1 => ?_)
  · have b_2 : iv 1 4 pz0_11 := iv_n0 c_1 bpz0_11 (iv_c (0 : Int32) (a := 0) (b := 0) (by decide)) (by decide)
    refine lv_iconst (v := 0) hx hb dX10_is_19 (by decide) ?_
    exact fiZ rfl hx hb hr hlk hK hP hD hS dX10_is_20 (Nat.le_of_ble_eq_true rfl) (Nat.le_of_ble_eq_true rfl) (⟨(iv_c (0 : Int32) (by decide)), (fun q9 => absurd q9 (by decide)), (fun q9 => absurd q9 (by decide)), (fun _ q9 => c_1 q9.1), rfl⟩)
  · have b_3 : iv 0 0 pz0_11 := iv_q c_1 (iv_c (0 : Int32) (a := 0) (b := 0) (by decide))
    refine lv_aload_n hx hb dX10_is_7 rfl (lv_at hl 0 rfl) ?_
    refine va_get (ci := 10) (v := .int pz0_9) (C := RX10) (T := TX10) (N := 40) hx hb hg inX10 hown hK hP 0 rfl rfl 9 (by decide) (hg _ q_5_233) (fun _ h9 => h9) rfl dX10_is_8 ?_
    refine lv_iload_n hx hb dX10_is_11 rfl (lv_at hl 1 rfl) ?_
    refine lv_icmp_ne (tgt := 19) hx hb dX10_is_12 (by decide) (fun c_4 => ?_) (fun c_4 => ?_)
    · refine lv_iconst (v := 0) hx hb dX10_is_19 (by decide) ?_
      exact fiZ rfl hx hb hr hlk hK hP hD hS dX10_is_20 (Nat.le_of_ble_eq_true rfl) (Nat.le_of_ble_eq_true rfl) (⟨(iv_c (0 : Int32) (by decide)), (fun q9 => absurd q9 (by decide)), (fun q9 => absurd q9 (by decide)), (fun _ q9 => c_4 q9.2), rfl⟩)
    · have b_5 : iv 9 9 pz0_9 := iv_q c_4 (iv_c (9 : Int32) (a := 9) (b := 9) (by decide))
      refine lv_iconst (v := 1) hx hb dX10_is_15 (by decide) ?_
      refine lv_goto (tgt := 20) hx hb dX10_is_16 (by decide) ?_
      exact fiZ rfl hx hb hr hlk hK hP hD hS dX10_is_20 (Nat.le_of_ble_eq_true rfl) (Nat.le_of_ble_eq_true rfl) (⟨(iv_c (1 : Int32) (by decide)), (fun _ => c_1), (fun _ => c_4), (fun q9 => absurd q9 (by decide)), rfl⟩)
set_option maxHeartbeats 4000000 in
set_option maxRecDepth 100000 in
theorem k_X10_is_7 (l : Launch) (V : GV) (z : Nat → Nat) (pz0_0 : Int32) (pz0_5 : Int32) (pz0_6 : Int32) (pz0_7 : Int32) (pz0_8 : Int32) (pz0_9 : Int32) (pz0_10 : Int32) (pz0_11 : Int32) (pz0_12 : Int32) (pz0_13 : Int32) (pz0_14 : Int32) (pz0_18 : Int32) (pz0_19 : Int32) (pz0_22 : Int32) (pz0_23 : Int32) (pz0_29 : Int32) (bpz0_5 : iv 0 900 pz0_5) (bpz0_6 : iv 0 900 pz0_6) (bpz0_7 : iv 0 900 pz0_7) (bpz0_8 : iv 0 900 pz0_8) (bpz0_10 : iv 0 999 pz0_10) (bpz0_11 : iv 0 4 pz0_11) (bpz0_12 : iv 0 900 pz0_12) (bpz0_13 : iv 0 4 pz0_13) (bpz0_14 : iv (-1) 900 pz0_14) (bpz0_18 : iv 0 2 pz0_18) (bpz0_22 : iv 0 9999 pz0_22) (bpz0_29 : iv 0 10000 pz0_29) : Ct l V yX10_is (.code yX10_is cX10_is 2 (some .boolean)) 1 [.ref (z 0), .int 11] [(z 0, .inr (10, mo z pz0_0 pz0_5 pz0_6 pz0_7 pz0_8 pz0_9 pz0_10 pz0_11 pz0_12 pz0_13 pz0_14 pz0_18 pz0_19 pz0_22 pz0_23 pz0_29))] 0 0 (QI V (fun (r : Int32) (w : va_W) => iv 0 1 r ∧ (r = 1 → pz0_11 = 0) ∧ (r = 1 → pz0_9 = (11 : Int32)) ∧ (r = 0 → ¬ (pz0_11 = 0 ∧ pz0_9 = (11 : Int32))) ∧ w = [(z 0, .inr (10, mo z pz0_0 pz0_5 pz0_6 pz0_7 pz0_8 pz0_9 pz0_10 pz0_11 pz0_12 pz0_13 pz0_14 pz0_18 pz0_19 pz0_22 pz0_23 pz0_29))])) := by
  refine Ct.of (by decide) (Nat.le_of_ble_eq_true rfl) (fun p e s m below meth c A ls hx hb hr hml hown hlk hnm hg hP hK hD hE hA hS hl => ?_)
  have hl : lv_has ls 2 [(0, .ref (z 0)), (1, .int 11)] := hl
  refine lv_aload_n hx hb dX10_is_0 rfl (lv_at hl 0 rfl) ?_
  refine va_get (ci := 10) (v := .int pz0_11) (C := RX10) (T := TX10) (N := 40) hx hb hg inX10 hown hK hP 0 rfl rfl 11 (by decide) (hg _ q_5_235) (fun _ h9 => h9) rfl dX10_is_1 ?_
  refine lv_if_ne (tgt := 19) hx hb dX10_is_4 (by decide) (fun c_1 => ?_) (fun c_1 => ?_)
  · have b_2 : iv 1 4 pz0_11 := iv_n0 c_1 bpz0_11 (iv_c (0 : Int32) (a := 0) (b := 0) (by decide)) (by decide)
    refine lv_iconst (v := 0) hx hb dX10_is_19 (by decide) ?_
    exact fiZ rfl hx hb hr hlk hK hP hD hS dX10_is_20 (Nat.le_of_ble_eq_true rfl) (Nat.le_of_ble_eq_true rfl) (⟨(iv_c (0 : Int32) (by decide)), (fun q9 => absurd q9 (by decide)), (fun q9 => absurd q9 (by decide)), (fun _ q9 => c_1 q9.1), rfl⟩)
  · have b_3 : iv 0 0 pz0_11 := iv_q c_1 (iv_c (0 : Int32) (a := 0) (b := 0) (by decide))
    refine lv_aload_n hx hb dX10_is_7 rfl (lv_at hl 0 rfl) ?_
    refine va_get (ci := 10) (v := .int pz0_9) (C := RX10) (T := TX10) (N := 40) hx hb hg inX10 hown hK hP 0 rfl rfl 9 (by decide) (hg _ q_5_233) (fun _ h9 => h9) rfl dX10_is_8 ?_
    refine lv_iload_n hx hb dX10_is_11 rfl (lv_at hl 1 rfl) ?_
    refine lv_icmp_ne (tgt := 19) hx hb dX10_is_12 (by decide) (fun c_4 => ?_) (fun c_4 => ?_)
    · refine lv_iconst (v := 0) hx hb dX10_is_19 (by decide) ?_
      exact fiZ rfl hx hb hr hlk hK hP hD hS dX10_is_20 (Nat.le_of_ble_eq_true rfl) (Nat.le_of_ble_eq_true rfl) (⟨(iv_c (0 : Int32) (by decide)), (fun q9 => absurd q9 (by decide)), (fun q9 => absurd q9 (by decide)), (fun _ q9 => c_4 q9.2), rfl⟩)
    · have b_5 : iv 11 11 pz0_9 := iv_q c_4 (iv_c (11 : Int32) (a := 11) (b := 11) (by decide))
      refine lv_iconst (v := 1) hx hb dX10_is_15 (by decide) ?_
      refine lv_goto (tgt := 20) hx hb dX10_is_16 (by decide) ?_
      exact fiZ rfl hx hb hr hlk hK hP hD hS dX10_is_20 (Nat.le_of_ble_eq_true rfl) (Nat.le_of_ble_eq_true rfl) (⟨(iv_c (1 : Int32) (by decide)), (fun _ => c_1), (fun _ => c_4), (fun q9 => absurd q9 (by decide)), rfl⟩)
set_option maxHeartbeats 4000000 in
set_option maxRecDepth 100000 in
theorem k_X10_is_8 (l : Launch) (V : GV) (z : Nat → Nat) (pz0_0 : Int32) (pz0_5 : Int32) (pz0_6 : Int32) (pz0_7 : Int32) (pz0_8 : Int32) (pz0_9 : Int32) (pz0_10 : Int32) (pz0_11 : Int32) (pz0_12 : Int32) (pz0_13 : Int32) (pz0_14 : Int32) (pz0_18 : Int32) (pz0_19 : Int32) (pz0_22 : Int32) (pz0_23 : Int32) (pz0_29 : Int32) (bpz0_5 : iv 0 900 pz0_5) (bpz0_6 : iv 0 900 pz0_6) (bpz0_7 : iv 0 900 pz0_7) (bpz0_8 : iv 0 900 pz0_8) (bpz0_10 : iv 0 999 pz0_10) (bpz0_11 : iv 0 4 pz0_11) (bpz0_12 : iv 0 900 pz0_12) (bpz0_13 : iv 0 4 pz0_13) (bpz0_14 : iv (-1) 900 pz0_14) (bpz0_18 : iv 0 2 pz0_18) (bpz0_22 : iv 0 9999 pz0_22) (bpz0_29 : iv 0 10000 pz0_29) : Ct l V yX10_is (.code yX10_is cX10_is 2 (some .boolean)) 1 [.ref (z 0), .int 31] [(z 0, .inr (10, mo z pz0_0 pz0_5 pz0_6 pz0_7 pz0_8 pz0_9 pz0_10 pz0_11 pz0_12 pz0_13 pz0_14 pz0_18 pz0_19 pz0_22 pz0_23 pz0_29))] 0 0 (QI V (fun (r : Int32) (w : va_W) => iv 0 1 r ∧ (r = 1 → pz0_11 = 0) ∧ (r = 1 → pz0_9 = (31 : Int32)) ∧ (r = 0 → ¬ (pz0_11 = 0 ∧ pz0_9 = (31 : Int32))) ∧ w = [(z 0, .inr (10, mo z pz0_0 pz0_5 pz0_6 pz0_7 pz0_8 pz0_9 pz0_10 pz0_11 pz0_12 pz0_13 pz0_14 pz0_18 pz0_19 pz0_22 pz0_23 pz0_29))])) := by
  refine Ct.of (by decide) (Nat.le_of_ble_eq_true rfl) (fun p e s m below meth c A ls hx hb hr hml hown hlk hnm hg hP hK hD hE hA hS hl => ?_)
  have hl : lv_has ls 2 [(0, .ref (z 0)), (1, .int 31)] := hl
  refine lv_aload_n hx hb dX10_is_0 rfl (lv_at hl 0 rfl) ?_
  refine va_get (ci := 10) (v := .int pz0_11) (C := RX10) (T := TX10) (N := 40) hx hb hg inX10 hown hK hP 0 rfl rfl 11 (by decide) (hg _ q_5_235) (fun _ h9 => h9) rfl dX10_is_1 ?_
  refine lv_if_ne (tgt := 19) hx hb dX10_is_4 (by decide) (fun c_1 => ?_) (fun c_1 => ?_)
  · have b_2 : iv 1 4 pz0_11 := iv_n0 c_1 bpz0_11 (iv_c (0 : Int32) (a := 0) (b := 0) (by decide)) (by decide)
    refine lv_iconst (v := 0) hx hb dX10_is_19 (by decide) ?_
    exact fiZ rfl hx hb hr hlk hK hP hD hS dX10_is_20 (Nat.le_of_ble_eq_true rfl) (Nat.le_of_ble_eq_true rfl) (⟨(iv_c (0 : Int32) (by decide)), (fun q9 => absurd q9 (by decide)), (fun q9 => absurd q9 (by decide)), (fun _ q9 => c_1 q9.1), rfl⟩)
  · have b_3 : iv 0 0 pz0_11 := iv_q c_1 (iv_c (0 : Int32) (a := 0) (b := 0) (by decide))
    refine lv_aload_n hx hb dX10_is_7 rfl (lv_at hl 0 rfl) ?_
    refine va_get (ci := 10) (v := .int pz0_9) (C := RX10) (T := TX10) (N := 40) hx hb hg inX10 hown hK hP 0 rfl rfl 9 (by decide) (hg _ q_5_233) (fun _ h9 => h9) rfl dX10_is_8 ?_
    refine lv_iload_n hx hb dX10_is_11 rfl (lv_at hl 1 rfl) ?_
    refine lv_icmp_ne (tgt := 19) hx hb dX10_is_12 (by decide) (fun c_4 => ?_) (fun c_4 => ?_)
    · refine lv_iconst (v := 0) hx hb dX10_is_19 (by decide) ?_
      exact fiZ rfl hx hb hr hlk hK hP hD hS dX10_is_20 (Nat.le_of_ble_eq_true rfl) (Nat.le_of_ble_eq_true rfl) (⟨(iv_c (0 : Int32) (by decide)), (fun q9 => absurd q9 (by decide)), (fun q9 => absurd q9 (by decide)), (fun _ q9 => c_4 q9.2), rfl⟩)
    · have b_5 : iv 31 31 pz0_9 := iv_q c_4 (iv_c (31 : Int32) (a := 31) (b := 31) (by decide))
      refine lv_iconst (v := 1) hx hb dX10_is_15 (by decide) ?_
      refine lv_goto (tgt := 20) hx hb dX10_is_16 (by decide) ?_
      exact fiZ rfl hx hb hr hlk hK hP hD hS dX10_is_20 (Nat.le_of_ble_eq_true rfl) (Nat.le_of_ble_eq_true rfl) (⟨(iv_c (1 : Int32) (by decide)), (fun _ => c_1), (fun _ => c_4), (fun q9 => absurd q9 (by decide)), rfl⟩)
set_option maxHeartbeats 4000000 in
set_option maxRecDepth 100000 in
theorem k_X10_eats_3 (l : Launch) (V : GV) (z : Nat → Nat) (pz0_0 : Int32) (pz0_5 : Int32) (pz0_6 : Int32) (pz0_7 : Int32) (pz0_8 : Int32) (pz0_9 : Int32) (pz0_10 : Int32) (pz0_11 : Int32) (pz0_12 : Int32) (pz0_13 : Int32) (pz0_14 : Int32) (pz0_18 : Int32) (pz0_19 : Int32) (pz0_22 : Int32) (pz0_23 : Int32) (pz0_29 : Int32) (fz3 : Nat → Int32) (bpz0_5 : iv 0 900 pz0_5) (bpz0_6 : iv 0 900 pz0_6) (bpz0_7 : iv 0 900 pz0_7) (bpz0_8 : iv 0 900 pz0_8) (bpz0_10 : iv 0 999 pz0_10) (bpz0_11 : iv 0 4 pz0_11) (bpz0_12 : iv 0 900 pz0_12) (bpz0_13 : iv 0 4 pz0_13) (bpz0_14 : iv (-1) 900 pz0_14) (bpz0_18 : iv 0 2 pz0_18) (bpz0_22 : iv 0 9999 pz0_22) (bpz0_29 : iv 0 10000 pz0_29) (tfz3 : ∀ j, iv 0 255 (fz3 j)) (hf0 : PT pz0_6 pz0_7 pz0_8 pz0_9) : Ct l V yX10_eats (.code yX10_eats cX10_eats 2 (some .boolean)) 7 [.ref (z 0), .int 31] [(z 0, .inr (10, mo z pz0_0 pz0_5 pz0_6 pz0_7 pz0_8 pz0_9 pz0_10 pz0_11 pz0_12 pz0_13 pz0_14 pz0_18 pz0_19 pz0_22 pz0_23 pz0_29)), (z 3, aI V 900 fz3)] 0 0 (QI V (fun (r : Int32) (w : va_W) => ∃ (v0 : Int32) (v1 : Int32) (v2 : Int32) (v3 : Int32), iv 0 900 v0 ∧ iv 0 900 v1 ∧ iv 0 999 v3 ∧ iv 0 1 r ∧ (PT v0 v1 pz0_8 v2) ∧ ((pz0_6 : Int32).toInt ≤ (v0 : Int32).toInt) ∧ (r = 1 → pz0_11 = 0) ∧ (r = 1 → (pz0_6 : Int32).toInt + 1 ≤ (v0 : Int32).toInt) ∧ (∀ q9 : Sg, RZ fz3 pz0_8 q9 pz0_11 pz0_12 pz0_9 pz0_6 pz0_7 pz0_10 → (r = 1 → isQ (tkX fz3 pz0_8) q9 (31 : Int32) = true ∧ RZ fz3 pz0_8 (nxP (tkX fz3 pz0_8) q9) pz0_11 pz0_12 v2 v0 v1 v3) ∧ (r = 0 → isQ (tkX fz3 pz0_8) q9 (31 : Int32) = false ∧ RZ fz3 pz0_8 q9 pz0_11 pz0_12 v2 v0 v1 v3)) ∧ w = [(z 0, .inr (10, mo z pz0_0 pz0_5 v0 v1 pz0_8 v2 v3 pz0_11 pz0_12 pz0_13 pz0_14 pz0_18 pz0_19 pz0_22 pz0_23 pz0_29)), (z 3, aI V 900 fz3)])) := by
  refine Ct.of (by decide) (Nat.le_of_ble_eq_true rfl) (fun p e s m below meth c A ls hx hb hr hml hown hlk hnm hg hP hK hD hE hA hS hl => ?_)
  have hl : lv_has ls 2 [(0, .ref (z 0)), (1, .int 31)] := hl
  refine lv_aload_n hx hb dX10_eats_0 rfl (lv_at hl 0 rfl) ?_
  refine lv_iload_n hx hb dX10_eats_1 rfl (lv_at hl 1 rfl) ?_
  refine jnI (wr := [(z 3, aI V 900 fz3)]) (rnV (rest := []) ⟨hx, hb, hml, hown, hg⟩ (k_X10_is_8 l V z pz0_0 pz0_5 pz0_6 pz0_7 pz0_8 pz0_9 pz0_10 pz0_11 pz0_12 pz0_13 pz0_14 pz0_18 pz0_19 pz0_22 pz0_23 pz0_29 bpz0_5 bpz0_6 bpz0_7 bpz0_8 bpz0_10 bpz0_11 bpz0_12 bpz0_13 bpz0_14 bpz0_18 bpz0_22 bpz0_29) mt_X10_is q_6_143 ⟨Nat.le_of_ble_eq_true rfl, Nat.le_of_ble_eq_true rfl⟩ hK hP hD hS hA hE [0] rfl rfl 0 rfl rfl rfl rfl hl.1 rfl (Nat.le_of_ble_eq_true rfl) dX10_eats_2 ⟨Nat.le_of_ble_eq_true rfl, Nat.le_of_ble_eq_true rfl⟩) hP hD hS hA [0] [1] rfl rfl rfl (by decide) (fun r_1 w H locs hw hP hD hS => ?_)
  obtain ⟨br_1, g_2, g_3, g_4, rfl⟩ := hw
  have hP : va_P V.1 vwCl [(z 3, aI V 900 fz3), (z 0, .inr (10, mo z pz0_0 pz0_5 pz0_6 pz0_7 pz0_8 pz0_9 pz0_10 pz0_11 pz0_12 pz0_13 pz0_14 pz0_18 pz0_19 pz0_22 pz0_23 pz0_29))] H := hP
  have hD := cpD hP hD
  refine lv_if_ne (tgt := 10) hx hb dX10_eats_5 (by decide) (fun c_5 => ?_) (fun c_5 => ?_)
  · have b_6 : iv 1 1 r_1 := iv_n0 c_5 br_1 (iv_c (0 : Int32) (a := 0) (b := 0) (by decide)) (by decide)
    have c_7 : pz0_11 = 0 := (g_2 (iv_eqp b_6 (iv_c (1 : Int32) (by decide))))
    have b_8 : iv 0 0 pz0_11 := iv_q c_7 (iv_c (0 : Int32) (a := 0) (b := 0) (by decide))
    have c_9 : pz0_9 = 31 := (g_3 (iv_eqp b_6 (iv_c (1 : Int32) (by decide))))
    have b_10 : iv 31 31 pz0_9 := iv_q c_9 (iv_c (31 : Int32) (a := 31) (b := 31) (by decide))
    refine lv_aload_n hx hb dX10_eats_10 rfl (lv_at hl 0 rfl) ?_
    refine jnV (wr := []) (rnV (rest := []) ⟨hx, hb, hml, hown, hg⟩ (k_X10_next_0 l V z pz0_0 pz0_5 pz0_6 pz0_7 pz0_8 pz0_9 pz0_10 pz0_11 pz0_12 pz0_13 pz0_14 pz0_18 pz0_19 pz0_22 pz0_23 pz0_29 fz3 bpz0_5 bpz0_6 bpz0_7 bpz0_8 bpz0_10 (iv_w b_8 (by decide)) bpz0_12 bpz0_13 bpz0_14 bpz0_18 bpz0_22 bpz0_29 tfz3 hf0.2.1) mt_X10_next q_6_117 ⟨Nat.le_of_ble_eq_true rfl, Nat.le_of_ble_eq_true rfl⟩ hK hP hD hS hA hE [1, 0] rfl rfl 1 rfl rfl rfl rfl hl.1 rfl (Nat.le_of_ble_eq_true rfl) dX10_eats_11 ⟨Nat.le_of_ble_eq_true rfl, Nat.le_of_ble_eq_true rfl⟩) hP hD hS hA [1, 0] [] rfl rfl rfl (by decide) (fun  w H locs hw hP hD hS => ?_)
    obtain ⟨v_11, v_12, v_13, v_14, bv_11, bv_12, bv_14, g_15, g_16, g_17, rfl⟩ := hw
    have hP : va_P V.1 vwCl [(z 0, .inr (10, mo z pz0_0 pz0_5 v_11 v_12 pz0_8 v_13 v_14 pz0_11 pz0_12 pz0_13 pz0_14 pz0_18 pz0_19 pz0_22 pz0_23 pz0_29)), (z 3, aI V 900 fz3)] H := hP
    have hD := cpD hP hD
    refine lv_iconst (v := 1) hx hb dX10_eats_14 (by decide) ?_
    exact fiZ rfl hx hb hr hlk hK hP hD hS dX10_eats_15 (Nat.le_of_ble_eq_true rfl) (Nat.le_of_ble_eq_true rfl) (⟨v_11, v_12, v_13, v_14, bv_11, bv_12, bv_14, (iv_c (1 : Int32) (by decide)), g_15, (by have q9 := g_16; have q8 := hf0.1; omega), (fun _ => iv_eqp b_8 (iv_c (0 : Int32) (by decide))), (fun _ => by have q9 := g_16; have q8 := hf0.2.2 (by rw [c_9]; decide); omega), (fun q9 h9 => by have b_1 := RZ_i1 (k := 31) h9 (by decide) g_2 g_3 b_6; have h_2 := RZ_nx bpz0_8.2 h9 (isQ_iff.mp b_1).1 g_17; exact ⟨fun _ => ⟨b_1, h_2⟩, fun z => absurd z (by decide)⟩), rfl⟩)
  · have b_18 : iv 0 0 r_1 := iv_q c_5 (iv_c (0 : Int32) (a := 0) (b := 0) (by decide))
    refine lv_iconst (v := 0) hx hb dX10_eats_8 (by decide) ?_
    have hP := subP (ws' := [(z 0, .inr (10, mo z pz0_0 pz0_5 pz0_6 pz0_7 pz0_8 pz0_9 pz0_10 pz0_11 pz0_12 pz0_13 pz0_14 pz0_18 pz0_19 pz0_22 pz0_23 pz0_29)), (z 3, aI V 900 fz3)]) hP [1, 0] rfl
    have hD := subD hP hD [1, 0] rfl rfl
    exact fiZ rfl hx hb hr hlk hK hP hD hS dX10_eats_9 (Nat.le_of_ble_eq_true rfl) (Nat.le_of_ble_eq_true rfl) (⟨pz0_6, pz0_7, pz0_9, pz0_10, bpz0_6, bpz0_7, bpz0_10, (iv_c (0 : Int32) (by decide)), hf0, (Int.le_refl _), (fun q9 => absurd q9 (by decide)), (fun q9 => absurd q9 (by decide)), (fun q9 h9 => by have b_1 := RZ_i0 (k := 31) h9 (by decide) g_4 b_18; exact ⟨fun z => absurd z (by decide), fun _ => ⟨b_1, h9⟩⟩), rfl⟩)
set_option maxHeartbeats 4000000 in
set_option maxRecDepth 100000 in
theorem k_X10_is_9 (l : Launch) (V : GV) (z : Nat → Nat) (pz0_0 : Int32) (pz0_5 : Int32) (pz0_6 : Int32) (pz0_7 : Int32) (pz0_8 : Int32) (pz0_9 : Int32) (pz0_10 : Int32) (pz0_11 : Int32) (pz0_12 : Int32) (pz0_13 : Int32) (pz0_14 : Int32) (pz0_18 : Int32) (pz0_19 : Int32) (pz0_22 : Int32) (pz0_23 : Int32) (pz0_29 : Int32) (bpz0_5 : iv 0 900 pz0_5) (bpz0_6 : iv 0 900 pz0_6) (bpz0_7 : iv 0 900 pz0_7) (bpz0_8 : iv 0 900 pz0_8) (bpz0_10 : iv 0 999 pz0_10) (bpz0_11 : iv 0 4 pz0_11) (bpz0_12 : iv 0 900 pz0_12) (bpz0_13 : iv 0 4 pz0_13) (bpz0_14 : iv (-1) 900 pz0_14) (bpz0_18 : iv 0 2 pz0_18) (bpz0_22 : iv 0 9999 pz0_22) (bpz0_29 : iv 0 10000 pz0_29) : Ct l V yX10_is (.code yX10_is cX10_is 2 (some .boolean)) 1 [.ref (z 0), .int 21] [(z 0, .inr (10, mo z pz0_0 pz0_5 pz0_6 pz0_7 pz0_8 pz0_9 pz0_10 pz0_11 pz0_12 pz0_13 pz0_14 pz0_18 pz0_19 pz0_22 pz0_23 pz0_29))] 0 0 (QI V (fun (r : Int32) (w : va_W) => iv 0 1 r ∧ (r = 1 → pz0_11 = 0) ∧ (r = 1 → pz0_9 = (21 : Int32)) ∧ (r = 0 → ¬ (pz0_11 = 0 ∧ pz0_9 = (21 : Int32))) ∧ w = [(z 0, .inr (10, mo z pz0_0 pz0_5 pz0_6 pz0_7 pz0_8 pz0_9 pz0_10 pz0_11 pz0_12 pz0_13 pz0_14 pz0_18 pz0_19 pz0_22 pz0_23 pz0_29))])) := by
  refine Ct.of (by decide) (Nat.le_of_ble_eq_true rfl) (fun p e s m below meth c A ls hx hb hr hml hown hlk hnm hg hP hK hD hE hA hS hl => ?_)
  have hl : lv_has ls 2 [(0, .ref (z 0)), (1, .int 21)] := hl
  refine lv_aload_n hx hb dX10_is_0 rfl (lv_at hl 0 rfl) ?_
  refine va_get (ci := 10) (v := .int pz0_11) (C := RX10) (T := TX10) (N := 40) hx hb hg inX10 hown hK hP 0 rfl rfl 11 (by decide) (hg _ q_5_235) (fun _ h9 => h9) rfl dX10_is_1 ?_
  refine lv_if_ne (tgt := 19) hx hb dX10_is_4 (by decide) (fun c_1 => ?_) (fun c_1 => ?_)
  · have b_2 : iv 1 4 pz0_11 := iv_n0 c_1 bpz0_11 (iv_c (0 : Int32) (a := 0) (b := 0) (by decide)) (by decide)
    refine lv_iconst (v := 0) hx hb dX10_is_19 (by decide) ?_
    exact fiZ rfl hx hb hr hlk hK hP hD hS dX10_is_20 (Nat.le_of_ble_eq_true rfl) (Nat.le_of_ble_eq_true rfl) (⟨(iv_c (0 : Int32) (by decide)), (fun q9 => absurd q9 (by decide)), (fun q9 => absurd q9 (by decide)), (fun _ q9 => c_1 q9.1), rfl⟩)
  · have b_3 : iv 0 0 pz0_11 := iv_q c_1 (iv_c (0 : Int32) (a := 0) (b := 0) (by decide))
    refine lv_aload_n hx hb dX10_is_7 rfl (lv_at hl 0 rfl) ?_
    refine va_get (ci := 10) (v := .int pz0_9) (C := RX10) (T := TX10) (N := 40) hx hb hg inX10 hown hK hP 0 rfl rfl 9 (by decide) (hg _ q_5_233) (fun _ h9 => h9) rfl dX10_is_8 ?_
    refine lv_iload_n hx hb dX10_is_11 rfl (lv_at hl 1 rfl) ?_
    refine lv_icmp_ne (tgt := 19) hx hb dX10_is_12 (by decide) (fun c_4 => ?_) (fun c_4 => ?_)
    · refine lv_iconst (v := 0) hx hb dX10_is_19 (by decide) ?_
      exact fiZ rfl hx hb hr hlk hK hP hD hS dX10_is_20 (Nat.le_of_ble_eq_true rfl) (Nat.le_of_ble_eq_true rfl) (⟨(iv_c (0 : Int32) (by decide)), (fun q9 => absurd q9 (by decide)), (fun q9 => absurd q9 (by decide)), (fun _ q9 => c_4 q9.2), rfl⟩)
    · have b_5 : iv 21 21 pz0_9 := iv_q c_4 (iv_c (21 : Int32) (a := 21) (b := 21) (by decide))
      refine lv_iconst (v := 1) hx hb dX10_is_15 (by decide) ?_
      refine lv_goto (tgt := 20) hx hb dX10_is_16 (by decide) ?_
      exact fiZ rfl hx hb hr hlk hK hP hD hS dX10_is_20 (Nat.le_of_ble_eq_true rfl) (Nat.le_of_ble_eq_true rfl) (⟨(iv_c (1 : Int32) (by decide)), (fun _ => c_1), (fun _ => c_4), (fun q9 => absurd q9 (by decide)), rfl⟩)
set_option maxHeartbeats 4000000 in
set_option maxRecDepth 100000 in
theorem k_X10_is_10 (l : Launch) (V : GV) (z : Nat → Nat) (pz0_0 : Int32) (pz0_5 : Int32) (pz0_6 : Int32) (pz0_7 : Int32) (pz0_8 : Int32) (pz0_9 : Int32) (pz0_10 : Int32) (pz0_11 : Int32) (pz0_12 : Int32) (pz0_13 : Int32) (pz0_14 : Int32) (pz0_18 : Int32) (pz0_19 : Int32) (pz0_22 : Int32) (pz0_23 : Int32) (pz0_29 : Int32) (bpz0_5 : iv 0 900 pz0_5) (bpz0_6 : iv 0 900 pz0_6) (bpz0_7 : iv 0 900 pz0_7) (bpz0_8 : iv 0 900 pz0_8) (bpz0_10 : iv 0 999 pz0_10) (bpz0_11 : iv 0 4 pz0_11) (bpz0_12 : iv 0 900 pz0_12) (bpz0_13 : iv 0 4 pz0_13) (bpz0_14 : iv (-1) 900 pz0_14) (bpz0_18 : iv 0 2 pz0_18) (bpz0_22 : iv 0 9999 pz0_22) (bpz0_29 : iv 0 10000 pz0_29) : Ct l V yX10_is (.code yX10_is cX10_is 2 (some .boolean)) 1 [.ref (z 0), .int 37] [(z 0, .inr (10, mo z pz0_0 pz0_5 pz0_6 pz0_7 pz0_8 pz0_9 pz0_10 pz0_11 pz0_12 pz0_13 pz0_14 pz0_18 pz0_19 pz0_22 pz0_23 pz0_29))] 0 0 (QI V (fun (r : Int32) (w : va_W) => iv 0 1 r ∧ (r = 1 → pz0_11 = 0) ∧ (r = 1 → pz0_9 = (37 : Int32)) ∧ (r = 0 → ¬ (pz0_11 = 0 ∧ pz0_9 = (37 : Int32))) ∧ w = [(z 0, .inr (10, mo z pz0_0 pz0_5 pz0_6 pz0_7 pz0_8 pz0_9 pz0_10 pz0_11 pz0_12 pz0_13 pz0_14 pz0_18 pz0_19 pz0_22 pz0_23 pz0_29))])) := by
  refine Ct.of (by decide) (Nat.le_of_ble_eq_true rfl) (fun p e s m below meth c A ls hx hb hr hml hown hlk hnm hg hP hK hD hE hA hS hl => ?_)
  have hl : lv_has ls 2 [(0, .ref (z 0)), (1, .int 37)] := hl
  refine lv_aload_n hx hb dX10_is_0 rfl (lv_at hl 0 rfl) ?_
  refine va_get (ci := 10) (v := .int pz0_11) (C := RX10) (T := TX10) (N := 40) hx hb hg inX10 hown hK hP 0 rfl rfl 11 (by decide) (hg _ q_5_235) (fun _ h9 => h9) rfl dX10_is_1 ?_
  refine lv_if_ne (tgt := 19) hx hb dX10_is_4 (by decide) (fun c_1 => ?_) (fun c_1 => ?_)
  · have b_2 : iv 1 4 pz0_11 := iv_n0 c_1 bpz0_11 (iv_c (0 : Int32) (a := 0) (b := 0) (by decide)) (by decide)
    refine lv_iconst (v := 0) hx hb dX10_is_19 (by decide) ?_
    exact fiZ rfl hx hb hr hlk hK hP hD hS dX10_is_20 (Nat.le_of_ble_eq_true rfl) (Nat.le_of_ble_eq_true rfl) (⟨(iv_c (0 : Int32) (by decide)), (fun q9 => absurd q9 (by decide)), (fun q9 => absurd q9 (by decide)), (fun _ q9 => c_1 q9.1), rfl⟩)
  · have b_3 : iv 0 0 pz0_11 := iv_q c_1 (iv_c (0 : Int32) (a := 0) (b := 0) (by decide))
    refine lv_aload_n hx hb dX10_is_7 rfl (lv_at hl 0 rfl) ?_
    refine va_get (ci := 10) (v := .int pz0_9) (C := RX10) (T := TX10) (N := 40) hx hb hg inX10 hown hK hP 0 rfl rfl 9 (by decide) (hg _ q_5_233) (fun _ h9 => h9) rfl dX10_is_8 ?_
    refine lv_iload_n hx hb dX10_is_11 rfl (lv_at hl 1 rfl) ?_
    refine lv_icmp_ne (tgt := 19) hx hb dX10_is_12 (by decide) (fun c_4 => ?_) (fun c_4 => ?_)
    · refine lv_iconst (v := 0) hx hb dX10_is_19 (by decide) ?_
      exact fiZ rfl hx hb hr hlk hK hP hD hS dX10_is_20 (Nat.le_of_ble_eq_true rfl) (Nat.le_of_ble_eq_true rfl) (⟨(iv_c (0 : Int32) (by decide)), (fun q9 => absurd q9 (by decide)), (fun q9 => absurd q9 (by decide)), (fun _ q9 => c_4 q9.2), rfl⟩)
    · have b_5 : iv 37 37 pz0_9 := iv_q c_4 (iv_c (37 : Int32) (a := 37) (b := 37) (by decide))
      refine lv_iconst (v := 1) hx hb dX10_is_15 (by decide) ?_
      refine lv_goto (tgt := 20) hx hb dX10_is_16 (by decide) ?_
      exact fiZ rfl hx hb hr hlk hK hP hD hS dX10_is_20 (Nat.le_of_ble_eq_true rfl) (Nat.le_of_ble_eq_true rfl) (⟨(iv_c (1 : Int32) (by decide)), (fun _ => c_1), (fun _ => c_4), (fun q9 => absurd q9 (by decide)), rfl⟩)
set_option maxHeartbeats 4000000 in
set_option maxRecDepth 100000 in
theorem k_X10_is_11 (l : Launch) (V : GV) (z : Nat → Nat) (pz0_0 : Int32) (pz0_5 : Int32) (pz0_6 : Int32) (pz0_7 : Int32) (pz0_8 : Int32) (pz0_9 : Int32) (pz0_10 : Int32) (pz0_11 : Int32) (pz0_12 : Int32) (pz0_13 : Int32) (pz0_14 : Int32) (pz0_18 : Int32) (pz0_19 : Int32) (pz0_22 : Int32) (pz0_23 : Int32) (pz0_29 : Int32) (bpz0_5 : iv 0 900 pz0_5) (bpz0_6 : iv 0 900 pz0_6) (bpz0_7 : iv 0 900 pz0_7) (bpz0_8 : iv 0 900 pz0_8) (bpz0_10 : iv 0 999 pz0_10) (bpz0_11 : iv 0 4 pz0_11) (bpz0_12 : iv 0 900 pz0_12) (bpz0_13 : iv 0 4 pz0_13) (bpz0_14 : iv (-1) 900 pz0_14) (bpz0_18 : iv 0 2 pz0_18) (bpz0_22 : iv 0 9999 pz0_22) (bpz0_29 : iv 0 10000 pz0_29) : Ct l V yX10_is (.code yX10_is cX10_is 2 (some .boolean)) 1 [.ref (z 0), .int 35] [(z 0, .inr (10, mo z pz0_0 pz0_5 pz0_6 pz0_7 pz0_8 pz0_9 pz0_10 pz0_11 pz0_12 pz0_13 pz0_14 pz0_18 pz0_19 pz0_22 pz0_23 pz0_29))] 0 0 (QI V (fun (r : Int32) (w : va_W) => iv 0 1 r ∧ (r = 1 → pz0_11 = 0) ∧ (r = 1 → pz0_9 = (35 : Int32)) ∧ (r = 0 → ¬ (pz0_11 = 0 ∧ pz0_9 = (35 : Int32))) ∧ w = [(z 0, .inr (10, mo z pz0_0 pz0_5 pz0_6 pz0_7 pz0_8 pz0_9 pz0_10 pz0_11 pz0_12 pz0_13 pz0_14 pz0_18 pz0_19 pz0_22 pz0_23 pz0_29))])) := by
  refine Ct.of (by decide) (Nat.le_of_ble_eq_true rfl) (fun p e s m below meth c A ls hx hb hr hml hown hlk hnm hg hP hK hD hE hA hS hl => ?_)
  have hl : lv_has ls 2 [(0, .ref (z 0)), (1, .int 35)] := hl
  refine lv_aload_n hx hb dX10_is_0 rfl (lv_at hl 0 rfl) ?_
  refine va_get (ci := 10) (v := .int pz0_11) (C := RX10) (T := TX10) (N := 40) hx hb hg inX10 hown hK hP 0 rfl rfl 11 (by decide) (hg _ q_5_235) (fun _ h9 => h9) rfl dX10_is_1 ?_
  refine lv_if_ne (tgt := 19) hx hb dX10_is_4 (by decide) (fun c_1 => ?_) (fun c_1 => ?_)
  · have b_2 : iv 1 4 pz0_11 := iv_n0 c_1 bpz0_11 (iv_c (0 : Int32) (a := 0) (b := 0) (by decide)) (by decide)
    refine lv_iconst (v := 0) hx hb dX10_is_19 (by decide) ?_
    exact fiZ rfl hx hb hr hlk hK hP hD hS dX10_is_20 (Nat.le_of_ble_eq_true rfl) (Nat.le_of_ble_eq_true rfl) (⟨(iv_c (0 : Int32) (by decide)), (fun q9 => absurd q9 (by decide)), (fun q9 => absurd q9 (by decide)), (fun _ q9 => c_1 q9.1), rfl⟩)
  · have b_3 : iv 0 0 pz0_11 := iv_q c_1 (iv_c (0 : Int32) (a := 0) (b := 0) (by decide))
    refine lv_aload_n hx hb dX10_is_7 rfl (lv_at hl 0 rfl) ?_
    refine va_get (ci := 10) (v := .int pz0_9) (C := RX10) (T := TX10) (N := 40) hx hb hg inX10 hown hK hP 0 rfl rfl 9 (by decide) (hg _ q_5_233) (fun _ h9 => h9) rfl dX10_is_8 ?_
    refine lv_iload_n hx hb dX10_is_11 rfl (lv_at hl 1 rfl) ?_
    refine lv_icmp_ne (tgt := 19) hx hb dX10_is_12 (by decide) (fun c_4 => ?_) (fun c_4 => ?_)
    · refine lv_iconst (v := 0) hx hb dX10_is_19 (by decide) ?_
      exact fiZ rfl hx hb hr hlk hK hP hD hS dX10_is_20 (Nat.le_of_ble_eq_true rfl) (Nat.le_of_ble_eq_true rfl) (⟨(iv_c (0 : Int32) (by decide)), (fun q9 => absurd q9 (by decide)), (fun q9 => absurd q9 (by decide)), (fun _ q9 => c_4 q9.2), rfl⟩)
    · have b_5 : iv 35 35 pz0_9 := iv_q c_4 (iv_c (35 : Int32) (a := 35) (b := 35) (by decide))
      refine lv_iconst (v := 1) hx hb dX10_is_15 (by decide) ?_
      refine lv_goto (tgt := 20) hx hb dX10_is_16 (by decide) ?_
      exact fiZ rfl hx hb hr hlk hK hP hD hS dX10_is_20 (Nat.le_of_ble_eq_true rfl) (Nat.le_of_ble_eq_true rfl) (⟨(iv_c (1 : Int32) (by decide)), (fun _ => c_1), (fun _ => c_4), (fun q9 => absurd q9 (by decide)), rfl⟩)
set_option maxHeartbeats 4000000 in
set_option maxRecDepth 100000 in
theorem k_X10_is_12 (l : Launch) (V : GV) (z : Nat → Nat) (pz0_0 : Int32) (pz0_5 : Int32) (pz0_6 : Int32) (pz0_7 : Int32) (pz0_8 : Int32) (pz0_9 : Int32) (pz0_10 : Int32) (pz0_11 : Int32) (pz0_12 : Int32) (pz0_13 : Int32) (pz0_14 : Int32) (pz0_18 : Int32) (pz0_19 : Int32) (pz0_22 : Int32) (pz0_23 : Int32) (pz0_29 : Int32) (bpz0_5 : iv 0 900 pz0_5) (bpz0_6 : iv 0 900 pz0_6) (bpz0_7 : iv 0 900 pz0_7) (bpz0_8 : iv 0 900 pz0_8) (bpz0_10 : iv 0 999 pz0_10) (bpz0_11 : iv 0 4 pz0_11) (bpz0_12 : iv 0 900 pz0_12) (bpz0_13 : iv 0 4 pz0_13) (bpz0_14 : iv (-1) 900 pz0_14) (bpz0_18 : iv 0 2 pz0_18) (bpz0_22 : iv 0 9999 pz0_22) (bpz0_29 : iv 0 10000 pz0_29) : Ct l V yX10_is (.code yX10_is cX10_is 2 (some .boolean)) 1 [.ref (z 0), .int 13] [(z 0, .inr (10, mo z pz0_0 pz0_5 pz0_6 pz0_7 pz0_8 pz0_9 pz0_10 pz0_11 pz0_12 pz0_13 pz0_14 pz0_18 pz0_19 pz0_22 pz0_23 pz0_29))] 0 0 (QI V (fun (r : Int32) (w : va_W) => iv 0 1 r ∧ (r = 1 → pz0_11 = 0) ∧ (r = 1 → pz0_9 = (13 : Int32)) ∧ (r = 0 → ¬ (pz0_11 = 0 ∧ pz0_9 = (13 : Int32))) ∧ w = [(z 0, .inr (10, mo z pz0_0 pz0_5 pz0_6 pz0_7 pz0_8 pz0_9 pz0_10 pz0_11 pz0_12 pz0_13 pz0_14 pz0_18 pz0_19 pz0_22 pz0_23 pz0_29))])) := by
  refine Ct.of (by decide) (Nat.le_of_ble_eq_true rfl) (fun p e s m below meth c A ls hx hb hr hml hown hlk hnm hg hP hK hD hE hA hS hl => ?_)
  have hl : lv_has ls 2 [(0, .ref (z 0)), (1, .int 13)] := hl
  refine lv_aload_n hx hb dX10_is_0 rfl (lv_at hl 0 rfl) ?_
  refine va_get (ci := 10) (v := .int pz0_11) (C := RX10) (T := TX10) (N := 40) hx hb hg inX10 hown hK hP 0 rfl rfl 11 (by decide) (hg _ q_5_235) (fun _ h9 => h9) rfl dX10_is_1 ?_
  refine lv_if_ne (tgt := 19) hx hb dX10_is_4 (by decide) (fun c_1 => ?_) (fun c_1 => ?_)
  · have b_2 : iv 1 4 pz0_11 := iv_n0 c_1 bpz0_11 (iv_c (0 : Int32) (a := 0) (b := 0) (by decide)) (by decide)
    refine lv_iconst (v := 0) hx hb dX10_is_19 (by decide) ?_
    exact fiZ rfl hx hb hr hlk hK hP hD hS dX10_is_20 (Nat.le_of_ble_eq_true rfl) (Nat.le_of_ble_eq_true rfl) (⟨(iv_c (0 : Int32) (by decide)), (fun q9 => absurd q9 (by decide)), (fun q9 => absurd q9 (by decide)), (fun _ q9 => c_1 q9.1), rfl⟩)
  · have b_3 : iv 0 0 pz0_11 := iv_q c_1 (iv_c (0 : Int32) (a := 0) (b := 0) (by decide))
    refine lv_aload_n hx hb dX10_is_7 rfl (lv_at hl 0 rfl) ?_
    refine va_get (ci := 10) (v := .int pz0_9) (C := RX10) (T := TX10) (N := 40) hx hb hg inX10 hown hK hP 0 rfl rfl 9 (by decide) (hg _ q_5_233) (fun _ h9 => h9) rfl dX10_is_8 ?_
    refine lv_iload_n hx hb dX10_is_11 rfl (lv_at hl 1 rfl) ?_
    refine lv_icmp_ne (tgt := 19) hx hb dX10_is_12 (by decide) (fun c_4 => ?_) (fun c_4 => ?_)
    · refine lv_iconst (v := 0) hx hb dX10_is_19 (by decide) ?_
      exact fiZ rfl hx hb hr hlk hK hP hD hS dX10_is_20 (Nat.le_of_ble_eq_true rfl) (Nat.le_of_ble_eq_true rfl) (⟨(iv_c (0 : Int32) (by decide)), (fun q9 => absurd q9 (by decide)), (fun q9 => absurd q9 (by decide)), (fun _ q9 => c_4 q9.2), rfl⟩)
    · have b_5 : iv 13 13 pz0_9 := iv_q c_4 (iv_c (13 : Int32) (a := 13) (b := 13) (by decide))
      refine lv_iconst (v := 1) hx hb dX10_is_15 (by decide) ?_
      refine lv_goto (tgt := 20) hx hb dX10_is_16 (by decide) ?_
      exact fiZ rfl hx hb hr hlk hK hP hD hS dX10_is_20 (Nat.le_of_ble_eq_true rfl) (Nat.le_of_ble_eq_true rfl) (⟨(iv_c (1 : Int32) (by decide)), (fun _ => c_1), (fun _ => c_4), (fun q9 => absurd q9 (by decide)), rfl⟩)
theorem dX10_goesIn_0 : decode cX10_goesIn 0 = .ok (.iload_n 1, 1) := by decide +kernel
theorem dX10_goesIn_1 : decode cX10_goesIn 1 = .ok (.bipush 6, 2) := by decide +kernel
theorem dX10_goesIn_3 : decode cX10_goesIn 3 = .ok (.if_icmp .ne 8, 3) := by decide +kernel
theorem dX10_goesIn_11 : decode cX10_goesIn 11 = .ok (.aload_n 0, 1) := by decide +kernel
theorem dX10_goesIn_12 : decode cX10_goesIn 12 = .ok (.getfield 143, 3) := by decide +kernel
theorem dX10_goesIn_15 : decode cX10_goesIn 15 = .ok (.ifCond .ne 7, 3) := by decide +kernel
theorem dX10_goesIn_22 : decode cX10_goesIn 22 = .ok (.aload_n 0, 1) := by decide +kernel
theorem dX10_goesIn_23 : decode cX10_goesIn 23 = .ok (.getfield 143, 3) := by decide +kernel
theorem dX10_goesIn_26 : decode cX10_goesIn 26 = .ok (.ifCond .ne 7, 3) := by decide +kernel
theorem dX10_goesIn_33 : decode cX10_goesIn 33 = .ok (.iconst 0, 1) := by decide +kernel
theorem dX10_goesIn_34 : decode cX10_goesIn 34 = .ok (.ireturn, 1) := by decide +kernel
theorem dX10_goesIn_18 : decode cX10_goesIn 18 = .ok (.aload_n 0, 1) := by decide +kernel
theorem dX10_goesIn_19 : decode cX10_goesIn 19 = .ok (.invokevirtual 152, 3) := by decide +kernel
theorem dX10_goesIn_29 : decode cX10_goesIn 29 = .ok (.iconst 1, 1) := by decide +kernel
theorem dX10_goesIn_30 : decode cX10_goesIn 30 = .ok (.goto 4, 3) := by decide +kernel
set_option maxHeartbeats 4000000 in
set_option maxRecDepth 100000 in
theorem k_X10_goesIn_0 (l : Launch) (V : GV) (z : Nat → Nat) (fz3 : Nat → Int32) (pz0_0 : Int32) (pz0_5 : Int32) (pz0_6 : Int32) (pz0_7 : Int32) (pz0_8 : Int32) (pz0_9 : Int32) (pz0_10 : Int32) (pz0_11 : Int32) (pz0_12 : Int32) (pz0_13 : Int32) (pz0_14 : Int32) (pz0_18 : Int32) (pz0_19 : Int32) (pz0_22 : Int32) (pz0_23 : Int32) (pz0_29 : Int32) (tfz3 : ∀ j, iv 0 255 (fz3 j)) (bpz0_5 : iv 0 900 pz0_5) (bpz0_6 : iv 0 900 pz0_6) (bpz0_7 : iv 0 900 pz0_7) (bpz0_8 : iv 0 900 pz0_8) (bpz0_10 : iv 0 999 pz0_10) (bpz0_11 : iv 0 4 pz0_11) (bpz0_12 : iv 0 900 pz0_12) (bpz0_13 : iv 0 4 pz0_13) (bpz0_14 : iv (-1) 900 pz0_14) (bpz0_18 : iv 0 2 pz0_18) (bpz0_22 : iv 0 9999 pz0_22) (bpz0_29 : iv 0 10000 pz0_29) (hf0 : PT pz0_6 pz0_7 pz0_8 pz0_9) : Ct l V yX10_goesIn (.code yX10_goesIn cX10_goesIn 2 (some .boolean)) 7 [.ref (z 0), .int 0] [(z 3, aI V 900 fz3), (z 0, .inr (10, mo z pz0_0 pz0_5 pz0_6 pz0_7 pz0_8 pz0_9 pz0_10 pz0_11 pz0_12 pz0_13 pz0_14 pz0_18 pz0_19 pz0_22 pz0_23 pz0_29))] 0 0 (QI V (fun (r : Int32) (w : va_W) => ∃ (v0 : Int32) (v1 : Int32) (v2 : Int32) (v3 : Int32), iv 0 900 v0 ∧ iv 0 900 v1 ∧ iv 0 999 v3 ∧ iv 0 1 r ∧ (PT v0 v1 pz0_8 v2) ∧ ((pz0_6 : Int32).toInt ≤ (v0 : Int32).toInt) ∧ (pz0_11 = 0 → pz0_11 = 0) ∧ (r = 1 → pz0_11 = 0) ∧ (¬ pz0_9 = 24 → r = 1 → (pz0_6 : Int32).toInt + 1 ≤ (v0 : Int32).toInt) ∧ (r = 0 → ¬ pz0_11 = 0) ∧ (∀ q9 : Sg, q9.1 = 0 → RZ fz3 pz0_8 q9 pz0_11 pz0_12 pz0_9 pz0_6 pz0_7 pz0_10 → r = 1 ∧ RZ fz3 pz0_8 (nxP (tkX fz3 pz0_8) q9) pz0_11 pz0_12 v2 v0 v1 v3) ∧ w = [(z 3, aI V 900 fz3), (z 0, .inr (10, mo z pz0_0 pz0_5 v0 v1 pz0_8 v2 v3 pz0_11 pz0_12 pz0_13 pz0_14 pz0_18 pz0_19 pz0_22 pz0_23 pz0_29))])) := by
  refine Ct.of (by decide) (Nat.le_of_ble_eq_true rfl) (fun p e s m below meth c A ls hx hb hr hml hown hlk hnm hg hP hK hD hE hA hS hl => ?_)
  have hl : lv_has ls 2 [(0, .ref (z 0)), (1, .int 0)] := hl
  refine lv_iload_n hx hb dX10_goesIn_0 rfl (lv_at hl 1 rfl) ?_
  refine lv_bipush (v := 6) hx hb dX10_goesIn_1 (by decide) ?_
  refine lv_icmp_ne (tgt := 11) hx hb dX10_goesIn_3 (by decide) (fun _ => ?_) (fun c_2 => absurd c_2 (by decide))
  refine lv_aload_n hx hb dX10_goesIn_11 rfl (lv_at hl 0 rfl) ?_
  refine va_get (ci := 10) (v := .int pz0_11) (C := RX10) (T := TX10) (N := 40) hx hb hg inX10 hown hK hP 1 rfl rfl 11 (by decide) (hg _ q_5_235) (fun _ h9 => h9) rfl dX10_goesIn_12 ?_
  refine lv_if_ne (tgt := 22) hx hb dX10_goesIn_15 (by decide) (fun c_3 => ?_) (fun c_3 => ?_)
  · have b_4 : iv 1 4 pz0_11 := iv_n0 c_3 bpz0_11 (iv_c (0 : Int32) (a := 0) (b := 0) (by decide)) (by decide)
    refine lv_aload_n hx hb dX10_goesIn_22 rfl (lv_at hl 0 rfl) ?_
    refine va_get (ci := 10) (v := .int pz0_11) (C := RX10) (T := TX10) (N := 40) hx hb hg inX10 hown hK hP 1 rfl rfl 11 (by decide) (hg _ q_5_235) (fun _ h9 => h9) rfl dX10_goesIn_23 ?_
    refine lv_if_ne (tgt := 33) hx hb dX10_goesIn_26 (by decide) (fun _ => ?_) (fun c_6 => absurd c_6 c_3)
    refine lv_iconst (v := 0) hx hb dX10_goesIn_33 (by decide) ?_
    exact fiZ rfl hx hb hr hlk hK hP hD hS dX10_goesIn_34 (Nat.le_of_ble_eq_true rfl) (Nat.le_of_ble_eq_true rfl) (⟨pz0_6, pz0_7, pz0_9, pz0_10, bpz0_6, bpz0_7, bpz0_10, (iv_c (0 : Int32) (by decide)), hf0, (Int.le_refl _), (fun q9 => absurd q9 (iv_nz b_4 (by decide))), (fun q9 => absurd q9 (by decide)), (fun _ q9 => absurd q9 (by decide)), (fun _ => iv_nz b_4 (by decide)), (fun q9 w9 h9 => absurd (RZ_q h9 w9).1 c_3), rfl⟩)
  · have b_7 : iv 0 0 pz0_11 := iv_q c_3 (iv_c (0 : Int32) (a := 0) (b := 0) (by decide))
    refine lv_aload_n hx hb dX10_goesIn_18 rfl (lv_at hl 0 rfl) ?_
    refine jnV (wr := []) (rnV (rest := []) ⟨hx, hb, hml, hown, hg⟩ (k_X10_next_0 l V z pz0_0 pz0_5 pz0_6 pz0_7 pz0_8 pz0_9 pz0_10 pz0_11 pz0_12 pz0_13 pz0_14 pz0_18 pz0_19 pz0_22 pz0_23 pz0_29 fz3 bpz0_5 bpz0_6 bpz0_7 bpz0_8 bpz0_10 (iv_w b_7 (by decide)) bpz0_12 bpz0_13 bpz0_14 bpz0_18 bpz0_22 bpz0_29 tfz3 hf0.2.1) mt_X10_next q_6_117 ⟨Nat.le_of_ble_eq_true rfl, Nat.le_of_ble_eq_true rfl⟩ hK hP hD hS hA hE [1, 0] rfl rfl 1 rfl rfl rfl rfl hl.1 rfl (Nat.le_of_ble_eq_true rfl) dX10_goesIn_19 ⟨Nat.le_of_ble_eq_true rfl, Nat.le_of_ble_eq_true rfl⟩) hP hD hS hA [1, 0] [] rfl rfl rfl (by decide) (fun  w H locs hw hP hD hS => ?_)
    obtain ⟨v_8, v_9, v_10, v_11, bv_8, bv_9, bv_11, g_12, g_13, g_14, rfl⟩ := hw
    have hP : va_P V.1 vwCl [(z 0, .inr (10, mo z pz0_0 pz0_5 v_8 v_9 pz0_8 v_10 v_11 pz0_11 pz0_12 pz0_13 pz0_14 pz0_18 pz0_19 pz0_22 pz0_23 pz0_29)), (z 3, aI V 900 fz3)] H := hP
    have hD := cpD hP hD
    refine lv_aload_n hx hb dX10_goesIn_22 rfl (lv_at hl 0 rfl) ?_
    refine va_get (ci := 10) (v := .int pz0_11) (C := RX10) (T := TX10) (N := 40) hx hb hg inX10 hown hK hP 0 rfl rfl 11 (by decide) (hg _ q_5_235) (fun _ h9 => h9) rfl dX10_goesIn_23 ?_
    refine lv_if_ne (tgt := 33) hx hb dX10_goesIn_26 (by decide) (fun c_16 => absurd c_3 c_16) (fun _ => ?_)
    refine lv_iconst (v := 1) hx hb dX10_goesIn_29 (by decide) ?_
    refine lv_goto (tgt := 34) hx hb dX10_goesIn_30 (by decide) ?_
    have hP := subP (ws' := [(z 3, aI V 900 fz3), (z 0, .inr (10, mo z pz0_0 pz0_5 v_8 v_9 pz0_8 v_10 v_11 pz0_11 pz0_12 pz0_13 pz0_14 pz0_18 pz0_19 pz0_22 pz0_23 pz0_29))]) hP [1, 0] rfl
    have hD := subD hP hD [1, 0] rfl rfl
    exact fiZ rfl hx hb hr hlk hK hP hD hS dX10_goesIn_34 (Nat.le_of_ble_eq_true rfl) (Nat.le_of_ble_eq_true rfl) (⟨v_8, v_9, v_10, v_11, bv_8, bv_9, bv_11, (iv_c (1 : Int32) (by decide)), g_12, (by have q9 := g_13; have q8 := hf0.1; omega), (fun q9 => q9), (fun _ => iv_eqp b_7 (iv_c (0 : Int32) (by decide))), (fun q7 _ => by have q9 := g_13; have q8 := hf0.2.2 q7; omega), (fun q9 => absurd q9 (by decide)), (fun q9 w9 h9 => by have h_1 := RZ_nx bpz0_8.2 h9 w9 g_14; exact ⟨rfl, h_1⟩), rfl⟩)
set_option maxHeartbeats 4000000 in
set_option maxRecDepth 100000 in
theorem k_X10_goesIn_1 (l : Launch) (V : GV) (z : Nat → Nat) (fz3 : Nat → Int32) (pz0_0 : Int32) (pz0_5 : Int32) (pz0_6 : Int32) (pz0_7 : Int32) (pz0_8 : Int32) (pz0_9 : Int32) (pz0_10 : Int32) (pz0_11 : Int32) (pz0_12 : Int32) (pz0_13 : Int32) (pz0_14 : Int32) (pz0_18 : Int32) (pz0_19 : Int32) (pz0_22 : Int32) (pz0_23 : Int32) (pz0_29 : Int32) (tfz3 : ∀ j, iv 0 255 (fz3 j)) (bpz0_5 : iv 0 900 pz0_5) (bpz0_6 : iv 0 900 pz0_6) (bpz0_7 : iv 0 900 pz0_7) (bpz0_8 : iv 0 900 pz0_8) (bpz0_10 : iv 0 999 pz0_10) (bpz0_11 : iv 0 4 pz0_11) (bpz0_12 : iv 0 900 pz0_12) (bpz0_13 : iv 0 4 pz0_13) (bpz0_14 : iv (-1) 900 pz0_14) (bpz0_18 : iv 0 2 pz0_18) (bpz0_22 : iv 0 9999 pz0_22) (bpz0_29 : iv 0 10000 pz0_29) (hf0 : PT pz0_6 pz0_7 pz0_8 pz0_9) : Ct l V yX10_goesIn (.code yX10_goesIn cX10_goesIn 2 (some .boolean)) 7 [.ref (z 0), .int 1] [(z 3, aI V 900 fz3), (z 0, .inr (10, mo z pz0_0 pz0_5 pz0_6 pz0_7 pz0_8 pz0_9 pz0_10 pz0_11 pz0_12 pz0_13 pz0_14 pz0_18 pz0_19 pz0_22 pz0_23 pz0_29))] 0 0 (QI V (fun (r : Int32) (w : va_W) => ∃ (v0 : Int32) (v1 : Int32) (v2 : Int32) (v3 : Int32), iv 0 900 v0 ∧ iv 0 900 v1 ∧ iv 0 999 v3 ∧ iv 0 1 r ∧ (PT v0 v1 pz0_8 v2) ∧ ((pz0_6 : Int32).toInt ≤ (v0 : Int32).toInt) ∧ (pz0_11 = 0 → pz0_11 = 0) ∧ (r = 1 → pz0_11 = 0) ∧ (¬ pz0_9 = 24 → r = 1 → (pz0_6 : Int32).toInt + 1 ≤ (v0 : Int32).toInt) ∧ (r = 0 → ¬ pz0_11 = 0) ∧ (∀ q9 : Sg, q9.1 = 0 → RZ fz3 pz0_8 q9 pz0_11 pz0_12 pz0_9 pz0_6 pz0_7 pz0_10 → r = 1 ∧ RZ fz3 pz0_8 (nxP (tkX fz3 pz0_8) q9) pz0_11 pz0_12 v2 v0 v1 v3) ∧ w = [(z 3, aI V 900 fz3), (z 0, .inr (10, mo z pz0_0 pz0_5 v0 v1 pz0_8 v2 v3 pz0_11 pz0_12 pz0_13 pz0_14 pz0_18 pz0_19 pz0_22 pz0_23 pz0_29))])) := by
  refine Ct.of (by decide) (Nat.le_of_ble_eq_true rfl) (fun p e s m below meth c A ls hx hb hr hml hown hlk hnm hg hP hK hD hE hA hS hl => ?_)
  have hl : lv_has ls 2 [(0, .ref (z 0)), (1, .int 1)] := hl
  refine lv_iload_n hx hb dX10_goesIn_0 rfl (lv_at hl 1 rfl) ?_
  refine lv_bipush (v := 6) hx hb dX10_goesIn_1 (by decide) ?_
  refine lv_icmp_ne (tgt := 11) hx hb dX10_goesIn_3 (by decide) (fun _ => ?_) (fun c_2 => absurd c_2 (by decide))
  refine lv_aload_n hx hb dX10_goesIn_11 rfl (lv_at hl 0 rfl) ?_
  refine va_get (ci := 10) (v := .int pz0_11) (C := RX10) (T := TX10) (N := 40) hx hb hg inX10 hown hK hP 1 rfl rfl 11 (by decide) (hg _ q_5_235) (fun _ h9 => h9) rfl dX10_goesIn_12 ?_
  refine lv_if_ne (tgt := 22) hx hb dX10_goesIn_15 (by decide) (fun c_3 => ?_) (fun c_3 => ?_)
  · have b_4 : iv 1 4 pz0_11 := iv_n0 c_3 bpz0_11 (iv_c (0 : Int32) (a := 0) (b := 0) (by decide)) (by decide)
    refine lv_aload_n hx hb dX10_goesIn_22 rfl (lv_at hl 0 rfl) ?_
    refine va_get (ci := 10) (v := .int pz0_11) (C := RX10) (T := TX10) (N := 40) hx hb hg inX10 hown hK hP 1 rfl rfl 11 (by decide) (hg _ q_5_235) (fun _ h9 => h9) rfl dX10_goesIn_23 ?_
    refine lv_if_ne (tgt := 33) hx hb dX10_goesIn_26 (by decide) (fun _ => ?_) (fun c_6 => absurd c_6 c_3)
    refine lv_iconst (v := 0) hx hb dX10_goesIn_33 (by decide) ?_
    exact fiZ rfl hx hb hr hlk hK hP hD hS dX10_goesIn_34 (Nat.le_of_ble_eq_true rfl) (Nat.le_of_ble_eq_true rfl) (⟨pz0_6, pz0_7, pz0_9, pz0_10, bpz0_6, bpz0_7, bpz0_10, (iv_c (0 : Int32) (by decide)), hf0, (Int.le_refl _), (fun q9 => absurd q9 (iv_nz b_4 (by decide))), (fun q9 => absurd q9 (by decide)), (fun _ q9 => absurd q9 (by decide)), (fun _ => iv_nz b_4 (by decide)), (fun q9 w9 h9 => absurd (RZ_q h9 w9).1 c_3), rfl⟩)
  · have b_7 : iv 0 0 pz0_11 := iv_q c_3 (iv_c (0 : Int32) (a := 0) (b := 0) (by decide))
    refine lv_aload_n hx hb dX10_goesIn_18 rfl (lv_at hl 0 rfl) ?_
    refine jnV (wr := []) (rnV (rest := []) ⟨hx, hb, hml, hown, hg⟩ (k_X10_next_0 l V z pz0_0 pz0_5 pz0_6 pz0_7 pz0_8 pz0_9 pz0_10 pz0_11 pz0_12 pz0_13 pz0_14 pz0_18 pz0_19 pz0_22 pz0_23 pz0_29 fz3 bpz0_5 bpz0_6 bpz0_7 bpz0_8 bpz0_10 (iv_w b_7 (by decide)) bpz0_12 bpz0_13 bpz0_14 bpz0_18 bpz0_22 bpz0_29 tfz3 hf0.2.1) mt_X10_next q_6_117 ⟨Nat.le_of_ble_eq_true rfl, Nat.le_of_ble_eq_true rfl⟩ hK hP hD hS hA hE [1, 0] rfl rfl 1 rfl rfl rfl rfl hl.1 rfl (Nat.le_of_ble_eq_true rfl) dX10_goesIn_19 ⟨Nat.le_of_ble_eq_true rfl, Nat.le_of_ble_eq_true rfl⟩) hP hD hS hA [1, 0] [] rfl rfl rfl (by decide) (fun  w H locs hw hP hD hS => ?_)
    obtain ⟨v_8, v_9, v_10, v_11, bv_8, bv_9, bv_11, g_12, g_13, g_14, rfl⟩ := hw
    have hP : va_P V.1 vwCl [(z 0, .inr (10, mo z pz0_0 pz0_5 v_8 v_9 pz0_8 v_10 v_11 pz0_11 pz0_12 pz0_13 pz0_14 pz0_18 pz0_19 pz0_22 pz0_23 pz0_29)), (z 3, aI V 900 fz3)] H := hP
    have hD := cpD hP hD
    refine lv_aload_n hx hb dX10_goesIn_22 rfl (lv_at hl 0 rfl) ?_
    refine va_get (ci := 10) (v := .int pz0_11) (C := RX10) (T := TX10) (N := 40) hx hb hg inX10 hown hK hP 0 rfl rfl 11 (by decide) (hg _ q_5_235) (fun _ h9 => h9) rfl dX10_goesIn_23 ?_
    refine lv_if_ne (tgt := 33) hx hb dX10_goesIn_26 (by decide) (fun c_16 => absurd c_3 c_16) (fun _ => ?_)
    refine lv_iconst (v := 1) hx hb dX10_goesIn_29 (by decide) ?_
    refine lv_goto (tgt := 34) hx hb dX10_goesIn_30 (by decide) ?_
    have hP := subP (ws' := [(z 3, aI V 900 fz3), (z 0, .inr (10, mo z pz0_0 pz0_5 v_8 v_9 pz0_8 v_10 v_11 pz0_11 pz0_12 pz0_13 pz0_14 pz0_18 pz0_19 pz0_22 pz0_23 pz0_29))]) hP [1, 0] rfl
    have hD := subD hP hD [1, 0] rfl rfl
    exact fiZ rfl hx hb hr hlk hK hP hD hS dX10_goesIn_34 (Nat.le_of_ble_eq_true rfl) (Nat.le_of_ble_eq_true rfl) (⟨v_8, v_9, v_10, v_11, bv_8, bv_9, bv_11, (iv_c (1 : Int32) (by decide)), g_12, (by have q9 := g_13; have q8 := hf0.1; omega), (fun q9 => q9), (fun _ => iv_eqp b_7 (iv_c (0 : Int32) (by decide))), (fun q7 _ => by have q9 := g_13; have q8 := hf0.2.2 q7; omega), (fun q9 => absurd q9 (by decide)), (fun q9 w9 h9 => by have h_1 := RZ_nx bpz0_8.2 h9 w9 g_14; exact ⟨rfl, h_1⟩), rfl⟩)
set_option maxHeartbeats 4000000 in
set_option maxRecDepth 100000 in
theorem k_X10_goesIn_2 (l : Launch) (V : GV) (z : Nat → Nat) (fz3 : Nat → Int32) (pz0_0 : Int32) (pz0_5 : Int32) (pz0_6 : Int32) (pz0_7 : Int32) (pz0_8 : Int32) (pz0_9 : Int32) (pz0_10 : Int32) (pz0_11 : Int32) (pz0_12 : Int32) (pz0_13 : Int32) (pz0_14 : Int32) (pz0_18 : Int32) (pz0_19 : Int32) (pz0_22 : Int32) (pz0_23 : Int32) (pz0_29 : Int32) (tfz3 : ∀ j, iv 0 255 (fz3 j)) (bpz0_5 : iv 0 900 pz0_5) (bpz0_6 : iv 0 900 pz0_6) (bpz0_7 : iv 0 900 pz0_7) (bpz0_8 : iv 0 900 pz0_8) (bpz0_10 : iv 0 999 pz0_10) (bpz0_11 : iv 0 4 pz0_11) (bpz0_12 : iv 0 900 pz0_12) (bpz0_13 : iv 0 4 pz0_13) (bpz0_14 : iv (-1) 900 pz0_14) (bpz0_18 : iv 0 2 pz0_18) (bpz0_22 : iv 0 9999 pz0_22) (bpz0_29 : iv 0 10000 pz0_29) (hf0 : PT pz0_6 pz0_7 pz0_8 pz0_9) : Ct l V yX10_goesIn (.code yX10_goesIn cX10_goesIn 2 (some .boolean)) 7 [.ref (z 0), .int 2] [(z 3, aI V 900 fz3), (z 0, .inr (10, mo z pz0_0 pz0_5 pz0_6 pz0_7 pz0_8 pz0_9 pz0_10 pz0_11 pz0_12 pz0_13 pz0_14 pz0_18 pz0_19 pz0_22 pz0_23 pz0_29))] 0 0 (QI V (fun (r : Int32) (w : va_W) => ∃ (v0 : Int32) (v1 : Int32) (v2 : Int32) (v3 : Int32), iv 0 900 v0 ∧ iv 0 900 v1 ∧ iv 0 999 v3 ∧ iv 0 1 r ∧ (PT v0 v1 pz0_8 v2) ∧ ((pz0_6 : Int32).toInt ≤ (v0 : Int32).toInt) ∧ (pz0_11 = 0 → pz0_11 = 0) ∧ (r = 1 → pz0_11 = 0) ∧ (¬ pz0_9 = 24 → r = 1 → (pz0_6 : Int32).toInt + 1 ≤ (v0 : Int32).toInt) ∧ (r = 0 → ¬ pz0_11 = 0) ∧ (∀ q9 : Sg, q9.1 = 0 → RZ fz3 pz0_8 q9 pz0_11 pz0_12 pz0_9 pz0_6 pz0_7 pz0_10 → r = 1 ∧ RZ fz3 pz0_8 (nxP (tkX fz3 pz0_8) q9) pz0_11 pz0_12 v2 v0 v1 v3) ∧ w = [(z 3, aI V 900 fz3), (z 0, .inr (10, mo z pz0_0 pz0_5 v0 v1 pz0_8 v2 v3 pz0_11 pz0_12 pz0_13 pz0_14 pz0_18 pz0_19 pz0_22 pz0_23 pz0_29))])) := by
  refine Ct.of (by decide) (Nat.le_of_ble_eq_true rfl) (fun p e s m below meth c A ls hx hb hr hml hown hlk hnm hg hP hK hD hE hA hS hl => ?_)
  have hl : lv_has ls 2 [(0, .ref (z 0)), (1, .int 2)] := hl
  refine lv_iload_n hx hb dX10_goesIn_0 rfl (lv_at hl 1 rfl) ?_
  refine lv_bipush (v := 6) hx hb dX10_goesIn_1 (by decide) ?_
  refine lv_icmp_ne (tgt := 11) hx hb dX10_goesIn_3 (by decide) (fun _ => ?_) (fun c_2 => absurd c_2 (by decide))
  refine lv_aload_n hx hb dX10_goesIn_11 rfl (lv_at hl 0 rfl) ?_
  refine va_get (ci := 10) (v := .int pz0_11) (C := RX10) (T := TX10) (N := 40) hx hb hg inX10 hown hK hP 1 rfl rfl 11 (by decide) (hg _ q_5_235) (fun _ h9 => h9) rfl dX10_goesIn_12 ?_
  refine lv_if_ne (tgt := 22) hx hb dX10_goesIn_15 (by decide) (fun c_3 => ?_) (fun c_3 => ?_)
  · have b_4 : iv 1 4 pz0_11 := iv_n0 c_3 bpz0_11 (iv_c (0 : Int32) (a := 0) (b := 0) (by decide)) (by decide)
    refine lv_aload_n hx hb dX10_goesIn_22 rfl (lv_at hl 0 rfl) ?_
    refine va_get (ci := 10) (v := .int pz0_11) (C := RX10) (T := TX10) (N := 40) hx hb hg inX10 hown hK hP 1 rfl rfl 11 (by decide) (hg _ q_5_235) (fun _ h9 => h9) rfl dX10_goesIn_23 ?_
    refine lv_if_ne (tgt := 33) hx hb dX10_goesIn_26 (by decide) (fun _ => ?_) (fun c_6 => absurd c_6 c_3)
    refine lv_iconst (v := 0) hx hb dX10_goesIn_33 (by decide) ?_
    exact fiZ rfl hx hb hr hlk hK hP hD hS dX10_goesIn_34 (Nat.le_of_ble_eq_true rfl) (Nat.le_of_ble_eq_true rfl) (⟨pz0_6, pz0_7, pz0_9, pz0_10, bpz0_6, bpz0_7, bpz0_10, (iv_c (0 : Int32) (by decide)), hf0, (Int.le_refl _), (fun q9 => absurd q9 (iv_nz b_4 (by decide))), (fun q9 => absurd q9 (by decide)), (fun _ q9 => absurd q9 (by decide)), (fun _ => iv_nz b_4 (by decide)), (fun q9 w9 h9 => absurd (RZ_q h9 w9).1 c_3), rfl⟩)
  · have b_7 : iv 0 0 pz0_11 := iv_q c_3 (iv_c (0 : Int32) (a := 0) (b := 0) (by decide))
    refine lv_aload_n hx hb dX10_goesIn_18 rfl (lv_at hl 0 rfl) ?_
    refine jnV (wr := []) (rnV (rest := []) ⟨hx, hb, hml, hown, hg⟩ (k_X10_next_0 l V z pz0_0 pz0_5 pz0_6 pz0_7 pz0_8 pz0_9 pz0_10 pz0_11 pz0_12 pz0_13 pz0_14 pz0_18 pz0_19 pz0_22 pz0_23 pz0_29 fz3 bpz0_5 bpz0_6 bpz0_7 bpz0_8 bpz0_10 (iv_w b_7 (by decide)) bpz0_12 bpz0_13 bpz0_14 bpz0_18 bpz0_22 bpz0_29 tfz3 hf0.2.1) mt_X10_next q_6_117 ⟨Nat.le_of_ble_eq_true rfl, Nat.le_of_ble_eq_true rfl⟩ hK hP hD hS hA hE [1, 0] rfl rfl 1 rfl rfl rfl rfl hl.1 rfl (Nat.le_of_ble_eq_true rfl) dX10_goesIn_19 ⟨Nat.le_of_ble_eq_true rfl, Nat.le_of_ble_eq_true rfl⟩) hP hD hS hA [1, 0] [] rfl rfl rfl (by decide) (fun  w H locs hw hP hD hS => ?_)
    obtain ⟨v_8, v_9, v_10, v_11, bv_8, bv_9, bv_11, g_12, g_13, g_14, rfl⟩ := hw
    have hP : va_P V.1 vwCl [(z 0, .inr (10, mo z pz0_0 pz0_5 v_8 v_9 pz0_8 v_10 v_11 pz0_11 pz0_12 pz0_13 pz0_14 pz0_18 pz0_19 pz0_22 pz0_23 pz0_29)), (z 3, aI V 900 fz3)] H := hP
    have hD := cpD hP hD
    refine lv_aload_n hx hb dX10_goesIn_22 rfl (lv_at hl 0 rfl) ?_
    refine va_get (ci := 10) (v := .int pz0_11) (C := RX10) (T := TX10) (N := 40) hx hb hg inX10 hown hK hP 0 rfl rfl 11 (by decide) (hg _ q_5_235) (fun _ h9 => h9) rfl dX10_goesIn_23 ?_
    refine lv_if_ne (tgt := 33) hx hb dX10_goesIn_26 (by decide) (fun c_16 => absurd c_3 c_16) (fun _ => ?_)
    refine lv_iconst (v := 1) hx hb dX10_goesIn_29 (by decide) ?_
    refine lv_goto (tgt := 34) hx hb dX10_goesIn_30 (by decide) ?_
    have hP := subP (ws' := [(z 3, aI V 900 fz3), (z 0, .inr (10, mo z pz0_0 pz0_5 v_8 v_9 pz0_8 v_10 v_11 pz0_11 pz0_12 pz0_13 pz0_14 pz0_18 pz0_19 pz0_22 pz0_23 pz0_29))]) hP [1, 0] rfl
    have hD := subD hP hD [1, 0] rfl rfl
    exact fiZ rfl hx hb hr hlk hK hP hD hS dX10_goesIn_34 (Nat.le_of_ble_eq_true rfl) (Nat.le_of_ble_eq_true rfl) (⟨v_8, v_9, v_10, v_11, bv_8, bv_9, bv_11, (iv_c (1 : Int32) (by decide)), g_12, (by have q9 := g_13; have q8 := hf0.1; omega), (fun q9 => q9), (fun _ => iv_eqp b_7 (iv_c (0 : Int32) (by decide))), (fun q7 _ => by have q9 := g_13; have q8 := hf0.2.2 q7; omega), (fun q9 => absurd q9 (by decide)), (fun q9 w9 h9 => by have h_1 := RZ_nx bpz0_8.2 h9 w9 g_14; exact ⟨rfl, h_1⟩), rfl⟩)
set_option maxHeartbeats 4000000 in
set_option maxRecDepth 100000 in
theorem k_X10_goesIn_3 (l : Launch) (V : GV) (z : Nat → Nat) (fz3 : Nat → Int32) (pz0_0 : Int32) (pz0_5 : Int32) (pz0_6 : Int32) (pz0_7 : Int32) (pz0_8 : Int32) (pz0_9 : Int32) (pz0_10 : Int32) (pz0_11 : Int32) (pz0_12 : Int32) (pz0_13 : Int32) (pz0_14 : Int32) (pz0_18 : Int32) (pz0_19 : Int32) (pz0_22 : Int32) (pz0_23 : Int32) (pz0_29 : Int32) (tfz3 : ∀ j, iv 0 255 (fz3 j)) (bpz0_5 : iv 0 900 pz0_5) (bpz0_6 : iv 0 900 pz0_6) (bpz0_7 : iv 0 900 pz0_7) (bpz0_8 : iv 0 900 pz0_8) (bpz0_10 : iv 0 999 pz0_10) (bpz0_11 : iv 0 4 pz0_11) (bpz0_12 : iv 0 900 pz0_12) (bpz0_13 : iv 0 4 pz0_13) (bpz0_14 : iv (-1) 900 pz0_14) (bpz0_18 : iv 0 2 pz0_18) (bpz0_22 : iv 0 9999 pz0_22) (bpz0_29 : iv 0 10000 pz0_29) (hf0 : PT pz0_6 pz0_7 pz0_8 pz0_9) : Ct l V yX10_goesIn (.code yX10_goesIn cX10_goesIn 2 (some .boolean)) 7 [.ref (z 0), .int 3] [(z 3, aI V 900 fz3), (z 0, .inr (10, mo z pz0_0 pz0_5 pz0_6 pz0_7 pz0_8 pz0_9 pz0_10 pz0_11 pz0_12 pz0_13 pz0_14 pz0_18 pz0_19 pz0_22 pz0_23 pz0_29))] 0 0 (QI V (fun (r : Int32) (w : va_W) => ∃ (v0 : Int32) (v1 : Int32) (v2 : Int32) (v3 : Int32), iv 0 900 v0 ∧ iv 0 900 v1 ∧ iv 0 999 v3 ∧ iv 0 1 r ∧ (PT v0 v1 pz0_8 v2) ∧ ((pz0_6 : Int32).toInt ≤ (v0 : Int32).toInt) ∧ (pz0_11 = 0 → pz0_11 = 0) ∧ (r = 1 → pz0_11 = 0) ∧ (¬ pz0_9 = 24 → r = 1 → (pz0_6 : Int32).toInt + 1 ≤ (v0 : Int32).toInt) ∧ (r = 0 → ¬ pz0_11 = 0) ∧ (∀ q9 : Sg, q9.1 = 0 → RZ fz3 pz0_8 q9 pz0_11 pz0_12 pz0_9 pz0_6 pz0_7 pz0_10 → r = 1 ∧ RZ fz3 pz0_8 (nxP (tkX fz3 pz0_8) q9) pz0_11 pz0_12 v2 v0 v1 v3) ∧ w = [(z 3, aI V 900 fz3), (z 0, .inr (10, mo z pz0_0 pz0_5 v0 v1 pz0_8 v2 v3 pz0_11 pz0_12 pz0_13 pz0_14 pz0_18 pz0_19 pz0_22 pz0_23 pz0_29))])) := by
  refine Ct.of (by decide) (Nat.le_of_ble_eq_true rfl) (fun p e s m below meth c A ls hx hb hr hml hown hlk hnm hg hP hK hD hE hA hS hl => ?_)
  have hl : lv_has ls 2 [(0, .ref (z 0)), (1, .int 3)] := hl
  refine lv_iload_n hx hb dX10_goesIn_0 rfl (lv_at hl 1 rfl) ?_
  refine lv_bipush (v := 6) hx hb dX10_goesIn_1 (by decide) ?_
  refine lv_icmp_ne (tgt := 11) hx hb dX10_goesIn_3 (by decide) (fun _ => ?_) (fun c_2 => absurd c_2 (by decide))
  refine lv_aload_n hx hb dX10_goesIn_11 rfl (lv_at hl 0 rfl) ?_
  refine va_get (ci := 10) (v := .int pz0_11) (C := RX10) (T := TX10) (N := 40) hx hb hg inX10 hown hK hP 1 rfl rfl 11 (by decide) (hg _ q_5_235) (fun _ h9 => h9) rfl dX10_goesIn_12 ?_
  refine lv_if_ne (tgt := 22) hx hb dX10_goesIn_15 (by decide) (fun c_3 => ?_) (fun c_3 => ?_)
  · have b_4 : iv 1 4 pz0_11 := iv_n0 c_3 bpz0_11 (iv_c (0 : Int32) (a := 0) (b := 0) (by decide)) (by decide)
    refine lv_aload_n hx hb dX10_goesIn_22 rfl (lv_at hl 0 rfl) ?_
    refine va_get (ci := 10) (v := .int pz0_11) (C := RX10) (T := TX10) (N := 40) hx hb hg inX10 hown hK hP 1 rfl rfl 11 (by decide) (hg _ q_5_235) (fun _ h9 => h9) rfl dX10_goesIn_23 ?_
    refine lv_if_ne (tgt := 33) hx hb dX10_goesIn_26 (by decide) (fun _ => ?_) (fun c_6 => absurd c_6 c_3)
    refine lv_iconst (v := 0) hx hb dX10_goesIn_33 (by decide) ?_
    exact fiZ rfl hx hb hr hlk hK hP hD hS dX10_goesIn_34 (Nat.le_of_ble_eq_true rfl) (Nat.le_of_ble_eq_true rfl) (⟨pz0_6, pz0_7, pz0_9, pz0_10, bpz0_6, bpz0_7, bpz0_10, (iv_c (0 : Int32) (by decide)), hf0, (Int.le_refl _), (fun q9 => absurd q9 (iv_nz b_4 (by decide))), (fun q9 => absurd q9 (by decide)), (fun _ q9 => absurd q9 (by decide)), (fun _ => iv_nz b_4 (by decide)), (fun q9 w9 h9 => absurd (RZ_q h9 w9).1 c_3), rfl⟩)
  · have b_7 : iv 0 0 pz0_11 := iv_q c_3 (iv_c (0 : Int32) (a := 0) (b := 0) (by decide))
    refine lv_aload_n hx hb dX10_goesIn_18 rfl (lv_at hl 0 rfl) ?_
    refine jnV (wr := []) (rnV (rest := []) ⟨hx, hb, hml, hown, hg⟩ (k_X10_next_0 l V z pz0_0 pz0_5 pz0_6 pz0_7 pz0_8 pz0_9 pz0_10 pz0_11 pz0_12 pz0_13 pz0_14 pz0_18 pz0_19 pz0_22 pz0_23 pz0_29 fz3 bpz0_5 bpz0_6 bpz0_7 bpz0_8 bpz0_10 (iv_w b_7 (by decide)) bpz0_12 bpz0_13 bpz0_14 bpz0_18 bpz0_22 bpz0_29 tfz3 hf0.2.1) mt_X10_next q_6_117 ⟨Nat.le_of_ble_eq_true rfl, Nat.le_of_ble_eq_true rfl⟩ hK hP hD hS hA hE [1, 0] rfl rfl 1 rfl rfl rfl rfl hl.1 rfl (Nat.le_of_ble_eq_true rfl) dX10_goesIn_19 ⟨Nat.le_of_ble_eq_true rfl, Nat.le_of_ble_eq_true rfl⟩) hP hD hS hA [1, 0] [] rfl rfl rfl (by decide) (fun  w H locs hw hP hD hS => ?_)
    obtain ⟨v_8, v_9, v_10, v_11, bv_8, bv_9, bv_11, g_12, g_13, g_14, rfl⟩ := hw
    have hP : va_P V.1 vwCl [(z 0, .inr (10, mo z pz0_0 pz0_5 v_8 v_9 pz0_8 v_10 v_11 pz0_11 pz0_12 pz0_13 pz0_14 pz0_18 pz0_19 pz0_22 pz0_23 pz0_29)), (z 3, aI V 900 fz3)] H := hP
    have hD := cpD hP hD
    refine lv_aload_n hx hb dX10_goesIn_22 rfl (lv_at hl 0 rfl) ?_
    refine va_get (ci := 10) (v := .int pz0_11) (C := RX10) (T := TX10) (N := 40) hx hb hg inX10 hown hK hP 0 rfl rfl 11 (by decide) (hg _ q_5_235) (fun _ h9 => h9) rfl dX10_goesIn_23 ?_
    refine lv_if_ne (tgt := 33) hx hb dX10_goesIn_26 (by decide) (fun c_16 => absurd c_3 c_16) (fun _ => ?_)
    refine lv_iconst (v := 1) hx hb dX10_goesIn_29 (by decide) ?_
    refine lv_goto (tgt := 34) hx hb dX10_goesIn_30 (by decide) ?_
    have hP := subP (ws' := [(z 3, aI V 900 fz3), (z 0, .inr (10, mo z pz0_0 pz0_5 v_8 v_9 pz0_8 v_10 v_11 pz0_11 pz0_12 pz0_13 pz0_14 pz0_18 pz0_19 pz0_22 pz0_23 pz0_29))]) hP [1, 0] rfl
    have hD := subD hP hD [1, 0] rfl rfl
    exact fiZ rfl hx hb hr hlk hK hP hD hS dX10_goesIn_34 (Nat.le_of_ble_eq_true rfl) (Nat.le_of_ble_eq_true rfl) (⟨v_8, v_9, v_10, v_11, bv_8, bv_9, bv_11, (iv_c (1 : Int32) (by decide)), g_12, (by have q9 := g_13; have q8 := hf0.1; omega), (fun q9 => q9), (fun _ => iv_eqp b_7 (iv_c (0 : Int32) (by decide))), (fun q7 _ => by have q9 := g_13; have q8 := hf0.2.2 q7; omega), (fun q9 => absurd q9 (by decide)), (fun q9 w9 h9 => by have h_1 := RZ_nx bpz0_8.2 h9 w9 g_14; exact ⟨rfl, h_1⟩), rfl⟩)
set_option maxHeartbeats 4000000 in
set_option maxRecDepth 100000 in
theorem k_X10_goesIn_4 (l : Launch) (V : GV) (z : Nat → Nat) (fz3 : Nat → Int32) (pz0_0 : Int32) (pz0_5 : Int32) (pz0_6 : Int32) (pz0_7 : Int32) (pz0_8 : Int32) (pz0_9 : Int32) (pz0_10 : Int32) (pz0_11 : Int32) (pz0_12 : Int32) (pz0_13 : Int32) (pz0_14 : Int32) (pz0_18 : Int32) (pz0_19 : Int32) (pz0_22 : Int32) (pz0_23 : Int32) (pz0_29 : Int32) (tfz3 : ∀ j, iv 0 255 (fz3 j)) (bpz0_5 : iv 0 900 pz0_5) (bpz0_6 : iv 0 900 pz0_6) (bpz0_7 : iv 0 900 pz0_7) (bpz0_8 : iv 0 900 pz0_8) (bpz0_10 : iv 0 999 pz0_10) (bpz0_11 : iv 0 4 pz0_11) (bpz0_12 : iv 0 900 pz0_12) (bpz0_13 : iv 0 4 pz0_13) (bpz0_14 : iv (-1) 900 pz0_14) (bpz0_18 : iv 0 2 pz0_18) (bpz0_22 : iv 0 9999 pz0_22) (bpz0_29 : iv 0 10000 pz0_29) (hf0 : PT pz0_6 pz0_7 pz0_8 pz0_9) : Ct l V yX10_goesIn (.code yX10_goesIn cX10_goesIn 2 (some .boolean)) 7 [.ref (z 0), .int 4] [(z 3, aI V 900 fz3), (z 0, .inr (10, mo z pz0_0 pz0_5 pz0_6 pz0_7 pz0_8 pz0_9 pz0_10 pz0_11 pz0_12 pz0_13 pz0_14 pz0_18 pz0_19 pz0_22 pz0_23 pz0_29))] 0 0 (QI V (fun (r : Int32) (w : va_W) => ∃ (v0 : Int32) (v1 : Int32) (v2 : Int32) (v3 : Int32), iv 0 900 v0 ∧ iv 0 900 v1 ∧ iv 0 999 v3 ∧ iv 0 1 r ∧ (PT v0 v1 pz0_8 v2) ∧ ((pz0_6 : Int32).toInt ≤ (v0 : Int32).toInt) ∧ (pz0_11 = 0 → pz0_11 = 0) ∧ (r = 1 → pz0_11 = 0) ∧ (¬ pz0_9 = 24 → r = 1 → (pz0_6 : Int32).toInt + 1 ≤ (v0 : Int32).toInt) ∧ (r = 0 → ¬ pz0_11 = 0) ∧ (∀ q9 : Sg, q9.1 = 0 → RZ fz3 pz0_8 q9 pz0_11 pz0_12 pz0_9 pz0_6 pz0_7 pz0_10 → r = 1 ∧ RZ fz3 pz0_8 (nxP (tkX fz3 pz0_8) q9) pz0_11 pz0_12 v2 v0 v1 v3) ∧ w = [(z 3, aI V 900 fz3), (z 0, .inr (10, mo z pz0_0 pz0_5 v0 v1 pz0_8 v2 v3 pz0_11 pz0_12 pz0_13 pz0_14 pz0_18 pz0_19 pz0_22 pz0_23 pz0_29))])) := by
  refine Ct.of (by decide) (Nat.le_of_ble_eq_true rfl) (fun p e s m below meth c A ls hx hb hr hml hown hlk hnm hg hP hK hD hE hA hS hl => ?_)
  have hl : lv_has ls 2 [(0, .ref (z 0)), (1, .int 4)] := hl
  refine lv_iload_n hx hb dX10_goesIn_0 rfl (lv_at hl 1 rfl) ?_
  refine lv_bipush (v := 6) hx hb dX10_goesIn_1 (by decide) ?_
  refine lv_icmp_ne (tgt := 11) hx hb dX10_goesIn_3 (by decide) (fun _ => ?_) (fun c_2 => absurd c_2 (by decide))
  refine lv_aload_n hx hb dX10_goesIn_11 rfl (lv_at hl 0 rfl) ?_
  refine va_get (ci := 10) (v := .int pz0_11) (C := RX10) (T := TX10) (N := 40) hx hb hg inX10 hown hK hP 1 rfl rfl 11 (by decide) (hg _ q_5_235) (fun _ h9 => h9) rfl dX10_goesIn_12 ?_
  refine lv_if_ne (tgt := 22) hx hb dX10_goesIn_15 (by decide) (fun c_3 => ?_) (fun c_3 => ?_)
  · have b_4 : iv 1 4 pz0_11 := iv_n0 c_3 bpz0_11 (iv_c (0 : Int32) (a := 0) (b := 0) (by decide)) (by decide)
    refine lv_aload_n hx hb dX10_goesIn_22 rfl (lv_at hl 0 rfl) ?_
    refine va_get (ci := 10) (v := .int pz0_11) (C := RX10) (T := TX10) (N := 40) hx hb hg inX10 hown hK hP 1 rfl rfl 11 (by decide) (hg _ q_5_235) (fun _ h9 => h9) rfl dX10_goesIn_23 ?_
    refine lv_if_ne (tgt := 33) hx hb dX10_goesIn_26 (by decide) (fun _ => ?_) (fun c_6 => absurd c_6 c_3)
    refine lv_iconst (v := 0) hx hb dX10_goesIn_33 (by decide) ?_
    exact fiZ rfl hx hb hr hlk hK hP hD hS dX10_goesIn_34 (Nat.le_of_ble_eq_true rfl) (Nat.le_of_ble_eq_true rfl) (⟨pz0_6, pz0_7, pz0_9, pz0_10, bpz0_6, bpz0_7, bpz0_10, (iv_c (0 : Int32) (by decide)), hf0, (Int.le_refl _), (fun q9 => absurd q9 (iv_nz b_4 (by decide))), (fun q9 => absurd q9 (by decide)), (fun _ q9 => absurd q9 (by decide)), (fun _ => iv_nz b_4 (by decide)), (fun q9 w9 h9 => absurd (RZ_q h9 w9).1 c_3), rfl⟩)
  · have b_7 : iv 0 0 pz0_11 := iv_q c_3 (iv_c (0 : Int32) (a := 0) (b := 0) (by decide))
    refine lv_aload_n hx hb dX10_goesIn_18 rfl (lv_at hl 0 rfl) ?_
    refine jnV (wr := []) (rnV (rest := []) ⟨hx, hb, hml, hown, hg⟩ (k_X10_next_0 l V z pz0_0 pz0_5 pz0_6 pz0_7 pz0_8 pz0_9 pz0_10 pz0_11 pz0_12 pz0_13 pz0_14 pz0_18 pz0_19 pz0_22 pz0_23 pz0_29 fz3 bpz0_5 bpz0_6 bpz0_7 bpz0_8 bpz0_10 (iv_w b_7 (by decide)) bpz0_12 bpz0_13 bpz0_14 bpz0_18 bpz0_22 bpz0_29 tfz3 hf0.2.1) mt_X10_next q_6_117 ⟨Nat.le_of_ble_eq_true rfl, Nat.le_of_ble_eq_true rfl⟩ hK hP hD hS hA hE [1, 0] rfl rfl 1 rfl rfl rfl rfl hl.1 rfl (Nat.le_of_ble_eq_true rfl) dX10_goesIn_19 ⟨Nat.le_of_ble_eq_true rfl, Nat.le_of_ble_eq_true rfl⟩) hP hD hS hA [1, 0] [] rfl rfl rfl (by decide) (fun  w H locs hw hP hD hS => ?_)
    obtain ⟨v_8, v_9, v_10, v_11, bv_8, bv_9, bv_11, g_12, g_13, g_14, rfl⟩ := hw
    have hP : va_P V.1 vwCl [(z 0, .inr (10, mo z pz0_0 pz0_5 v_8 v_9 pz0_8 v_10 v_11 pz0_11 pz0_12 pz0_13 pz0_14 pz0_18 pz0_19 pz0_22 pz0_23 pz0_29)), (z 3, aI V 900 fz3)] H := hP
    have hD := cpD hP hD
    refine lv_aload_n hx hb dX10_goesIn_22 rfl (lv_at hl 0 rfl) ?_
    refine va_get (ci := 10) (v := .int pz0_11) (C := RX10) (T := TX10) (N := 40) hx hb hg inX10 hown hK hP 0 rfl rfl 11 (by decide) (hg _ q_5_235) (fun _ h9 => h9) rfl dX10_goesIn_23 ?_
    refine lv_if_ne (tgt := 33) hx hb dX10_goesIn_26 (by decide) (fun c_16 => absurd c_3 c_16) (fun _ => ?_)
    refine lv_iconst (v := 1) hx hb dX10_goesIn_29 (by decide) ?_
    refine lv_goto (tgt := 34) hx hb dX10_goesIn_30 (by decide) ?_
    have hP := subP (ws' := [(z 3, aI V 900 fz3), (z 0, .inr (10, mo z pz0_0 pz0_5 v_8 v_9 pz0_8 v_10 v_11 pz0_11 pz0_12 pz0_13 pz0_14 pz0_18 pz0_19 pz0_22 pz0_23 pz0_29))]) hP [1, 0] rfl
    have hD := subD hP hD [1, 0] rfl rfl
    exact fiZ rfl hx hb hr hlk hK hP hD hS dX10_goesIn_34 (Nat.le_of_ble_eq_true rfl) (Nat.le_of_ble_eq_true rfl) (⟨v_8, v_9, v_10, v_11, bv_8, bv_9, bv_11, (iv_c (1 : Int32) (by decide)), g_12, (by have q9 := g_13; have q8 := hf0.1; omega), (fun q9 => q9), (fun _ => iv_eqp b_7 (iv_c (0 : Int32) (by decide))), (fun q7 _ => by have q9 := g_13; have q8 := hf0.2.2 q7; omega), (fun q9 => absurd q9 (by decide)), (fun q9 w9 h9 => by have h_1 := RZ_nx bpz0_8.2 h9 w9 g_14; exact ⟨rfl, h_1⟩), rfl⟩)
set_option maxHeartbeats 4000000 in
set_option maxRecDepth 100000 in
theorem k_X10_goesIn_5 (l : Launch) (V : GV) (z : Nat → Nat) (fz3 : Nat → Int32) (pz0_0 : Int32) (pz0_5 : Int32) (pz0_6 : Int32) (pz0_7 : Int32) (pz0_8 : Int32) (pz0_9 : Int32) (pz0_10 : Int32) (pz0_11 : Int32) (pz0_12 : Int32) (pz0_13 : Int32) (pz0_14 : Int32) (pz0_18 : Int32) (pz0_19 : Int32) (pz0_22 : Int32) (pz0_23 : Int32) (pz0_29 : Int32) (tfz3 : ∀ j, iv 0 255 (fz3 j)) (bpz0_5 : iv 0 900 pz0_5) (bpz0_6 : iv 0 900 pz0_6) (bpz0_7 : iv 0 900 pz0_7) (bpz0_8 : iv 0 900 pz0_8) (bpz0_10 : iv 0 999 pz0_10) (bpz0_11 : iv 0 4 pz0_11) (bpz0_12 : iv 0 900 pz0_12) (bpz0_13 : iv 0 4 pz0_13) (bpz0_14 : iv (-1) 900 pz0_14) (bpz0_18 : iv 0 2 pz0_18) (bpz0_22 : iv 0 9999 pz0_22) (bpz0_29 : iv 0 10000 pz0_29) (hf0 : PT pz0_6 pz0_7 pz0_8 pz0_9) : Ct l V yX10_goesIn (.code yX10_goesIn cX10_goesIn 2 (some .boolean)) 7 [.ref (z 0), .int 5] [(z 3, aI V 900 fz3), (z 0, .inr (10, mo z pz0_0 pz0_5 pz0_6 pz0_7 pz0_8 pz0_9 pz0_10 pz0_11 pz0_12 pz0_13 pz0_14 pz0_18 pz0_19 pz0_22 pz0_23 pz0_29))] 0 0 (QI V (fun (r : Int32) (w : va_W) => ∃ (v0 : Int32) (v1 : Int32) (v2 : Int32) (v3 : Int32), iv 0 900 v0 ∧ iv 0 900 v1 ∧ iv 0 999 v3 ∧ iv 0 1 r ∧ (PT v0 v1 pz0_8 v2) ∧ ((pz0_6 : Int32).toInt ≤ (v0 : Int32).toInt) ∧ (pz0_11 = 0 → pz0_11 = 0) ∧ (r = 1 → pz0_11 = 0) ∧ (¬ pz0_9 = 24 → r = 1 → (pz0_6 : Int32).toInt + 1 ≤ (v0 : Int32).toInt) ∧ (r = 0 → ¬ pz0_11 = 0) ∧ (∀ q9 : Sg, q9.1 = 0 → RZ fz3 pz0_8 q9 pz0_11 pz0_12 pz0_9 pz0_6 pz0_7 pz0_10 → r = 1 ∧ RZ fz3 pz0_8 (nxP (tkX fz3 pz0_8) q9) pz0_11 pz0_12 v2 v0 v1 v3) ∧ w = [(z 3, aI V 900 fz3), (z 0, .inr (10, mo z pz0_0 pz0_5 v0 v1 pz0_8 v2 v3 pz0_11 pz0_12 pz0_13 pz0_14 pz0_18 pz0_19 pz0_22 pz0_23 pz0_29))])) := by
  refine Ct.of (by decide) (Nat.le_of_ble_eq_true rfl) (fun p e s m below meth c A ls hx hb hr hml hown hlk hnm hg hP hK hD hE hA hS hl => ?_)
  have hl : lv_has ls 2 [(0, .ref (z 0)), (1, .int 5)] := hl
  refine lv_iload_n hx hb dX10_goesIn_0 rfl (lv_at hl 1 rfl) ?_
  refine lv_bipush (v := 6) hx hb dX10_goesIn_1 (by decide) ?_
  refine lv_icmp_ne (tgt := 11) hx hb dX10_goesIn_3 (by decide) (fun _ => ?_) (fun c_2 => absurd c_2 (by decide))
  refine lv_aload_n hx hb dX10_goesIn_11 rfl (lv_at hl 0 rfl) ?_
  refine va_get (ci := 10) (v := .int pz0_11) (C := RX10) (T := TX10) (N := 40) hx hb hg inX10 hown hK hP 1 rfl rfl 11 (by decide) (hg _ q_5_235) (fun _ h9 => h9) rfl dX10_goesIn_12 ?_
  refine lv_if_ne (tgt := 22) hx hb dX10_goesIn_15 (by decide) (fun c_3 => ?_) (fun c_3 => ?_)
  · have b_4 : iv 1 4 pz0_11 := iv_n0 c_3 bpz0_11 (iv_c (0 : Int32) (a := 0) (b := 0) (by decide)) (by decide)
    refine lv_aload_n hx hb dX10_goesIn_22 rfl (lv_at hl 0 rfl) ?_
    refine va_get (ci := 10) (v := .int pz0_11) (C := RX10) (T := TX10) (N := 40) hx hb hg inX10 hown hK hP 1 rfl rfl 11 (by decide) (hg _ q_5_235) (fun _ h9 => h9) rfl dX10_goesIn_23 ?_
    refine lv_if_ne (tgt := 33) hx hb dX10_goesIn_26 (by decide) (fun _ => ?_) (fun c_6 => absurd c_6 c_3)
    refine lv_iconst (v := 0) hx hb dX10_goesIn_33 (by decide) ?_
    exact fiZ rfl hx hb hr hlk hK hP hD hS dX10_goesIn_34 (Nat.le_of_ble_eq_true rfl) (Nat.le_of_ble_eq_true rfl) (⟨pz0_6, pz0_7, pz0_9, pz0_10, bpz0_6, bpz0_7, bpz0_10, (iv_c (0 : Int32) (by decide)), hf0, (Int.le_refl _), (fun q9 => absurd q9 (iv_nz b_4 (by decide))), (fun q9 => absurd q9 (by decide)), (fun _ q9 => absurd q9 (by decide)), (fun _ => iv_nz b_4 (by decide)), (fun q9 w9 h9 => absurd (RZ_q h9 w9).1 c_3), rfl⟩)
  · have b_7 : iv 0 0 pz0_11 := iv_q c_3 (iv_c (0 : Int32) (a := 0) (b := 0) (by decide))
    refine lv_aload_n hx hb dX10_goesIn_18 rfl (lv_at hl 0 rfl) ?_
    refine jnV (wr := []) (rnV (rest := []) ⟨hx, hb, hml, hown, hg⟩ (k_X10_next_0 l V z pz0_0 pz0_5 pz0_6 pz0_7 pz0_8 pz0_9 pz0_10 pz0_11 pz0_12 pz0_13 pz0_14 pz0_18 pz0_19 pz0_22 pz0_23 pz0_29 fz3 bpz0_5 bpz0_6 bpz0_7 bpz0_8 bpz0_10 (iv_w b_7 (by decide)) bpz0_12 bpz0_13 bpz0_14 bpz0_18 bpz0_22 bpz0_29 tfz3 hf0.2.1) mt_X10_next q_6_117 ⟨Nat.le_of_ble_eq_true rfl, Nat.le_of_ble_eq_true rfl⟩ hK hP hD hS hA hE [1, 0] rfl rfl 1 rfl rfl rfl rfl hl.1 rfl (Nat.le_of_ble_eq_true rfl) dX10_goesIn_19 ⟨Nat.le_of_ble_eq_true rfl, Nat.le_of_ble_eq_true rfl⟩) hP hD hS hA [1, 0] [] rfl rfl rfl (by decide) (fun  w H locs hw hP hD hS => ?_)
    obtain ⟨v_8, v_9, v_10, v_11, bv_8, bv_9, bv_11, g_12, g_13, g_14, rfl⟩ := hw
    have hP : va_P V.1 vwCl [(z 0, .inr (10, mo z pz0_0 pz0_5 v_8 v_9 pz0_8 v_10 v_11 pz0_11 pz0_12 pz0_13 pz0_14 pz0_18 pz0_19 pz0_22 pz0_23 pz0_29)), (z 3, aI V 900 fz3)] H := hP
    have hD := cpD hP hD
    refine lv_aload_n hx hb dX10_goesIn_22 rfl (lv_at hl 0 rfl) ?_
    refine va_get (ci := 10) (v := .int pz0_11) (C := RX10) (T := TX10) (N := 40) hx hb hg inX10 hown hK hP 0 rfl rfl 11 (by decide) (hg _ q_5_235) (fun _ h9 => h9) rfl dX10_goesIn_23 ?_
    refine lv_if_ne (tgt := 33) hx hb dX10_goesIn_26 (by decide) (fun c_16 => absurd c_3 c_16) (fun _ => ?_)
    refine lv_iconst (v := 1) hx hb dX10_goesIn_29 (by decide) ?_
    refine lv_goto (tgt := 34) hx hb dX10_goesIn_30 (by decide) ?_
    have hP := subP (ws' := [(z 3, aI V 900 fz3), (z 0, .inr (10, mo z pz0_0 pz0_5 v_8 v_9 pz0_8 v_10 v_11 pz0_11 pz0_12 pz0_13 pz0_14 pz0_18 pz0_19 pz0_22 pz0_23 pz0_29))]) hP [1, 0] rfl
    have hD := subD hP hD [1, 0] rfl rfl
    exact fiZ rfl hx hb hr hlk hK hP hD hS dX10_goesIn_34 (Nat.le_of_ble_eq_true rfl) (Nat.le_of_ble_eq_true rfl) (⟨v_8, v_9, v_10, v_11, bv_8, bv_9, bv_11, (iv_c (1 : Int32) (by decide)), g_12, (by have q9 := g_13; have q8 := hf0.1; omega), (fun q9 => q9), (fun _ => iv_eqp b_7 (iv_c (0 : Int32) (by decide))), (fun q7 _ => by have q9 := g_13; have q8 := hf0.2.2 q7; omega), (fun q9 => absurd q9 (by decide)), (fun q9 w9 h9 => by have h_1 := RZ_nx bpz0_8.2 h9 w9 g_14; exact ⟨rfl, h_1⟩), rfl⟩)
theorem dX10_goesIn_6 : decode cX10_goesIn 6 = .ok (.aload_n 0, 1) := by decide +kernel
theorem dX10_goesIn_7 : decode cX10_goesIn 7 = .ok (.iconst 4, 1) := by decide +kernel
theorem dX10_goesIn_8 : decode cX10_goesIn 8 = .ok (.invokevirtual 155, 3) := by decide +kernel
set_option maxHeartbeats 4000000 in
set_option maxRecDepth 100000 in
theorem k_X10_goesIn_6 (l : Launch) (V : GV) (z : Nat → Nat) (fz3 : Nat → Int32) (pz0_0 : Int32) (pz0_5 : Int32) (pz0_6 : Int32) (pz0_7 : Int32) (pz0_8 : Int32) (pz0_9 : Int32) (pz0_10 : Int32) (pz0_11 : Int32) (pz0_12 : Int32) (pz0_13 : Int32) (pz0_14 : Int32) (pz0_18 : Int32) (pz0_19 : Int32) (pz0_22 : Int32) (pz0_23 : Int32) (pz0_29 : Int32) (tfz3 : ∀ j, iv 0 255 (fz3 j)) (bpz0_5 : iv 0 900 pz0_5) (bpz0_6 : iv 0 900 pz0_6) (bpz0_7 : iv 0 900 pz0_7) (bpz0_8 : iv 0 900 pz0_8) (bpz0_10 : iv 0 999 pz0_10) (bpz0_11 : iv 0 4 pz0_11) (bpz0_12 : iv 0 900 pz0_12) (bpz0_13 : iv 0 4 pz0_13) (bpz0_14 : iv (-1) 900 pz0_14) (bpz0_18 : iv 0 2 pz0_18) (bpz0_22 : iv 0 9999 pz0_22) (bpz0_29 : iv 0 10000 pz0_29) (hf0 : PT pz0_6 pz0_7 pz0_8 pz0_9) : Ct l V yX10_goesIn (.code yX10_goesIn cX10_goesIn 2 (some .boolean)) 2 [.ref (z 0), .int 6] [(z 3, aI V 900 fz3), (z 0, .inr (10, mo z pz0_0 pz0_5 pz0_6 pz0_7 pz0_8 pz0_9 pz0_10 pz0_11 pz0_12 pz0_13 pz0_14 pz0_18 pz0_19 pz0_22 pz0_23 pz0_29))] 0 0 (QI V (fun (r : Int32) (w : va_W) => ∃ (v0 : Int32) (v1 : Int32), iv 0 4 v0 ∧ iv 0 900 v1 ∧ r = 0 ∧ (PT pz0_6 pz0_7 pz0_8 pz0_9) ∧ ((pz0_6 : Int32).toInt ≤ (pz0_6 : Int32).toInt) ∧ (v0 = 0 → pz0_11 = 0) ∧ (r = 1 → v0 = 0) ∧ (¬ pz0_9 = 24 → r = 1 → (pz0_6 : Int32).toInt + 1 ≤ (pz0_6 : Int32).toInt) ∧ (r = 0 → ¬ v0 = 0) ∧ (∀ q9 : Sg, RZ fz3 pz0_8 q9 pz0_11 pz0_12 pz0_9 pz0_6 pz0_7 pz0_10 → RZ fz3 pz0_8 (flP (tkX fz3 pz0_8) 4 q9) v0 v1 pz0_9 pz0_6 pz0_7 pz0_10) ∧ w = [(z 3, aI V 900 fz3), (z 0, .inr (10, mo z pz0_0 pz0_5 pz0_6 pz0_7 pz0_8 pz0_9 pz0_10 v0 v1 pz0_13 pz0_14 pz0_18 pz0_19 pz0_22 pz0_23 pz0_29))])) := by
  refine Ct.of (by decide) (Nat.le_of_ble_eq_true rfl) (fun p e s m below meth c A ls hx hb hr hml hown hlk hnm hg hP hK hD hE hA hS hl => ?_)
  have hl : lv_has ls 2 [(0, .ref (z 0)), (1, .int 6)] := hl
  refine lv_iload_n hx hb dX10_goesIn_0 rfl (lv_at hl 1 rfl) ?_
  refine lv_bipush (v := 6) hx hb dX10_goesIn_1 (by decide) ?_
  refine lv_icmp_ne (tgt := 11) hx hb dX10_goesIn_3 (by decide) (fun c_2 => absurd c_2 (by decide)) (fun _ => ?_)
  refine lv_aload_n hx hb dX10_goesIn_6 rfl (lv_at hl 0 rfl) ?_
  refine lv_iconst (v := 4) hx hb dX10_goesIn_7 (by decide) ?_
  refine jnV (wr := [(z 3, aI V 900 fz3)]) (rnV (rest := []) ⟨hx, hb, hml, hown, hg⟩ (k_X10_fails_0 l V z 4 pz0_0 pz0_5 pz0_6 pz0_7 pz0_8 pz0_9 pz0_10 pz0_11 pz0_12 pz0_13 pz0_14 pz0_18 pz0_19 pz0_22 pz0_23 pz0_29 (iv_c (4 : Int32) (by decide)) bpz0_5 bpz0_6 bpz0_7 bpz0_8 bpz0_10 bpz0_11 bpz0_12 bpz0_13 bpz0_14 bpz0_18 bpz0_22 bpz0_29) mt_X10_fails q_6_147 ⟨Nat.le_of_ble_eq_true rfl, Nat.le_of_ble_eq_true rfl⟩ hK hP hD hS hA hE [1] rfl rfl 1 rfl rfl rfl rfl hl.1 rfl (Nat.le_of_ble_eq_true rfl) dX10_goesIn_8 ⟨Nat.le_of_ble_eq_true rfl, Nat.le_of_ble_eq_true rfl⟩) hP hD hS hA [1] [0] rfl rfl rfl (by decide) (fun  w H locs hw hP hD hS => ?_)
  obtain ⟨v_3, v_4, bv_3, bv_4, g_5, rfl⟩ := hw
  have hP : va_P V.1 vwCl [(z 3, aI V 900 fz3), (z 0, .inr (10, mo z pz0_0 pz0_5 pz0_6 pz0_7 pz0_8 pz0_9 pz0_10 v_3 v_4 pz0_13 pz0_14 pz0_18 pz0_19 pz0_22 pz0_23 pz0_29))] H := hP
  have hD := cpD hP hD
  refine lv_aload_n hx hb dX10_goesIn_11 rfl (lv_at hl 0 rfl) ?_
  refine va_get (ci := 10) (v := .int v_3) (C := RX10) (T := TX10) (N := 40) hx hb hg inX10 hown hK hP 1 rfl rfl 11 (by decide) (hg _ q_5_235) (fun _ h9 => h9) rfl dX10_goesIn_12 ?_
  refine lv_if_ne (tgt := 22) hx hb dX10_goesIn_15 (by decide) (fun _ => ?_) (fun c_6 => absurd c_6 (iv_ne bv_3 (iv_c (0 : Int32) (a := 0) (b := 0) (by decide)) (by decide)))
  refine lv_aload_n hx hb dX10_goesIn_22 rfl (lv_at hl 0 rfl) ?_
  refine va_get (ci := 10) (v := .int v_3) (C := RX10) (T := TX10) (N := 40) hx hb hg inX10 hown hK hP 1 rfl rfl 11 (by decide) (hg _ q_5_235) (fun _ h9 => h9) rfl dX10_goesIn_23 ?_
  refine lv_if_ne (tgt := 33) hx hb dX10_goesIn_26 (by decide) (fun _ => ?_) (fun c_7 => absurd c_7 (iv_ne bv_3 (iv_c (0 : Int32) (a := 0) (b := 0) (by decide)) (by decide)))
  refine lv_iconst (v := 0) hx hb dX10_goesIn_33 (by decide) ?_
  exact fiZ rfl hx hb hr hlk hK hP hD hS dX10_goesIn_34 (Nat.le_of_ble_eq_true rfl) (Nat.le_of_ble_eq_true rfl) (⟨v_3, v_4, (iv_w bv_3 (by decide)), bv_4, rfl, hf0, (Int.le_refl _), (fun q9 => absurd q9 (iv_nz bv_3 (by decide))), (fun q9 => absurd q9 (by decide)), (fun _ q9 => absurd q9 (by decide)), (fun _ => iv_nz bv_3 (by decide)), (fun q9 h9 => by have h_1 := RZ_fl h9 g_5 (by decide); exact h_1), rfl⟩)
theorem dX10_readIf_0 : decode cX10_readIf 0 = .ok (.aload_n 0, 1) := by decide +kernel
theorem dX10_readIf_1 : decode cX10_readIf 1 = .ok (.iload_n 1, 1) := by decide +kernel
theorem q_6_210 : Cond.code yX10_goesIn prog_12_method_18_code 2 (some FieldType.boolean) ∈ gw := gw_6 (i := 210) (rfl) rfl
theorem q_6_209 : Cond.instanceMethod yX10_goesIn ∈ gw := gw_6 (i := 209) (by decide +kernel) rfl
theorem q_s_74 : Cond.selects "BeaconDelayModel" yX10_goesIn yX10_goesIn ∈ gw := gw_s (i := 74) (by decide +kernel) rfl
theorem mt_X10_goesIn : MtV yX10_goesIn cX10_goesIn 2 (some .boolean) 1 := ⟨⟨q_6_210, q_1_9, by decide +kernel, by decide +kernel, by decide +kernel⟩, q_6_209, q_s_74⟩
theorem q_6_207 : Cond.methodLink "BeaconDelayModel" 169 yX10_goesIn ∈ gw := gw_6 (i := 207) (by decide +kernel) rfl
theorem dX10_readIf_2 : decode cX10_readIf 2 = .ok (.invokevirtual 169, 3) := by decide +kernel
theorem dX10_readIf_5 : decode cX10_readIf 5 = .ok (.ifCond .ne 4, 3) := by decide +kernel
theorem dX10_readIf_8 : decode cX10_readIf 8 = .ok (.return_, 1) := by decide +kernel
set_option maxHeartbeats 4000000 in
set_option maxRecDepth 100000 in
theorem k_X10_readIf_0 (l : Launch) (V : GV) (z : Nat → Nat) (fz4 : Nat → Int32) (fz3 : Nat → Int32) (pz0_0 : Int32) (pz0_5 : Int32) (pz0_6 : Int32) (pz0_7 : Int32) (pz0_8 : Int32) (pz0_9 : Int32) (pz0_10 : Int32) (pz0_11 : Int32) (pz0_12 : Int32) (pz0_13 : Int32) (pz0_14 : Int32) (pz0_18 : Int32) (pz0_19 : Int32) (pz0_22 : Int32) (pz0_23 : Int32) (pz0_29 : Int32) (tfz4 : ivT tF fz4) (tfz3 : ∀ j, iv 0 255 (fz3 j)) (bpz0_5 : iv 0 900 pz0_5) (bpz0_6 : iv 0 900 pz0_6) (bpz0_7 : iv 0 900 pz0_7) (bpz0_8 : iv 0 900 pz0_8) (bpz0_10 : iv 0 999 pz0_10) (bpz0_11 : iv 0 4 pz0_11) (bpz0_12 : iv 0 900 pz0_12) (bpz0_13 : iv 0 4 pz0_13) (bpz0_14 : iv (-1) 900 pz0_14) (bpz0_18 : iv 0 2 pz0_18) (bpz0_22 : iv 0 9999 pz0_22) (bpz0_29 : iv 0 10000 pz0_29) (hf0 : PT pz0_6 pz0_7 pz0_8 pz0_9) (hf1 : PS pz0_11 pz0_6 fz4) (hf2 : pz0_9 = 13) : Ct l V yX10_readIf (.code yX10_readIf cX10_readIf 2 none) 3 [.ref (z 0), .int 6] [(z 4, aI V 1025 fz4), (z 3, aI V 900 fz3), (z 0, .inr (10, mo z pz0_0 pz0_5 pz0_6 pz0_7 pz0_8 pz0_9 pz0_10 pz0_11 pz0_12 pz0_13 pz0_14 pz0_18 pz0_19 pz0_22 pz0_23 pz0_29))] 0 0 (QV V (fun (w : va_W) => ∃ (v0 : Int32) (v1 : Int32), iv 0 4 v0 ∧ iv 0 900 v1 ∧ (PT pz0_6 pz0_7 pz0_8 pz0_9) ∧ (PS v0 pz0_6 fz4) ∧ ((pz0_6 : Int32).toInt ≤ (pz0_6 : Int32).toInt) ∧ (RX pz0_11 pz0_6 fz4 v0 pz0_6 fz4 1 0) ∧ (∀ q9 : Sg, isQ (tkX fz3 pz0_8) q9 13 = true → RZ fz3 pz0_8 q9 pz0_11 pz0_12 pz0_9 pz0_6 pz0_7 pz0_10 → RZ fz3 pz0_8 (aoD (tkX fz3 pz0_8) 0 q9) v0 v1 pz0_9 pz0_6 pz0_7 pz0_10) ∧ (∀ q9 : Sg, isQ (tkX fz3 pz0_8) q9 13 = true → RZ fz3 pz0_8 q9 pz0_11 pz0_12 pz0_9 pz0_6 pz0_7 pz0_10 → CDz q9 fz4 → CDz (aoD (tkX fz3 pz0_8) 0 q9) fz4) ∧ w = [(z 4, aI V 1025 fz4), (z 3, aI V 900 fz3), (z 0, .inr (10, mo z pz0_0 pz0_5 pz0_6 pz0_7 pz0_8 pz0_9 pz0_10 v0 v1 pz0_13 pz0_14 pz0_18 pz0_19 pz0_22 pz0_23 pz0_29))])) := by
  refine Ct.of (by decide) (Nat.le_of_ble_eq_true rfl) (fun p e s m below meth c A ls hx hb hr hml hown hlk hnm hg hP hK hD hE hA hS hl => ?_)
  have hl : lv_has ls 2 [(0, .ref (z 0)), (1, .int 6)] := hl
  refine lv_aload_n hx hb dX10_readIf_0 rfl (lv_at hl 0 rfl) ?_
  refine lv_iload_n hx hb dX10_readIf_1 rfl (lv_at hl 1 rfl) ?_
  refine jnI (wr := [(z 4, aI V 1025 fz4)]) (rnV (rest := []) ⟨hx, hb, hml, hown, hg⟩ (k_X10_goesIn_6 l V z fz3 pz0_0 pz0_5 pz0_6 pz0_7 pz0_8 pz0_9 pz0_10 pz0_11 pz0_12 pz0_13 pz0_14 pz0_18 pz0_19 pz0_22 pz0_23 pz0_29 tfz3 bpz0_5 bpz0_6 bpz0_7 bpz0_8 bpz0_10 bpz0_11 bpz0_12 bpz0_13 bpz0_14 bpz0_18 bpz0_22 bpz0_29 hf0) mt_X10_goesIn q_6_207 ⟨Nat.le_of_ble_eq_true rfl, Nat.le_of_ble_eq_true rfl⟩ hK hP hD hS hA hE [1, 2] rfl rfl 2 rfl rfl rfl rfl hl.1 rfl (Nat.le_of_ble_eq_true rfl) dX10_readIf_2 ⟨Nat.le_of_ble_eq_true rfl, Nat.le_of_ble_eq_true rfl⟩) hP hD hS hA [1, 2] [0] rfl rfl rfl (by decide) (fun r_1 w H locs hw hP hD hS => ?_)
  obtain ⟨v_2, v_3, bv_2, bv_3, rfl, g_4, g_5, g_6, g_7, g_8, g_9, g_10, rfl⟩ := hw
  have hP : va_P V.1 vwCl [(z 4, aI V 1025 fz4), (z 3, aI V 900 fz3), (z 0, .inr (10, mo z pz0_0 pz0_5 pz0_6 pz0_7 pz0_8 pz0_9 pz0_10 v_2 v_3 pz0_13 pz0_14 pz0_18 pz0_19 pz0_22 pz0_23 pz0_29))] H := hP
  have hD := cpD hP hD
  have c_11 : ¬ v_2 = 0 := (g_9 rfl)
  have b_12 : iv 1 4 v_2 := iv_n0 c_11 bv_2 (iv_c (0 : Int32) (a := 0) (b := 0) (by decide)) (by decide)
  have rx_13 : RX pz0_11 pz0_6 fz4 v_2 pz0_6 fz4 0 ((9 : Int)) := RX_f b_12 (by decide)
  refine lv_if_ne (tgt := 9) hx hb dX10_readIf_5 (by decide) (fun c_15 => absurd c_15 (by decide)) (fun _ => ?_)
  exact fiV hx hb hr hlk hK hP hD hS dX10_readIf_8 (Nat.le_of_ble_eq_true rfl) (Nat.le_of_ble_eq_true rfl) (⟨v_2, v_3, (iv_w b_12 (by decide)), bv_3, g_4, (PS_f b_12 (by decide)), (Int.le_refl _), (RX_f b_12 (by decide)), (fun q9 b9 h9 => by have h_1 := g_10 _ h9; exact RZ_cg ((congrFun (aoD_0 (tkX fz3 pz0_8)) _).trans (aoP_4 (Or.inl b9))) h_1), (fun q9 b9 h9 c9 => by have h_1 := g_10 _ h9; have z_1 := PZc_z (PZ_f (tkX fz3 pz0_8) (a := 4) (by decide) q9) c9; exact CDz_cg ((congrFun (aoD_0 (tkX fz3 pz0_8)) _).trans (aoP_4 (Or.inl b9))) z_1), rfl⟩)
theorem dX10_wordOf_0 : decode cX10_wordOf 0 = .ok (.iload_n 1, 1) := by decide +kernel
theorem dX10_wordOf_1 : decode cX10_wordOf 1 = .ok (.tableswitch 99 1 18 #[97, 87, 89, 95, 99, 99, 99, 99, 99, 99, 99, 99, 99, 99, 99, 99, 91, 93], 87) := by decide +kernel
theorem dX10_wordOf_98 : decode cX10_wordOf 98 = .ok (.iconst 5, 1) := by decide +kernel
theorem dX10_wordOf_99 : decode cX10_wordOf 99 = .ok (.ireturn, 1) := by decide +kernel
theorem dX10_wordOf_88 : decode cX10_wordOf 88 = .ok (.iconst 0, 1) := by decide +kernel
theorem dX10_wordOf_89 : decode cX10_wordOf 89 = .ok (.ireturn, 1) := by decide +kernel
theorem dX10_wordOf_90 : decode cX10_wordOf 90 = .ok (.iconst 1, 1) := by decide +kernel
theorem dX10_wordOf_91 : decode cX10_wordOf 91 = .ok (.ireturn, 1) := by decide +kernel
theorem dX10_wordOf_96 : decode cX10_wordOf 96 = .ok (.iconst 4, 1) := by decide +kernel
theorem dX10_wordOf_97 : decode cX10_wordOf 97 = .ok (.ireturn, 1) := by decide +kernel
theorem dX10_wordOf_100 : decode cX10_wordOf 100 = .ok (.iconst (-1), 1) := by decide +kernel
theorem dX10_wordOf_101 : decode cX10_wordOf 101 = .ok (.ireturn, 1) := by decide +kernel
theorem dX10_wordOf_92 : decode cX10_wordOf 92 = .ok (.iconst 2, 1) := by decide +kernel
theorem dX10_wordOf_93 : decode cX10_wordOf 93 = .ok (.ireturn, 1) := by decide +kernel
theorem dX10_wordOf_94 : decode cX10_wordOf 94 = .ok (.iconst 3, 1) := by decide +kernel
theorem dX10_wordOf_95 : decode cX10_wordOf 95 = .ok (.ireturn, 1) := by decide +kernel
set_option maxHeartbeats 4000000 in
set_option maxRecDepth 100000 in
theorem k_X10_wordOf_0 (l : Launch) (V : GV) (z : Nat → Nat) (a1 : Int32) : Ct l V yX10_wordOf (.code yX10_wordOf cX10_wordOf 2 (some .int)) 1 [.ref (z 0), .int a1] [] 0 0 (QI V (fun (r : Int32) (w : va_W) => iv (-1) 5 r ∧ r = woF a1 ∧ w = [])) := by
  refine Ct.of (by decide) (Nat.le_of_ble_eq_true rfl) (fun p e s m below meth c A ls hx hb hr hml hown hlk hnm hg hP hK hD hE hA hS hl => ?_)
  have hl : lv_has ls 2 [(0, .ref (z 0)), (1, .int a1)] := hl
  refine lv_iload_n hx hb dX10_wordOf_0 rfl (lv_at hl 1 rfl) ?_
  by_cases c_1 : a1 = 1
  · refine lv_tableIn (off := 97) (tgt := 98) hx hb dX10_wordOf_1 (by rw [c_1]; decide) (by rw [c_1]; decide) (by rw [c_1]; rfl) (by decide) ?_
    refine lv_iconst (v := 5) hx hb dX10_wordOf_98 (by decide) ?_
    exact fiI hx hb hr hlk hK hP hD hS dX10_wordOf_99 (Nat.le_of_ble_eq_true rfl) (Nat.le_of_ble_eq_true rfl) (⟨(iv_c (5 : Int32) (by decide)), (by rw [c_1]; decide), rfl⟩)
  · by_cases c_2 : a1 = 2
    · refine lv_tableIn (off := 87) (tgt := 88) hx hb dX10_wordOf_1 (by rw [c_2]; decide) (by rw [c_2]; decide) (by rw [c_2]; rfl) (by decide) ?_
      refine lv_iconst (v := 0) hx hb dX10_wordOf_88 (by decide) ?_
      exact fiI hx hb hr hlk hK hP hD hS dX10_wordOf_89 (Nat.le_of_ble_eq_true rfl) (Nat.le_of_ble_eq_true rfl) (⟨(iv_c (0 : Int32) (by decide)), (by rw [c_2]; decide), rfl⟩)
    · by_cases c_3 : a1 = 3
      · refine lv_tableIn (off := 89) (tgt := 90) hx hb dX10_wordOf_1 (by rw [c_3]; decide) (by rw [c_3]; decide) (by rw [c_3]; rfl) (by decide) ?_
        refine lv_iconst (v := 1) hx hb dX10_wordOf_90 (by decide) ?_
        exact fiI hx hb hr hlk hK hP hD hS dX10_wordOf_91 (Nat.le_of_ble_eq_true rfl) (Nat.le_of_ble_eq_true rfl) (⟨(iv_c (1 : Int32) (by decide)), (by rw [c_3]; decide), rfl⟩)
      · by_cases c_4 : a1 = 4
        · refine lv_tableIn (off := 95) (tgt := 96) hx hb dX10_wordOf_1 (by rw [c_4]; decide) (by rw [c_4]; decide) (by rw [c_4]; rfl) (by decide) ?_
          refine lv_iconst (v := 4) hx hb dX10_wordOf_96 (by decide) ?_
          exact fiI hx hb hr hlk hK hP hD hS dX10_wordOf_97 (Nat.le_of_ble_eq_true rfl) (Nat.le_of_ble_eq_true rfl) (⟨(iv_c (4 : Int32) (by decide)), (by rw [c_4]; decide), rfl⟩)
        · by_cases c_5 : a1 = 5
          · refine lv_tableIn (off := 99) (tgt := 100) hx hb dX10_wordOf_1 (by rw [c_5]; decide) (by rw [c_5]; decide) (by rw [c_5]; rfl) (by decide) ?_
            refine lv_iconst (v := (-1)) hx hb dX10_wordOf_100 (by decide) ?_
            exact fiI hx hb hr hlk hK hP hD hS dX10_wordOf_101 (Nat.le_of_ble_eq_true rfl) (Nat.le_of_ble_eq_true rfl) (⟨(iv_c ((-1) : Int32) (by decide)), (by rw [c_5]; decide), rfl⟩)
          · by_cases c_6 : a1 = 6
            · refine lv_tableIn (off := 99) (tgt := 100) hx hb dX10_wordOf_1 (by rw [c_6]; decide) (by rw [c_6]; decide) (by rw [c_6]; rfl) (by decide) ?_
              refine lv_iconst (v := (-1)) hx hb dX10_wordOf_100 (by decide) ?_
              exact fiI hx hb hr hlk hK hP hD hS dX10_wordOf_101 (Nat.le_of_ble_eq_true rfl) (Nat.le_of_ble_eq_true rfl) (⟨(iv_c ((-1) : Int32) (by decide)), (by rw [c_6]; decide), rfl⟩)
            · by_cases c_7 : a1 = 7
              · refine lv_tableIn (off := 99) (tgt := 100) hx hb dX10_wordOf_1 (by rw [c_7]; decide) (by rw [c_7]; decide) (by rw [c_7]; rfl) (by decide) ?_
                refine lv_iconst (v := (-1)) hx hb dX10_wordOf_100 (by decide) ?_
                exact fiI hx hb hr hlk hK hP hD hS dX10_wordOf_101 (Nat.le_of_ble_eq_true rfl) (Nat.le_of_ble_eq_true rfl) (⟨(iv_c ((-1) : Int32) (by decide)), (by rw [c_7]; decide), rfl⟩)
              · by_cases c_8 : a1 = 8
                · refine lv_tableIn (off := 99) (tgt := 100) hx hb dX10_wordOf_1 (by rw [c_8]; decide) (by rw [c_8]; decide) (by rw [c_8]; rfl) (by decide) ?_
                  refine lv_iconst (v := (-1)) hx hb dX10_wordOf_100 (by decide) ?_
                  exact fiI hx hb hr hlk hK hP hD hS dX10_wordOf_101 (Nat.le_of_ble_eq_true rfl) (Nat.le_of_ble_eq_true rfl) (⟨(iv_c ((-1) : Int32) (by decide)), (by rw [c_8]; decide), rfl⟩)
                · by_cases c_9 : a1 = 9
                  · refine lv_tableIn (off := 99) (tgt := 100) hx hb dX10_wordOf_1 (by rw [c_9]; decide) (by rw [c_9]; decide) (by rw [c_9]; rfl) (by decide) ?_
                    refine lv_iconst (v := (-1)) hx hb dX10_wordOf_100 (by decide) ?_
                    exact fiI hx hb hr hlk hK hP hD hS dX10_wordOf_101 (Nat.le_of_ble_eq_true rfl) (Nat.le_of_ble_eq_true rfl) (⟨(iv_c ((-1) : Int32) (by decide)), (by rw [c_9]; decide), rfl⟩)
                  · by_cases c_10 : a1 = 10
                    · refine lv_tableIn (off := 99) (tgt := 100) hx hb dX10_wordOf_1 (by rw [c_10]; decide) (by rw [c_10]; decide) (by rw [c_10]; rfl) (by decide) ?_
                      refine lv_iconst (v := (-1)) hx hb dX10_wordOf_100 (by decide) ?_
                      exact fiI hx hb hr hlk hK hP hD hS dX10_wordOf_101 (Nat.le_of_ble_eq_true rfl) (Nat.le_of_ble_eq_true rfl) (⟨(iv_c ((-1) : Int32) (by decide)), (by rw [c_10]; decide), rfl⟩)
                    · by_cases c_11 : a1 = 11
                      · refine lv_tableIn (off := 99) (tgt := 100) hx hb dX10_wordOf_1 (by rw [c_11]; decide) (by rw [c_11]; decide) (by rw [c_11]; rfl) (by decide) ?_
                        refine lv_iconst (v := (-1)) hx hb dX10_wordOf_100 (by decide) ?_
                        exact fiI hx hb hr hlk hK hP hD hS dX10_wordOf_101 (Nat.le_of_ble_eq_true rfl) (Nat.le_of_ble_eq_true rfl) (⟨(iv_c ((-1) : Int32) (by decide)), (by rw [c_11]; decide), rfl⟩)
                      · by_cases c_12 : a1 = 12
                        · refine lv_tableIn (off := 99) (tgt := 100) hx hb dX10_wordOf_1 (by rw [c_12]; decide) (by rw [c_12]; decide) (by rw [c_12]; rfl) (by decide) ?_
                          refine lv_iconst (v := (-1)) hx hb dX10_wordOf_100 (by decide) ?_
                          exact fiI hx hb hr hlk hK hP hD hS dX10_wordOf_101 (Nat.le_of_ble_eq_true rfl) (Nat.le_of_ble_eq_true rfl) (⟨(iv_c ((-1) : Int32) (by decide)), (by rw [c_12]; decide), rfl⟩)
                        · by_cases c_13 : a1 = 13
                          · refine lv_tableIn (off := 99) (tgt := 100) hx hb dX10_wordOf_1 (by rw [c_13]; decide) (by rw [c_13]; decide) (by rw [c_13]; rfl) (by decide) ?_
                            refine lv_iconst (v := (-1)) hx hb dX10_wordOf_100 (by decide) ?_
                            exact fiI hx hb hr hlk hK hP hD hS dX10_wordOf_101 (Nat.le_of_ble_eq_true rfl) (Nat.le_of_ble_eq_true rfl) (⟨(iv_c ((-1) : Int32) (by decide)), (by rw [c_13]; decide), rfl⟩)
                          · by_cases c_14 : a1 = 14
                            · refine lv_tableIn (off := 99) (tgt := 100) hx hb dX10_wordOf_1 (by rw [c_14]; decide) (by rw [c_14]; decide) (by rw [c_14]; rfl) (by decide) ?_
                              refine lv_iconst (v := (-1)) hx hb dX10_wordOf_100 (by decide) ?_
                              exact fiI hx hb hr hlk hK hP hD hS dX10_wordOf_101 (Nat.le_of_ble_eq_true rfl) (Nat.le_of_ble_eq_true rfl) (⟨(iv_c ((-1) : Int32) (by decide)), (by rw [c_14]; decide), rfl⟩)
                            · by_cases c_15 : a1 = 15
                              · refine lv_tableIn (off := 99) (tgt := 100) hx hb dX10_wordOf_1 (by rw [c_15]; decide) (by rw [c_15]; decide) (by rw [c_15]; rfl) (by decide) ?_
                                refine lv_iconst (v := (-1)) hx hb dX10_wordOf_100 (by decide) ?_
                                exact fiI hx hb hr hlk hK hP hD hS dX10_wordOf_101 (Nat.le_of_ble_eq_true rfl) (Nat.le_of_ble_eq_true rfl) (⟨(iv_c ((-1) : Int32) (by decide)), (by rw [c_15]; decide), rfl⟩)
                              · by_cases c_16 : a1 = 16
                                · refine lv_tableIn (off := 99) (tgt := 100) hx hb dX10_wordOf_1 (by rw [c_16]; decide) (by rw [c_16]; decide) (by rw [c_16]; rfl) (by decide) ?_
                                  refine lv_iconst (v := (-1)) hx hb dX10_wordOf_100 (by decide) ?_
                                  exact fiI hx hb hr hlk hK hP hD hS dX10_wordOf_101 (Nat.le_of_ble_eq_true rfl) (Nat.le_of_ble_eq_true rfl) (⟨(iv_c ((-1) : Int32) (by decide)), (by rw [c_16]; decide), rfl⟩)
                                · by_cases c_17 : a1 = 17
                                  · refine lv_tableIn (off := 91) (tgt := 92) hx hb dX10_wordOf_1 (by rw [c_17]; decide) (by rw [c_17]; decide) (by rw [c_17]; rfl) (by decide) ?_
                                    refine lv_iconst (v := 2) hx hb dX10_wordOf_92 (by decide) ?_
                                    exact fiI hx hb hr hlk hK hP hD hS dX10_wordOf_93 (Nat.le_of_ble_eq_true rfl) (Nat.le_of_ble_eq_true rfl) (⟨(iv_c (2 : Int32) (by decide)), (by rw [c_17]; decide), rfl⟩)
                                  · by_cases c_18 : a1 = 18
                                    · refine lv_tableIn (off := 93) (tgt := 94) hx hb dX10_wordOf_1 (by rw [c_18]; decide) (by rw [c_18]; decide) (by rw [c_18]; rfl) (by decide) ?_
                                      refine lv_iconst (v := 3) hx hb dX10_wordOf_94 (by decide) ?_
                                      exact fiI hx hb hr hlk hK hP hD hS dX10_wordOf_95 (Nat.le_of_ble_eq_true rfl) (Nat.le_of_ble_eq_true rfl) (⟨(iv_c (3 : Int32) (by decide)), (by rw [c_18]; decide), rfl⟩)
                                    · refine lv_tableOut (tgt := 100) hx hb dX10_wordOf_1 ((Int.lt_or_le a1.toInt 1).elim Or.inl (fun c_19 => Or.inr (by simp only [tI_eq, (by decide : (1 : Int32).toInt = 1), (by decide : (2 : Int32).toInt = 2), (by decide : (3 : Int32).toInt = 3), (by decide : (4 : Int32).toInt = 4), (by decide : (5 : Int32).toInt = 5), (by decide : (6 : Int32).toInt = 6), (by decide : (7 : Int32).toInt = 7), (by decide : (8 : Int32).toInt = 8), (by decide : (9 : Int32).toInt = 9), (by decide : (10 : Int32).toInt = 10), (by decide : (11 : Int32).toInt = 11), (by decide : (12 : Int32).toInt = 12), (by decide : (13 : Int32).toInt = 13), (by decide : (14 : Int32).toInt = 14), (by decide : (15 : Int32).toInt = 15), (by decide : (16 : Int32).toInt = 16), (by decide : (17 : Int32).toInt = 17), (by decide : (18 : Int32).toInt = 18)] at c_1 c_2 c_3 c_4 c_5 c_6 c_7 c_8 c_9 c_10 c_11 c_12 c_13 c_14 c_15 c_16 c_17 c_18; omega))) (by decide) ?_
                                      refine lv_iconst (v := (-1)) hx hb dX10_wordOf_100 (by decide) ?_
                                      exact fiI hx hb hr hlk hK hP hD hS dX10_wordOf_101 (Nat.le_of_ble_eq_true rfl) (Nat.le_of_ble_eq_true rfl) (⟨(iv_c ((-1) : Int32) (by decide)), (by unfold woF; rw [if_neg c_2, if_neg c_3, if_neg c_17, if_neg c_18, if_neg c_4, if_neg c_1]), rfl⟩)
theorem dX10_codes_0 : decode cX10_codes 0 = .ok (.aload_n 0, 1) := by decide +kernel
theorem dX10_codes_1 : decode cX10_codes 1 = .ok (.getfield 143, 3) := by decide +kernel
theorem dX10_codes_4 : decode cX10_codes 4 = .ok (.ifCond .eq 4, 3) := by decide +kernel
theorem dX10_codes_8 : decode cX10_codes 8 = .ok (.aload_n 0, 1) := by decide +kernel
theorem dX10_codes_9 : decode cX10_codes 9 = .ok (.getfield 24, 3) := by decide +kernel
theorem dX10_codes_12 : decode cX10_codes 12 = .ok (.bipush 125, 2) := by decide +kernel
theorem dX10_codes_14 : decode cX10_codes 14 = .ok (.aload_n 0, 1) := by decide +kernel
theorem dX10_codes_15 : decode cX10_codes 15 = .ok (.getfield 24, 3) := by decide +kernel
theorem dX10_codes_18 : decode cX10_codes 18 = .ok (.bipush 124, 2) := by decide +kernel
theorem dX10_codes_20 : decode cX10_codes 20 = .ok (.iaload, 1) := by decide +kernel
theorem dX10_codes_21 : decode cX10_codes 21 = .ok (.iadd, 1) := by decide +kernel
theorem dX10_codes_22 : decode cX10_codes 22 = .ok (.iload_n 1, 1) := by decide +kernel
theorem dX10_codes_23 : decode cX10_codes 23 = .ok (.iastore, 1) := by decide +kernel
theorem dX10_codes_24 : decode cX10_codes 24 = .ok (.aload_n 0, 1) := by decide +kernel
theorem dX10_codes_25 : decode cX10_codes 25 = .ok (.getfield 24, 3) := by decide +kernel
theorem dX10_codes_28 : decode cX10_codes 28 = .ok (.bipush 124, 2) := by decide +kernel
theorem dX10_codes_30 : decode cX10_codes 30 = .ok (.dup2, 1) := by decide +kernel
theorem dX10_codes_31 : decode cX10_codes 31 = .ok (.iaload, 1) := by decide +kernel
theorem dX10_codes_32 : decode cX10_codes 32 = .ok (.iconst 1, 1) := by decide +kernel
theorem dX10_codes_33 : decode cX10_codes 33 = .ok (.iadd, 1) := by decide +kernel
theorem dX10_codes_34 : decode cX10_codes 34 = .ok (.iastore, 1) := by decide +kernel
theorem dX10_codes_35 : decode cX10_codes 35 = .ok (.return_, 1) := by decide +kernel
theorem dX10_codes_7 : decode cX10_codes 7 = .ok (.return_, 1) := by decide +kernel
set_option maxHeartbeats 4000000 in
set_option maxRecDepth 100000 in
theorem k_X10_codes_0 (l : Launch) (V : GV) (z : Nat → Nat) (a1 : Int32) (fz4 : Nat → Int32) (pz0_0 : Int32) (pz0_5 : Int32) (pz0_6 : Int32) (pz0_7 : Int32) (pz0_8 : Int32) (pz0_9 : Int32) (pz0_10 : Int32) (pz0_11 : Int32) (pz0_12 : Int32) (pz0_13 : Int32) (pz0_14 : Int32) (pz0_18 : Int32) (pz0_19 : Int32) (pz0_22 : Int32) (pz0_23 : Int32) (pz0_29 : Int32) (tfz4 : ivT tF fz4) (bpz0_5 : iv 0 900 pz0_5) (bpz0_6 : iv 0 900 pz0_6) (bpz0_7 : iv 0 900 pz0_7) (bpz0_8 : iv 0 900 pz0_8) (bpz0_10 : iv 0 999 pz0_10) (bpz0_11 : iv 0 4 pz0_11) (bpz0_12 : iv 0 900 pz0_12) (bpz0_13 : iv 0 4 pz0_13) (bpz0_14 : iv (-1) 900 pz0_14) (bpz0_18 : iv 0 2 pz0_18) (bpz0_22 : iv 0 9999 pz0_22) (bpz0_29 : iv 0 10000 pz0_29) (hf0 : pz0_11 = 0 → (fz4 124).toInt ≤ 899) : Ct l V yX10_codes (.code yX10_codes cX10_codes 2 none) 1 [.ref (z 0), .int a1] [(z 4, aI V 1025 fz4), (z 0, .inr (10, mo z pz0_0 pz0_5 pz0_6 pz0_7 pz0_8 pz0_9 pz0_10 pz0_11 pz0_12 pz0_13 pz0_14 pz0_18 pz0_19 pz0_22 pz0_23 pz0_29))] 0 0 (QV V (fun (w : va_W) => ∃ (g0 : Nat → Int32), (ivT tF g0) ∧ (pz0_11 = 0 → g0 = cdF fz4 a1) ∧ (¬ pz0_11 = 0 → g0 = fz4) ∧ w = [(z 4, aI V 1025 g0), (z 0, .inr (10, mo z pz0_0 pz0_5 pz0_6 pz0_7 pz0_8 pz0_9 pz0_10 pz0_11 pz0_12 pz0_13 pz0_14 pz0_18 pz0_19 pz0_22 pz0_23 pz0_29))])) := by
  refine Ct.of (by decide) (Nat.le_of_ble_eq_true rfl) (fun p e s m below meth c A ls hx hb hr hml hown hlk hnm hg hP hK hD hE hA hS hl => ?_)
  have hl : lv_has ls 2 [(0, .ref (z 0)), (1, .int a1)] := hl
  refine lv_aload_n hx hb dX10_codes_0 rfl (lv_at hl 0 rfl) ?_
  refine va_get (ci := 10) (v := .int pz0_11) (C := RX10) (T := TX10) (N := 40) hx hb hg inX10 hown hK hP 1 rfl rfl 11 (by decide) (hg _ q_5_235) (fun _ h9 => h9) rfl dX10_codes_1 ?_
  refine lv_if_eq (tgt := 8) hx hb dX10_codes_4 (by decide) (fun c_1 => ?_) (fun c_1 => ?_)
  · have b_2 : iv 0 0 pz0_11 := iv_q c_1 (iv_c (0 : Int32) (a := 0) (b := 0) (by decide))
    refine lv_aload_n hx hb dX10_codes_8 rfl (lv_at hl 0 rfl) ?_
    refine va_get (ci := 10) (v := .ref (z 4)) (C := RX10) (T := TX10) (N := 40) hx hb hg inX10 hown hK hP 1 rfl rfl 4 (by decide) (hg _ q_5_228) (fun _ h9 => h9) rfl dX10_codes_9 ?_
    refine lv_bipush (v := 125) hx hb dX10_codes_12 (by decide) ?_
    refine lv_aload_n hx hb dX10_codes_14 rfl (lv_at hl 0 rfl) ?_
    refine va_get (ci := 10) (v := .ref (z 4)) (C := RX10) (T := TX10) (N := 40) hx hb hg inX10 hown hK hP 1 rfl rfl 4 (by decide) (hg _ q_5_228) (fun _ h9 => h9) rfl dX10_codes_15 ?_
    refine lv_bipush (v := 124) hx hb dX10_codes_18 (by decide) ?_
    refine va_iald hx hb hK hP 0 0 rfl rfl (vin (by decide +kernel)) dX10_codes_20 ?_
    refine lv_topi (fun x_3 ex_3 => ?_)
    have bx_3 : iv 0 900 x_3 := by rw [ex_3]; exact rdT (a := 124) (n := 1) tfz4 (iv_c (124 : Int32) (a := 124) (b := 124) (by decide)) (by decide) (by decide +kernel)
    have b_4 : iv 0 899 x_3 := by have q9 : (fz4 (124 : Int32).toNatClampNeg).toInt ≤ 899 := hf0 c_1; rw [← ex_3] at q9; have q8 := bx_3; unfold iv at *; omega
    refine lv_iadd hx hb dX10_codes_21 ?_
    refine lv_topi (fun x_5 ex_5 => ?_)
    have bx_5 : iv 125 1024 x_5 := by rw [ex_5]; exact iv_add (iv_c (125 : Int32) (a := 125) (b := 125) (by decide)) b_4 (by decide)
    refine lv_iload_n hx hb dX10_codes_22 rfl (lv_at hl 1 rfl) ?_
    refine va_iast hx hb hK hP hD hS 0 0 rfl rfl (iv_in bx_5 (by decide)) dX10_codes_23 (fun H locs hP hD hS => ?_)
    obtain ⟨f_6, ef_6, tf_6, hP, hD⟩ : ∃ f_6 : Nat → Int32, f_6 = (upd fz4 (x_5 : Int32).toNatClampNeg a1) ∧ (ivT tF f_6) ∧ va_P V.1 vwCl [(z 4, aI V 1025 f_6), (z 0, .inr (10, mo z pz0_0 pz0_5 pz0_6 pz0_7 pz0_8 pz0_9 pz0_10 pz0_11 pz0_12 pz0_13 pz0_14 pz0_18 pz0_19 pz0_22 pz0_23 pz0_29))] H ∧ va_D A [(z 4, aI V 1025 f_6), (z 0, .inr (10, mo z pz0_0 pz0_5 pz0_6 pz0_7 pz0_8 pz0_9 pz0_10 pz0_11 pz0_12 pz0_13 pz0_14 pz0_18 pz0_19 pz0_22 pz0_23 pz0_29))] := ⟨_, rfl, upT (lo := (-2147483648)) (hi := 2147483647) (a := 125) (n := 900) tfz4 bx_5 (by decide) (iv_top a1) (by decide +kernel), hP, hD⟩
    refine lv_aload_n hx hb dX10_codes_24 rfl (lv_at hl 0 rfl) ?_
    refine va_get (ci := 10) (v := .ref (z 4)) (C := RX10) (T := TX10) (N := 40) hx hb hg inX10 hown hK hP 1 rfl rfl 4 (by decide) (hg _ q_5_228) (fun _ h9 => h9) rfl dX10_codes_25 ?_
    refine lv_bipush (v := 124) hx hb dX10_codes_28 (by decide) ?_
    refine lv_dup2_11 hx hb dX10_codes_30 rfl rfl ?_
    refine va_iald hx hb hK hP 0 0 rfl rfl (vin (by decide +kernel)) dX10_codes_31 ?_
    refine tpi (y := x_3) ((show f_6 (124 : Int32).toNatClampNeg = fz4 (124 : Int32).toNatClampNeg from by rw [ef_6]; exact upd_ne (cl_ne (iv_c (124 : Int32) (a := 124) (b := 124) (by decide)) bx_5 (by decide))).trans ex_3.symm) ?_
    refine lv_iconst (v := 1) hx hb dX10_codes_32 (by decide) ?_
    refine lv_iadd hx hb dX10_codes_33 ?_
    refine lv_topi (fun x_7 ex_7 => ?_)
    have bx_7 : iv 1 900 x_7 := by rw [ex_7]; exact iv_add b_4 (iv_c (1 : Int32) (a := 1) (b := 1) (by decide)) (by decide)
    refine va_iast hx hb hK hP hD hS 0 0 rfl rfl (vin (by decide +kernel)) dX10_codes_34 (fun H locs hP hD hS => ?_)
    obtain ⟨f_8, ef_8, tf_8, hP, hD⟩ : ∃ f_8 : Nat → Int32, f_8 = (upd f_6 (124 : Int32).toNatClampNeg x_7) ∧ (ivT tF f_8) ∧ va_P V.1 vwCl [(z 4, aI V 1025 f_8), (z 0, .inr (10, mo z pz0_0 pz0_5 pz0_6 pz0_7 pz0_8 pz0_9 pz0_10 pz0_11 pz0_12 pz0_13 pz0_14 pz0_18 pz0_19 pz0_22 pz0_23 pz0_29))] H ∧ va_D A [(z 4, aI V 1025 f_8), (z 0, .inr (10, mo z pz0_0 pz0_5 pz0_6 pz0_7 pz0_8 pz0_9 pz0_10 pz0_11 pz0_12 pz0_13 pz0_14 pz0_18 pz0_19 pz0_22 pz0_23 pz0_29))] := ⟨_, rfl, upT (lo := 0) (hi := 900) (a := 124) (n := 1) tf_6 (iv_c (124 : Int32) (a := 124) (b := 124) (by decide)) (by decide) (iv_w bx_7 (by decide)) (by decide +kernel), hP, hD⟩
    exact fiV hx hb hr hlk hK hP hD hS dX10_codes_35 (Nat.le_of_ble_eq_true rfl) (Nat.le_of_ble_eq_true rfl) (⟨f_8, tf_8, (fun _ => by rw [ef_8, ef_6, ex_7, ex_5, ex_3]; rfl), (fun q9 => absurd c_1 q9), rfl⟩)
  · have b_9 : iv 1 4 pz0_11 := iv_n0 c_1 bpz0_11 (iv_c (0 : Int32) (a := 0) (b := 0) (by decide)) (by decide)
    exact fiV hx hb hr hlk hK hP hD hS dX10_codes_7 (Nat.le_of_ble_eq_true rfl) (Nat.le_of_ble_eq_true rfl) (⟨fz4, tfz4, (fun q9 => absurd q9 c_1), (fun _ => rfl), rfl⟩)
theorem dX10_readAtom_0 : decode cX10_readAtom 0 = .ok (.aload_n 0, 1) := by decide +kernel
theorem dX10_readAtom_1 : decode cX10_readAtom 1 = .ok (.bipush 23, 2) := by decide +kernel
theorem dX10_readAtom_3 : decode cX10_readAtom 3 = .ok (.invokevirtual 149, 3) := by decide +kernel
theorem dX10_readAtom_6 : decode cX10_readAtom 6 = .ok (.ifCond .eq 18, 3) := by decide +kernel
theorem dX10_readAtom_24 : decode cX10_readAtom 24 = .ok (.aload_n 0, 1) := by decide +kernel
theorem dX10_readAtom_25 : decode cX10_readAtom 25 = .ok (.getfield 143, 3) := by decide +kernel
theorem dX10_readAtom_28 : decode cX10_readAtom 28 = .ok (.ifCond .ne 38, 3) := by decide +kernel
theorem dX10_readAtom_66 : decode cX10_readAtom 66 = .ok (.aload_n 0, 1) := by decide +kernel
theorem dX10_readAtom_67 : decode cX10_readAtom 67 = .ok (.bipush 35, 2) := by decide +kernel
theorem dX10_readAtom_69 : decode cX10_readAtom 69 = .ok (.invokevirtual 149, 3) := by decide +kernel
theorem dX10_readAtom_72 : decode cX10_readAtom 72 = .ok (.ifCond .eq 36, 3) := by decide +kernel
theorem dX10_readAtom_108 : decode cX10_readAtom 108 = .ok (.aload_n 0, 1) := by decide +kernel
theorem dX10_readAtom_109 : decode cX10_readAtom 109 = .ok (.bipush 13, 2) := by decide +kernel
theorem dX10_readAtom_111 : decode cX10_readAtom 111 = .ok (.invokevirtual 149, 3) := by decide +kernel
theorem dX10_readAtom_114 : decode cX10_readAtom 114 = .ok (.ifCond .eq 11, 3) := by decide +kernel
theorem dX10_readAtom_125 : decode cX10_readAtom 125 = .ok (.aload_n 0, 1) := by decide +kernel
theorem dX10_readAtom_126 : decode cX10_readAtom 126 = .ok (.iconst 2, 1) := by decide +kernel
theorem dX10_readAtom_127 : decode cX10_readAtom 127 = .ok (.invokevirtual 155, 3) := by decide +kernel
theorem dX10_readAtom_130 : decode cX10_readAtom 130 = .ok (.return_, 1) := by decide +kernel
theorem dX10_readAtom_117 : decode cX10_readAtom 117 = .ok (.aload_n 0, 1) := by decide +kernel
theorem dX10_readAtom_118 : decode cX10_readAtom 118 = .ok (.iload_n 1, 1) := by decide +kernel
theorem q_6_214 : Cond.code yX10_readIf prog_12_method_20_code 2 none ∈ gw := gw_6 (i := 214) (rfl) rfl
theorem q_6_213 : Cond.instanceMethod yX10_readIf ∈ gw := gw_6 (i := 213) (by decide +kernel) rfl
theorem q_s_75 : Cond.selects "BeaconDelayModel" yX10_readIf yX10_readIf ∈ gw := gw_s (i := 75) (by decide +kernel) rfl
theorem mt_X10_readIf : MtV yX10_readIf cX10_readIf 2 none 1 := ⟨⟨q_6_214, q_1_9, by decide +kernel, by decide +kernel, by decide +kernel⟩, q_6_213, q_s_75⟩
theorem q_6_211 : Cond.methodLink "BeaconDelayModel" 178 yX10_readIf ∈ gw := gw_6 (i := 211) (by decide +kernel) rfl
theorem dX10_readAtom_119 : decode cX10_readAtom 119 = .ok (.invokevirtual 178, 3) := by decide +kernel
theorem dX10_readAtom_122 : decode cX10_readAtom 122 = .ok (.goto 8, 3) := by decide +kernel
theorem dX10_readAtom_75 : decode cX10_readAtom 75 = .ok (.aload_n 0, 1) := by decide +kernel
theorem dX10_readAtom_76 : decode cX10_readAtom 76 = .ok (.iload_n 1, 1) := by decide +kernel
theorem dX10_readAtom_77 : decode cX10_readAtom 77 = .ok (.invokevirtual 169, 3) := by decide +kernel
theorem dX10_readAtom_80 : decode cX10_readAtom 80 = .ok (.ifCond .ne 4, 3) := by decide +kernel
theorem dX10_readAtom_83 : decode cX10_readAtom 83 = .ok (.return_, 1) := by decide +kernel
theorem dX10_readAtom_31 : decode cX10_readAtom 31 = .ok (.aload_n 0, 1) := by decide +kernel
theorem dX10_readAtom_32 : decode cX10_readAtom 32 = .ok (.aload_n 0, 1) := by decide +kernel
theorem dX10_readAtom_33 : decode cX10_readAtom 33 = .ok (.getfield 125, 3) := by decide +kernel
theorem q_6_206 : Cond.code yX10_wordOf prog_12_method_16_code 2 (some FieldType.int) ∈ gw := gw_6 (i := 206) (rfl) rfl
theorem q_6_205 : Cond.instanceMethod yX10_wordOf ∈ gw := gw_6 (i := 205) (by decide +kernel) rfl
theorem q_s_73 : Cond.selects "BeaconDelayModel" yX10_wordOf yX10_wordOf ∈ gw := gw_s (i := 73) (by decide +kernel) rfl
theorem mt_X10_wordOf : MtV yX10_wordOf cX10_wordOf 2 (some .int) 1 := ⟨⟨q_6_206, q_1_9, by decide +kernel, by decide +kernel, by decide +kernel⟩, q_6_205, q_s_73⟩
theorem q_6_203 : Cond.methodLink "BeaconDelayModel" 166 yX10_wordOf ∈ gw := gw_6 (i := 203) (by decide +kernel) rfl
theorem dX10_readAtom_36 : decode cX10_readAtom 36 = .ok (.invokevirtual 166, 3) := by decide +kernel
theorem dX10_readAtom_39 : decode cX10_readAtom 39 = .ok (.iconst (-1), 1) := by decide +kernel
theorem dX10_readAtom_40 : decode cX10_readAtom 40 = .ok (.if_icmp .eq 26, 3) := by decide +kernel
theorem dX10_readAtom_43 : decode cX10_readAtom 43 = .ok (.aload_n 0, 1) := by decide +kernel
theorem dX10_readAtom_44 : decode cX10_readAtom 44 = .ok (.sipush 1000, 3) := by decide +kernel
theorem dX10_readAtom_47 : decode cX10_readAtom 47 = .ok (.aload_n 0, 1) := by decide +kernel
theorem dX10_readAtom_48 : decode cX10_readAtom 48 = .ok (.aload_n 0, 1) := by decide +kernel
theorem dX10_readAtom_49 : decode cX10_readAtom 49 = .ok (.getfield 125, 3) := by decide +kernel
theorem dX10_readAtom_52 : decode cX10_readAtom 52 = .ok (.invokevirtual 166, 3) := by decide +kernel
theorem dX10_readAtom_55 : decode cX10_readAtom 55 = .ok (.iadd, 1) := by decide +kernel
theorem q_6_202 : Cond.code yX10_codes prog_12_method_17_code 2 none ∈ gw := gw_6 (i := 202) (rfl) rfl
theorem q_6_201 : Cond.instanceMethod yX10_codes ∈ gw := gw_6 (i := 201) (by decide +kernel) rfl
theorem q_s_72 : Cond.selects "BeaconDelayModel" yX10_codes yX10_codes ∈ gw := gw_s (i := 72) (by decide +kernel) rfl
theorem mt_X10_codes : MtV yX10_codes cX10_codes 2 none 1 := ⟨⟨q_6_202, q_1_9, by decide +kernel, by decide +kernel, by decide +kernel⟩, q_6_201, q_s_72⟩
theorem q_6_199 : Cond.methodLink "BeaconDelayModel" 163 yX10_codes ∈ gw := gw_6 (i := 199) (by decide +kernel) rfl
theorem dX10_readAtom_56 : decode cX10_readAtom 56 = .ok (.invokevirtual 163, 3) := by decide +kernel
theorem dX10_readAtom_59 : decode cX10_readAtom 59 = .ok (.aload_n 0, 1) := by decide +kernel
theorem dX10_readAtom_60 : decode cX10_readAtom 60 = .ok (.invokevirtual 152, 3) := by decide +kernel
theorem dX10_readAtom_63 : decode cX10_readAtom 63 = .ok (.goto 67, 3) := by decide +kernel
theorem dX10_readAtom_9 : decode cX10_readAtom 9 = .ok (.aload_n 0, 1) := by decide +kernel
theorem dX10_readAtom_10 : decode cX10_readAtom 10 = .ok (.aload_n 0, 1) := by decide +kernel
theorem dX10_readAtom_11 : decode cX10_readAtom 11 = .ok (.getfield 138, 3) := by decide +kernel
theorem dX10_readAtom_14 : decode cX10_readAtom 14 = .ok (.invokevirtual 163, 3) := by decide +kernel
theorem dX10_readAtom_17 : decode cX10_readAtom 17 = .ok (.aload_n 0, 1) := by decide +kernel
theorem dX10_readAtom_18 : decode cX10_readAtom 18 = .ok (.invokevirtual 152, 3) := by decide +kernel
theorem dX10_readAtom_21 : decode cX10_readAtom 21 = .ok (.goto 109, 3) := by decide +kernel
set_option maxHeartbeats 4000000 in
set_option maxRecDepth 100000 in
theorem k_X10_readAtom_0 (l : Launch) (V : GV) (z : Nat → Nat) (fz4 : Nat → Int32) (fz3 : Nat → Int32) (pz0_0 : Int32) (pz0_5 : Int32) (pz0_6 : Int32) (pz0_7 : Int32) (pz0_8 : Int32) (pz0_9 : Int32) (pz0_10 : Int32) (pz0_11 : Int32) (pz0_12 : Int32) (pz0_13 : Int32) (pz0_14 : Int32) (pz0_18 : Int32) (pz0_19 : Int32) (pz0_22 : Int32) (pz0_23 : Int32) (pz0_29 : Int32) (tfz4 : ivT tF fz4) (tfz3 : ∀ j, iv 0 255 (fz3 j)) (bpz0_5 : iv 0 900 pz0_5) (bpz0_6 : iv 0 900 pz0_6) (bpz0_7 : iv 0 900 pz0_7) (bpz0_8 : iv 0 900 pz0_8) (bpz0_10 : iv 0 999 pz0_10) (bpz0_11 : iv 0 4 pz0_11) (bpz0_12 : iv 0 900 pz0_12) (bpz0_13 : iv 0 4 pz0_13) (bpz0_14 : iv (-1) 900 pz0_14) (bpz0_18 : iv 0 2 pz0_18) (bpz0_22 : iv 0 9999 pz0_22) (bpz0_29 : iv 0 10000 pz0_29) (hf0 : PT pz0_6 pz0_7 pz0_8 pz0_9) (hf1 : PS pz0_11 pz0_6 fz4) : Ct l V yX10_readAtom (.code yX10_readAtom cX10_readAtom 2 none) 7 [.ref (z 0), .int 6] [(z 4, aI V 1025 fz4), (z 3, aI V 900 fz3), (z 0, .inr (10, mo z pz0_0 pz0_5 pz0_6 pz0_7 pz0_8 pz0_9 pz0_10 pz0_11 pz0_12 pz0_13 pz0_14 pz0_18 pz0_19 pz0_22 pz0_23 pz0_29))] 0 0 (QV V (fun (w : va_W) => ∃ (g0 : Nat → Int32) (v1 : Int32) (v2 : Int32) (v3 : Int32) (v4 : Int32) (v5 : Int32) (v6 : Int32), (ivT tF g0) ∧ iv 0 900 v1 ∧ iv 0 900 v2 ∧ iv 0 999 v4 ∧ iv 0 4 v5 ∧ iv 0 900 v6 ∧ (PT v1 v2 pz0_8 v3) ∧ (PS v5 v1 g0) ∧ ((pz0_6 : Int32).toInt ≤ (v1 : Int32).toInt) ∧ (RX pz0_11 pz0_6 fz4 v5 v1 g0 1 0) ∧ (∀ q9 : Sg, RZ fz3 pz0_8 q9 pz0_11 pz0_12 pz0_9 pz0_6 pz0_7 pz0_10 → RZ fz3 pz0_8 (aoD (tkX fz3 pz0_8) 0 q9) v5 v6 v3 v1 v2 v4) ∧ (∀ q9 : Sg, RZ fz3 pz0_8 q9 pz0_11 pz0_12 pz0_9 pz0_6 pz0_7 pz0_10 → CDz q9 fz4 → CDz (aoD (tkX fz3 pz0_8) 0 q9) g0) ∧ w = [(z 4, aI V 1025 g0), (z 3, aI V 900 fz3), (z 0, .inr (10, mo z pz0_0 pz0_5 v1 v2 pz0_8 v3 v4 v5 v6 pz0_13 pz0_14 pz0_18 pz0_19 pz0_22 pz0_23 pz0_29))])) := by
  refine Ct.of (by decide) (Nat.le_of_ble_eq_true rfl) (fun p e s m below meth c A ls hx hb hr hml hown hlk hnm hg hP hK hD hE hA hS hl => ?_)
  have hl : lv_has ls 2 [(0, .ref (z 0)), (1, .int 6)] := hl
  refine lv_aload_n hx hb dX10_readAtom_0 rfl (lv_at hl 0 rfl) ?_
  refine lv_bipush (v := 23) hx hb dX10_readAtom_1 (by decide) ?_
  refine jnI (wr := [(z 4, aI V 1025 fz4), (z 3, aI V 900 fz3)]) (rnV (rest := []) ⟨hx, hb, hml, hown, hg⟩ (k_X10_is_2 l V z pz0_0 pz0_5 pz0_6 pz0_7 pz0_8 pz0_9 pz0_10 pz0_11 pz0_12 pz0_13 pz0_14 pz0_18 pz0_19 pz0_22 pz0_23 pz0_29 bpz0_5 bpz0_6 bpz0_7 bpz0_8 bpz0_10 bpz0_11 bpz0_12 bpz0_13 bpz0_14 bpz0_18 bpz0_22 bpz0_29) mt_X10_is q_6_143 ⟨Nat.le_of_ble_eq_true rfl, Nat.le_of_ble_eq_true rfl⟩ hK hP hD hS hA hE [2] rfl rfl 2 rfl rfl rfl rfl hl.1 rfl (Nat.le_of_ble_eq_true rfl) dX10_readAtom_3 ⟨Nat.le_of_ble_eq_true rfl, Nat.le_of_ble_eq_true rfl⟩) hP hD hS hA [2] [0, 1] rfl rfl rfl (by decide) (fun r_1 w H locs hw hP hD hS => ?_)
  obtain ⟨br_1, g_2, g_3, g_4, rfl⟩ := hw
  have hP : va_P V.1 vwCl [(z 4, aI V 1025 fz4), (z 3, aI V 900 fz3), (z 0, .inr (10, mo z pz0_0 pz0_5 pz0_6 pz0_7 pz0_8 pz0_9 pz0_10 pz0_11 pz0_12 pz0_13 pz0_14 pz0_18 pz0_19 pz0_22 pz0_23 pz0_29))] H := hP
  have hD := cpD hP hD
  refine lv_if_eq (tgt := 24) hx hb dX10_readAtom_6 (by decide) (fun c_5 => ?_) (fun c_5 => ?_)
  · have b_6 : iv 0 0 r_1 := iv_q c_5 (iv_c (0 : Int32) (a := 0) (b := 0) (by decide))
    refine lv_aload_n hx hb dX10_readAtom_24 rfl (lv_at hl 0 rfl) ?_
    refine va_get (ci := 10) (v := .int pz0_11) (C := RX10) (T := TX10) (N := 40) hx hb hg inX10 hown hK hP 2 rfl rfl 11 (by decide) (hg _ q_5_235) (fun _ h9 => h9) rfl dX10_readAtom_25 ?_
    refine lv_if_ne (tgt := 66) hx hb dX10_readAtom_28 (by decide) (fun c_7 => ?_) (fun c_7 => ?_)
    · have b_8 : iv 1 4 pz0_11 := iv_n0 c_7 bpz0_11 (iv_c (0 : Int32) (a := 0) (b := 0) (by decide)) (by decide)
      refine lv_aload_n hx hb dX10_readAtom_66 rfl (lv_at hl 0 rfl) ?_
      refine lv_bipush (v := 35) hx hb dX10_readAtom_67 (by decide) ?_
      refine jnI (wr := [(z 4, aI V 1025 fz4), (z 3, aI V 900 fz3)]) (rnV (rest := []) ⟨hx, hb, hml, hown, hg⟩ (k_X10_is_11 l V z pz0_0 pz0_5 pz0_6 pz0_7 pz0_8 pz0_9 pz0_10 pz0_11 pz0_12 pz0_13 pz0_14 pz0_18 pz0_19 pz0_22 pz0_23 pz0_29 bpz0_5 bpz0_6 bpz0_7 bpz0_8 bpz0_10 (iv_w b_8 (by decide)) bpz0_12 bpz0_13 bpz0_14 bpz0_18 bpz0_22 bpz0_29) mt_X10_is q_6_143 ⟨Nat.le_of_ble_eq_true rfl, Nat.le_of_ble_eq_true rfl⟩ hK hP hD hS hA hE [2] rfl rfl 2 rfl rfl rfl rfl hl.1 rfl (Nat.le_of_ble_eq_true rfl) dX10_readAtom_69 ⟨Nat.le_of_ble_eq_true rfl, Nat.le_of_ble_eq_true rfl⟩) hP hD hS hA [2] [0, 1] rfl rfl rfl (by decide) (fun r_9 w H locs hw hP hD hS => ?_)
      obtain ⟨br_9, g_10, g_11, g_12, rfl⟩ := hw
      have hP : va_P V.1 vwCl [(z 4, aI V 1025 fz4), (z 3, aI V 900 fz3), (z 0, .inr (10, mo z pz0_0 pz0_5 pz0_6 pz0_7 pz0_8 pz0_9 pz0_10 pz0_11 pz0_12 pz0_13 pz0_14 pz0_18 pz0_19 pz0_22 pz0_23 pz0_29))] H := hP
      have hD := cpD hP hD
      refine lv_if_eq (tgt := 108) hx hb dX10_readAtom_72 (by decide) (fun c_13 => ?_) (fun c_13 => ?_)
      · have b_14 : iv 0 0 r_9 := iv_q c_13 (iv_c (0 : Int32) (a := 0) (b := 0) (by decide))
        refine lv_aload_n hx hb dX10_readAtom_108 rfl (lv_at hl 0 rfl) ?_
        refine lv_bipush (v := 13) hx hb dX10_readAtom_109 (by decide) ?_
        refine jnI (wr := [(z 4, aI V 1025 fz4), (z 3, aI V 900 fz3)]) (rnV (rest := []) ⟨hx, hb, hml, hown, hg⟩ (k_X10_is_12 l V z pz0_0 pz0_5 pz0_6 pz0_7 pz0_8 pz0_9 pz0_10 pz0_11 pz0_12 pz0_13 pz0_14 pz0_18 pz0_19 pz0_22 pz0_23 pz0_29 bpz0_5 bpz0_6 bpz0_7 bpz0_8 bpz0_10 (iv_w b_8 (by decide)) bpz0_12 bpz0_13 bpz0_14 bpz0_18 bpz0_22 bpz0_29) mt_X10_is q_6_143 ⟨Nat.le_of_ble_eq_true rfl, Nat.le_of_ble_eq_true rfl⟩ hK hP hD hS hA hE [2] rfl rfl 2 rfl rfl rfl rfl hl.1 rfl (Nat.le_of_ble_eq_true rfl) dX10_readAtom_111 ⟨Nat.le_of_ble_eq_true rfl, Nat.le_of_ble_eq_true rfl⟩) hP hD hS hA [2] [0, 1] rfl rfl rfl (by decide) (fun r_15 w H locs hw hP hD hS => ?_)
        obtain ⟨br_15, g_16, g_17, g_18, rfl⟩ := hw
        have hP : va_P V.1 vwCl [(z 4, aI V 1025 fz4), (z 3, aI V 900 fz3), (z 0, .inr (10, mo z pz0_0 pz0_5 pz0_6 pz0_7 pz0_8 pz0_9 pz0_10 pz0_11 pz0_12 pz0_13 pz0_14 pz0_18 pz0_19 pz0_22 pz0_23 pz0_29))] H := hP
        have hD := cpD hP hD
        refine lv_if_eq (tgt := 125) hx hb dX10_readAtom_114 (by decide) (fun c_19 => ?_) (fun c_19 => ?_)
        · have b_20 : iv 0 0 r_15 := iv_q c_19 (iv_c (0 : Int32) (a := 0) (b := 0) (by decide))
          refine lv_aload_n hx hb dX10_readAtom_125 rfl (lv_at hl 0 rfl) ?_
          refine lv_iconst (v := 2) hx hb dX10_readAtom_126 (by decide) ?_
          refine jnV (wr := [(z 4, aI V 1025 fz4), (z 3, aI V 900 fz3)]) (rnV (rest := []) ⟨hx, hb, hml, hown, hg⟩ (k_X10_fails_0 l V z 2 pz0_0 pz0_5 pz0_6 pz0_7 pz0_8 pz0_9 pz0_10 pz0_11 pz0_12 pz0_13 pz0_14 pz0_18 pz0_19 pz0_22 pz0_23 pz0_29 (iv_c (2 : Int32) (by decide)) bpz0_5 bpz0_6 bpz0_7 bpz0_8 bpz0_10 (iv_w b_8 (by decide)) bpz0_12 bpz0_13 bpz0_14 bpz0_18 bpz0_22 bpz0_29) mt_X10_fails q_6_147 ⟨Nat.le_of_ble_eq_true rfl, Nat.le_of_ble_eq_true rfl⟩ hK hP hD hS hA hE [2] rfl rfl 2 rfl rfl rfl rfl hl.1 rfl (Nat.le_of_ble_eq_true rfl) dX10_readAtom_127 ⟨Nat.le_of_ble_eq_true rfl, Nat.le_of_ble_eq_true rfl⟩) hP hD hS hA [2] [0, 1] rfl rfl rfl (by decide) (fun  w H locs hw hP hD hS => ?_)
          obtain ⟨v_21, v_22, bv_21, bv_22, g_23, rfl⟩ := hw
          have hP : va_P V.1 vwCl [(z 4, aI V 1025 fz4), (z 3, aI V 900 fz3), (z 0, .inr (10, mo z pz0_0 pz0_5 pz0_6 pz0_7 pz0_8 pz0_9 pz0_10 v_21 v_22 pz0_13 pz0_14 pz0_18 pz0_19 pz0_22 pz0_23 pz0_29))] H := hP
          have hD := cpD hP hD
          have rx_24 : RX pz0_11 pz0_6 fz4 v_21 pz0_6 fz4 0 ((9 : Int)) := RX_f bv_21 (by decide)
          exact fiV hx hb hr hlk hK hP hD hS dX10_readAtom_130 (Nat.le_of_ble_eq_true rfl) (Nat.le_of_ble_eq_true rfl) (⟨fz4, pz0_6, pz0_7, pz0_9, pz0_10, v_21, v_22, tfz4, bpz0_6, bpz0_7, bpz0_10, (iv_w bv_21 (by decide)), bv_22, hf0, (PS_f bv_21 (by decide)), (Int.le_refl _), (RX_f bv_21 (by decide)), (fun q9 h9 => by have b_1 := RZ_i0 (k := 23) h9 (by decide) g_4 b_6; have b_2 := RZ_i0 (k := 35) h9 (by decide) g_12 b_14; have b_3 := RZ_i0 (k := 13) h9 (by decide) g_18 b_20; have h_4 := RZ_fl h9 g_23 (by decide); exact RZ_cg ((congrFun (aoD_0 (tkX fz3 pz0_8)) _).trans ((aoP_na b_1 b_3 b_2).trans (nw_0 h9 (Or.inl c_7)))) h_4), (fun q9 h9 c9 => by have b_1 := RZ_i0 (k := 23) h9 (by decide) g_4 b_6; have b_2 := RZ_i0 (k := 35) h9 (by decide) g_12 b_14; have b_3 := RZ_i0 (k := 13) h9 (by decide) g_18 b_20; have h_4 := RZ_fl h9 g_23 (by decide); have z_4 := PZc_z (PZ_f (tkX fz3 pz0_8) (a := (2 : Int32)) (by decide) q9) c9; exact CDz_cg ((congrFun (aoD_0 (tkX fz3 pz0_8)) _).trans ((aoP_na b_1 b_3 b_2).trans (nw_0 h9 (Or.inl c_7)))) z_4), rfl⟩)
        · have b_25 : iv 1 1 r_15 := iv_n0 c_19 br_15 (iv_c (0 : Int32) (a := 0) (b := 0) (by decide)) (by decide)
          have c_26 : pz0_11 = 0 := (g_16 (iv_eqp b_25 (iv_c (1 : Int32) (by decide))))
          have b_27 : iv 0 0 pz0_11 := iv_q c_26 (iv_c (0 : Int32) (a := 0) (b := 0) (by decide))
          have c_28 : pz0_9 = 13 := (g_17 (iv_eqp b_25 (iv_c (1 : Int32) (by decide))))
          have b_29 : iv 13 13 pz0_9 := iv_q c_28 (iv_c (13 : Int32) (a := 13) (b := 13) (by decide))
          refine lv_aload_n hx hb dX10_readAtom_117 rfl (lv_at hl 0 rfl) ?_
          refine lv_iload_n hx hb dX10_readAtom_118 rfl (lv_at hl 1 rfl) ?_
          refine jnV (wr := []) (rnV (rest := []) ⟨hx, hb, hml, hown, hg⟩ (k_X10_readIf_0 l V z fz4 fz3 pz0_0 pz0_5 pz0_6 pz0_7 pz0_8 pz0_9 pz0_10 pz0_11 pz0_12 pz0_13 pz0_14 pz0_18 pz0_19 pz0_22 pz0_23 pz0_29 tfz4 tfz3 bpz0_5 bpz0_6 bpz0_7 bpz0_8 bpz0_10 (iv_w b_27 (by decide)) bpz0_12 bpz0_13 bpz0_14 bpz0_18 bpz0_22 bpz0_29 hf0 hf1 c_28) mt_X10_readIf q_6_211 ⟨Nat.le_of_ble_eq_true rfl, Nat.le_of_ble_eq_true rfl⟩ hK hP hD hS hA hE [0, 1, 2] rfl rfl 2 rfl rfl rfl rfl hl.1 rfl (Nat.le_of_ble_eq_true rfl) dX10_readAtom_119 ⟨Nat.le_of_ble_eq_true rfl, Nat.le_of_ble_eq_true rfl⟩) hP hD hS hA [0, 1, 2] [] rfl rfl rfl (by decide) (fun  w H locs hw hP hD hS => ?_)
          obtain ⟨v_30, v_31, bv_30, bv_31, g_32, g_33, g_34, g_35, g_36, g_37, rfl⟩ := hw
          have hP : va_P V.1 vwCl [(z 4, aI V 1025 fz4), (z 3, aI V 900 fz3), (z 0, .inr (10, mo z pz0_0 pz0_5 pz0_6 pz0_7 pz0_8 pz0_9 pz0_10 v_30 v_31 pz0_13 pz0_14 pz0_18 pz0_19 pz0_22 pz0_23 pz0_29))] H := hP
          have hD := cpD hP hD
          have rx_38 : RX pz0_11 pz0_6 fz4 v_30 pz0_6 fz4 1 ((0 : Int)) := by have q9 := RX_seq (by decide) (RX_0 (w := pz0_11) (a := pz0_6) tfz4) g_35; exact RX_w q9 (by omega)
          refine lv_goto (tgt := 130) hx hb dX10_readAtom_122 (by decide) ?_
          exact fiV hx hb hr hlk hK hP hD hS dX10_readAtom_130 (Nat.le_of_ble_eq_true rfl) (Nat.le_of_ble_eq_true rfl) (⟨fz4, pz0_6, pz0_7, pz0_9, pz0_10, v_30, v_31, tfz4, bpz0_6, bpz0_7, bpz0_10, bv_30, bv_31, g_32, g_33, (Int.le_refl _), (RX_w rx_38 (by omega)), (fun q9 h9 => by have b_1 := RZ_i0 (k := 23) h9 (by decide) g_4 b_6; have b_2 := RZ_i0 (k := 35) h9 (by decide) g_12 b_14; have b_3 := RZ_i1 (k := 13) h9 (by decide) g_16 g_17 b_25; have h_4 := g_36 _ b_3 h9; exact h_4), (fun q9 h9 c9 => by have b_1 := RZ_i0 (k := 23) h9 (by decide) g_4 b_6; have b_2 := RZ_i0 (k := 35) h9 (by decide) g_12 b_14; have b_3 := RZ_i1 (k := 13) h9 (by decide) g_16 g_17 b_25; have h_4 := g_36 _ b_3 h9; have z_4 := g_37 _ b_3 h9 c9; exact z_4), rfl⟩)
      · have b_39 : iv 1 1 r_9 := iv_n0 c_13 br_9 (iv_c (0 : Int32) (a := 0) (b := 0) (by decide)) (by decide)
        have c_40 : pz0_11 = 0 := (g_10 (iv_eqp b_39 (iv_c (1 : Int32) (by decide))))
        have b_41 : iv 0 0 pz0_11 := iv_q c_40 (iv_c (0 : Int32) (a := 0) (b := 0) (by decide))
        have c_42 : pz0_9 = 35 := (g_11 (iv_eqp b_39 (iv_c (1 : Int32) (by decide))))
        have b_43 : iv 35 35 pz0_9 := iv_q c_42 (iv_c (35 : Int32) (a := 35) (b := 35) (by decide))
        refine lv_aload_n hx hb dX10_readAtom_75 rfl (lv_at hl 0 rfl) ?_
        refine lv_iload_n hx hb dX10_readAtom_76 rfl (lv_at hl 1 rfl) ?_
        refine jnI (wr := [(z 4, aI V 1025 fz4)]) (rnV (rest := []) ⟨hx, hb, hml, hown, hg⟩ (k_X10_goesIn_6 l V z fz3 pz0_0 pz0_5 pz0_6 pz0_7 pz0_8 pz0_9 pz0_10 pz0_11 pz0_12 pz0_13 pz0_14 pz0_18 pz0_19 pz0_22 pz0_23 pz0_29 tfz3 bpz0_5 bpz0_6 bpz0_7 bpz0_8 bpz0_10 (iv_w b_41 (by decide)) bpz0_12 bpz0_13 bpz0_14 bpz0_18 bpz0_22 bpz0_29 hf0) mt_X10_goesIn q_6_207 ⟨Nat.le_of_ble_eq_true rfl, Nat.le_of_ble_eq_true rfl⟩ hK hP hD hS hA hE [1, 2] rfl rfl 2 rfl rfl rfl rfl hl.1 rfl (Nat.le_of_ble_eq_true rfl) dX10_readAtom_77 ⟨Nat.le_of_ble_eq_true rfl, Nat.le_of_ble_eq_true rfl⟩) hP hD hS hA [1, 2] [0] rfl rfl rfl (by decide) (fun r_44 w H locs hw hP hD hS => ?_)
        obtain ⟨v_45, v_46, bv_45, bv_46, rfl, g_47, g_48, g_49, g_50, g_51, g_52, g_53, rfl⟩ := hw
        have hP : va_P V.1 vwCl [(z 4, aI V 1025 fz4), (z 3, aI V 900 fz3), (z 0, .inr (10, mo z pz0_0 pz0_5 pz0_6 pz0_7 pz0_8 pz0_9 pz0_10 v_45 v_46 pz0_13 pz0_14 pz0_18 pz0_19 pz0_22 pz0_23 pz0_29))] H := hP
        have hD := cpD hP hD
        have c_54 : ¬ v_45 = 0 := (g_52 rfl)
        have b_55 : iv 1 4 v_45 := iv_n0 c_54 bv_45 (iv_c (0 : Int32) (a := 0) (b := 0) (by decide)) (by decide)
        have rx_56 : RX pz0_11 pz0_6 fz4 v_45 pz0_6 fz4 0 ((9 : Int)) := RX_f b_55 (by decide)
        refine lv_if_ne (tgt := 84) hx hb dX10_readAtom_80 (by decide) (fun c_58 => absurd c_58 (by decide)) (fun _ => ?_)
        exact fiV hx hb hr hlk hK hP hD hS dX10_readAtom_83 (Nat.le_of_ble_eq_true rfl) (Nat.le_of_ble_eq_true rfl) (⟨fz4, pz0_6, pz0_7, pz0_9, pz0_10, v_45, v_46, tfz4, bpz0_6, bpz0_7, bpz0_10, (iv_w b_55 (by decide)), bv_46, g_47, (PS_f b_55 (by decide)), (Int.le_refl _), (RX_f b_55 (by decide)), (fun q9 h9 => by have b_1 := RZ_i0 (k := 23) h9 (by decide) g_4 b_6; have b_2 := RZ_i1 (k := 35) h9 (by decide) g_10 g_11 b_39; have h_3 := g_53 _ h9; exact RZ_cg ((congrFun (aoD_0 (tkX fz3 pz0_8)) _).trans (aoP_4 (Or.inr b_2))) h_3), (fun q9 h9 c9 => by have b_1 := RZ_i0 (k := 23) h9 (by decide) g_4 b_6; have b_2 := RZ_i1 (k := 35) h9 (by decide) g_10 g_11 b_39; have h_3 := g_53 _ h9; have z_3 := PZc_z (PZ_f (tkX fz3 pz0_8) (a := 4) (by decide) q9) c9; exact CDz_cg ((congrFun (aoD_0 (tkX fz3 pz0_8)) _).trans (aoP_4 (Or.inr b_2))) z_3), rfl⟩)
    · have b_59 : iv 0 0 pz0_11 := iv_q c_7 (iv_c (0 : Int32) (a := 0) (b := 0) (by decide))
      refine lv_aload_n hx hb dX10_readAtom_31 rfl (lv_at hl 0 rfl) ?_
      refine lv_aload_n hx hb dX10_readAtom_32 rfl (lv_at hl 0 rfl) ?_
      refine va_get (ci := 10) (v := .int pz0_9) (C := RX10) (T := TX10) (N := 40) hx hb hg inX10 hown hK hP 2 rfl rfl 9 (by decide) (hg _ q_5_233) (fun _ h9 => h9) rfl dX10_readAtom_33 ?_
      refine jnI (wr := [(z 4, aI V 1025 fz4), (z 3, aI V 900 fz3), (z 0, .inr (10, mo z pz0_0 pz0_5 pz0_6 pz0_7 pz0_8 pz0_9 pz0_10 pz0_11 pz0_12 pz0_13 pz0_14 pz0_18 pz0_19 pz0_22 pz0_23 pz0_29))]) (rnV (rest := []) ⟨hx, hb, hml, hown, hg⟩ (k_X10_wordOf_0 l V z pz0_9) mt_X10_wordOf q_6_203 ⟨Nat.le_of_ble_eq_true rfl, Nat.le_of_ble_eq_true rfl⟩ hK hP hD hS hA hE [] rfl rfl 2 rfl rfl rfl rfl hl.1 rfl (Nat.le_of_ble_eq_true rfl) dX10_readAtom_36 ⟨Nat.le_of_ble_eq_true rfl, Nat.le_of_ble_eq_true rfl⟩) hP hD hS hA [] [0, 1, 2] rfl rfl rfl (by decide) (fun r_60 w H locs hw hP hD hS => ?_)
      obtain ⟨br_60, er_60, rfl⟩ := hw
      have hP : va_P V.1 vwCl [(z 4, aI V 1025 fz4), (z 3, aI V 900 fz3), (z 0, .inr (10, mo z pz0_0 pz0_5 pz0_6 pz0_7 pz0_8 pz0_9 pz0_10 pz0_11 pz0_12 pz0_13 pz0_14 pz0_18 pz0_19 pz0_22 pz0_23 pz0_29))] H := hP
      have hD := cpD hP hD
      refine lv_iconst (v := (-1)) hx hb dX10_readAtom_39 (by decide) ?_
      refine lv_icmp_eq (tgt := 66) hx hb dX10_readAtom_40 (by decide) (fun c_61 => ?_) (fun c_61 => ?_)
      · have b_62 : iv (-1) (-1) r_60 := iv_q c_61 (iv_c ((-1) : Int32) (a := (-1)) (b := (-1)) (by decide))
        refine lv_aload_n hx hb dX10_readAtom_66 rfl (lv_at hl 0 rfl) ?_
        refine lv_bipush (v := 35) hx hb dX10_readAtom_67 (by decide) ?_
        refine jnI (wr := [(z 4, aI V 1025 fz4), (z 3, aI V 900 fz3)]) (rnV (rest := []) ⟨hx, hb, hml, hown, hg⟩ (k_X10_is_11 l V z pz0_0 pz0_5 pz0_6 pz0_7 pz0_8 pz0_9 pz0_10 pz0_11 pz0_12 pz0_13 pz0_14 pz0_18 pz0_19 pz0_22 pz0_23 pz0_29 bpz0_5 bpz0_6 bpz0_7 bpz0_8 bpz0_10 (iv_w b_59 (by decide)) bpz0_12 bpz0_13 bpz0_14 bpz0_18 bpz0_22 bpz0_29) mt_X10_is q_6_143 ⟨Nat.le_of_ble_eq_true rfl, Nat.le_of_ble_eq_true rfl⟩ hK hP hD hS hA hE [2] rfl rfl 2 rfl rfl rfl rfl hl.1 rfl (Nat.le_of_ble_eq_true rfl) dX10_readAtom_69 ⟨Nat.le_of_ble_eq_true rfl, Nat.le_of_ble_eq_true rfl⟩) hP hD hS hA [2] [0, 1] rfl rfl rfl (by decide) (fun r_63 w H locs hw hP hD hS => ?_)
        obtain ⟨br_63, g_64, g_65, g_66, rfl⟩ := hw
        have hP : va_P V.1 vwCl [(z 4, aI V 1025 fz4), (z 3, aI V 900 fz3), (z 0, .inr (10, mo z pz0_0 pz0_5 pz0_6 pz0_7 pz0_8 pz0_9 pz0_10 pz0_11 pz0_12 pz0_13 pz0_14 pz0_18 pz0_19 pz0_22 pz0_23 pz0_29))] H := hP
        have hD := cpD hP hD
        refine lv_if_eq (tgt := 108) hx hb dX10_readAtom_72 (by decide) (fun c_67 => ?_) (fun c_67 => ?_)
        · have b_68 : iv 0 0 r_63 := iv_q c_67 (iv_c (0 : Int32) (a := 0) (b := 0) (by decide))
          refine lv_aload_n hx hb dX10_readAtom_108 rfl (lv_at hl 0 rfl) ?_
          refine lv_bipush (v := 13) hx hb dX10_readAtom_109 (by decide) ?_
          refine jnI (wr := [(z 4, aI V 1025 fz4), (z 3, aI V 900 fz3)]) (rnV (rest := []) ⟨hx, hb, hml, hown, hg⟩ (k_X10_is_12 l V z pz0_0 pz0_5 pz0_6 pz0_7 pz0_8 pz0_9 pz0_10 pz0_11 pz0_12 pz0_13 pz0_14 pz0_18 pz0_19 pz0_22 pz0_23 pz0_29 bpz0_5 bpz0_6 bpz0_7 bpz0_8 bpz0_10 (iv_w b_59 (by decide)) bpz0_12 bpz0_13 bpz0_14 bpz0_18 bpz0_22 bpz0_29) mt_X10_is q_6_143 ⟨Nat.le_of_ble_eq_true rfl, Nat.le_of_ble_eq_true rfl⟩ hK hP hD hS hA hE [2] rfl rfl 2 rfl rfl rfl rfl hl.1 rfl (Nat.le_of_ble_eq_true rfl) dX10_readAtom_111 ⟨Nat.le_of_ble_eq_true rfl, Nat.le_of_ble_eq_true rfl⟩) hP hD hS hA [2] [0, 1] rfl rfl rfl (by decide) (fun r_69 w H locs hw hP hD hS => ?_)
          obtain ⟨br_69, g_70, g_71, g_72, rfl⟩ := hw
          have hP : va_P V.1 vwCl [(z 4, aI V 1025 fz4), (z 3, aI V 900 fz3), (z 0, .inr (10, mo z pz0_0 pz0_5 pz0_6 pz0_7 pz0_8 pz0_9 pz0_10 pz0_11 pz0_12 pz0_13 pz0_14 pz0_18 pz0_19 pz0_22 pz0_23 pz0_29))] H := hP
          have hD := cpD hP hD
          refine lv_if_eq (tgt := 125) hx hb dX10_readAtom_114 (by decide) (fun c_73 => ?_) (fun c_73 => ?_)
          · have b_74 : iv 0 0 r_69 := iv_q c_73 (iv_c (0 : Int32) (a := 0) (b := 0) (by decide))
            refine lv_aload_n hx hb dX10_readAtom_125 rfl (lv_at hl 0 rfl) ?_
            refine lv_iconst (v := 2) hx hb dX10_readAtom_126 (by decide) ?_
            refine jnV (wr := [(z 4, aI V 1025 fz4), (z 3, aI V 900 fz3)]) (rnV (rest := []) ⟨hx, hb, hml, hown, hg⟩ (k_X10_fails_0 l V z 2 pz0_0 pz0_5 pz0_6 pz0_7 pz0_8 pz0_9 pz0_10 pz0_11 pz0_12 pz0_13 pz0_14 pz0_18 pz0_19 pz0_22 pz0_23 pz0_29 (iv_c (2 : Int32) (by decide)) bpz0_5 bpz0_6 bpz0_7 bpz0_8 bpz0_10 (iv_w b_59 (by decide)) bpz0_12 bpz0_13 bpz0_14 bpz0_18 bpz0_22 bpz0_29) mt_X10_fails q_6_147 ⟨Nat.le_of_ble_eq_true rfl, Nat.le_of_ble_eq_true rfl⟩ hK hP hD hS hA hE [2] rfl rfl 2 rfl rfl rfl rfl hl.1 rfl (Nat.le_of_ble_eq_true rfl) dX10_readAtom_127 ⟨Nat.le_of_ble_eq_true rfl, Nat.le_of_ble_eq_true rfl⟩) hP hD hS hA [2] [0, 1] rfl rfl rfl (by decide) (fun  w H locs hw hP hD hS => ?_)
            obtain ⟨v_75, v_76, bv_75, bv_76, g_77, rfl⟩ := hw
            have hP : va_P V.1 vwCl [(z 4, aI V 1025 fz4), (z 3, aI V 900 fz3), (z 0, .inr (10, mo z pz0_0 pz0_5 pz0_6 pz0_7 pz0_8 pz0_9 pz0_10 v_75 v_76 pz0_13 pz0_14 pz0_18 pz0_19 pz0_22 pz0_23 pz0_29))] H := hP
            have hD := cpD hP hD
            have rx_78 : RX pz0_11 pz0_6 fz4 v_75 pz0_6 fz4 0 ((9 : Int)) := RX_f bv_75 (by decide)
            exact fiV hx hb hr hlk hK hP hD hS dX10_readAtom_130 (Nat.le_of_ble_eq_true rfl) (Nat.le_of_ble_eq_true rfl) (⟨fz4, pz0_6, pz0_7, pz0_9, pz0_10, v_75, v_76, tfz4, bpz0_6, bpz0_7, bpz0_10, (iv_w bv_75 (by decide)), bv_76, hf0, (PS_f bv_75 (by decide)), (Int.le_refl _), (RX_f bv_75 (by decide)), (fun q9 h9 => by have b_1 := RZ_i0 (k := 23) h9 (by decide) g_4 b_6; have b_2 := RZ_i0 (k := 35) h9 (by decide) g_66 b_68; have b_3 := RZ_i0 (k := 13) h9 (by decide) g_72 b_74; have h_4 := RZ_fl h9 g_77 (by decide); exact RZ_cg ((congrFun (aoD_0 (tkX fz3 pz0_8)) _).trans ((aoP_na b_1 b_3 b_2).trans (nw_0 h9 (Or.inr (by rw [← er_60]; exact c_61))))) h_4), (fun q9 h9 c9 => by have b_1 := RZ_i0 (k := 23) h9 (by decide) g_4 b_6; have b_2 := RZ_i0 (k := 35) h9 (by decide) g_66 b_68; have b_3 := RZ_i0 (k := 13) h9 (by decide) g_72 b_74; have h_4 := RZ_fl h9 g_77 (by decide); have z_4 := PZc_z (PZ_f (tkX fz3 pz0_8) (a := (2 : Int32)) (by decide) q9) c9; exact CDz_cg ((congrFun (aoD_0 (tkX fz3 pz0_8)) _).trans ((aoP_na b_1 b_3 b_2).trans (nw_0 h9 (Or.inr (by rw [← er_60]; exact c_61))))) z_4), rfl⟩)
          · have b_79 : iv 1 1 r_69 := iv_n0 c_73 br_69 (iv_c (0 : Int32) (a := 0) (b := 0) (by decide)) (by decide)
            have c_80 : pz0_11 = 0 := (g_70 (iv_eqp b_79 (iv_c (1 : Int32) (by decide))))
            have c_81 : pz0_9 = 13 := (g_71 (iv_eqp b_79 (iv_c (1 : Int32) (by decide))))
            have b_82 : iv 13 13 pz0_9 := iv_q c_81 (iv_c (13 : Int32) (a := 13) (b := 13) (by decide))
            refine lv_aload_n hx hb dX10_readAtom_117 rfl (lv_at hl 0 rfl) ?_
            refine lv_iload_n hx hb dX10_readAtom_118 rfl (lv_at hl 1 rfl) ?_
            refine jnV (wr := []) (rnV (rest := []) ⟨hx, hb, hml, hown, hg⟩ (k_X10_readIf_0 l V z fz4 fz3 pz0_0 pz0_5 pz0_6 pz0_7 pz0_8 pz0_9 pz0_10 pz0_11 pz0_12 pz0_13 pz0_14 pz0_18 pz0_19 pz0_22 pz0_23 pz0_29 tfz4 tfz3 bpz0_5 bpz0_6 bpz0_7 bpz0_8 bpz0_10 (iv_w b_59 (by decide)) bpz0_12 bpz0_13 bpz0_14 bpz0_18 bpz0_22 bpz0_29 hf0 hf1 c_81) mt_X10_readIf q_6_211 ⟨Nat.le_of_ble_eq_true rfl, Nat.le_of_ble_eq_true rfl⟩ hK hP hD hS hA hE [0, 1, 2] rfl rfl 2 rfl rfl rfl rfl hl.1 rfl (Nat.le_of_ble_eq_true rfl) dX10_readAtom_119 ⟨Nat.le_of_ble_eq_true rfl, Nat.le_of_ble_eq_true rfl⟩) hP hD hS hA [0, 1, 2] [] rfl rfl rfl (by decide) (fun  w H locs hw hP hD hS => ?_)
            obtain ⟨v_83, v_84, bv_83, bv_84, g_85, g_86, g_87, g_88, g_89, g_90, rfl⟩ := hw
            have hP : va_P V.1 vwCl [(z 4, aI V 1025 fz4), (z 3, aI V 900 fz3), (z 0, .inr (10, mo z pz0_0 pz0_5 pz0_6 pz0_7 pz0_8 pz0_9 pz0_10 v_83 v_84 pz0_13 pz0_14 pz0_18 pz0_19 pz0_22 pz0_23 pz0_29))] H := hP
            have hD := cpD hP hD
            have rx_91 : RX pz0_11 pz0_6 fz4 v_83 pz0_6 fz4 1 ((0 : Int)) := by have q9 := RX_seq (by decide) (RX_0 (w := pz0_11) (a := pz0_6) tfz4) g_88; exact RX_w q9 (by omega)
            refine lv_goto (tgt := 130) hx hb dX10_readAtom_122 (by decide) ?_
            exact fiV hx hb hr hlk hK hP hD hS dX10_readAtom_130 (Nat.le_of_ble_eq_true rfl) (Nat.le_of_ble_eq_true rfl) (⟨fz4, pz0_6, pz0_7, pz0_9, pz0_10, v_83, v_84, tfz4, bpz0_6, bpz0_7, bpz0_10, bv_83, bv_84, g_85, g_86, (Int.le_refl _), (RX_w rx_91 (by omega)), (fun q9 h9 => by have b_1 := RZ_i0 (k := 23) h9 (by decide) g_4 b_6; have b_2 := RZ_i0 (k := 35) h9 (by decide) g_66 b_68; have b_3 := RZ_i1 (k := 13) h9 (by decide) g_70 g_71 b_79; have h_4 := g_89 _ b_3 h9; exact h_4), (fun q9 h9 c9 => by have b_1 := RZ_i0 (k := 23) h9 (by decide) g_4 b_6; have b_2 := RZ_i0 (k := 35) h9 (by decide) g_66 b_68; have b_3 := RZ_i1 (k := 13) h9 (by decide) g_70 g_71 b_79; have h_4 := g_89 _ b_3 h9; have z_4 := g_90 _ b_3 h9 c9; exact z_4), rfl⟩)
        · have b_92 : iv 1 1 r_63 := iv_n0 c_67 br_63 (iv_c (0 : Int32) (a := 0) (b := 0) (by decide)) (by decide)
          have c_93 : pz0_11 = 0 := (g_64 (iv_eqp b_92 (iv_c (1 : Int32) (by decide))))
          have c_94 : pz0_9 = 35 := (g_65 (iv_eqp b_92 (iv_c (1 : Int32) (by decide))))
          have b_95 : iv 35 35 pz0_9 := iv_q c_94 (iv_c (35 : Int32) (a := 35) (b := 35) (by decide))
          refine lv_aload_n hx hb dX10_readAtom_75 rfl (lv_at hl 0 rfl) ?_
          refine lv_iload_n hx hb dX10_readAtom_76 rfl (lv_at hl 1 rfl) ?_
          refine jnI (wr := [(z 4, aI V 1025 fz4)]) (rnV (rest := []) ⟨hx, hb, hml, hown, hg⟩ (k_X10_goesIn_6 l V z fz3 pz0_0 pz0_5 pz0_6 pz0_7 pz0_8 pz0_9 pz0_10 pz0_11 pz0_12 pz0_13 pz0_14 pz0_18 pz0_19 pz0_22 pz0_23 pz0_29 tfz3 bpz0_5 bpz0_6 bpz0_7 bpz0_8 bpz0_10 (iv_w b_59 (by decide)) bpz0_12 bpz0_13 bpz0_14 bpz0_18 bpz0_22 bpz0_29 hf0) mt_X10_goesIn q_6_207 ⟨Nat.le_of_ble_eq_true rfl, Nat.le_of_ble_eq_true rfl⟩ hK hP hD hS hA hE [1, 2] rfl rfl 2 rfl rfl rfl rfl hl.1 rfl (Nat.le_of_ble_eq_true rfl) dX10_readAtom_77 ⟨Nat.le_of_ble_eq_true rfl, Nat.le_of_ble_eq_true rfl⟩) hP hD hS hA [1, 2] [0] rfl rfl rfl (by decide) (fun r_96 w H locs hw hP hD hS => ?_)
          obtain ⟨v_97, v_98, bv_97, bv_98, rfl, g_99, g_100, g_101, g_102, g_103, g_104, g_105, rfl⟩ := hw
          have hP : va_P V.1 vwCl [(z 4, aI V 1025 fz4), (z 3, aI V 900 fz3), (z 0, .inr (10, mo z pz0_0 pz0_5 pz0_6 pz0_7 pz0_8 pz0_9 pz0_10 v_97 v_98 pz0_13 pz0_14 pz0_18 pz0_19 pz0_22 pz0_23 pz0_29))] H := hP
          have hD := cpD hP hD
          have c_106 : ¬ v_97 = 0 := (g_104 rfl)
          have b_107 : iv 1 4 v_97 := iv_n0 c_106 bv_97 (iv_c (0 : Int32) (a := 0) (b := 0) (by decide)) (by decide)
          have rx_108 : RX pz0_11 pz0_6 fz4 v_97 pz0_6 fz4 0 ((9 : Int)) := RX_f b_107 (by decide)
          refine lv_if_ne (tgt := 84) hx hb dX10_readAtom_80 (by decide) (fun c_110 => absurd c_110 (by decide)) (fun _ => ?_)
          exact fiV hx hb hr hlk hK hP hD hS dX10_readAtom_83 (Nat.le_of_ble_eq_true rfl) (Nat.le_of_ble_eq_true rfl) (⟨fz4, pz0_6, pz0_7, pz0_9, pz0_10, v_97, v_98, tfz4, bpz0_6, bpz0_7, bpz0_10, (iv_w b_107 (by decide)), bv_98, g_99, (PS_f b_107 (by decide)), (Int.le_refl _), (RX_f b_107 (by decide)), (fun q9 h9 => by have b_1 := RZ_i0 (k := 23) h9 (by decide) g_4 b_6; have b_2 := RZ_i1 (k := 35) h9 (by decide) g_64 g_65 b_92; have h_3 := g_105 _ h9; exact RZ_cg ((congrFun (aoD_0 (tkX fz3 pz0_8)) _).trans (aoP_4 (Or.inr b_2))) h_3), (fun q9 h9 c9 => by have b_1 := RZ_i0 (k := 23) h9 (by decide) g_4 b_6; have b_2 := RZ_i1 (k := 35) h9 (by decide) g_64 g_65 b_92; have h_3 := g_105 _ h9; have z_3 := PZc_z (PZ_f (tkX fz3 pz0_8) (a := 4) (by decide) q9) c9; exact CDz_cg ((congrFun (aoD_0 (tkX fz3 pz0_8)) _).trans (aoP_4 (Or.inr b_2))) z_3), rfl⟩)
      · have b_111 : iv 0 5 r_60 := iv_n0 c_61 br_60 (iv_c ((-1) : Int32) (a := (-1)) (b := (-1)) (by decide)) (by decide)
        have b_112 : iv 0 899 pz0_6 := by have q9 := hf0; have q8 := q9.2.2 (fun q9 => c_61 (by rw [er_60, q9]; decide)); have q7 := q9.2.1; have q6 := bpz0_8; have q5 := bpz0_6; unfold iv at *; omega
        refine lv_aload_n hx hb dX10_readAtom_43 rfl (lv_at hl 0 rfl) ?_
        refine lv_sipush (v := 1000) hx hb dX10_readAtom_44 (by decide) ?_
        refine lv_aload_n hx hb dX10_readAtom_47 rfl (lv_at hl 0 rfl) ?_
        refine lv_aload_n hx hb dX10_readAtom_48 rfl (lv_at hl 0 rfl) ?_
        refine va_get (ci := 10) (v := .int pz0_9) (C := RX10) (T := TX10) (N := 40) hx hb hg inX10 hown hK hP 2 rfl rfl 9 (by decide) (hg _ q_5_233) (fun _ h9 => h9) rfl dX10_readAtom_49 ?_
        refine jnI (wr := [(z 4, aI V 1025 fz4), (z 3, aI V 900 fz3), (z 0, .inr (10, mo z pz0_0 pz0_5 pz0_6 pz0_7 pz0_8 pz0_9 pz0_10 pz0_11 pz0_12 pz0_13 pz0_14 pz0_18 pz0_19 pz0_22 pz0_23 pz0_29))]) (rnV (rest := [.int 1000, .ref (z 0)]) ⟨hx, hb, hml, hown, hg⟩ (k_X10_wordOf_0 l V z pz0_9) mt_X10_wordOf q_6_203 ⟨Nat.le_of_ble_eq_true rfl, Nat.le_of_ble_eq_true rfl⟩ hK hP hD hS hA hE [] rfl rfl 2 rfl rfl rfl rfl hl.1 rfl (Nat.le_of_ble_eq_true rfl) dX10_readAtom_52 ⟨Nat.le_of_ble_eq_true rfl, Nat.le_of_ble_eq_true rfl⟩) hP hD hS hA [] [0, 1, 2] rfl rfl rfl (by decide) (fun r_113 w H locs hw hP hD hS => ?_)
        obtain ⟨br_113, er_113, rfl⟩ := hw
        have e9_r_113 : r_113 = r_60 := er_113.trans er_60.symm
        rw [e9_r_113]
        have hP : va_P V.1 vwCl [(z 4, aI V 1025 fz4), (z 3, aI V 900 fz3), (z 0, .inr (10, mo z pz0_0 pz0_5 pz0_6 pz0_7 pz0_8 pz0_9 pz0_10 pz0_11 pz0_12 pz0_13 pz0_14 pz0_18 pz0_19 pz0_22 pz0_23 pz0_29))] H := hP
        have hD := cpD hP hD
        refine lv_iadd hx hb dX10_readAtom_55 ?_
        refine lv_topi (fun x_114 ex_114 => ?_)
        have bx_114 : iv 1000 1005 x_114 := by rw [ex_114]; exact iv_add (iv_c (1000 : Int32) (a := 1000) (b := 1000) (by decide)) b_111 (by decide)
        refine jnV (wr := [(z 3, aI V 900 fz3)]) (rnV (rest := []) ⟨hx, hb, hml, hown, hg⟩ (k_X10_codes_0 l V z x_114 fz4 pz0_0 pz0_5 pz0_6 pz0_7 pz0_8 pz0_9 pz0_10 pz0_11 pz0_12 pz0_13 pz0_14 pz0_18 pz0_19 pz0_22 pz0_23 pz0_29 tfz4 bpz0_5 (iv_w b_112 (by decide)) bpz0_7 bpz0_8 bpz0_10 (iv_w b_59 (by decide)) bpz0_12 bpz0_13 bpz0_14 bpz0_18 bpz0_22 bpz0_29 (PS_d hf1 b_112 (by decide))) mt_X10_codes q_6_199 ⟨Nat.le_of_ble_eq_true rfl, Nat.le_of_ble_eq_true rfl⟩ hK hP hD hS hA hE [0, 2] rfl rfl 2 rfl rfl rfl rfl hl.1 rfl (Nat.le_of_ble_eq_true rfl) dX10_readAtom_56 ⟨Nat.le_of_ble_eq_true rfl, Nat.le_of_ble_eq_true rfl⟩) hP hD hS hA [0, 2] [1] rfl rfl rfl (by decide) (fun  w H locs hw hP hD hS => ?_)
        obtain ⟨f_115, tf_115, g_116, g_117, rfl⟩ := hw
        have hP : va_P V.1 vwCl [(z 3, aI V 900 fz3), (z 4, aI V 1025 f_115), (z 0, .inr (10, mo z pz0_0 pz0_5 pz0_6 pz0_7 pz0_8 pz0_9 pz0_10 pz0_11 pz0_12 pz0_13 pz0_14 pz0_18 pz0_19 pz0_22 pz0_23 pz0_29))] H := hP
        have hD := cpD hP hD
        have rx_118 : RX pz0_11 pz0_6 fz4 pz0_11 pz0_6 f_115 1 ((-1 : Int)) := by have q9 := RX_c (RX_0 (w := pz0_11) (a := pz0_6) tfz4) tfz4 g_116 (by have q9 := bx_114; unfold iv at q9; unfold ned; rw [if_pos (by omega)]; decide) (by have q9 := bx_114; unfold iv at q9; unfold okc; omega) (by have q9 := bx_114; unfold iv at q9; omega) (PS_d hf1 b_112 (by decide)); rw [(show eff x_114 = 1 by have q9 := bx_114; unfold iv at q9; unfold eff; rw [if_pos (by omega)])] at q9; exact RX_w q9 (by omega)
        refine lv_aload_n hx hb dX10_readAtom_59 rfl (lv_at hl 0 rfl) ?_
        refine jnV (wr := [(z 4, aI V 1025 f_115)]) (rnV (rest := []) ⟨hx, hb, hml, hown, hg⟩ (k_X10_next_0 l V z pz0_0 pz0_5 pz0_6 pz0_7 pz0_8 pz0_9 pz0_10 pz0_11 pz0_12 pz0_13 pz0_14 pz0_18 pz0_19 pz0_22 pz0_23 pz0_29 fz3 bpz0_5 (iv_w b_112 (by decide)) bpz0_7 bpz0_8 bpz0_10 (iv_w b_59 (by decide)) bpz0_12 bpz0_13 bpz0_14 bpz0_18 bpz0_22 bpz0_29 tfz3 hf0.2.1) mt_X10_next q_6_117 ⟨Nat.le_of_ble_eq_true rfl, Nat.le_of_ble_eq_true rfl⟩ hK hP hD hS hA hE [2, 0] rfl rfl 2 rfl rfl rfl rfl hl.1 rfl (Nat.le_of_ble_eq_true rfl) dX10_readAtom_60 ⟨Nat.le_of_ble_eq_true rfl, Nat.le_of_ble_eq_true rfl⟩) hP hD hS hA [2, 0] [1] rfl rfl rfl (by decide) (fun  w H locs hw hP hD hS => ?_)
        obtain ⟨v_119, v_120, v_121, v_122, bv_119, bv_120, bv_122, g_123, g_124, g_125, rfl⟩ := hw
        have hP : va_P V.1 vwCl [(z 4, aI V 1025 f_115), (z 0, .inr (10, mo z pz0_0 pz0_5 v_119 v_120 pz0_8 v_121 v_122 pz0_11 pz0_12 pz0_13 pz0_14 pz0_18 pz0_19 pz0_22 pz0_23 pz0_29)), (z 3, aI V 900 fz3)] H := hP
        have hD := cpD hP hD
        have rx_126 : RX pz0_11 pz0_6 fz4 pz0_11 v_119 f_115 1 ((0 : Int)) := by have q9 := RX_a (a' := v_119) rx_118 (fun q8 => q8) (t := 1) (by have q9 := g_124; have q8 := hf0.2.2 (fun q9 => c_61 (by rw [er_60, q9]; decide)); omega); exact RX_w q9 (by omega)
        refine lv_goto (tgt := 130) hx hb dX10_readAtom_63 (by decide) ?_
        have hP := subP (ws' := [(z 4, aI V 1025 f_115), (z 3, aI V 900 fz3), (z 0, .inr (10, mo z pz0_0 pz0_5 v_119 v_120 pz0_8 v_121 v_122 pz0_11 pz0_12 pz0_13 pz0_14 pz0_18 pz0_19 pz0_22 pz0_23 pz0_29))]) hP [0, 2, 1] rfl
        have hD := subD hP hD [0, 2, 1] rfl rfl
        exact fiV hx hb hr hlk hK hP hD hS dX10_readAtom_130 (Nat.le_of_ble_eq_true rfl) (Nat.le_of_ble_eq_true rfl) (⟨f_115, v_119, v_120, v_121, v_122, pz0_11, pz0_12, tf_115, bv_119, bv_120, bv_122, (iv_w b_59 (by decide)), bpz0_12, g_123, (PS_x hf1 rx_126 (by omega)), (by have z_0 := g_124;have y_0 := hf0.1; have y_1 := g_123.1; omega), (RX_w rx_126 (by omega)), (fun q9 h9 => by have k8 : ¬ pz0_9 = 25 := fun z => c_61 (by rw [er_60, z]; decide); have w8 := RZ_k h9 c_7 k8; have b_1 := RZ_i0 (k := 23) h9 (by decide) g_4 b_6; have h_2 := RZ_pu (c := x_114) h9; have h_3 := RZ_nx bpz0_8.2 h_2 (pu_0 w8) g_125; exact RZ_cg ((congrFun (aoD_0 (tkX fz3 pz0_8)) _).trans (aoP_wo h9 w8 c_61 er_60 ex_114)) h_3), (fun q9 h9 c9 => by have k8 : ¬ pz0_9 = 25 := fun z => c_61 (by rw [er_60, z]; decide); have w8 := RZ_k h9 c_7 k8; have b_1 := RZ_i0 (k := 23) h9 (by decide) g_4 b_6; have h_2 := RZ_pu (c := x_114) h9; have h_3 := RZ_nx bpz0_8.2 h_2 (pu_0 w8) g_125; have z_2 := CDz_pu (c := x_114) h9 c9 g_116 rfl (PS_d hf1 b_112 (by decide)); have z_3 := PZc_z (PZ_n (tkX fz3 pz0_8) (puP x_114 q9)) z_2; exact CDz_cg ((congrFun (aoD_0 (tkX fz3 pz0_8)) _).trans (aoP_wo h9 w8 c_61 er_60 ex_114)) z_3), rfl⟩)
  · have b_127 : iv 1 1 r_1 := iv_n0 c_5 br_1 (iv_c (0 : Int32) (a := 0) (b := 0) (by decide)) (by decide)
    have c_128 : pz0_11 = 0 := (g_2 (iv_eqp b_127 (iv_c (1 : Int32) (by decide))))
    have b_129 : iv 0 0 pz0_11 := iv_q c_128 (iv_c (0 : Int32) (a := 0) (b := 0) (by decide))
    have c_130 : pz0_9 = 23 := (g_3 (iv_eqp b_127 (iv_c (1 : Int32) (by decide))))
    have b_131 : iv 23 23 pz0_9 := iv_q c_130 (iv_c (23 : Int32) (a := 23) (b := 23) (by decide))
    have b_132 : iv 0 899 pz0_6 := by have q9 := hf0; have q8 := q9.2.2 (by rw [c_130]; decide); have q7 := q9.2.1; have q6 := bpz0_8; have q5 := bpz0_6; unfold iv at *; omega
    refine lv_aload_n hx hb dX10_readAtom_9 rfl (lv_at hl 0 rfl) ?_
    refine lv_aload_n hx hb dX10_readAtom_10 rfl (lv_at hl 0 rfl) ?_
    refine va_get (ci := 10) (v := .int pz0_10) (C := RX10) (T := TX10) (N := 40) hx hb hg inX10 hown hK hP 2 rfl rfl 10 (by decide) (hg _ q_5_234) (fun _ h9 => h9) rfl dX10_readAtom_11 ?_
    refine jnV (wr := [(z 3, aI V 900 fz3)]) (rnV (rest := []) ⟨hx, hb, hml, hown, hg⟩ (k_X10_codes_0 l V z pz0_10 fz4 pz0_0 pz0_5 pz0_6 pz0_7 pz0_8 pz0_9 pz0_10 pz0_11 pz0_12 pz0_13 pz0_14 pz0_18 pz0_19 pz0_22 pz0_23 pz0_29 tfz4 bpz0_5 (iv_w b_132 (by decide)) bpz0_7 bpz0_8 bpz0_10 (iv_w b_129 (by decide)) bpz0_12 bpz0_13 bpz0_14 bpz0_18 bpz0_22 bpz0_29 (PS_d hf1 b_132 (by decide))) mt_X10_codes q_6_199 ⟨Nat.le_of_ble_eq_true rfl, Nat.le_of_ble_eq_true rfl⟩ hK hP hD hS hA hE [0, 2] rfl rfl 2 rfl rfl rfl rfl hl.1 rfl (Nat.le_of_ble_eq_true rfl) dX10_readAtom_14 ⟨Nat.le_of_ble_eq_true rfl, Nat.le_of_ble_eq_true rfl⟩) hP hD hS hA [0, 2] [1] rfl rfl rfl (by decide) (fun  w H locs hw hP hD hS => ?_)
    obtain ⟨f_133, tf_133, g_134, g_135, rfl⟩ := hw
    have hP : va_P V.1 vwCl [(z 3, aI V 900 fz3), (z 4, aI V 1025 f_133), (z 0, .inr (10, mo z pz0_0 pz0_5 pz0_6 pz0_7 pz0_8 pz0_9 pz0_10 pz0_11 pz0_12 pz0_13 pz0_14 pz0_18 pz0_19 pz0_22 pz0_23 pz0_29))] H := hP
    have hD := cpD hP hD
    have rx_136 : RX pz0_11 pz0_6 fz4 pz0_11 pz0_6 f_133 1 ((-1 : Int)) := by have q9 := RX_c (RX_0 (w := pz0_11) (a := pz0_6) tfz4) tfz4 g_134 (by have q9 := bpz0_10; unfold iv at q9; unfold ned; rw [if_pos (by omega)]; decide) (by have q9 := bpz0_10; unfold iv at q9; unfold okc; omega) (by have q9 := bpz0_10; unfold iv at q9; omega) (PS_d hf1 b_132 (by decide)); rw [(show eff pz0_10 = 1 by have q9 := bpz0_10; unfold iv at q9; unfold eff; rw [if_pos (by omega)])] at q9; exact RX_w q9 (by omega)
    refine lv_aload_n hx hb dX10_readAtom_17 rfl (lv_at hl 0 rfl) ?_
    refine jnV (wr := [(z 4, aI V 1025 f_133)]) (rnV (rest := []) ⟨hx, hb, hml, hown, hg⟩ (k_X10_next_0 l V z pz0_0 pz0_5 pz0_6 pz0_7 pz0_8 pz0_9 pz0_10 pz0_11 pz0_12 pz0_13 pz0_14 pz0_18 pz0_19 pz0_22 pz0_23 pz0_29 fz3 bpz0_5 (iv_w b_132 (by decide)) bpz0_7 bpz0_8 bpz0_10 (iv_w b_129 (by decide)) bpz0_12 bpz0_13 bpz0_14 bpz0_18 bpz0_22 bpz0_29 tfz3 hf0.2.1) mt_X10_next q_6_117 ⟨Nat.le_of_ble_eq_true rfl, Nat.le_of_ble_eq_true rfl⟩ hK hP hD hS hA hE [2, 0] rfl rfl 2 rfl rfl rfl rfl hl.1 rfl (Nat.le_of_ble_eq_true rfl) dX10_readAtom_18 ⟨Nat.le_of_ble_eq_true rfl, Nat.le_of_ble_eq_true rfl⟩) hP hD hS hA [2, 0] [1] rfl rfl rfl (by decide) (fun  w H locs hw hP hD hS => ?_)
    obtain ⟨v_137, v_138, v_139, v_140, bv_137, bv_138, bv_140, g_141, g_142, g_143, rfl⟩ := hw
    have hP : va_P V.1 vwCl [(z 4, aI V 1025 f_133), (z 0, .inr (10, mo z pz0_0 pz0_5 v_137 v_138 pz0_8 v_139 v_140 pz0_11 pz0_12 pz0_13 pz0_14 pz0_18 pz0_19 pz0_22 pz0_23 pz0_29)), (z 3, aI V 900 fz3)] H := hP
    have hD := cpD hP hD
    have rx_144 : RX pz0_11 pz0_6 fz4 pz0_11 v_137 f_133 1 ((0 : Int)) := by have q9 := RX_a (a' := v_137) rx_136 (fun q8 => q8) (t := 1) (by have q9 := g_142; have q8 := hf0.2.2 (by rw [c_130]; decide); omega); exact RX_w q9 (by omega)
    refine lv_goto (tgt := 130) hx hb dX10_readAtom_21 (by decide) ?_
    have hP := subP (ws' := [(z 4, aI V 1025 f_133), (z 3, aI V 900 fz3), (z 0, .inr (10, mo z pz0_0 pz0_5 v_137 v_138 pz0_8 v_139 v_140 pz0_11 pz0_12 pz0_13 pz0_14 pz0_18 pz0_19 pz0_22 pz0_23 pz0_29))]) hP [0, 2, 1] rfl
    have hD := subD hP hD [0, 2, 1] rfl rfl
    exact fiV hx hb hr hlk hK hP hD hS dX10_readAtom_130 (Nat.le_of_ble_eq_true rfl) (Nat.le_of_ble_eq_true rfl) (⟨f_133, v_137, v_138, v_139, v_140, pz0_11, pz0_12, tf_133, bv_137, bv_138, bv_140, (iv_w b_129 (by decide)), bpz0_12, g_141, (PS_x hf1 rx_144 (by omega)), (by have z_0 := g_142;have y_0 := hf0.1; have y_1 := g_141.1; omega), (RX_w rx_144 (by omega)), (fun q9 h9 => by have b_1 := RZ_i1 (k := 23) h9 (by decide) g_2 g_3 b_127; have h_2 := RZ_pu (c := ((tkX fz3 pz0_8) q9.2.2.1).2.2.2) h9; have h_3 := RZ_nx bpz0_8.2 h_2 (pu_0 (isQ_iff.mp b_1).1) g_143; exact RZ_cg ((congrFun (aoD_0 (tkX fz3 pz0_8)) _).trans (aoP_num b_1)) h_3), (fun q9 h9 c9 => by have b_1 := RZ_i1 (k := 23) h9 (by decide) g_2 g_3 b_127; have h_2 := RZ_pu (c := ((tkX fz3 pz0_8) q9.2.2.1).2.2.2) h9; have h_3 := RZ_nx bpz0_8.2 h_2 (pu_0 (isQ_iff.mp b_1).1) g_143; have z_2 := CDz_pu (c := ((tkX fz3 pz0_8) q9.2.2.1).2.2.2) h9 c9 g_134 (tz_v h9 b_1) (PS_d hf1 b_132 (by decide)); have z_3 := PZc_z (PZ_n (tkX fz3 pz0_8) (puP ((tkX fz3 pz0_8) q9.2.2.1).2.2.2 q9)) z_2; exact CDz_cg ((congrFun (aoD_0 (tkX fz3 pz0_8)) _).trans (aoP_num b_1)) z_3), rfl⟩)
