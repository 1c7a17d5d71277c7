set_option maxHeartbeats 4000000 in
set_option maxRecDepth 100000 in
theorem k_X10_is_22 (l : Launch) (V : GV) (z : Nat → Nat) (pz0_0 : Int32) (pz0_5 : Int32) (pz0_6 : Int32) (pz0_7 : Int32) (pz0_8 : Int32) (pz0_9 : Int32) (pz0_10 : Int32) (pz0_11 : Int32) (pz0_12 : Int32) (pz0_13 : Int32) (pz0_14 : Int32) (pz0_18 : Int32) (pz0_19 : Int32) (pz0_22 : Int32) (pz0_23 : Int32) (pz0_29 : Int32) (bpz0_5 : iv 0 900 pz0_5) (bpz0_6 : iv 0 900 pz0_6) (bpz0_7 : iv 0 900 pz0_7) (bpz0_8 : iv 0 900 pz0_8) (bpz0_10 : iv 0 999 pz0_10) (bpz0_11 : iv 0 4 pz0_11) (bpz0_12 : iv 0 900 pz0_12) (bpz0_13 : iv 0 4 pz0_13) (bpz0_14 : iv (-1) 900 pz0_14) (bpz0_18 : iv 0 2 pz0_18) (bpz0_22 : iv 0 9999 pz0_22) (bpz0_29 : iv 0 10000 pz0_29) : Ct l V yX10_is (.code yX10_is cX10_is 2 (some .boolean)) 1 [.ref (z 0), .int 15] [(z 0, .inr (10, mo z pz0_0 pz0_5 pz0_6 pz0_7 pz0_8 pz0_9 pz0_10 pz0_11 pz0_12 pz0_13 pz0_14 pz0_18 pz0_19 pz0_22 pz0_23 pz0_29))] 0 0 (QI V (fun (r : Int32) (w : va_W) => iv 0 1 r ∧ (r = 1 → pz0_11 = 0) ∧ (r = 1 → pz0_9 = (15 : Int32)) ∧ w = [(z 0, .inr (10, mo z pz0_0 pz0_5 pz0_6 pz0_7 pz0_8 pz0_9 pz0_10 pz0_11 pz0_12 pz0_13 pz0_14 pz0_18 pz0_19 pz0_22 pz0_23 pz0_29))])) := by
  refine Ct.of (by decide) (Nat.le_of_ble_eq_true rfl) (fun p e s m below meth c A ls hx hb hr hml hown hlk hnm hg hP hK hD hE hA hS hl => ?_)
  have hl : lv_has ls 2 [(0, .ref (z 0)), (1, .int 15)] := hl
  refine lv_aload_n hx hb dX10_is_0 rfl (lv_at hl 0 rfl) ?_
  refine va_get (ci := 10) (v := .int pz0_11) (C := RX10) (T := TX10) (N := 40) hx hb hg inX10 hown hK hP 0 rfl rfl 11 (by decide) (hg _ q_5_235) (fun _ h9 => h9) rfl dX10_is_1 ?_
  refine lv_if_ne (tgt := 19) hx hb dX10_is_4 (by decide) (fun c_1 => ?_) (fun c_1 => ?_)
  · have b_2 : iv 1 4 pz0_11 := iv_n0 c_1 bpz0_11 (iv_c (0 : Int32) (a := 0) (b := 0) (by decide)) (by decide)
    refine lv_iconst (v := 0) hx hb dX10_is_19 (by decide) ?_
    exact fiZ rfl hx hb hr hlk hK hP hD hS dX10_is_20 (Nat.le_of_ble_eq_true rfl) (Nat.le_of_ble_eq_true rfl) (⟨(iv_c (0 : Int32) (by decide)), (fun q9 => absurd q9 (by decide)), (fun q9 => absurd q9 (by decide)), rfl⟩)
  · have b_3 : iv 0 0 pz0_11 := iv_q c_1 (iv_c (0 : Int32) (a := 0) (b := 0) (by decide))
    refine lv_aload_n hx hb dX10_is_7 rfl (lv_at hl 0 rfl) ?_
    refine va_get (ci := 10) (v := .int pz0_9) (C := RX10) (T := TX10) (N := 40) hx hb hg inX10 hown hK hP 0 rfl rfl 9 (by decide) (hg _ q_5_233) (fun _ h9 => h9) rfl dX10_is_8 ?_
    refine lv_iload_n hx hb dX10_is_11 rfl (lv_at hl 1 rfl) ?_
    refine lv_icmp_ne (tgt := 19) hx hb dX10_is_12 (by decide) (fun c_4 => ?_) (fun c_4 => ?_)
    · refine lv_iconst (v := 0) hx hb dX10_is_19 (by decide) ?_
      exact fiZ rfl hx hb hr hlk hK hP hD hS dX10_is_20 (Nat.le_of_ble_eq_true rfl) (Nat.le_of_ble_eq_true rfl) (⟨(iv_c (0 : Int32) (by decide)), (fun q9 => absurd q9 (by decide)), (fun q9 => absurd q9 (by decide)), rfl⟩)
    · have b_5 : iv 15 15 pz0_9 := iv_q c_4 (iv_c (15 : Int32) (a := 15) (b := 15) (by decide))
      refine lv_iconst (v := 1) hx hb dX10_is_15 (by decide) ?_
      refine lv_goto (tgt := 20) hx hb dX10_is_16 (by decide) ?_
      exact fiZ rfl hx hb hr hlk hK hP hD hS dX10_is_20 (Nat.le_of_ble_eq_true rfl) (Nat.le_of_ble_eq_true rfl) (⟨(iv_c (1 : Int32) (by decide)), (fun _ => c_1), (fun _ => c_4), rfl⟩)
set_option maxHeartbeats 4000000 in
set_option maxRecDepth 100000 in
theorem k_X10_eats_8 (l : Launch) (V : GV) (z : Nat → Nat) (fz3 : Nat → Int32) (pz0_0 : Int32) (pz0_5 : Int32) (pz0_6 : Int32) (pz0_7 : Int32) (pz0_8 : Int32) (pz0_9 : Int32) (pz0_10 : Int32) (pz0_11 : Int32) (pz0_12 : Int32) (pz0_13 : Int32) (pz0_14 : Int32) (pz0_18 : Int32) (pz0_19 : Int32) (pz0_22 : Int32) (pz0_23 : Int32) (pz0_29 : Int32) (bpz0_5 : iv 0 900 pz0_5) (bpz0_6 : iv 0 900 pz0_6) (bpz0_7 : iv 0 900 pz0_7) (bpz0_8 : iv 0 900 pz0_8) (bpz0_10 : iv 0 999 pz0_10) (bpz0_11 : iv 0 4 pz0_11) (bpz0_12 : iv 0 900 pz0_12) (bpz0_13 : iv 0 4 pz0_13) (bpz0_14 : iv (-1) 900 pz0_14) (bpz0_18 : iv 0 2 pz0_18) (bpz0_22 : iv 0 9999 pz0_22) (bpz0_29 : iv 0 10000 pz0_29) (hf0 : PT pz0_6 pz0_7 pz0_8 pz0_9) : Ct l V yX10_eats (.code yX10_eats cX10_eats 2 (some .boolean)) 7 [.ref (z 0), .int 15] [(z 3, aI V 900 fz3), (z 0, .inr (10, mo z pz0_0 pz0_5 pz0_6 pz0_7 pz0_8 pz0_9 pz0_10 pz0_11 pz0_12 pz0_13 pz0_14 pz0_18 pz0_19 pz0_22 pz0_23 pz0_29))] 0 0 (QI V (fun (r : Int32) (w : va_W) => ∃ (v0 : Int32) (v1 : Int32) (v2 : Int32) (v3 : Int32), iv 0 900 v0 ∧ iv 0 900 v1 ∧ iv 0 999 v3 ∧ iv 0 1 r ∧ (PT v0 v1 pz0_8 v2) ∧ ((pz0_6 : Int32).toInt ≤ (v0 : Int32).toInt) ∧ (r = 1 → pz0_11 = 0) ∧ (r = 1 → (pz0_6 : Int32).toInt + 1 ≤ (v0 : Int32).toInt) ∧ w = [(z 3, aI V 900 fz3), (z 0, .inr (10, mo z pz0_0 pz0_5 v0 v1 pz0_8 v2 v3 pz0_11 pz0_12 pz0_13 pz0_14 pz0_18 pz0_19 pz0_22 pz0_23 pz0_29))])) := by
  refine Ct.of (by decide) (Nat.le_of_ble_eq_true rfl) (fun p e s m below meth c A ls hx hb hr hml hown hlk hnm hg hP hK hD hE hA hS hl => ?_)
  have hl : lv_has ls 2 [(0, .ref (z 0)), (1, .int 15)] := hl
  refine lv_aload_n hx hb dX10_eats_0 rfl (lv_at hl 0 rfl) ?_
  refine lv_iload_n hx hb dX10_eats_1 rfl (lv_at hl 1 rfl) ?_
  refine jnI (wr := [(z 3, aI V 900 fz3)]) (rnV (rest := []) ⟨hx, hb, hml, hown, hg⟩ (k_X10_is_22 l V z pz0_0 pz0_5 pz0_6 pz0_7 pz0_8 pz0_9 pz0_10 pz0_11 pz0_12 pz0_13 pz0_14 pz0_18 pz0_19 pz0_22 pz0_23 pz0_29 bpz0_5 bpz0_6 bpz0_7 bpz0_8 bpz0_10 bpz0_11 bpz0_12 bpz0_13 bpz0_14 bpz0_18 bpz0_22 bpz0_29) mt_X10_is q_6_143 ⟨Nat.le_of_ble_eq_true rfl, Nat.le_of_ble_eq_true rfl⟩ hK hP hD hS hA hE [1] rfl rfl 1 rfl rfl rfl rfl hl.1 rfl (Nat.le_of_ble_eq_true rfl) dX10_eats_2 ⟨Nat.le_of_ble_eq_true rfl, Nat.le_of_ble_eq_true rfl⟩) hP hD hS hA [1] [0] rfl rfl rfl (by decide) (fun r_1 w H locs hw hP hD hS => ?_)
  obtain ⟨br_1, g_2, g_3, rfl⟩ := hw
  have hP : va_P V.1 vwCl [(z 3, aI V 900 fz3), (z 0, .inr (10, mo z pz0_0 pz0_5 pz0_6 pz0_7 pz0_8 pz0_9 pz0_10 pz0_11 pz0_12 pz0_13 pz0_14 pz0_18 pz0_19 pz0_22 pz0_23 pz0_29))] H := hP
  have hD : va_D A [(z 3, aI V 900 fz3), (z 0, .inr (10, mo z pz0_0 pz0_5 pz0_6 pz0_7 pz0_8 pz0_9 pz0_10 pz0_11 pz0_12 pz0_13 pz0_14 pz0_18 pz0_19 pz0_22 pz0_23 pz0_29))] := hD
  refine lv_if_ne (tgt := 10) hx hb dX10_eats_5 (by decide) (fun c_4 => ?_) (fun c_4 => ?_)
  · have b_5 : iv 1 1 r_1 := iv_n0 c_4 br_1 (iv_c (0 : Int32) (a := 0) (b := 0) (by decide)) (by decide)
    have c_6 : pz0_11 = 0 := (g_2 (iv_eqp b_5 (iv_c (1 : Int32) (by decide))))
    have b_7 : iv 0 0 pz0_11 := iv_q c_6 (iv_c (0 : Int32) (a := 0) (b := 0) (by decide))
    have c_8 : pz0_9 = 15 := (g_3 (iv_eqp b_5 (iv_c (1 : Int32) (by decide))))
    have b_9 : iv 15 15 pz0_9 := iv_q c_8 (iv_c (15 : Int32) (a := 15) (b := 15) (by decide))
    refine lv_aload_n hx hb dX10_eats_10 rfl (lv_at hl 0 rfl) ?_
    refine jnV (wr := []) (rnV (rest := []) ⟨hx, hb, hml, hown, hg⟩ (k_X10_next_0 l V z pz0_0 pz0_5 pz0_6 pz0_7 pz0_8 pz0_9 pz0_10 pz0_11 pz0_12 pz0_13 pz0_14 pz0_18 pz0_19 pz0_22 pz0_23 pz0_29 fz3 bpz0_5 bpz0_6 bpz0_7 bpz0_8 bpz0_10 (iv_w b_7 (by decide)) bpz0_12 bpz0_13 bpz0_14 bpz0_18 bpz0_22 bpz0_29 hf0.2.1) mt_X10_next q_6_117 ⟨Nat.le_of_ble_eq_true rfl, Nat.le_of_ble_eq_true rfl⟩ hK hP hD hS hA hE [1, 0] rfl rfl 1 rfl rfl rfl rfl hl.1 rfl (Nat.le_of_ble_eq_true rfl) dX10_eats_11 ⟨Nat.le_of_ble_eq_true rfl, Nat.le_of_ble_eq_true rfl⟩) hP hD hS hA [1, 0] [] rfl rfl rfl (by decide) (fun  w H locs hw hP hD hS => ?_)
    obtain ⟨v_10, v_11, v_12, v_13, bv_10, bv_11, bv_13, g_14, g_15, rfl⟩ := hw
    have hP : va_P V.1 vwCl [(z 0, .inr (10, mo z pz0_0 pz0_5 v_10 v_11 pz0_8 v_12 v_13 pz0_11 pz0_12 pz0_13 pz0_14 pz0_18 pz0_19 pz0_22 pz0_23 pz0_29)), (z 3, aI V 900 fz3)] H := hP
    have hD : va_D A [(z 0, .inr (10, mo z pz0_0 pz0_5 v_10 v_11 pz0_8 v_12 v_13 pz0_11 pz0_12 pz0_13 pz0_14 pz0_18 pz0_19 pz0_22 pz0_23 pz0_29)), (z 3, aI V 900 fz3)] := hD
    refine lv_iconst (v := 1) hx hb dX10_eats_14 (by decide) ?_
    have hP := subP (ws' := [(z 3, aI V 900 fz3), (z 0, .inr (10, mo z pz0_0 pz0_5 v_10 v_11 pz0_8 v_12 v_13 pz0_11 pz0_12 pz0_13 pz0_14 pz0_18 pz0_19 pz0_22 pz0_23 pz0_29))]) hP [1, 0] rfl
    have hD := hD.sub (ws' := [(z 3, aI V 900 fz3), (z 0, .inr (10, mo z pz0_0 pz0_5 v_10 v_11 pz0_8 v_12 v_13 pz0_11 pz0_12 pz0_13 pz0_14 pz0_18 pz0_19 pz0_22 pz0_23 pz0_29))]) [1, 0] rfl rfl
    exact fiZ rfl hx hb hr hlk hK hP hD hS dX10_eats_15 (Nat.le_of_ble_eq_true rfl) (Nat.le_of_ble_eq_true rfl) (⟨v_10, v_11, v_12, v_13, bv_10, bv_11, bv_13, (iv_c (1 : Int32) (by decide)), g_14, (by have q9 := g_15; have q8 := hf0.1; omega), (fun _ => iv_eqp b_7 (iv_c (0 : Int32) (by decide))), (fun _ => by have q9 := g_15; have q8 := hf0.2.2 (by rw [c_8]; decide); omega), rfl⟩)
  · have b_16 : iv 0 0 r_1 := iv_q c_4 (iv_c (0 : Int32) (a := 0) (b := 0) (by decide))
    refine lv_iconst (v := 0) hx hb dX10_eats_8 (by decide) ?_
    exact fiZ rfl hx hb hr hlk hK hP hD hS dX10_eats_9 (Nat.le_of_ble_eq_true rfl) (Nat.le_of_ble_eq_true rfl) (⟨pz0_6, pz0_7, pz0_9, pz0_10, bpz0_6, bpz0_7, bpz0_10, (iv_c (0 : Int32) (by decide)), hf0, (Int.le_refl _), (fun q9 => absurd q9 (by decide)), (fun q9 => absurd q9 (by decide)), rfl⟩)
set_option maxHeartbeats 4000000 in
set_option maxRecDepth 100000 in
theorem k_X10_is_23 (l : Launch) (V : GV) (z : Nat → Nat) (pz0_0 : Int32) (pz0_5 : Int32) (pz0_6 : Int32) (pz0_7 : Int32) (pz0_8 : Int32) (pz0_9 : Int32) (pz0_10 : Int32) (pz0_11 : Int32) (pz0_12 : Int32) (pz0_13 : Int32) (pz0_14 : Int32) (pz0_18 : Int32) (pz0_19 : Int32) (pz0_22 : Int32) (pz0_23 : Int32) (pz0_29 : Int32) (bpz0_5 : iv 0 900 pz0_5) (bpz0_6 : iv 0 900 pz0_6) (bpz0_7 : iv 0 900 pz0_7) (bpz0_8 : iv 0 900 pz0_8) (bpz0_10 : iv 0 999 pz0_10) (bpz0_11 : iv 0 4 pz0_11) (bpz0_12 : iv 0 900 pz0_12) (bpz0_13 : iv 0 4 pz0_13) (bpz0_14 : iv (-1) 900 pz0_14) (bpz0_18 : iv 0 2 pz0_18) (bpz0_22 : iv 0 9999 pz0_22) (bpz0_29 : iv 0 10000 pz0_29) : Ct l V yX10_is (.code yX10_is cX10_is 2 (some .boolean)) 1 [.ref (z 0), .int 16] [(z 0, .inr (10, mo z pz0_0 pz0_5 pz0_6 pz0_7 pz0_8 pz0_9 pz0_10 pz0_11 pz0_12 pz0_13 pz0_14 pz0_18 pz0_19 pz0_22 pz0_23 pz0_29))] 0 0 (QI V (fun (r : Int32) (w : va_W) => iv 0 1 r ∧ (r = 1 → pz0_11 = 0) ∧ (r = 1 → pz0_9 = (16 : Int32)) ∧ w = [(z 0, .inr (10, mo z pz0_0 pz0_5 pz0_6 pz0_7 pz0_8 pz0_9 pz0_10 pz0_11 pz0_12 pz0_13 pz0_14 pz0_18 pz0_19 pz0_22 pz0_23 pz0_29))])) := by
  refine Ct.of (by decide) (Nat.le_of_ble_eq_true rfl) (fun p e s m below meth c A ls hx hb hr hml hown hlk hnm hg hP hK hD hE hA hS hl => ?_)
  have hl : lv_has ls 2 [(0, .ref (z 0)), (1, .int 16)] := hl
  refine lv_aload_n hx hb dX10_is_0 rfl (lv_at hl 0 rfl) ?_
  refine va_get (ci := 10) (v := .int pz0_11) (C := RX10) (T := TX10) (N := 40) hx hb hg inX10 hown hK hP 0 rfl rfl 11 (by decide) (hg _ q_5_235) (fun _ h9 => h9) rfl dX10_is_1 ?_
  refine lv_if_ne (tgt := 19) hx hb dX10_is_4 (by decide) (fun c_1 => ?_) (fun c_1 => ?_)
  · have b_2 : iv 1 4 pz0_11 := iv_n0 c_1 bpz0_11 (iv_c (0 : Int32) (a := 0) (b := 0) (by decide)) (by decide)
    refine lv_iconst (v := 0) hx hb dX10_is_19 (by decide) ?_
    exact fiZ rfl hx hb hr hlk hK hP hD hS dX10_is_20 (Nat.le_of_ble_eq_true rfl) (Nat.le_of_ble_eq_true rfl) (⟨(iv_c (0 : Int32) (by decide)), (fun q9 => absurd q9 (by decide)), (fun q9 => absurd q9 (by decide)), rfl⟩)
  · have b_3 : iv 0 0 pz0_11 := iv_q c_1 (iv_c (0 : Int32) (a := 0) (b := 0) (by decide))
    refine lv_aload_n hx hb dX10_is_7 rfl (lv_at hl 0 rfl) ?_
    refine va_get (ci := 10) (v := .int pz0_9) (C := RX10) (T := TX10) (N := 40) hx hb hg inX10 hown hK hP 0 rfl rfl 9 (by decide) (hg _ q_5_233) (fun _ h9 => h9) rfl dX10_is_8 ?_
    refine lv_iload_n hx hb dX10_is_11 rfl (lv_at hl 1 rfl) ?_
    refine lv_icmp_ne (tgt := 19) hx hb dX10_is_12 (by decide) (fun c_4 => ?_) (fun c_4 => ?_)
    · refine lv_iconst (v := 0) hx hb dX10_is_19 (by decide) ?_
      exact fiZ rfl hx hb hr hlk hK hP hD hS dX10_is_20 (Nat.le_of_ble_eq_true rfl) (Nat.le_of_ble_eq_true rfl) (⟨(iv_c (0 : Int32) (by decide)), (fun q9 => absurd q9 (by decide)), (fun q9 => absurd q9 (by decide)), rfl⟩)
    · have b_5 : iv 16 16 pz0_9 := iv_q c_4 (iv_c (16 : Int32) (a := 16) (b := 16) (by decide))
      refine lv_iconst (v := 1) hx hb dX10_is_15 (by decide) ?_
      refine lv_goto (tgt := 20) hx hb dX10_is_16 (by decide) ?_
      exact fiZ rfl hx hb hr hlk hK hP hD hS dX10_is_20 (Nat.le_of_ble_eq_true rfl) (Nat.le_of_ble_eq_true rfl) (⟨(iv_c (1 : Int32) (by decide)), (fun _ => c_1), (fun _ => c_4), rfl⟩)
set_option maxHeartbeats 4000000 in
set_option maxRecDepth 100000 in
theorem k_X10_eats_9 (l : Launch) (V : GV) (z : Nat → Nat) (fz3 : Nat → Int32) (pz0_0 : Int32) (pz0_5 : Int32) (pz0_6 : Int32) (pz0_7 : Int32) (pz0_8 : Int32) (pz0_9 : Int32) (pz0_10 : Int32) (pz0_11 : Int32) (pz0_12 : Int32) (pz0_13 : Int32) (pz0_14 : Int32) (pz0_18 : Int32) (pz0_19 : Int32) (pz0_22 : Int32) (pz0_23 : Int32) (pz0_29 : Int32) (bpz0_5 : iv 0 900 pz0_5) (bpz0_6 : iv 0 900 pz0_6) (bpz0_7 : iv 0 900 pz0_7) (bpz0_8 : iv 0 900 pz0_8) (bpz0_10 : iv 0 999 pz0_10) (bpz0_11 : iv 0 4 pz0_11) (bpz0_12 : iv 0 900 pz0_12) (bpz0_13 : iv 0 4 pz0_13) (bpz0_14 : iv (-1) 900 pz0_14) (bpz0_18 : iv 0 2 pz0_18) (bpz0_22 : iv 0 9999 pz0_22) (bpz0_29 : iv 0 10000 pz0_29) (hf0 : PT pz0_6 pz0_7 pz0_8 pz0_9) : Ct l V yX10_eats (.code yX10_eats cX10_eats 2 (some .boolean)) 7 [.ref (z 0), .int 16] [(z 3, aI V 900 fz3), (z 0, .inr (10, mo z pz0_0 pz0_5 pz0_6 pz0_7 pz0_8 pz0_9 pz0_10 pz0_11 pz0_12 pz0_13 pz0_14 pz0_18 pz0_19 pz0_22 pz0_23 pz0_29))] 0 0 (QI V (fun (r : Int32) (w : va_W) => ∃ (v0 : Int32) (v1 : Int32) (v2 : Int32) (v3 : Int32), iv 0 900 v0 ∧ iv 0 900 v1 ∧ iv 0 999 v3 ∧ iv 0 1 r ∧ (PT v0 v1 pz0_8 v2) ∧ ((pz0_6 : Int32).toInt ≤ (v0 : Int32).toInt) ∧ (r = 1 → pz0_11 = 0) ∧ (r = 1 → (pz0_6 : Int32).toInt + 1 ≤ (v0 : Int32).toInt) ∧ w = [(z 3, aI V 900 fz3), (z 0, .inr (10, mo z pz0_0 pz0_5 v0 v1 pz0_8 v2 v3 pz0_11 pz0_12 pz0_13 pz0_14 pz0_18 pz0_19 pz0_22 pz0_23 pz0_29))])) := by
  refine Ct.of (by decide) (Nat.le_of_ble_eq_true rfl) (fun p e s m below meth c A ls hx hb hr hml hown hlk hnm hg hP hK hD hE hA hS hl => ?_)
  have hl : lv_has ls 2 [(0, .ref (z 0)), (1, .int 16)] := hl
  refine lv_aload_n hx hb dX10_eats_0 rfl (lv_at hl 0 rfl) ?_
  refine lv_iload_n hx hb dX10_eats_1 rfl (lv_at hl 1 rfl) ?_
  refine jnI (wr := [(z 3, aI V 900 fz3)]) (rnV (rest := []) ⟨hx, hb, hml, hown, hg⟩ (k_X10_is_23 l V z pz0_0 pz0_5 pz0_6 pz0_7 pz0_8 pz0_9 pz0_10 pz0_11 pz0_12 pz0_13 pz0_14 pz0_18 pz0_19 pz0_22 pz0_23 pz0_29 bpz0_5 bpz0_6 bpz0_7 bpz0_8 bpz0_10 bpz0_11 bpz0_12 bpz0_13 bpz0_14 bpz0_18 bpz0_22 bpz0_29) mt_X10_is q_6_143 ⟨Nat.le_of_ble_eq_true rfl, Nat.le_of_ble_eq_true rfl⟩ hK hP hD hS hA hE [1] rfl rfl 1 rfl rfl rfl rfl hl.1 rfl (Nat.le_of_ble_eq_true rfl) dX10_eats_2 ⟨Nat.le_of_ble_eq_true rfl, Nat.le_of_ble_eq_true rfl⟩) hP hD hS hA [1] [0] rfl rfl rfl (by decide) (fun r_1 w H locs hw hP hD hS => ?_)
  obtain ⟨br_1, g_2, g_3, rfl⟩ := hw
  have hP : va_P V.1 vwCl [(z 3, aI V 900 fz3), (z 0, .inr (10, mo z pz0_0 pz0_5 pz0_6 pz0_7 pz0_8 pz0_9 pz0_10 pz0_11 pz0_12 pz0_13 pz0_14 pz0_18 pz0_19 pz0_22 pz0_23 pz0_29))] H := hP
  have hD : va_D A [(z 3, aI V 900 fz3), (z 0, .inr (10, mo z pz0_0 pz0_5 pz0_6 pz0_7 pz0_8 pz0_9 pz0_10 pz0_11 pz0_12 pz0_13 pz0_14 pz0_18 pz0_19 pz0_22 pz0_23 pz0_29))] := hD
  refine lv_if_ne (tgt := 10) hx hb dX10_eats_5 (by decide) (fun c_4 => ?_) (fun c_4 => ?_)
  · have b_5 : iv 1 1 r_1 := iv_n0 c_4 br_1 (iv_c (0 : Int32) (a := 0) (b := 0) (by decide)) (by decide)
    have c_6 : pz0_11 = 0 := (g_2 (iv_eqp b_5 (iv_c (1 : Int32) (by decide))))
    have b_7 : iv 0 0 pz0_11 := iv_q c_6 (iv_c (0 : Int32) (a := 0) (b := 0) (by decide))
    have c_8 : pz0_9 = 16 := (g_3 (iv_eqp b_5 (iv_c (1 : Int32) (by decide))))
    have b_9 : iv 16 16 pz0_9 := iv_q c_8 (iv_c (16 : Int32) (a := 16) (b := 16) (by decide))
    refine lv_aload_n hx hb dX10_eats_10 rfl (lv_at hl 0 rfl) ?_
    refine jnV (wr := []) (rnV (rest := []) ⟨hx, hb, hml, hown, hg⟩ (k_X10_next_0 l V z pz0_0 pz0_5 pz0_6 pz0_7 pz0_8 pz0_9 pz0_10 pz0_11 pz0_12 pz0_13 pz0_14 pz0_18 pz0_19 pz0_22 pz0_23 pz0_29 fz3 bpz0_5 bpz0_6 bpz0_7 bpz0_8 bpz0_10 (iv_w b_7 (by decide)) bpz0_12 bpz0_13 bpz0_14 bpz0_18 bpz0_22 bpz0_29 hf0.2.1) mt_X10_next q_6_117 ⟨Nat.le_of_ble_eq_true rfl, Nat.le_of_ble_eq_true rfl⟩ hK hP hD hS hA hE [1, 0] rfl rfl 1 rfl rfl rfl rfl hl.1 rfl (Nat.le_of_ble_eq_true rfl) dX10_eats_11 ⟨Nat.le_of_ble_eq_true rfl, Nat.le_of_ble_eq_true rfl⟩) hP hD hS hA [1, 0] [] rfl rfl rfl (by decide) (fun  w H locs hw hP hD hS => ?_)
    obtain ⟨v_10, v_11, v_12, v_13, bv_10, bv_11, bv_13, g_14, g_15, rfl⟩ := hw
    have hP : va_P V.1 vwCl [(z 0, .inr (10, mo z pz0_0 pz0_5 v_10 v_11 pz0_8 v_12 v_13 pz0_11 pz0_12 pz0_13 pz0_14 pz0_18 pz0_19 pz0_22 pz0_23 pz0_29)), (z 3, aI V 900 fz3)] H := hP
    have hD : va_D A [(z 0, .inr (10, mo z pz0_0 pz0_5 v_10 v_11 pz0_8 v_12 v_13 pz0_11 pz0_12 pz0_13 pz0_14 pz0_18 pz0_19 pz0_22 pz0_23 pz0_29)), (z 3, aI V 900 fz3)] := hD
    refine lv_iconst (v := 1) hx hb dX10_eats_14 (by decide) ?_
    have hP := subP (ws' := [(z 3, aI V 900 fz3), (z 0, .inr (10, mo z pz0_0 pz0_5 v_10 v_11 pz0_8 v_12 v_13 pz0_11 pz0_12 pz0_13 pz0_14 pz0_18 pz0_19 pz0_22 pz0_23 pz0_29))]) hP [1, 0] rfl
    have hD := hD.sub (ws' := [(z 3, aI V 900 fz3), (z 0, .inr (10, mo z pz0_0 pz0_5 v_10 v_11 pz0_8 v_12 v_13 pz0_11 pz0_12 pz0_13 pz0_14 pz0_18 pz0_19 pz0_22 pz0_23 pz0_29))]) [1, 0] rfl rfl
    exact fiZ rfl hx hb hr hlk hK hP hD hS dX10_eats_15 (Nat.le_of_ble_eq_true rfl) (Nat.le_of_ble_eq_true rfl) (⟨v_10, v_11, v_12, v_13, bv_10, bv_11, bv_13, (iv_c (1 : Int32) (by decide)), g_14, (by have q9 := g_15; have q8 := hf0.1; omega), (fun _ => iv_eqp b_7 (iv_c (0 : Int32) (by decide))), (fun _ => by have q9 := g_15; have q8 := hf0.2.2 (by rw [c_8]; decide); omega), rfl⟩)
  · have b_16 : iv 0 0 r_1 := iv_q c_4 (iv_c (0 : Int32) (a := 0) (b := 0) (by decide))
    refine lv_iconst (v := 0) hx hb dX10_eats_8 (by decide) ?_
    exact fiZ rfl hx hb hr hlk hK hP hD hS dX10_eats_9 (Nat.le_of_ble_eq_true rfl) (Nat.le_of_ble_eq_true rfl) (⟨pz0_6, pz0_7, pz0_9, pz0_10, bpz0_6, bpz0_7, bpz0_10, (iv_c (0 : Int32) (by decide)), hf0, (Int.le_refl _), (fun q9 => absurd q9 (by decide)), (fun q9 => absurd q9 (by decide)), rfl⟩)
theorem dX10_readIf_9 : decode cX10_readIf 9 = .ok (.aload_n 0, 1) := by decide +kernel
theorem dX10_readIf_10 : decode cX10_readIf 10 = .ok (.iload_n 1, 1) := by decide +kernel
theorem dX10_readIf_11 : decode cX10_readIf 11 = .ok (.iconst 1, 1) := by decide +kernel
theorem dX10_readIf_12 : decode cX10_readIf 12 = .ok (.iadd, 1) := by decide +kernel
theorem q_6_218 : Cond.code yX10_readTruth prog_12_method_25_code 2 none ∈ gw := gw_6 (i := 218) (rfl) rfl
theorem q_6_217 : Cond.instanceMethod yX10_readTruth ∈ gw := gw_6 (i := 217) (by decide +kernel) rfl
theorem q_s_76 : Cond.selects "BeaconDelayModel" yX10_readTruth yX10_readTruth ∈ gw := gw_s (i := 76) (by decide +kernel) rfl
theorem mt_X10_readTruth : MtV yX10_readTruth cX10_readTruth 2 none 1 := ⟨⟨q_6_218, q_1_9, by decide +kernel, by decide +kernel, by decide +kernel⟩, q_6_217, q_s_76⟩
theorem q_6_215 : Cond.methodLink "BeaconDelayModel" 181 yX10_readTruth ∈ gw := gw_6 (i := 215) (by decide +kernel) rfl
theorem dX10_readIf_13 : decode cX10_readIf 13 = .ok (.invokevirtual 181, 3) := by decide +kernel
theorem dX10_readIf_16 : decode cX10_readIf 16 = .ok (.aload_n 0, 1) := by decide +kernel
theorem dX10_readIf_17 : decode cX10_readIf 17 = .ok (.bipush 14, 2) := by decide +kernel
theorem dX10_readIf_19 : decode cX10_readIf 19 = .ok (.invokevirtual 175, 3) := by decide +kernel
theorem dX10_readIf_22 : decode cX10_readIf 22 = .ok (.ifCond .ne 8, 3) := by decide +kernel
theorem dX10_readIf_30 : decode cX10_readIf 30 = .ok (.aload_n 0, 1) := by decide +kernel
theorem dX10_readIf_31 : decode cX10_readIf 31 = .ok (.iload_n 1, 1) := by decide +kernel
theorem dX10_readIf_32 : decode cX10_readIf 32 = .ok (.iconst 1, 1) := by decide +kernel
theorem dX10_readIf_33 : decode cX10_readIf 33 = .ok (.iadd, 1) := by decide +kernel
theorem dX10_readIf_34 : decode cX10_readIf 34 = .ok (.invokevirtual 172, 3) := by decide +kernel
theorem dX10_readIf_37 : decode cX10_readIf 37 = .ok (.aload_n 0, 1) := by decide +kernel
theorem dX10_readIf_38 : decode cX10_readIf 38 = .ok (.bipush 15, 2) := by decide +kernel
theorem dX10_readIf_40 : decode cX10_readIf 40 = .ok (.invokevirtual 175, 3) := by decide +kernel
theorem dX10_readIf_43 : decode cX10_readIf 43 = .ok (.ifCond .ne 8, 3) := by decide +kernel
theorem dX10_readIf_51 : decode cX10_readIf 51 = .ok (.aload_n 0, 1) := by decide +kernel
theorem dX10_readIf_52 : decode cX10_readIf 52 = .ok (.iload_n 1, 1) := by decide +kernel
theorem dX10_readIf_53 : decode cX10_readIf 53 = .ok (.iconst 1, 1) := by decide +kernel
theorem dX10_readIf_54 : decode cX10_readIf 54 = .ok (.iadd, 1) := by decide +kernel
theorem dX10_readIf_55 : decode cX10_readIf 55 = .ok (.invokevirtual 172, 3) := by decide +kernel
theorem dX10_readIf_58 : decode cX10_readIf 58 = .ok (.aload_n 0, 1) := by decide +kernel
theorem dX10_readIf_59 : decode cX10_readIf 59 = .ok (.bipush 16, 2) := by decide +kernel
theorem dX10_readIf_61 : decode cX10_readIf 61 = .ok (.invokevirtual 175, 3) := by decide +kernel
theorem dX10_readIf_64 : decode cX10_readIf 64 = .ok (.ifCond .ne 8, 3) := by decide +kernel
theorem dX10_readIf_72 : decode cX10_readIf 72 = .ok (.aload_n 0, 1) := by decide +kernel
theorem dX10_readIf_73 : decode cX10_readIf 73 = .ok (.sipush 3009, 3) := by decide +kernel
theorem dX10_readIf_76 : decode cX10_readIf 76 = .ok (.invokevirtual 163, 3) := by decide +kernel
theorem dX10_readIf_79 : decode cX10_readIf 79 = .ok (.return_, 1) := by decide +kernel
theorem dX10_readIf_67 : decode cX10_readIf 67 = .ok (.aload_n 0, 1) := by decide +kernel
theorem dX10_readIf_68 : decode cX10_readIf 68 = .ok (.iconst 2, 1) := by decide +kernel
theorem dX10_readIf_69 : decode cX10_readIf 69 = .ok (.invokevirtual 155, 3) := by decide +kernel
theorem dX10_readIf_46 : decode cX10_readIf 46 = .ok (.aload_n 0, 1) := by decide +kernel
theorem dX10_readIf_47 : decode cX10_readIf 47 = .ok (.iconst 2, 1) := by decide +kernel
theorem dX10_readIf_48 : decode cX10_readIf 48 = .ok (.invokevirtual 155, 3) := by decide +kernel
theorem dX10_readIf_25 : decode cX10_readIf 25 = .ok (.aload_n 0, 1) := by decide +kernel
theorem dX10_readIf_26 : decode cX10_readIf 26 = .ok (.iconst 2, 1) := by decide +kernel
theorem dX10_readIf_27 : decode cX10_readIf 27 = .ok (.invokevirtual 155, 3) := by decide +kernel
set_option maxHeartbeats 4000000 in
set_option maxRecDepth 100000 in
theorem k_X10_readIf_1 (l : Launch) (V : GV) (z : Nat → Nat) (fz4 : Nat → Int32) (fz3 : Nat → Int32) (pz0_0 : Int32) (pz0_5 : Int32) (pz0_6 : Int32) (pz0_7 : Int32) (pz0_8 : Int32) (pz0_9 : Int32) (pz0_10 : Int32) (pz0_11 : Int32) (pz0_12 : Int32) (pz0_13 : Int32) (pz0_14 : Int32) (pz0_18 : Int32) (pz0_19 : Int32) (pz0_22 : Int32) (pz0_23 : Int32) (pz0_29 : Int32) (tfz4 : ivT tF fz4) (bpz0_5 : iv 0 900 pz0_5) (bpz0_6 : iv 0 900 pz0_6) (bpz0_7 : iv 0 900 pz0_7) (bpz0_8 : iv 0 900 pz0_8) (bpz0_10 : iv 0 999 pz0_10) (bpz0_11 : iv 0 4 pz0_11) (bpz0_12 : iv 0 900 pz0_12) (bpz0_13 : iv 0 4 pz0_13) (bpz0_14 : iv (-1) 900 pz0_14) (bpz0_18 : iv 0 2 pz0_18) (bpz0_22 : iv 0 9999 pz0_22) (bpz0_29 : iv 0 10000 pz0_29) (hf0 : PT pz0_6 pz0_7 pz0_8 pz0_9) (hf1 : PS pz0_11 pz0_6 fz4) (hf2 : pz0_9 = 13) : Ct l V yX10_readIf (.code yX10_readIf cX10_readIf 2 none) 13 [.ref (z 0), .int 5] [(z 4, aI V 1025 fz4), (z 3, aI V 900 fz3), (z 0, .inr (10, mo z pz0_0 pz0_5 pz0_6 pz0_7 pz0_8 pz0_9 pz0_10 pz0_11 pz0_12 pz0_13 pz0_14 pz0_18 pz0_19 pz0_22 pz0_23 pz0_29))] 0 0 (QV V (fun (w : va_W) => ∃ (g0 : Nat → Int32) (v1 : Int32) (v2 : Int32) (v3 : Int32) (v4 : Int32) (v5 : Int32) (v6 : Int32), (ivT tF g0) ∧ iv 0 900 v1 ∧ iv 0 900 v2 ∧ iv 0 999 v4 ∧ iv 0 4 v5 ∧ iv 0 900 v6 ∧ (PT v1 v2 pz0_8 v3) ∧ (PS v5 v1 g0) ∧ ((pz0_6 : Int32).toInt ≤ (v1 : Int32).toInt) ∧ (RX pz0_11 pz0_6 fz4 v5 v1 g0 1 0) ∧ w = [(z 4, aI V 1025 g0), (z 3, aI V 900 fz3), (z 0, .inr (10, mo z pz0_0 pz0_5 v1 v2 pz0_8 v3 v4 v5 v6 pz0_13 pz0_14 pz0_18 pz0_19 pz0_22 pz0_23 pz0_29))])) := by
  refine Ct.of (by decide) (Nat.le_of_ble_eq_true rfl) (fun p e s m below meth c A ls hx hb hr hml hown hlk hnm hg hP hK hD hE hA hS hl => ?_)
  have hl : lv_has ls 2 [(0, .ref (z 0)), (1, .int 5)] := hl
  refine lv_aload_n hx hb dX10_readIf_0 rfl (lv_at hl 0 rfl) ?_
  refine lv_iload_n hx hb dX10_readIf_1 rfl (lv_at hl 1 rfl) ?_
  refine jnI (wr := [(z 4, aI V 1025 fz4)]) (rnV (rest := []) ⟨hx, hb, hml, hown, hg⟩ (k_X10_goesIn_5 l V z fz3 pz0_0 pz0_5 pz0_6 pz0_7 pz0_8 pz0_9 pz0_10 pz0_11 pz0_12 pz0_13 pz0_14 pz0_18 pz0_19 pz0_22 pz0_23 pz0_29 bpz0_5 bpz0_6 bpz0_7 bpz0_8 bpz0_10 bpz0_11 bpz0_12 bpz0_13 bpz0_14 bpz0_18 bpz0_22 bpz0_29 hf0) mt_X10_goesIn q_6_207 ⟨Nat.le_of_ble_eq_true rfl, Nat.le_of_ble_eq_true rfl⟩ hK hP hD hS hA hE [1, 2] rfl rfl 2 rfl rfl rfl rfl hl.1 rfl (Nat.le_of_ble_eq_true rfl) dX10_readIf_2 ⟨Nat.le_of_ble_eq_true rfl, Nat.le_of_ble_eq_true rfl⟩) hP hD hS hA [1, 2] [0] rfl rfl rfl (by decide) (fun r_1 w H locs hw hP hD hS => ?_)
  obtain ⟨v_2, v_3, v_4, v_5, bv_2, bv_3, bv_5, br_1, g_6, g_7, g_8, g_9, g_10, g_11, rfl⟩ := hw
  have hP : va_P V.1 vwCl [(z 4, aI V 1025 fz4), (z 3, aI V 900 fz3), (z 0, .inr (10, mo z pz0_0 pz0_5 v_2 v_3 pz0_8 v_4 v_5 pz0_11 pz0_12 pz0_13 pz0_14 pz0_18 pz0_19 pz0_22 pz0_23 pz0_29))] H := hP
  have hD : va_D A [(z 4, aI V 1025 fz4), (z 3, aI V 900 fz3), (z 0, .inr (10, mo z pz0_0 pz0_5 v_2 v_3 pz0_8 v_4 v_5 pz0_11 pz0_12 pz0_13 pz0_14 pz0_18 pz0_19 pz0_22 pz0_23 pz0_29))] := hD
  have rx_12 : RX pz0_11 pz0_6 fz4 pz0_11 v_2 fz4 0 ((0 : Int) + adv r_1) := by have q9 := RX_a (RX_0 (w := pz0_11) (a := pz0_6) tfz4) g_8 (adv_le g_7 (fun q8 => g_10 (by rw [hf2]; decide) q8)); exact RX_w q9 (by omega)
  refine lv_if_ne (tgt := 9) hx hb dX10_readIf_5 (by decide) (fun c_13 => ?_) (fun c_13 => ?_)
  · have b_14 : iv 1 1 r_1 := iv_n0 c_13 br_1 (iv_c (0 : Int32) (a := 0) (b := 0) (by decide)) (by decide)
    have c_15 : pz0_11 = 0 := (g_9 (iv_eqp b_14 (iv_c (1 : Int32) (by decide))))
    have b_16 : iv 0 0 pz0_11 := iv_q c_15 (iv_c (0 : Int32) (a := 0) (b := 0) (by decide))
    refine lv_aload_n hx hb dX10_readIf_9 rfl (lv_at hl 0 rfl) ?_
    refine lv_iload_n hx hb dX10_readIf_10 rfl (lv_at hl 1 rfl) ?_
    refine lv_iconst (v := 1) hx hb dX10_readIf_11 (by decide) ?_
    refine lv_iadd hx hb dX10_readIf_12 ?_
    refine tpi (y := 6) (by decide +kernel) ?_
    refine jnV (wr := []) (rnV (rest := []) ⟨hx, hb, hml, hown, hg⟩ (k_X10_readTruth_0 l V z fz4 fz3 pz0_0 pz0_5 v_2 v_3 pz0_8 v_4 v_5 pz0_11 pz0_12 pz0_13 pz0_14 pz0_18 pz0_19 pz0_22 pz0_23 pz0_29 tfz4 bpz0_5 bv_2 bv_3 bpz0_8 bv_5 (iv_w b_16 (by decide)) bpz0_12 bpz0_13 bpz0_14 bpz0_18 bpz0_22 bpz0_29 g_6 (PS_x hf1 rx_12 (by have z_r_1 := adv_1 (iv_eqp b_14 (iv_c (1 : Int32) (by decide))); omega))) mt_X10_readTruth q_6_215 ⟨Nat.le_of_ble_eq_true rfl, Nat.le_of_ble_eq_true rfl⟩ hK hP hD hS hA hE [0, 1, 2] rfl rfl 2 rfl rfl rfl rfl hl.1 rfl (Nat.le_of_ble_eq_true rfl) dX10_readIf_13 ⟨Nat.le_of_ble_eq_true rfl, Nat.le_of_ble_eq_true rfl⟩) hP hD hS hA [0, 1, 2] [] rfl rfl rfl (by decide) (fun  w H locs hw hP hD hS => ?_)
    obtain ⟨f_17, v_18, v_19, v_20, v_21, v_22, v_23, tf_17, bv_18, bv_19, bv_21, bv_22, bv_23, g_24, g_25, g_26, g_27, rfl⟩ := hw
    have hP : va_P V.1 vwCl [(z 4, aI V 1025 f_17), (z 3, aI V 900 fz3), (z 0, .inr (10, mo z pz0_0 pz0_5 v_18 v_19 pz0_8 v_20 v_21 v_22 v_23 pz0_13 pz0_14 pz0_18 pz0_19 pz0_22 pz0_23 pz0_29))] H := hP
    have hD : va_D A [(z 4, aI V 1025 f_17), (z 3, aI V 900 fz3), (z 0, .inr (10, mo z pz0_0 pz0_5 v_18 v_19 pz0_8 v_20 v_21 v_22 v_23 pz0_13 pz0_14 pz0_18 pz0_19 pz0_22 pz0_23 pz0_29))] := hD
    have rx_28 : RX pz0_11 pz0_6 fz4 v_22 v_18 f_17 1 ((0 : Int) + adv r_1) := by have q9 := RX_seq (by decide) rx_12 g_27; exact RX_w q9 (by omega)
    refine lv_aload_n hx hb dX10_readIf_16 rfl (lv_at hl 0 rfl) ?_
    refine lv_bipush (v := 14) hx hb dX10_readIf_17 (by decide) ?_
    refine jnI (wr := [(z 4, aI V 1025 f_17)]) (rnV (rest := []) ⟨hx, hb, hml, hown, hg⟩ (k_X10_eats_7 l V z fz3 pz0_0 pz0_5 v_18 v_19 pz0_8 v_20 v_21 v_22 v_23 pz0_13 pz0_14 pz0_18 pz0_19 pz0_22 pz0_23 pz0_29 bpz0_5 bv_18 bv_19 bpz0_8 bv_21 bv_22 bv_23 bpz0_13 bpz0_14 bpz0_18 bpz0_22 bpz0_29 g_24) mt_X10_eats q_6_139 ⟨Nat.le_of_ble_eq_true rfl, Nat.le_of_ble_eq_true rfl⟩ hK hP hD hS hA hE [1, 2] rfl rfl 2 rfl rfl rfl rfl hl.1 rfl (Nat.le_of_ble_eq_true rfl) dX10_readIf_19 ⟨Nat.le_of_ble_eq_true rfl, Nat.le_of_ble_eq_true rfl⟩) hP hD hS hA [1, 2] [0] rfl rfl rfl (by decide) (fun r_29 w H locs hw hP hD hS => ?_)
    obtain ⟨v_30, v_31, v_32, v_33, bv_30, bv_31, bv_33, br_29, g_34, g_35, g_36, g_37, rfl⟩ := hw
    have hP : va_P V.1 vwCl [(z 4, aI V 1025 f_17), (z 3, aI V 900 fz3), (z 0, .inr (10, mo z pz0_0 pz0_5 v_30 v_31 pz0_8 v_32 v_33 v_22 v_23 pz0_13 pz0_14 pz0_18 pz0_19 pz0_22 pz0_23 pz0_29))] H := hP
    have hD : va_D A [(z 4, aI V 1025 f_17), (z 3, aI V 900 fz3), (z 0, .inr (10, mo z pz0_0 pz0_5 v_30 v_31 pz0_8 v_32 v_33 v_22 v_23 pz0_13 pz0_14 pz0_18 pz0_19 pz0_22 pz0_23 pz0_29))] := hD
    have rx_38 : RX pz0_11 pz0_6 fz4 v_22 v_30 f_17 1 ((0 : Int) + adv r_1 + adv r_29) := by have q9 := RX_a rx_28 (fun q8 => q8) (adv_le g_35 g_37); exact RX_w q9 (by omega)
    refine lv_if_ne (tgt := 30) hx hb dX10_readIf_22 (by decide) (fun c_39 => ?_) (fun c_39 => ?_)
    · have b_40 : iv 1 1 r_29 := iv_n0 c_39 br_29 (iv_c (0 : Int32) (a := 0) (b := 0) (by decide)) (by decide)
      have c_41 : v_22 = 0 := (g_36 (iv_eqp b_40 (iv_c (1 : Int32) (by decide))))
      have b_42 : iv 0 0 v_22 := iv_q c_41 (iv_c (0 : Int32) (a := 0) (b := 0) (by decide))
      refine lv_aload_n hx hb dX10_readIf_30 rfl (lv_at hl 0 rfl) ?_
      refine lv_iload_n hx hb dX10_readIf_31 rfl (lv_at hl 1 rfl) ?_
      refine lv_iconst (v := 1) hx hb dX10_readIf_32 (by decide) ?_
      refine lv_iadd hx hb dX10_readIf_33 ?_
      refine tpi (y := 6) (by decide +kernel) ?_
      refine jnV (wr := []) (rnV (rest := []) ⟨hx, hb, hml, hown, hg⟩ (k_X10_readSum_0 l V z f_17 fz3 pz0_0 pz0_5 v_30 v_31 pz0_8 v_32 v_33 v_22 v_23 pz0_13 pz0_14 pz0_18 pz0_19 pz0_22 pz0_23 pz0_29 tf_17 bpz0_5 bv_30 bv_31 bpz0_8 bv_33 (iv_w b_42 (by decide)) bv_23 bpz0_13 bpz0_14 bpz0_18 bpz0_22 bpz0_29 g_34 (PS_x hf1 rx_38 (by have z_r_1 := adv_1 (iv_eqp b_14 (iv_c (1 : Int32) (by decide))); have z_r_29 := adv_1 (iv_eqp b_40 (iv_c (1 : Int32) (by decide))); omega))) mt_X10_readSum q_6_187 ⟨Nat.le_of_ble_eq_true rfl, Nat.le_of_ble_eq_true rfl⟩ hK hP hD hS hA hE [0, 1, 2] rfl rfl 2 rfl rfl rfl rfl hl.1 rfl (Nat.le_of_ble_eq_true rfl) dX10_readIf_34 ⟨Nat.le_of_ble_eq_true rfl, Nat.le_of_ble_eq_true rfl⟩) hP hD hS hA [0, 1, 2] [] rfl rfl rfl (by decide) (fun  w H locs hw hP hD hS => ?_)
      obtain ⟨f_43, v_44, v_45, v_46, v_47, v_48, v_49, tf_43, bv_44, bv_45, bv_47, bv_48, bv_49, g_50, g_51, g_52, g_53, rfl⟩ := hw
      have hP : va_P V.1 vwCl [(z 4, aI V 1025 f_43), (z 3, aI V 900 fz3), (z 0, .inr (10, mo z pz0_0 pz0_5 v_44 v_45 pz0_8 v_46 v_47 v_48 v_49 pz0_13 pz0_14 pz0_18 pz0_19 pz0_22 pz0_23 pz0_29))] H := hP
      have hD : va_D A [(z 4, aI V 1025 f_43), (z 3, aI V 900 fz3), (z 0, .inr (10, mo z pz0_0 pz0_5 v_44 v_45 pz0_8 v_46 v_47 v_48 v_49 pz0_13 pz0_14 pz0_18 pz0_19 pz0_22 pz0_23 pz0_29))] := hD
      have rx_54 : RX pz0_11 pz0_6 fz4 v_48 v_44 f_43 2 ((0 : Int) + adv r_1 + adv r_29) := by have q9 := RX_seq (by decide) rx_38 g_53; exact RX_w q9 (by omega)
      refine lv_aload_n hx hb dX10_readIf_37 rfl (lv_at hl 0 rfl) ?_
      refine lv_bipush (v := 15) hx hb dX10_readIf_38 (by decide) ?_
      refine jnI (wr := [(z 4, aI V 1025 f_43)]) (rnV (rest := []) ⟨hx, hb, hml, hown, hg⟩ (k_X10_eats_8 l V z fz3 pz0_0 pz0_5 v_44 v_45 pz0_8 v_46 v_47 v_48 v_49 pz0_13 pz0_14 pz0_18 pz0_19 pz0_22 pz0_23 pz0_29 bpz0_5 bv_44 bv_45 bpz0_8 bv_47 bv_48 bv_49 bpz0_13 bpz0_14 bpz0_18 bpz0_22 bpz0_29 g_50) mt_X10_eats q_6_139 ⟨Nat.le_of_ble_eq_true rfl, Nat.le_of_ble_eq_true rfl⟩ hK hP hD hS hA hE [1, 2] rfl rfl 2 rfl rfl rfl rfl hl.1 rfl (Nat.le_of_ble_eq_true rfl) dX10_readIf_40 ⟨Nat.le_of_ble_eq_true rfl, Nat.le_of_ble_eq_true rfl⟩) hP hD hS hA [1, 2] [0] rfl rfl rfl (by decide) (fun r_55 w H locs hw hP hD hS => ?_)
      obtain ⟨v_56, v_57, v_58, v_59, bv_56, bv_57, bv_59, br_55, g_60, g_61, g_62, g_63, rfl⟩ := hw
      have hP : va_P V.1 vwCl [(z 4, aI V 1025 f_43), (z 3, aI V 900 fz3), (z 0, .inr (10, mo z pz0_0 pz0_5 v_56 v_57 pz0_8 v_58 v_59 v_48 v_49 pz0_13 pz0_14 pz0_18 pz0_19 pz0_22 pz0_23 pz0_29))] H := hP
      have hD : va_D A [(z 4, aI V 1025 f_43), (z 3, aI V 900 fz3), (z 0, .inr (10, mo z pz0_0 pz0_5 v_56 v_57 pz0_8 v_58 v_59 v_48 v_49 pz0_13 pz0_14 pz0_18 pz0_19 pz0_22 pz0_23 pz0_29))] := hD
      have rx_64 : RX pz0_11 pz0_6 fz4 v_48 v_56 f_43 2 ((0 : Int) + adv r_1 + adv r_29 + adv r_55) := by have q9 := RX_a rx_54 (fun q8 => q8) (adv_le g_61 g_63); exact RX_w q9 (by omega)
      refine lv_if_ne (tgt := 51) hx hb dX10_readIf_43 (by decide) (fun c_65 => ?_) (fun c_65 => ?_)
      · have b_66 : iv 1 1 r_55 := iv_n0 c_65 br_55 (iv_c (0 : Int32) (a := 0) (b := 0) (by decide)) (by decide)
        have c_67 : v_48 = 0 := (g_62 (iv_eqp b_66 (iv_c (1 : Int32) (by decide))))
        have b_68 : iv 0 0 v_48 := iv_q c_67 (iv_c (0 : Int32) (a := 0) (b := 0) (by decide))
        refine lv_aload_n hx hb dX10_readIf_51 rfl (lv_at hl 0 rfl) ?_
        refine lv_iload_n hx hb dX10_readIf_52 rfl (lv_at hl 1 rfl) ?_
        refine lv_iconst (v := 1) hx hb dX10_readIf_53 (by decide) ?_
        refine lv_iadd hx hb dX10_readIf_54 ?_
        refine tpi (y := 6) (by decide +kernel) ?_
        refine jnV (wr := []) (rnV (rest := []) ⟨hx, hb, hml, hown, hg⟩ (k_X10_readSum_0 l V z f_43 fz3 pz0_0 pz0_5 v_56 v_57 pz0_8 v_58 v_59 v_48 v_49 pz0_13 pz0_14 pz0_18 pz0_19 pz0_22 pz0_23 pz0_29 tf_43 bpz0_5 bv_56 bv_57 bpz0_8 bv_59 (iv_w b_68 (by decide)) bv_49 bpz0_13 bpz0_14 bpz0_18 bpz0_22 bpz0_29 g_60 (PS_x hf1 rx_64 (by have z_r_1 := adv_1 (iv_eqp b_14 (iv_c (1 : Int32) (by decide))); have z_r_29 := adv_1 (iv_eqp b_40 (iv_c (1 : Int32) (by decide))); have z_r_55 := adv_1 (iv_eqp b_66 (iv_c (1 : Int32) (by decide))); omega))) mt_X10_readSum q_6_187 ⟨Nat.le_of_ble_eq_true rfl, Nat.le_of_ble_eq_true rfl⟩ hK hP hD hS hA hE [0, 1, 2] rfl rfl 2 rfl rfl rfl rfl hl.1 rfl (Nat.le_of_ble_eq_true rfl) dX10_readIf_55 ⟨Nat.le_of_ble_eq_true rfl, Nat.le_of_ble_eq_true rfl⟩) hP hD hS hA [0, 1, 2] [] rfl rfl rfl (by decide) (fun  w H locs hw hP hD hS => ?_)
        obtain ⟨f_69, v_70, v_71, v_72, v_73, v_74, v_75, tf_69, bv_70, bv_71, bv_73, bv_74, bv_75, g_76, g_77, g_78, g_79, rfl⟩ := hw
        have hP : va_P V.1 vwCl [(z 4, aI V 1025 f_69), (z 3, aI V 900 fz3), (z 0, .inr (10, mo z pz0_0 pz0_5 v_70 v_71 pz0_8 v_72 v_73 v_74 v_75 pz0_13 pz0_14 pz0_18 pz0_19 pz0_22 pz0_23 pz0_29))] H := hP
        have hD : va_D A [(z 4, aI V 1025 f_69), (z 3, aI V 900 fz3), (z 0, .inr (10, mo z pz0_0 pz0_5 v_70 v_71 pz0_8 v_72 v_73 v_74 v_75 pz0_13 pz0_14 pz0_18 pz0_19 pz0_22 pz0_23 pz0_29))] := hD
        have rx_80 : RX pz0_11 pz0_6 fz4 v_74 v_70 f_69 3 ((0 : Int) + adv r_1 + adv r_29 + adv r_55) := by have q9 := RX_seq (by decide) rx_64 g_79; exact RX_w q9 (by omega)
        refine lv_aload_n hx hb dX10_readIf_58 rfl (lv_at hl 0 rfl) ?_
        refine lv_bipush (v := 16) hx hb dX10_readIf_59 (by decide) ?_
        refine jnI (wr := [(z 4, aI V 1025 f_69)]) (rnV (rest := []) ⟨hx, hb, hml, hown, hg⟩ (k_X10_eats_9 l V z fz3 pz0_0 pz0_5 v_70 v_71 pz0_8 v_72 v_73 v_74 v_75 pz0_13 pz0_14 pz0_18 pz0_19 pz0_22 pz0_23 pz0_29 bpz0_5 bv_70 bv_71 bpz0_8 bv_73 bv_74 bv_75 bpz0_13 bpz0_14 bpz0_18 bpz0_22 bpz0_29 g_76) mt_X10_eats q_6_139 ⟨Nat.le_of_ble_eq_true rfl, Nat.le_of_ble_eq_true rfl⟩ hK hP hD hS hA hE [1, 2] rfl rfl 2 rfl rfl rfl rfl hl.1 rfl (Nat.le_of_ble_eq_true rfl) dX10_readIf_61 ⟨Nat.le_of_ble_eq_true rfl, Nat.le_of_ble_eq_true rfl⟩) hP hD hS hA [1, 2] [0] rfl rfl rfl (by decide) (fun r_81 w H locs hw hP hD hS => ?_)
        obtain ⟨v_82, v_83, v_84, v_85, bv_82, bv_83, bv_85, br_81, g_86, g_87, g_88, g_89, rfl⟩ := hw
        have hP : va_P V.1 vwCl [(z 4, aI V 1025 f_69), (z 3, aI V 900 fz3), (z 0, .inr (10, mo z pz0_0 pz0_5 v_82 v_83 pz0_8 v_84 v_85 v_74 v_75 pz0_13 pz0_14 pz0_18 pz0_19 pz0_22 pz0_23 pz0_29))] H := hP
        have hD : va_D A [(z 4, aI V 1025 f_69), (z 3, aI V 900 fz3), (z 0, .inr (10, mo z pz0_0 pz0_5 v_82 v_83 pz0_8 v_84 v_85 v_74 v_75 pz0_13 pz0_14 pz0_18 pz0_19 pz0_22 pz0_23 pz0_29))] := hD
        have rx_90 : RX pz0_11 pz0_6 fz4 v_74 v_82 f_69 3 ((0 : Int) + adv r_1 + adv r_29 + adv r_55 + adv r_81) := by have q9 := RX_a rx_80 (fun q8 => q8) (adv_le g_87 g_89); exact RX_w q9 (by omega)
        refine lv_if_ne (tgt := 72) hx hb dX10_readIf_64 (by decide) (fun c_91 => ?_) (fun c_91 => ?_)
        · have b_92 : iv 1 1 r_81 := iv_n0 c_91 br_81 (iv_c (0 : Int32) (a := 0) (b := 0) (by decide)) (by decide)
          have c_93 : v_74 = 0 := (g_88 (iv_eqp b_92 (iv_c (1 : Int32) (by decide))))
          have b_94 : iv 0 0 v_74 := iv_q c_93 (iv_c (0 : Int32) (a := 0) (b := 0) (by decide))
          refine lv_aload_n hx hb dX10_readIf_72 rfl (lv_at hl 0 rfl) ?_
          refine lv_sipush (v := 3009) hx hb dX10_readIf_73 (by decide) ?_
          refine jnV (wr := [(z 3, aI V 900 fz3)]) (rnV (rest := []) ⟨hx, hb, hml, hown, hg⟩ (k_X10_codes_0 l V z 3009 f_69 pz0_0 pz0_5 v_82 v_83 pz0_8 v_84 v_85 v_74 v_75 pz0_13 pz0_14 pz0_18 pz0_19 pz0_22 pz0_23 pz0_29 tf_69 bpz0_5 bv_82 bv_83 bpz0_8 bv_85 (iv_w b_94 (by decide)) bv_75 bpz0_13 bpz0_14 bpz0_18 bpz0_22 bpz0_29 (PS_n hf1 rx_90 bv_82 (by decide) (by have z_r_1 := adv_1 (iv_eqp b_14 (iv_c (1 : Int32) (by decide))); have z_r_29 := adv_1 (iv_eqp b_40 (iv_c (1 : Int32) (by decide))); have z_r_55 := adv_1 (iv_eqp b_66 (iv_c (1 : Int32) (by decide))); have z_r_81 := adv_1 (iv_eqp b_92 (iv_c (1 : Int32) (by decide))); omega))) mt_X10_codes q_6_199 ⟨Nat.le_of_ble_eq_true rfl, Nat.le_of_ble_eq_true rfl⟩ hK hP hD hS hA hE [0, 2] rfl rfl 2 rfl rfl rfl rfl hl.1 rfl (Nat.le_of_ble_eq_true rfl) dX10_readIf_76 ⟨Nat.le_of_ble_eq_true rfl, Nat.le_of_ble_eq_true rfl⟩) hP hD hS hA [0, 2] [1] rfl rfl rfl (by decide) (fun  w H locs hw hP hD hS => ?_)
          obtain ⟨f_95, tf_95, g_96, g_97, rfl⟩ := hw
          have hP : va_P V.1 vwCl [(z 3, aI V 900 fz3), (z 4, aI V 1025 f_95), (z 0, .inr (10, mo z pz0_0 pz0_5 v_82 v_83 pz0_8 v_84 v_85 v_74 v_75 pz0_13 pz0_14 pz0_18 pz0_19 pz0_22 pz0_23 pz0_29))] H := hP
          have hD : va_D A [(z 3, aI V 900 fz3), (z 4, aI V 1025 f_95), (z 0, .inr (10, mo z pz0_0 pz0_5 v_82 v_83 pz0_8 v_84 v_85 v_74 v_75 pz0_13 pz0_14 pz0_18 pz0_19 pz0_22 pz0_23 pz0_29))] := hD
          have rx_98 : RX pz0_11 pz0_6 fz4 v_74 v_82 f_95 1 ((-1 : Int) + adv r_1 + adv r_29 + adv r_55 + adv r_81) := by have q9 := RX_c rx_90 tf_69 g_96 (by decide) ⟨by decide, by decide⟩ (by decide) (PS_n hf1 rx_90 bv_82 (by decide) (by have z_r_1 := adv_1 (iv_eqp b_14 (iv_c (1 : Int32) (by decide))); have z_r_29 := adv_1 (iv_eqp b_40 (iv_c (1 : Int32) (by decide))); have z_r_55 := adv_1 (iv_eqp b_66 (iv_c (1 : Int32) (by decide))); have z_r_81 := adv_1 (iv_eqp b_92 (iv_c (1 : Int32) (by decide))); omega)); rw [(by decide : eff (3009 : Int32) = -2)] at q9; exact RX_w q9 (by omega)
          have hP := subP (ws' := [(z 4, aI V 1025 f_95), (z 3, aI V 900 fz3), (z 0, .inr (10, mo z pz0_0 pz0_5 v_82 v_83 pz0_8 v_84 v_85 v_74 v_75 pz0_13 pz0_14 pz0_18 pz0_19 pz0_22 pz0_23 pz0_29))]) hP [1, 0, 2] rfl
          have hD := hD.sub (ws' := [(z 4, aI V 1025 f_95), (z 3, aI V 900 fz3), (z 0, .inr (10, mo z pz0_0 pz0_5 v_82 v_83 pz0_8 v_84 v_85 v_74 v_75 pz0_13 pz0_14 pz0_18 pz0_19 pz0_22 pz0_23 pz0_29))]) [1, 0, 2] rfl rfl
          exact fiV hx hb hr hlk hK hP hD hS dX10_readIf_79 (Nat.le_of_ble_eq_true rfl) (Nat.le_of_ble_eq_true rfl) (⟨f_95, v_82, v_83, v_84, v_85, v_74, v_75, tf_95, bv_82, bv_83, bv_85, (iv_w b_94 (by decide)), bv_75, g_86, (PS_x hf1 rx_98 (by have z_r_1 := adv_1 (iv_eqp b_14 (iv_c (1 : Int32) (by decide))); have z_r_29 := adv_1 (iv_eqp b_40 (iv_c (1 : Int32) (by decide))); have z_r_55 := adv_1 (iv_eqp b_66 (iv_c (1 : Int32) (by decide))); have z_r_81 := adv_1 (iv_eqp b_92 (iv_c (1 : Int32) (by decide))); omega)), (by have z_0 := g_7; have z_1 := g_26; have z_2 := g_35; have z_3 := g_52; have z_4 := g_61; have z_5 := g_78; have z_6 := g_87;have y_0 := hf0.1; have y_1 := g_6.1; have y_2 := g_24.1; have y_3 := g_34.1; have y_4 := g_50.1; have y_5 := g_60.1; have y_6 := g_76.1; have y_7 := g_86.1; omega), (RX_w rx_98 (by have z_r_1 := adv_1 (iv_eqp b_14 (iv_c (1 : Int32) (by decide))); have z_r_29 := adv_1 (iv_eqp b_40 (iv_c (1 : Int32) (by decide))); have z_r_55 := adv_1 (iv_eqp b_66 (iv_c (1 : Int32) (by decide))); have z_r_81 := adv_1 (iv_eqp b_92 (iv_c (1 : Int32) (by decide))); omega)), rfl⟩)
        · have b_99 : iv 0 0 r_81 := iv_q c_91 (iv_c (0 : Int32) (a := 0) (b := 0) (by decide))
          refine lv_aload_n hx hb dX10_readIf_67 rfl (lv_at hl 0 rfl) ?_
          refine lv_iconst (v := 2) hx hb dX10_readIf_68 (by decide) ?_
          refine jnV (wr := [(z 4, aI V 1025 f_69), (z 3, aI V 900 fz3)]) (rnV (rest := []) ⟨hx, hb, hml, hown, hg⟩ (k_X10_fails_0 l V z 2 pz0_0 pz0_5 v_82 v_83 pz0_8 v_84 v_85 v_74 v_75 pz0_13 pz0_14 pz0_18 pz0_19 pz0_22 pz0_23 pz0_29 (iv_c (2 : Int32) (by decide)) bpz0_5 bv_82 bv_83 bpz0_8 bv_85 bv_74 bv_75 bpz0_13 bpz0_14 bpz0_18 bpz0_22 bpz0_29) mt_X10_fails q_6_147 ⟨Nat.le_of_ble_eq_true rfl, Nat.le_of_ble_eq_true rfl⟩ hK hP hD hS hA hE [2] rfl rfl 2 rfl rfl rfl rfl hl.1 rfl (Nat.le_of_ble_eq_true rfl) dX10_readIf_69 ⟨Nat.le_of_ble_eq_true rfl, Nat.le_of_ble_eq_true rfl⟩) hP hD hS hA [2] [0, 1] rfl rfl rfl (by decide) (fun  w H locs hw hP hD hS => ?_)
          obtain ⟨v_100, v_101, bv_100, bv_101, rfl⟩ := hw
          have hP : va_P V.1 vwCl [(z 4, aI V 1025 f_69), (z 3, aI V 900 fz3), (z 0, .inr (10, mo z pz0_0 pz0_5 v_82 v_83 pz0_8 v_84 v_85 v_100 v_101 pz0_13 pz0_14 pz0_18 pz0_19 pz0_22 pz0_23 pz0_29))] H := hP
          have hD : va_D A [(z 4, aI V 1025 f_69), (z 3, aI V 900 fz3), (z 0, .inr (10, mo z pz0_0 pz0_5 v_82 v_83 pz0_8 v_84 v_85 v_100 v_101 pz0_13 pz0_14 pz0_18 pz0_19 pz0_22 pz0_23 pz0_29))] := hD
          have rx_102 : RX pz0_11 pz0_6 fz4 v_100 v_82 f_69 3 ((9 : Int)) := RX_f bv_100 (by decide)
          refine lv_aload_n hx hb dX10_readIf_72 rfl (lv_at hl 0 rfl) ?_
          refine lv_sipush (v := 3009) hx hb dX10_readIf_73 (by decide) ?_
          refine jnV (wr := [(z 3, aI V 900 fz3)]) (rnV (rest := []) ⟨hx, hb, hml, hown, hg⟩ (k_X10_codes_0 l V z 3009 f_69 pz0_0 pz0_5 v_82 v_83 pz0_8 v_84 v_85 v_100 v_101 pz0_13 pz0_14 pz0_18 pz0_19 pz0_22 pz0_23 pz0_29 tf_69 bpz0_5 bv_82 bv_83 bpz0_8 bv_85 (iv_w bv_100 (by decide)) bv_101 bpz0_13 bpz0_14 bpz0_18 bpz0_22 bpz0_29 (PS_n hf1 rx_102 bv_82 (by decide) (by omega))) mt_X10_codes q_6_199 ⟨Nat.le_of_ble_eq_true rfl, Nat.le_of_ble_eq_true rfl⟩ hK hP hD hS hA hE [0, 2] rfl rfl 2 rfl rfl rfl rfl hl.1 rfl (Nat.le_of_ble_eq_true rfl) dX10_readIf_76 ⟨Nat.le_of_ble_eq_true rfl, Nat.le_of_ble_eq_true rfl⟩) hP hD hS hA [0, 2] [1] rfl rfl rfl (by decide) (fun  w H locs hw hP hD hS => ?_)
          obtain ⟨f_103, tf_103, g_104, g_105, rfl⟩ := hw
          have hP : va_P V.1 vwCl [(z 3, aI V 900 fz3), (z 4, aI V 1025 f_103), (z 0, .inr (10, mo z pz0_0 pz0_5 v_82 v_83 pz0_8 v_84 v_85 v_100 v_101 pz0_13 pz0_14 pz0_18 pz0_19 pz0_22 pz0_23 pz0_29))] H := hP
          have hD : va_D A [(z 3, aI V 900 fz3), (z 4, aI V 1025 f_103), (z 0, .inr (10, mo z pz0_0 pz0_5 v_82 v_83 pz0_8 v_84 v_85 v_100 v_101 pz0_13 pz0_14 pz0_18 pz0_19 pz0_22 pz0_23 pz0_29))] := hD
          have rx_106 : RX pz0_11 pz0_6 fz4 v_100 v_82 f_103 1 ((8 : Int)) := by have q9 := RX_c rx_102 tf_69 g_104 (by decide) ⟨by decide, by decide⟩ (by decide) (PS_n hf1 rx_102 bv_82 (by decide) (by omega)); rw [(by decide : eff (3009 : Int32) = -2)] at q9; exact RX_w q9 (by omega)
          have hP := subP (ws' := [(z 4, aI V 1025 f_103), (z 3, aI V 900 fz3), (z 0, .inr (10, mo z pz0_0 pz0_5 v_82 v_83 pz0_8 v_84 v_85 v_100 v_101 pz0_13 pz0_14 pz0_18 pz0_19 pz0_22 pz0_23 pz0_29))]) hP [1, 0, 2] rfl
          have hD := hD.sub (ws' := [(z 4, aI V 1025 f_103), (z 3, aI V 900 fz3), (z 0, .inr (10, mo z pz0_0 pz0_5 v_82 v_83 pz0_8 v_84 v_85 v_100 v_101 pz0_13 pz0_14 pz0_18 pz0_19 pz0_22 pz0_23 pz0_29))]) [1, 0, 2] rfl rfl
          exact fiV hx hb hr hlk hK hP hD hS dX10_readIf_79 (Nat.le_of_ble_eq_true rfl) (Nat.le_of_ble_eq_true rfl) (⟨f_103, v_82, v_83, v_84, v_85, v_100, v_101, tf_103, bv_82, bv_83, bv_85, (iv_w bv_100 (by decide)), bv_101, g_86, (PS_f bv_100 (by decide)), (by have z_0 := g_7; have z_1 := g_26; have z_2 := g_35; have z_3 := g_52; have z_4 := g_61; have z_5 := g_78; have z_6 := g_87;have y_0 := hf0.1; have y_1 := g_6.1; have y_2 := g_24.1; have y_3 := g_34.1; have y_4 := g_50.1; have y_5 := g_60.1; have y_6 := g_76.1; have y_7 := g_86.1; omega), (RX_f bv_100 (by decide)), rfl⟩)
      · have b_107 : iv 0 0 r_55 := iv_q c_65 (iv_c (0 : Int32) (a := 0) (b := 0) (by decide))
        refine lv_aload_n hx hb dX10_readIf_46 rfl (lv_at hl 0 rfl) ?_
        refine lv_iconst (v := 2) hx hb dX10_readIf_47 (by decide) ?_
        refine jnV (wr := [(z 4, aI V 1025 f_43), (z 3, aI V 900 fz3)]) (rnV (rest := []) ⟨hx, hb, hml, hown, hg⟩ (k_X10_fails_0 l V z 2 pz0_0 pz0_5 v_56 v_57 pz0_8 v_58 v_59 v_48 v_49 pz0_13 pz0_14 pz0_18 pz0_19 pz0_22 pz0_23 pz0_29 (iv_c (2 : Int32) (by decide)) bpz0_5 bv_56 bv_57 bpz0_8 bv_59 bv_48 bv_49 bpz0_13 bpz0_14 bpz0_18 bpz0_22 bpz0_29) mt_X10_fails q_6_147 ⟨Nat.le_of_ble_eq_true rfl, Nat.le_of_ble_eq_true rfl⟩ hK hP hD hS hA hE [2] rfl rfl 2 rfl rfl rfl rfl hl.1 rfl (Nat.le_of_ble_eq_true rfl) dX10_readIf_48 ⟨Nat.le_of_ble_eq_true rfl, Nat.le_of_ble_eq_true rfl⟩) hP hD hS hA [2] [0, 1] rfl rfl rfl (by decide) (fun  w H locs hw hP hD hS => ?_)
        obtain ⟨v_108, v_109, bv_108, bv_109, rfl⟩ := hw
        have hP : va_P V.1 vwCl [(z 4, aI V 1025 f_43), (z 3, aI V 900 fz3), (z 0, .inr (10, mo z pz0_0 pz0_5 v_56 v_57 pz0_8 v_58 v_59 v_108 v_109 pz0_13 pz0_14 pz0_18 pz0_19 pz0_22 pz0_23 pz0_29))] H := hP
        have hD : va_D A [(z 4, aI V 1025 f_43), (z 3, aI V 900 fz3), (z 0, .inr (10, mo z pz0_0 pz0_5 v_56 v_57 pz0_8 v_58 v_59 v_108 v_109 pz0_13 pz0_14 pz0_18 pz0_19 pz0_22 pz0_23 pz0_29))] := hD
        have rx_110 : RX pz0_11 pz0_6 fz4 v_108 v_56 f_43 2 ((9 : Int)) := RX_f bv_108 (by decide)
        refine lv_aload_n hx hb dX10_readIf_51 rfl (lv_at hl 0 rfl) ?_
        refine lv_iload_n hx hb dX10_readIf_52 rfl (lv_at hl 1 rfl) ?_
        refine lv_iconst (v := 1) hx hb dX10_readIf_53 (by decide) ?_
        refine lv_iadd hx hb dX10_readIf_54 ?_
        refine tpi (y := 6) (by decide +kernel) ?_
        refine jnV (wr := []) (rnV (rest := []) ⟨hx, hb, hml, hown, hg⟩ (k_X10_readSum_0 l V z f_43 fz3 pz0_0 pz0_5 v_56 v_57 pz0_8 v_58 v_59 v_108 v_109 pz0_13 pz0_14 pz0_18 pz0_19 pz0_22 pz0_23 pz0_29 tf_43 bpz0_5 bv_56 bv_57 bpz0_8 bv_59 (iv_w bv_108 (by decide)) bv_109 bpz0_13 bpz0_14 bpz0_18 bpz0_22 bpz0_29 g_60 (PS_f bv_108 (by decide))) mt_X10_readSum q_6_187 ⟨Nat.le_of_ble_eq_true rfl, Nat.le_of_ble_eq_true rfl⟩ hK hP hD hS hA hE [0, 1, 2] rfl rfl 2 rfl rfl rfl rfl hl.1 rfl (Nat.le_of_ble_eq_true rfl) dX10_readIf_55 ⟨Nat.le_of_ble_eq_true rfl, Nat.le_of_ble_eq_true rfl⟩) hP hD hS hA [0, 1, 2] [] rfl rfl rfl (by decide) (fun  w H locs hw hP hD hS => ?_)
        obtain ⟨f_111, v_112, v_113, v_114, v_115, v_116, v_117, tf_111, bv_112, bv_113, bv_115, bv_116, bv_117, g_118, g_119, g_120, g_121, rfl⟩ := hw
        have hP : va_P V.1 vwCl [(z 4, aI V 1025 f_111), (z 3, aI V 900 fz3), (z 0, .inr (10, mo z pz0_0 pz0_5 v_112 v_113 pz0_8 v_114 v_115 v_116 v_117 pz0_13 pz0_14 pz0_18 pz0_19 pz0_22 pz0_23 pz0_29))] H := hP
        have hD : va_D A [(z 4, aI V 1025 f_111), (z 3, aI V 900 fz3), (z 0, .inr (10, mo z pz0_0 pz0_5 v_112 v_113 pz0_8 v_114 v_115 v_116 v_117 pz0_13 pz0_14 pz0_18 pz0_19 pz0_22 pz0_23 pz0_29))] := hD
        have rx_122 : RX pz0_11 pz0_6 fz4 v_116 v_112 f_111 3 ((9 : Int)) := by have q9 := RX_seq (by decide) rx_110 g_121; exact RX_w q9 (by omega)
        refine lv_aload_n hx hb dX10_readIf_58 rfl (lv_at hl 0 rfl) ?_
        refine lv_bipush (v := 16) hx hb dX10_readIf_59 (by decide) ?_
        refine jnI (wr := [(z 4, aI V 1025 f_111)]) (rnV (rest := []) ⟨hx, hb, hml, hown, hg⟩ (k_X10_eats_9 l V z fz3 pz0_0 pz0_5 v_112 v_113 pz0_8 v_114 v_115 v_116 v_117 pz0_13 pz0_14 pz0_18 pz0_19 pz0_22 pz0_23 pz0_29 bpz0_5 bv_112 bv_113 bpz0_8 bv_115 bv_116 bv_117 bpz0_13 bpz0_14 bpz0_18 bpz0_22 bpz0_29 g_118) mt_X10_eats q_6_139 ⟨Nat.le_of_ble_eq_true rfl, Nat.le_of_ble_eq_true rfl⟩ hK hP hD hS hA hE [1, 2] rfl rfl 2 rfl rfl rfl rfl hl.1 rfl (Nat.le_of_ble_eq_true rfl) dX10_readIf_61 ⟨Nat.le_of_ble_eq_true rfl, Nat.le_of_ble_eq_true rfl⟩) hP hD hS hA [1, 2] [0] rfl rfl rfl (by decide) (fun r_123 w H locs hw hP hD hS => ?_)
        obtain ⟨v_124, v_125, v_126, v_127, bv_124, bv_125, bv_127, br_123, g_128, g_129, g_130, g_131, rfl⟩ := hw
        have hP : va_P V.1 vwCl [(z 4, aI V 1025 f_111), (z 3, aI V 900 fz3), (z 0, .inr (10, mo z pz0_0 pz0_5 v_124 v_125 pz0_8 v_126 v_127 v_116 v_117 pz0_13 pz0_14 pz0_18 pz0_19 pz0_22 pz0_23 pz0_29))] H := hP
        have hD : va_D A [(z 4, aI V 1025 f_111), (z 3, aI V 900 fz3), (z 0, .inr (10, mo z pz0_0 pz0_5 v_124 v_125 pz0_8 v_126 v_127 v_116 v_117 pz0_13 pz0_14 pz0_18 pz0_19 pz0_22 pz0_23 pz0_29))] := hD
        have rx_132 : RX pz0_11 pz0_6 fz4 v_116 v_124 f_111 3 ((9 : Int) + adv r_123) := by have q9 := RX_a rx_122 (fun q8 => q8) (adv_le g_129 g_131); exact RX_w q9 (by omega)
        refine lv_if_ne (tgt := 72) hx hb dX10_readIf_64 (by decide) (fun c_133 => ?_) (fun c_133 => ?_)
        · have b_134 : iv 1 1 r_123 := iv_n0 c_133 br_123 (iv_c (0 : Int32) (a := 0) (b := 0) (by decide)) (by decide)
          have c_135 : v_116 = 0 := (g_130 (iv_eqp b_134 (iv_c (1 : Int32) (by decide))))
          have b_136 : iv 0 0 v_116 := iv_q c_135 (iv_c (0 : Int32) (a := 0) (b := 0) (by decide))
          refine lv_aload_n hx hb dX10_readIf_72 rfl (lv_at hl 0 rfl) ?_
          refine lv_sipush (v := 3009) hx hb dX10_readIf_73 (by decide) ?_
          refine jnV (wr := [(z 3, aI V 900 fz3)]) (rnV (rest := []) ⟨hx, hb, hml, hown, hg⟩ (k_X10_codes_0 l V z 3009 f_111 pz0_0 pz0_5 v_124 v_125 pz0_8 v_126 v_127 v_116 v_117 pz0_13 pz0_14 pz0_18 pz0_19 pz0_22 pz0_23 pz0_29 tf_111 bpz0_5 bv_124 bv_125 bpz0_8 bv_127 (iv_w b_136 (by decide)) bv_117 bpz0_13 bpz0_14 bpz0_18 bpz0_22 bpz0_29 (PS_n hf1 rx_132 bv_124 (by decide) (by have z_r_123 := adv_1 (iv_eqp b_134 (iv_c (1 : Int32) (by decide))); omega))) mt_X10_codes q_6_199 ⟨Nat.le_of_ble_eq_true rfl, Nat.le_of_ble_eq_true rfl⟩ hK hP hD hS hA hE [0, 2] rfl rfl 2 rfl rfl rfl rfl hl.1 rfl (Nat.le_of_ble_eq_true rfl) dX10_readIf_76 ⟨Nat.le_of_ble_eq_true rfl, Nat.le_of_ble_eq_true rfl⟩) hP hD hS hA [0, 2] [1] rfl rfl rfl (by decide) (fun  w H locs hw hP hD hS => ?_)
          obtain ⟨f_137, tf_137, g_138, g_139, rfl⟩ := hw
          have hP : va_P V.1 vwCl [(z 3, aI V 900 fz3), (z 4, aI V 1025 f_137), (z 0, .inr (10, mo z pz0_0 pz0_5 v_124 v_125 pz0_8 v_126 v_127 v_116 v_117 pz0_13 pz0_14 pz0_18 pz0_19 pz0_22 pz0_23 pz0_29))] H := hP
          have hD : va_D A [(z 3, aI V 900 fz3), (z 4, aI V 1025 f_137), (z 0, .inr (10, mo z pz0_0 pz0_5 v_124 v_125 pz0_8 v_126 v_127 v_116 v_117 pz0_13 pz0_14 pz0_18 pz0_19 pz0_22 pz0_23 pz0_29))] := hD
          have rx_140 : RX pz0_11 pz0_6 fz4 v_116 v_124 f_137 1 ((8 : Int) + adv r_123) := by have q9 := RX_c rx_132 tf_111 g_138 (by decide) ⟨by decide, by decide⟩ (by decide) (PS_n hf1 rx_132 bv_124 (by decide) (by have z_r_123 := adv_1 (iv_eqp b_134 (iv_c (1 : Int32) (by decide))); omega)); rw [(by decide : eff (3009 : Int32) = -2)] at q9; exact RX_w q9 (by omega)
          have hP := subP (ws' := [(z 4, aI V 1025 f_137), (z 3, aI V 900 fz3), (z 0, .inr (10, mo z pz0_0 pz0_5 v_124 v_125 pz0_8 v_126 v_127 v_116 v_117 pz0_13 pz0_14 pz0_18 pz0_19 pz0_22 pz0_23 pz0_29))]) hP [1, 0, 2] rfl
          have hD := hD.sub (ws' := [(z 4, aI V 1025 f_137), (z 3, aI V 900 fz3), (z 0, .inr (10, mo z pz0_0 pz0_5 v_124 v_125 pz0_8 v_126 v_127 v_116 v_117 pz0_13 pz0_14 pz0_18 pz0_19 pz0_22 pz0_23 pz0_29))]) [1, 0, 2] rfl rfl
          exact fiV hx hb hr hlk hK hP hD hS dX10_readIf_79 (Nat.le_of_ble_eq_true rfl) (Nat.le_of_ble_eq_true rfl) (⟨f_137, v_124, v_125, v_126, v_127, v_116, v_117, tf_137, bv_124, bv_125, bv_127, (iv_w b_136 (by decide)), bv_117, g_128, (PS_x hf1 rx_140 (by have z_r_123 := adv_1 (iv_eqp b_134 (iv_c (1 : Int32) (by decide))); omega)), (by have z_0 := g_7; have z_1 := g_26; have z_2 := g_35; have z_3 := g_52; have z_4 := g_61; have z_5 := g_120; have z_6 := g_129;have y_0 := hf0.1; have y_1 := g_6.1; have y_2 := g_24.1; have y_3 := g_34.1; have y_4 := g_50.1; have y_5 := g_60.1; have y_6 := g_118.1; have y_7 := g_128.1; omega), (RX_w rx_140 (by have z_r_123 := adv_1 (iv_eqp b_134 (iv_c (1 : Int32) (by decide))); omega)), rfl⟩)
        · have b_141 : iv 0 0 r_123 := iv_q c_133 (iv_c (0 : Int32) (a := 0) (b := 0) (by decide))
          refine lv_aload_n hx hb dX10_readIf_67 rfl (lv_at hl 0 rfl) ?_
          refine lv_iconst (v := 2) hx hb dX10_readIf_68 (by decide) ?_
          refine jnV (wr := [(z 4, aI V 1025 f_111), (z 3, aI V 900 fz3)]) (rnV (rest := []) ⟨hx, hb, hml, hown, hg⟩ (k_X10_fails_0 l V z 2 pz0_0 pz0_5 v_124 v_125 pz0_8 v_126 v_127 v_116 v_117 pz0_13 pz0_14 pz0_18 pz0_19 pz0_22 pz0_23 pz0_29 (iv_c (2 : Int32) (by decide)) bpz0_5 bv_124 bv_125 bpz0_8 bv_127 bv_116 bv_117 bpz0_13 bpz0_14 bpz0_18 bpz0_22 bpz0_29) mt_X10_fails q_6_147 ⟨Nat.le_of_ble_eq_true rfl, Nat.le_of_ble_eq_true rfl⟩ hK hP hD hS hA hE [2] rfl rfl 2 rfl rfl rfl rfl hl.1 rfl (Nat.le_of_ble_eq_true rfl) dX10_readIf_69 ⟨Nat.le_of_ble_eq_true rfl, Nat.le_of_ble_eq_true rfl⟩) hP hD hS hA [2] [0, 1] rfl rfl rfl (by decide) (fun  w H locs hw hP hD hS => ?_)
          obtain ⟨v_142, v_143, bv_142, bv_143, rfl⟩ := hw
          have hP : va_P V.1 vwCl [(z 4, aI V 1025 f_111), (z 3, aI V 900 fz3), (z 0, .inr (10, mo z pz0_0 pz0_5 v_124 v_125 pz0_8 v_126 v_127 v_142 v_143 pz0_13 pz0_14 pz0_18 pz0_19 pz0_22 pz0_23 pz0_29))] H := hP
          have hD : va_D A [(z 4, aI V 1025 f_111), (z 3, aI V 900 fz3), (z 0, .inr (10, mo z pz0_0 pz0_5 v_124 v_125 pz0_8 v_126 v_127 v_142 v_143 pz0_13 pz0_14 pz0_18 pz0_19 pz0_22 pz0_23 pz0_29))] := hD
          have rx_144 : RX pz0_11 pz0_6 fz4 v_142 v_124 f_111 3 ((9 : Int)) := RX_f bv_142 (by decide)
          refine lv_aload_n hx hb dX10_readIf_72 rfl (lv_at hl 0 rfl) ?_
          refine lv_sipush (v := 3009) hx hb dX10_readIf_73 (by decide) ?_
          refine jnV (wr := [(z 3, aI V 900 fz3)]) (rnV (rest := []) ⟨hx, hb, hml, hown, hg⟩ (k_X10_codes_0 l V z 3009 f_111 pz0_0 pz0_5 v_124 v_125 pz0_8 v_126 v_127 v_142 v_143 pz0_13 pz0_14 pz0_18 pz0_19 pz0_22 pz0_23 pz0_29 tf_111 bpz0_5 bv_124 bv_125 bpz0_8 bv_127 (iv_w bv_142 (by decide)) bv_143 bpz0_13 bpz0_14 bpz0_18 bpz0_22 bpz0_29 (PS_n hf1 rx_144 bv_124 (by decide) (by omega))) mt_X10_codes q_6_199 ⟨Nat.le_of_ble_eq_true rfl, Nat.le_of_ble_eq_true rfl⟩ hK hP hD hS hA hE [0, 2] rfl rfl 2 rfl rfl rfl rfl hl.1 rfl (Nat.le_of_ble_eq_true rfl) dX10_readIf_76 ⟨Nat.le_of_ble_eq_true rfl, Nat.le_of_ble_eq_true rfl⟩) hP hD hS hA [0, 2] [1] rfl rfl rfl (by decide) (fun  w H locs hw hP hD hS => ?_)
          obtain ⟨f_145, tf_145, g_146, g_147, rfl⟩ := hw
          have hP : va_P V.1 vwCl [(z 3, aI V 900 fz3), (z 4, aI V 1025 f_145), (z 0, .inr (10, mo z pz0_0 pz0_5 v_124 v_125 pz0_8 v_126 v_127 v_142 v_143 pz0_13 pz0_14 pz0_18 pz0_19 pz0_22 pz0_23 pz0_29))] H := hP
          have hD : va_D A [(z 3, aI V 900 fz3), (z 4, aI V 1025 f_145), (z 0, .inr (10, mo z pz0_0 pz0_5 v_124 v_125 pz0_8 v_126 v_127 v_142 v_143 pz0_13 pz0_14 pz0_18 pz0_19 pz0_22 pz0_23 pz0_29))] := hD
          have rx_148 : RX pz0_11 pz0_6 fz4 v_142 v_124 f_145 1 ((8 : Int)) := by have q9 := RX_c rx_144 tf_111 g_146 (by decide) ⟨by decide, by decide⟩ (by decide) (PS_n hf1 rx_144 bv_124 (by decide) (by omega)); rw [(by decide : eff (3009 : Int32) = -2)] at q9; exact RX_w q9 (by omega)
          have hP := subP (ws' := [(z 4, aI V 1025 f_145), (z 3, aI V 900 fz3), (z 0, .inr (10, mo z pz0_0 pz0_5 v_124 v_125 pz0_8 v_126 v_127 v_142 v_143 pz0_13 pz0_14 pz0_18 pz0_19 pz0_22 pz0_23 pz0_29))]) hP [1, 0, 2] rfl
          have hD := hD.sub (ws' := [(z 4, aI V 1025 f_145), (z 3, aI V 900 fz3), (z 0, .inr (10, mo z pz0_0 pz0_5 v_124 v_125 pz0_8 v_126 v_127 v_142 v_143 pz0_13 pz0_14 pz0_18 pz0_19 pz0_22 pz0_23 pz0_29))]) [1, 0, 2] rfl rfl
          exact fiV hx hb hr hlk hK hP hD hS dX10_readIf_79 (Nat.le_of_ble_eq_true rfl) (Nat.le_of_ble_eq_true rfl) (⟨f_145, v_124, v_125, v_126, v_127, v_142, v_143, tf_145, bv_124, bv_125, bv_127, (iv_w bv_142 (by decide)), bv_143, g_128, (PS_f bv_142 (by decide)), (by have z_0 := g_7; have z_1 := g_26; have z_2 := g_35; have z_3 := g_52; have z_4 := g_61; have z_5 := g_120; have z_6 := g_129;have y_0 := hf0.1; have y_1 := g_6.1; have y_2 := g_24.1; have y_3 := g_34.1; have y_4 := g_50.1; have y_5 := g_60.1; have y_6 := g_118.1; have y_7 := g_128.1; omega), (RX_f bv_142 (by decide)), rfl⟩)
    · have b_149 : iv 0 0 r_29 := iv_q c_39 (iv_c (0 : Int32) (a := 0) (b := 0) (by decide))
      refine lv_aload_n hx hb dX10_readIf_25 rfl (lv_at hl 0 rfl) ?_
      refine lv_iconst (v := 2) hx hb dX10_readIf_26 (by decide) ?_
      refine jnV (wr := [(z 4, aI V 1025 f_17), (z 3, aI V 900 fz3)]) (rnV (rest := []) ⟨hx, hb, hml, hown, hg⟩ (k_X10_fails_0 l V z 2 pz0_0 pz0_5 v_30 v_31 pz0_8 v_32 v_33 v_22 v_23 pz0_13 pz0_14 pz0_18 pz0_19 pz0_22 pz0_23 pz0_29 (iv_c (2 : Int32) (by decide)) bpz0_5 bv_30 bv_31 bpz0_8 bv_33 bv_22 bv_23 bpz0_13 bpz0_14 bpz0_18 bpz0_22 bpz0_29) mt_X10_fails q_6_147 ⟨Nat.le_of_ble_eq_true rfl, Nat.le_of_ble_eq_true rfl⟩ hK hP hD hS hA hE [2] rfl rfl 2 rfl rfl rfl rfl hl.1 rfl (Nat.le_of_ble_eq_true rfl) dX10_readIf_27 ⟨Nat.le_of_ble_eq_true rfl, Nat.le_of_ble_eq_true rfl⟩) hP hD hS hA [2] [0, 1] rfl rfl rfl (by decide) (fun  w H locs hw hP hD hS => ?_)
      obtain ⟨v_150, v_151, bv_150, bv_151, rfl⟩ := hw
      have hP : va_P V.1 vwCl [(z 4, aI V 1025 f_17), (z 3, aI V 900 fz3), (z 0, .inr (10, mo z pz0_0 pz0_5 v_30 v_31 pz0_8 v_32 v_33 v_150 v_151 pz0_13 pz0_14 pz0_18 pz0_19 pz0_22 pz0_23 pz0_29))] H := hP
      have hD : va_D A [(z 4, aI V 1025 f_17), (z 3, aI V 900 fz3), (z 0, .inr (10, mo z pz0_0 pz0_5 v_30 v_31 pz0_8 v_32 v_33 v_150 v_151 pz0_13 pz0_14 pz0_18 pz0_19 pz0_22 pz0_23 pz0_29))] := hD
      have rx_152 : RX pz0_11 pz0_6 fz4 v_150 v_30 f_17 1 ((9 : Int)) := RX_f bv_150 (by decide)
      refine lv_aload_n hx hb dX10_readIf_30 rfl (lv_at hl 0 rfl) ?_
      refine lv_iload_n hx hb dX10_readIf_31 rfl (lv_at hl 1 rfl) ?_
      refine lv_iconst (v := 1) hx hb dX10_readIf_32 (by decide) ?_
      refine lv_iadd hx hb dX10_readIf_33 ?_
      refine tpi (y := 6) (by decide +kernel) ?_
      refine jnV (wr := []) (rnV (rest := []) ⟨hx, hb, hml, hown, hg⟩ (k_X10_readSum_0 l V z f_17 fz3 pz0_0 pz0_5 v_30 v_31 pz0_8 v_32 v_33 v_150 v_151 pz0_13 pz0_14 pz0_18 pz0_19 pz0_22 pz0_23 pz0_29 tf_17 bpz0_5 bv_30 bv_31 bpz0_8 bv_33 (iv_w bv_150 (by decide)) bv_151 bpz0_13 bpz0_14 bpz0_18 bpz0_22 bpz0_29 g_34 (PS_f bv_150 (by decide))) mt_X10_readSum q_6_187 ⟨Nat.le_of_ble_eq_true rfl, Nat.le_of_ble_eq_true rfl⟩ hK hP hD hS hA hE [0, 1, 2] rfl rfl 2 rfl rfl rfl rfl hl.1 rfl (Nat.le_of_ble_eq_true rfl) dX10_readIf_34 ⟨Nat.le_of_ble_eq_true rfl, Nat.le_of_ble_eq_true rfl⟩) hP hD hS hA [0, 1, 2] [] rfl rfl rfl (by decide) (fun  w H locs hw hP hD hS => ?_)
      obtain ⟨f_153, v_154, v_155, v_156, v_157, v_158, v_159, tf_153, bv_154, bv_155, bv_157, bv_158, bv_159, g_160, g_161, g_162, g_163, rfl⟩ := hw
      have hP : va_P V.1 vwCl [(z 4, aI V 1025 f_153), (z 3, aI V 900 fz3), (z 0, .inr (10, mo z pz0_0 pz0_5 v_154 v_155 pz0_8 v_156 v_157 v_158 v_159 pz0_13 pz0_14 pz0_18 pz0_19 pz0_22 pz0_23 pz0_29))] H := hP
      have hD : va_D A [(z 4, aI V 1025 f_153), (z 3, aI V 900 fz3), (z 0, .inr (10, mo z pz0_0 pz0_5 v_154 v_155 pz0_8 v_156 v_157 v_158 v_159 pz0_13 pz0_14 pz0_18 pz0_19 pz0_22 pz0_23 pz0_29))] := hD
      have rx_164 : RX pz0_11 pz0_6 fz4 v_158 v_154 f_153 2 ((9 : Int)) := by have q9 := RX_seq (by decide) rx_152 g_163; exact RX_w q9 (by omega)
      refine lv_aload_n hx hb dX10_readIf_37 rfl (lv_at hl 0 rfl) ?_
      refine lv_bipush (v := 15) hx hb dX10_readIf_38 (by decide) ?_
      refine jnI (wr := [(z 4, aI V 1025 f_153)]) (rnV (rest := []) ⟨hx, hb, hml, hown, hg⟩ (k_X10_eats_8 l V z fz3 pz0_0 pz0_5 v_154 v_155 pz0_8 v_156 v_157 v_158 v_159 pz0_13 pz0_14 pz0_18 pz0_19 pz0_22 pz0_23 pz0_29 bpz0_5 bv_154 bv_155 bpz0_8 bv_157 bv_158 bv_159 bpz0_13 bpz0_14 bpz0_18 bpz0_22 bpz0_29 g_160) mt_X10_eats q_6_139 ⟨Nat.le_of_ble_eq_true rfl, Nat.le_of_ble_eq_true rfl⟩ hK hP hD hS hA hE [1, 2] rfl rfl 2 rfl rfl rfl rfl hl.1 rfl (Nat.le_of_ble_eq_true rfl) dX10_readIf_40 ⟨Nat.le_of_ble_eq_true rfl, Nat.le_of_ble_eq_true rfl⟩) hP hD hS hA [1, 2] [0] rfl rfl rfl (by decide) (fun r_165 w H locs hw hP hD hS => ?_)
      obtain ⟨v_166, v_167, v_168, v_169, bv_166, bv_167, bv_169, br_165, g_170, g_171, g_172, g_173, rfl⟩ := hw
      have hP : va_P V.1 vwCl [(z 4, aI V 1025 f_153), (z 3, aI V 900 fz3), (z 0, .inr (10, mo z pz0_0 pz0_5 v_166 v_167 pz0_8 v_168 v_169 v_158 v_159 pz0_13 pz0_14 pz0_18 pz0_19 pz0_22 pz0_23 pz0_29))] H := hP
      have hD : va_D A [(z 4, aI V 1025 f_153), (z 3, aI V 900 fz3), (z 0, .inr (10, mo z pz0_0 pz0_5 v_166 v_167 pz0_8 v_168 v_169 v_158 v_159 pz0_13 pz0_14 pz0_18 pz0_19 pz0_22 pz0_23 pz0_29))] := hD
      have rx_174 : RX pz0_11 pz0_6 fz4 v_158 v_166 f_153 2 ((9 : Int) + adv r_165) := by have q9 := RX_a rx_164 (fun q8 => q8) (adv_le g_171 g_173); exact RX_w q9 (by omega)
      refine lv_if_ne (tgt := 51) hx hb dX10_readIf_43 (by decide) (fun c_175 => ?_) (fun c_175 => ?_)
      · have b_176 : iv 1 1 r_165 := iv_n0 c_175 br_165 (iv_c (0 : Int32) (a := 0) (b := 0) (by decide)) (by decide)
        have c_177 : v_158 = 0 := (g_172 (iv_eqp b_176 (iv_c (1 : Int32) (by decide))))
        have b_178 : iv 0 0 v_158 := iv_q c_177 (iv_c (0 : Int32) (a := 0) (b := 0) (by decide))
        refine lv_aload_n hx hb dX10_readIf_51 rfl (lv_at hl 0 rfl) ?_
        refine lv_iload_n hx hb dX10_readIf_52 rfl (lv_at hl 1 rfl) ?_
        refine lv_iconst (v := 1) hx hb dX10_readIf_53 (by decide) ?_
        refine lv_iadd hx hb dX10_readIf_54 ?_
        refine tpi (y := 6) (by decide +kernel) ?_
        refine jnV (wr := []) (rnV (rest := []) ⟨hx, hb, hml, hown, hg⟩ (k_X10_readSum_0 l V z f_153 fz3 pz0_0 pz0_5 v_166 v_167 pz0_8 v_168 v_169 v_158 v_159 pz0_13 pz0_14 pz0_18 pz0_19 pz0_22 pz0_23 pz0_29 tf_153 bpz0_5 bv_166 bv_167 bpz0_8 bv_169 (iv_w b_178 (by decide)) bv_159 bpz0_13 bpz0_14 bpz0_18 bpz0_22 bpz0_29 g_170 (PS_x hf1 rx_174 (by have z_r_165 := adv_1 (iv_eqp b_176 (iv_c (1 : Int32) (by decide))); omega))) mt_X10_readSum q_6_187 ⟨Nat.le_of_ble_eq_true rfl, Nat.le_of_ble_eq_true rfl⟩ hK hP hD hS hA hE [0, 1, 2] rfl rfl 2 rfl rfl rfl rfl hl.1 rfl (Nat.le_of_ble_eq_true rfl) dX10_readIf_55 ⟨Nat.le_of_ble_eq_true rfl, Nat.le_of_ble_eq_true rfl⟩) hP hD hS hA [0, 1, 2] [] rfl rfl rfl (by decide) (fun  w H locs hw hP hD hS => ?_)
        obtain ⟨f_179, v_180, v_181, v_182, v_183, v_184, v_185, tf_179, bv_180, bv_181, bv_183, bv_184, bv_185, g_186, g_187, g_188, g_189, rfl⟩ := hw
        have hP : va_P V.1 vwCl [(z 4, aI V 1025 f_179), (z 3, aI V 900 fz3), (z 0, .inr (10, mo z pz0_0 pz0_5 v_180 v_181 pz0_8 v_182 v_183 v_184 v_185 pz0_13 pz0_14 pz0_18 pz0_19 pz0_22 pz0_23 pz0_29))] H := hP
        have hD : va_D A [(z 4, aI V 1025 f_179), (z 3, aI V 900 fz3), (z 0, .inr (10, mo z pz0_0 pz0_5 v_180 v_181 pz0_8 v_182 v_183 v_184 v_185 pz0_13 pz0_14 pz0_18 pz0_19 pz0_22 pz0_23 pz0_29))] := hD
        have rx_190 : RX pz0_11 pz0_6 fz4 v_184 v_180 f_179 3 ((9 : Int) + adv r_165) := by have q9 := RX_seq (by decide) rx_174 g_189; exact RX_w q9 (by omega)
        refine lv_aload_n hx hb dX10_readIf_58 rfl (lv_at hl 0 rfl) ?_
        refine lv_bipush (v := 16) hx hb dX10_readIf_59 (by decide) ?_
        refine jnI (wr := [(z 4, aI V 1025 f_179)]) (rnV (rest := []) ⟨hx, hb, hml, hown, hg⟩ (k_X10_eats_9 l V z fz3 pz0_0 pz0_5 v_180 v_181 pz0_8 v_182 v_183 v_184 v_185 pz0_13 pz0_14 pz0_18 pz0_19 pz0_22 pz0_23 pz0_29 bpz0_5 bv_180 bv_181 bpz0_8 bv_183 bv_184 bv_185 bpz0_13 bpz0_14 bpz0_18 bpz0_22 bpz0_29 g_186) mt_X10_eats q_6_139 ⟨Nat.le_of_ble_eq_true rfl, Nat.le_of_ble_eq_true rfl⟩ hK hP hD hS hA hE [1, 2] rfl rfl 2 rfl rfl rfl rfl hl.1 rfl (Nat.le_of_ble_eq_true rfl) dX10_readIf_61 ⟨Nat.le_of_ble_eq_true rfl, Nat.le_of_ble_eq_true rfl⟩) hP hD hS hA [1, 2] [0] rfl rfl rfl (by decide) (fun r_191 w H locs hw hP hD hS => ?_)
        obtain ⟨v_192, v_193, v_194, v_195, bv_192, bv_193, bv_195, br_191, g_196, g_197, g_198, g_199, rfl⟩ := hw
        have hP : va_P V.1 vwCl [(z 4, aI V 1025 f_179), (z 3, aI V 900 fz3), (z 0, .inr (10, mo z pz0_0 pz0_5 v_192 v_193 pz0_8 v_194 v_195 v_184 v_185 pz0_13 pz0_14 pz0_18 pz0_19 pz0_22 pz0_23 pz0_29))] H := hP
        have hD : va_D A [(z 4, aI V 1025 f_179), (z 3, aI V 900 fz3), (z 0, .inr (10, mo z pz0_0 pz0_5 v_192 v_193 pz0_8 v_194 v_195 v_184 v_185 pz0_13 pz0_14 pz0_18 pz0_19 pz0_22 pz0_23 pz0_29))] := hD
        have rx_200 : RX pz0_11 pz0_6 fz4 v_184 v_192 f_179 3 ((9 : Int) + adv r_165 + adv r_191) := by have q9 := RX_a rx_190 (fun q8 => q8) (adv_le g_197 g_199); exact RX_w q9 (by omega)
        refine lv_if_ne (tgt := 72) hx hb dX10_readIf_64 (by decide) (fun c_201 => ?_) (fun c_201 => ?_)
        · have b_202 : iv 1 1 r_191 := iv_n0 c_201 br_191 (iv_c (0 : Int32) (a := 0) (b := 0) (by decide)) (by decide)
          have c_203 : v_184 = 0 := (g_198 (iv_eqp b_202 (iv_c (1 : Int32) (by decide))))
          have b_204 : iv 0 0 v_184 := iv_q c_203 (iv_c (0 : Int32) (a := 0) (b := 0) (by decide))
          refine lv_aload_n hx hb dX10_readIf_72 rfl (lv_at hl 0 rfl) ?_
          refine lv_sipush (v := 3009) hx hb dX10_readIf_73 (by decide) ?_
          refine jnV (wr := [(z 3, aI V 900 fz3)]) (rnV (rest := []) ⟨hx, hb, hml, hown, hg⟩ (k_X10_codes_0 l V z 3009 f_179 pz0_0 pz0_5 v_192 v_193 pz0_8 v_194 v_195 v_184 v_185 pz0_13 pz0_14 pz0_18 pz0_19 pz0_22 pz0_23 pz0_29 tf_179 bpz0_5 bv_192 bv_193 bpz0_8 bv_195 (iv_w b_204 (by decide)) bv_185 bpz0_13 bpz0_14 bpz0_18 bpz0_22 bpz0_29 (PS_n hf1 rx_200 bv_192 (by decide) (by have z_r_165 := adv_1 (iv_eqp b_176 (iv_c (1 : Int32) (by decide))); have z_r_191 := adv_1 (iv_eqp b_202 (iv_c (1 : Int32) (by decide))); omega))) mt_X10_codes q_6_199 ⟨Nat.le_of_ble_eq_true rfl, Nat.le_of_ble_eq_true rfl⟩ hK hP hD hS hA hE [0, 2] rfl rfl 2 rfl rfl rfl rfl hl.1 rfl (Nat.le_of_ble_eq_true rfl) dX10_readIf_76 ⟨Nat.le_of_ble_eq_true rfl, Nat.le_of_ble_eq_true rfl⟩) hP hD hS hA [0, 2] [1] rfl rfl rfl (by decide) (fun  w H locs hw hP hD hS => ?_)
          obtain ⟨f_205, tf_205, g_206, g_207, rfl⟩ := hw
          have hP : va_P V.1 vwCl [(z 3, aI V 900 fz3), (z 4, aI V 1025 f_205), (z 0, .inr (10, mo z pz0_0 pz0_5 v_192 v_193 pz0_8 v_194 v_195 v_184 v_185 pz0_13 pz0_14 pz0_18 pz0_19 pz0_22 pz0_23 pz0_29))] H := hP
          have hD : va_D A [(z 3, aI V 900 fz3), (z 4, aI V 1025 f_205), (z 0, .inr (10, mo z pz0_0 pz0_5 v_192 v_193 pz0_8 v_194 v_195 v_184 v_185 pz0_13 pz0_14 pz0_18 pz0_19 pz0_22 pz0_23 pz0_29))] := hD
          have rx_208 : RX pz0_11 pz0_6 fz4 v_184 v_192 f_205 1 ((8 : Int) + adv r_165 + adv r_191) := by have q9 := RX_c rx_200 tf_179 g_206 (by decide) ⟨by decide, by decide⟩ (by decide) (PS_n hf1 rx_200 bv_192 (by decide) (by have z_r_165 := adv_1 (iv_eqp b_176 (iv_c (1 : Int32) (by decide))); have z_r_191 := adv_1 (iv_eqp b_202 (iv_c (1 : Int32) (by decide))); omega)); rw [(by decide : eff (3009 : Int32) = -2)] at q9; exact RX_w q9 (by omega)
          have hP := subP (ws' := [(z 4, aI V 1025 f_205), (z 3, aI V 900 fz3), (z 0, .inr (10, mo z pz0_0 pz0_5 v_192 v_193 pz0_8 v_194 v_195 v_184 v_185 pz0_13 pz0_14 pz0_18 pz0_19 pz0_22 pz0_23 pz0_29))]) hP [1, 0, 2] rfl
          have hD := hD.sub (ws' := [(z 4, aI V 1025 f_205), (z 3, aI V 900 fz3), (z 0, .inr (10, mo z pz0_0 pz0_5 v_192 v_193 pz0_8 v_194 v_195 v_184 v_185 pz0_13 pz0_14 pz0_18 pz0_19 pz0_22 pz0_23 pz0_29))]) [1, 0, 2] rfl rfl
          exact fiV hx hb hr hlk hK hP hD hS dX10_readIf_79 (Nat.le_of_ble_eq_true rfl) (Nat.le_of_ble_eq_true rfl) (⟨f_205, v_192, v_193, v_194, v_195, v_184, v_185, tf_205, bv_192, bv_193, bv_195, (iv_w b_204 (by decide)), bv_185, g_196, (PS_x hf1 rx_208 (by have z_r_165 := adv_1 (iv_eqp b_176 (iv_c (1 : Int32) (by decide))); have z_r_191 := adv_1 (iv_eqp b_202 (iv_c (1 : Int32) (by decide))); omega)), (by have z_0 := g_7; have z_1 := g_26; have z_2 := g_35; have z_3 := g_162; have z_4 := g_171; have z_5 := g_188; have z_6 := g_197;have y_0 := hf0.1; have y_1 := g_6.1; have y_2 := g_24.1; have y_3 := g_34.1; have y_4 := g_160.1; have y_5 := g_170.1; have y_6 := g_186.1; have y_7 := g_196.1; omega), (RX_w rx_208 (by have z_r_165 := adv_1 (iv_eqp b_176 (iv_c (1 : Int32) (by decide))); have z_r_191 := adv_1 (iv_eqp b_202 (iv_c (1 : Int32) (by decide))); omega)), rfl⟩)
        · have b_209 : iv 0 0 r_191 := iv_q c_201 (iv_c (0 : Int32) (a := 0) (b := 0) (by decide))
          refine lv_aload_n hx hb dX10_readIf_67 rfl (lv_at hl 0 rfl) ?_
          refine lv_iconst (v := 2) hx hb dX10_readIf_68 (by decide) ?_
          refine jnV (wr := [(z 4, aI V 1025 f_179), (z 3, aI V 900 fz3)]) (rnV (rest := []) ⟨hx, hb, hml, hown, hg⟩ (k_X10_fails_0 l V z 2 pz0_0 pz0_5 v_192 v_193 pz0_8 v_194 v_195 v_184 v_185 pz0_13 pz0_14 pz0_18 pz0_19 pz0_22 pz0_23 pz0_29 (iv_c (2 : Int32) (by decide)) bpz0_5 bv_192 bv_193 bpz0_8 bv_195 bv_184 bv_185 bpz0_13 bpz0_14 bpz0_18 bpz0_22 bpz0_29) mt_X10_fails q_6_147 ⟨Nat.le_of_ble_eq_true rfl, Nat.le_of_ble_eq_true rfl⟩ hK hP hD hS hA hE [2] rfl rfl 2 rfl rfl rfl rfl hl.1 rfl (Nat.le_of_ble_eq_true rfl) dX10_readIf_69 ⟨Nat.le_of_ble_eq_true rfl, Nat.le_of_ble_eq_true rfl⟩) hP hD hS hA [2] [0, 1] rfl rfl rfl (by decide) (fun  w H locs hw hP hD hS => ?_)
          obtain ⟨v_210, v_211, bv_210, bv_211, rfl⟩ := hw
          have hP : va_P V.1 vwCl [(z 4, aI V 1025 f_179), (z 3, aI V 900 fz3), (z 0, .inr (10, mo z pz0_0 pz0_5 v_192 v_193 pz0_8 v_194 v_195 v_210 v_211 pz0_13 pz0_14 pz0_18 pz0_19 pz0_22 pz0_23 pz0_29))] H := hP
          have hD : va_D A [(z 4, aI V 1025 f_179), (z 3, aI V 900 fz3), (z 0, .inr (10, mo z pz0_0 pz0_5 v_192 v_193 pz0_8 v_194 v_195 v_210 v_211 pz0_13 pz0_14 pz0_18 pz0_19 pz0_22 pz0_23 pz0_29))] := hD
          have rx_212 : RX pz0_11 pz0_6 fz4 v_210 v_192 f_179 3 ((9 : Int)) := RX_f bv_210 (by decide)
          refine lv_aload_n hx hb dX10_readIf_72 rfl (lv_at hl 0 rfl) ?_
          refine lv_sipush (v := 3009) hx hb dX10_readIf_73 (by decide) ?_
          refine jnV (wr := [(z 3, aI V 900 fz3)]) (rnV (rest := []) ⟨hx, hb, hml, hown, hg⟩ (k_X10_codes_0 l V z 3009 f_179 pz0_0 pz0_5 v_192 v_193 pz0_8 v_194 v_195 v_210 v_211 pz0_13 pz0_14 pz0_18 pz0_19 pz0_22 pz0_23 pz0_29 tf_179 bpz0_5 bv_192 bv_193 bpz0_8 bv_195 (iv_w bv_210 (by decide)) bv_211 bpz0_13 bpz0_14 bpz0_18 bpz0_22 bpz0_29 (PS_n hf1 rx_212 bv_192 (by decide) (by omega))) mt_X10_codes q_6_199 ⟨Nat.le_of_ble_eq_true rfl, Nat.le_of_ble_eq_true rfl⟩ hK hP hD hS hA hE [0, 2] rfl rfl 2 rfl rfl rfl rfl hl.1 rfl (Nat.le_of_ble_eq_true rfl) dX10_readIf_76 ⟨Nat.le_of_ble_eq_true rfl, Nat.le_of_ble_eq_true rfl⟩) hP hD hS hA [0, 2] [1] rfl rfl rfl (by decide) (fun  w H locs hw hP hD hS => ?_)
          obtain ⟨f_213, tf_213, g_214, g_215, rfl⟩ := hw
          have hP : va_P V.1 vwCl [(z 3, aI V 900 fz3), (z 4, aI V 1025 f_213), (z 0, .inr (10, mo z pz0_0 pz0_5 v_192 v_193 pz0_8 v_194 v_195 v_210 v_211 pz0_13 pz0_14 pz0_18 pz0_19 pz0_22 pz0_23 pz0_29))] H := hP
          have hD : va_D A [(z 3, aI V 900 fz3), (z 4, aI V 1025 f_213), (z 0, .inr (10, mo z pz0_0 pz0_5 v_192 v_193 pz0_8 v_194 v_195 v_210 v_211 pz0_13 pz0_14 pz0_18 pz0_19 pz0_22 pz0_23 pz0_29))] := hD
          have rx_216 : RX pz0_11 pz0_6 fz4 v_210 v_192 f_213 1 ((8 : Int)) := by have q9 := RX_c rx_212 tf_179 g_214 (by decide) ⟨by decide, by decide⟩ (by decide) (PS_n hf1 rx_212 bv_192 (by decide) (by omega)); rw [(by decide : eff (3009 : Int32) = -2)] at q9; exact RX_w q9 (by omega)
          have hP := subP (ws' := [(z 4, aI V 1025 f_213), (z 3, aI V 900 fz3), (z 0, .inr (10, mo z pz0_0 pz0_5 v_192 v_193 pz0_8 v_194 v_195 v_210 v_211 pz0_13 pz0_14 pz0_18 pz0_19 pz0_22 pz0_23 pz0_29))]) hP [1, 0, 2] rfl
          have hD := hD.sub (ws' := [(z 4, aI V 1025 f_213), (z 3, aI V 900 fz3), (z 0, .inr (10, mo z pz0_0 pz0_5 v_192 v_193 pz0_8 v_194 v_195 v_210 v_211 pz0_13 pz0_14 pz0_18 pz0_19 pz0_22 pz0_23 pz0_29))]) [1, 0, 2] rfl rfl
          exact fiV hx hb hr hlk hK hP hD hS dX10_readIf_79 (Nat.le_of_ble_eq_true rfl) (Nat.le_of_ble_eq_true rfl) (⟨f_213, v_192, v_193, v_194, v_195, v_210, v_211, tf_213, bv_192, bv_193, bv_195, (iv_w bv_210 (by decide)), bv_211, g_196, (PS_f bv_210 (by decide)), (by have z_0 := g_7; have z_1 := g_26; have z_2 := g_35; have z_3 := g_162; have z_4 := g_171; have z_5 := g_188; have z_6 := g_197;have y_0 := hf0.1; have y_1 := g_6.1; have y_2 := g_24.1; have y_3 := g_34.1; have y_4 := g_160.1; have y_5 := g_170.1; have y_6 := g_186.1; have y_7 := g_196.1; omega), (RX_f bv_210 (by decide)), rfl⟩)
      · have b_217 : iv 0 0 r_165 := iv_q c_175 (iv_c (0 : Int32) (a := 0) (b := 0) (by decide))
        refine lv_aload_n hx hb dX10_readIf_46 rfl (lv_at hl 0 rfl) ?_
        refine lv_iconst (v := 2) hx hb dX10_readIf_47 (by decide) ?_
        refine jnV (wr := [(z 4, aI V 1025 f_153), (z 3, aI V 900 fz3)]) (rnV (rest := []) ⟨hx, hb, hml, hown, hg⟩ (k_X10_fails_0 l V z 2 pz0_0 pz0_5 v_166 v_167 pz0_8 v_168 v_169 v_158 v_159 pz0_13 pz0_14 pz0_18 pz0_19 pz0_22 pz0_23 pz0_29 (iv_c (2 : Int32) (by decide)) bpz0_5 bv_166 bv_167 bpz0_8 bv_169 bv_158 bv_159 bpz0_13 bpz0_14 bpz0_18 bpz0_22 bpz0_29) mt_X10_fails q_6_147 ⟨Nat.le_of_ble_eq_true rfl, Nat.le_of_ble_eq_true rfl⟩ hK hP hD hS hA hE [2] rfl rfl 2 rfl rfl rfl rfl hl.1 rfl (Nat.le_of_ble_eq_true rfl) dX10_readIf_48 ⟨Nat.le_of_ble_eq_true rfl, Nat.le_of_ble_eq_true rfl⟩) hP hD hS hA [2] [0, 1] rfl rfl rfl (by decide) (fun  w H locs hw hP hD hS => ?_)
        obtain ⟨v_218, v_219, bv_218, bv_219, rfl⟩ := hw
        have hP : va_P V.1 vwCl [(z 4, aI V 1025 f_153), (z 3, aI V 900 fz3), (z 0, .inr (10, mo z pz0_0 pz0_5 v_166 v_167 pz0_8 v_168 v_169 v_218 v_219 pz0_13 pz0_14 pz0_18 pz0_19 pz0_22 pz0_23 pz0_29))] H := hP
        have hD : va_D A [(z 4, aI V 1025 f_153), (z 3, aI V 900 fz3), (z 0, .inr (10, mo z pz0_0 pz0_5 v_166 v_167 pz0_8 v_168 v_169 v_218 v_219 pz0_13 pz0_14 pz0_18 pz0_19 pz0_22 pz0_23 pz0_29))] := hD
        have rx_220 : RX pz0_11 pz0_6 fz4 v_218 v_166 f_153 2 ((9 : Int)) := RX_f bv_218 (by decide)
        refine lv_aload_n hx hb dX10_readIf_51 rfl (lv_at hl 0 rfl) ?_
        refine lv_iload_n hx hb dX10_readIf_52 rfl (lv_at hl 1 rfl) ?_
        refine lv_iconst (v := 1) hx hb dX10_readIf_53 (by decide) ?_
        refine lv_iadd hx hb dX10_readIf_54 ?_
        refine tpi (y := 6) (by decide +kernel) ?_
        refine jnV (wr := []) (rnV (rest := []) ⟨hx, hb, hml, hown, hg⟩ (k_X10_readSum_0 l V z f_153 fz3 pz0_0 pz0_5 v_166 v_167 pz0_8 v_168 v_169 v_218 v_219 pz0_13 pz0_14 pz0_18 pz0_19 pz0_22 pz0_23 pz0_29 tf_153 bpz0_5 bv_166 bv_167 bpz0_8 bv_169 (iv_w bv_218 (by decide)) bv_219 bpz0_13 bpz0_14 bpz0_18 bpz0_22 bpz0_29 g_170 (PS_f bv_218 (by decide))) mt_X10_readSum q_6_187 ⟨Nat.le_of_ble_eq_true rfl, Nat.le_of_ble_eq_true rfl⟩ hK hP hD hS hA hE [0, 1, 2] rfl rfl 2 rfl rfl rfl rfl hl.1 rfl (Nat.le_of_ble_eq_true rfl) dX10_readIf_55 ⟨Nat.le_of_ble_eq_true rfl, Nat.le_of_ble_eq_true rfl⟩) hP hD hS hA [0, 1, 2] [] rfl rfl rfl (by decide) (fun  w H locs hw hP hD hS => ?_)
        obtain ⟨f_221, v_222, v_223, v_224, v_225, v_226, v_227, tf_221, bv_222, bv_223, bv_225, bv_226, bv_227, g_228, g_229, g_230, g_231, rfl⟩ := hw
        have hP : va_P V.1 vwCl [(z 4, aI V 1025 f_221), (z 3, aI V 900 fz3), (z 0, .inr (10, mo z pz0_0 pz0_5 v_222 v_223 pz0_8 v_224 v_225 v_226 v_227 pz0_13 pz0_14 pz0_18 pz0_19 pz0_22 pz0_23 pz0_29))] H := hP
        have hD : va_D A [(z 4, aI V 1025 f_221), (z 3, aI V 900 fz3), (z 0, .inr (10, mo z pz0_0 pz0_5 v_222 v_223 pz0_8 v_224 v_225 v_226 v_227 pz0_13 pz0_14 pz0_18 pz0_19 pz0_22 pz0_23 pz0_29))] := hD
        have rx_232 : RX pz0_11 pz0_6 fz4 v_226 v_222 f_221 3 ((9 : Int)) := by have q9 := RX_seq (by decide) rx_220 g_231; exact RX_w q9 (by omega)
        refine lv_aload_n hx hb dX10_readIf_58 rfl (lv_at hl 0 rfl) ?_
        refine lv_bipush (v := 16) hx hb dX10_readIf_59 (by decide) ?_
        refine jnI (wr := [(z 4, aI V 1025 f_221)]) (rnV (rest := []) ⟨hx, hb, hml, hown, hg⟩ (k_X10_eats_9 l V z fz3 pz0_0 pz0_5 v_222 v_223 pz0_8 v_224 v_225 v_226 v_227 pz0_13 pz0_14 pz0_18 pz0_19 pz0_22 pz0_23 pz0_29 bpz0_5 bv_222 bv_223 bpz0_8 bv_225 bv_226 bv_227 bpz0_13 bpz0_14 bpz0_18 bpz0_22 bpz0_29 g_228) mt_X10_eats q_6_139 ⟨Nat.le_of_ble_eq_true rfl, Nat.le_of_ble_eq_true rfl⟩ hK hP hD hS hA hE [1, 2] rfl rfl 2 rfl rfl rfl rfl hl.1 rfl (Nat.le_of_ble_eq_true rfl) dX10_readIf_61 ⟨Nat.le_of_ble_eq_true rfl, Nat.le_of_ble_eq_true rfl⟩) hP hD hS hA [1, 2] [0] rfl rfl rfl (by decide) (fun r_233 w H locs hw hP hD hS => ?_)
        obtain ⟨v_234, v_235, v_236, v_237, bv_234, bv_235, bv_237, br_233, g_238, g_239, g_240, g_241, rfl⟩ := hw
        have hP : va_P V.1 vwCl [(z 4, aI V 1025 f_221), (z 3, aI V 900 fz3), (z 0, .inr (10, mo z pz0_0 pz0_5 v_234 v_235 pz0_8 v_236 v_237 v_226 v_227 pz0_13 pz0_14 pz0_18 pz0_19 pz0_22 pz0_23 pz0_29))] H := hP
        have hD : va_D A [(z 4, aI V 1025 f_221), (z 3, aI V 900 fz3), (z 0, .inr (10, mo z pz0_0 pz0_5 v_234 v_235 pz0_8 v_236 v_237 v_226 v_227 pz0_13 pz0_14 pz0_18 pz0_19 pz0_22 pz0_23 pz0_29))] := hD
        have rx_242 : RX pz0_11 pz0_6 fz4 v_226 v_234 f_221 3 ((9 : Int) + adv r_233) := by have q9 := RX_a rx_232 (fun q8 => q8) (adv_le g_239 g_241); exact RX_w q9 (by omega)
        refine lv_if_ne (tgt := 72) hx hb dX10_readIf_64 (by decide) (fun c_243 => ?_) (fun c_243 => ?_)
        · have b_244 : iv 1 1 r_233 := iv_n0 c_243 br_233 (iv_c (0 : Int32) (a := 0) (b := 0) (by decide)) (by decide)
          have c_245 : v_226 = 0 := (g_240 (iv_eqp b_244 (iv_c (1 : Int32) (by decide))))
          have b_246 : iv 0 0 v_226 := iv_q c_245 (iv_c (0 : Int32) (a := 0) (b := 0) (by decide))
          refine lv_aload_n hx hb dX10_readIf_72 rfl (lv_at hl 0 rfl) ?_
          refine lv_sipush (v := 3009) hx hb dX10_readIf_73 (by decide) ?_
          refine jnV (wr := [(z 3, aI V 900 fz3)]) (rnV (rest := []) ⟨hx, hb, hml, hown, hg⟩ (k_X10_codes_0 l V z 3009 f_221 pz0_0 pz0_5 v_234 v_235 pz0_8 v_236 v_237 v_226 v_227 pz0_13 pz0_14 pz0_18 pz0_19 pz0_22 pz0_23 pz0_29 tf_221 bpz0_5 bv_234 bv_235 bpz0_8 bv_237 (iv_w b_246 (by decide)) bv_227 bpz0_13 bpz0_14 bpz0_18 bpz0_22 bpz0_29 (PS_n hf1 rx_242 bv_234 (by decide) (by have z_r_233 := adv_1 (iv_eqp b_244 (iv_c (1 : Int32) (by decide))); omega))) mt_X10_codes q_6_199 ⟨Nat.le_of_ble_eq_true rfl, Nat.le_of_ble_eq_true rfl⟩ hK hP hD hS hA hE [0, 2] rfl rfl 2 rfl rfl rfl rfl hl.1 rfl (Nat.le_of_ble_eq_true rfl) dX10_readIf_76 ⟨Nat.le_of_ble_eq_true rfl, Nat.le_of_ble_eq_true rfl⟩) hP hD hS hA [0, 2] [1] rfl rfl rfl (by decide) (fun  w H locs hw hP hD hS => ?_)
          obtain ⟨f_247, tf_247, g_248, g_249, rfl⟩ := hw
          have hP : va_P V.1 vwCl [(z 3, aI V 900 fz3), (z 4, aI V 1025 f_247), (z 0, .inr (10, mo z pz0_0 pz0_5 v_234 v_235 pz0_8 v_236 v_237 v_226 v_227 pz0_13 pz0_14 pz0_18 pz0_19 pz0_22 pz0_23 pz0_29))] H := hP
          have hD : va_D A [(z 3, aI V 900 fz3), (z 4, aI V 1025 f_247), (z 0, .inr (10, mo z pz0_0 pz0_5 v_234 v_235 pz0_8 v_236 v_237 v_226 v_227 pz0_13 pz0_14 pz0_18 pz0_19 pz0_22 pz0_23 pz0_29))] := hD
          have rx_250 : RX pz0_11 pz0_6 fz4 v_226 v_234 f_247 1 ((8 : Int) + adv r_233) := by have q9 := RX_c rx_242 tf_221 g_248 (by decide) ⟨by decide, by decide⟩ (by decide) (PS_n hf1 rx_242 bv_234 (by decide) (by have z_r_233 := adv_1 (iv_eqp b_244 (iv_c (1 : Int32) (by decide))); omega)); rw [(by decide : eff (3009 : Int32) = -2)] at q9; exact RX_w q9 (by omega)
          have hP := subP (ws' := [(z 4, aI V 1025 f_247), (z 3, aI V 900 fz3), (z 0, .inr (10, mo z pz0_0 pz0_5 v_234 v_235 pz0_8 v_236 v_237 v_226 v_227 pz0_13 pz0_14 pz0_18 pz0_19 pz0_22 pz0_23 pz0_29))]) hP [1, 0, 2] rfl
          have hD := hD.sub (ws' := [(z 4, aI V 1025 f_247), (z 3, aI V 900 fz3), (z 0, .inr (10, mo z pz0_0 pz0_5 v_234 v_235 pz0_8 v_236 v_237 v_226 v_227 pz0_13 pz0_14 pz0_18 pz0_19 pz0_22 pz0_23 pz0_29))]) [1, 0, 2] rfl rfl
          exact fiV hx hb hr hlk hK hP hD hS dX10_readIf_79 (Nat.le_of_ble_eq_true rfl) (Nat.le_of_ble_eq_true rfl) (⟨f_247, v_234, v_235, v_236, v_237, v_226, v_227, tf_247, bv_234, bv_235, bv_237, (iv_w b_246 (by decide)), bv_227, g_238, (PS_x hf1 rx_250 (by have z_r_233 := adv_1 (iv_eqp b_244 (iv_c (1 : Int32) (by decide))); omega)), (by have z_0 := g_7; have z_1 := g_26; have z_2 := g_35; have z_3 := g_162; have z_4 := g_171; have z_5 := g_230; have z_6 := g_239;have y_0 := hf0.1; have y_1 := g_6.1; have y_2 := g_24.1; have y_3 := g_34.1; have y_4 := g_160.1; have y_5 := g_170.1; have y_6 := g_228.1; have y_7 := g_238.1; omega), (RX_w rx_250 (by have z_r_233 := adv_1 (iv_eqp b_244 (iv_c (1 : Int32) (by decide))); omega)), rfl⟩)
        · have b_251 : iv 0 0 r_233 := iv_q c_243 (iv_c (0 : Int32) (a := 0) (b := 0) (by decide))
          refine lv_aload_n hx hb dX10_readIf_67 rfl (lv_at hl 0 rfl) ?_
          refine lv_iconst (v := 2) hx hb dX10_readIf_68 (by decide) ?_
          refine jnV (wr := [(z 4, aI V 1025 f_221), (z 3, aI V 900 fz3)]) (rnV (rest := []) ⟨hx, hb, hml, hown, hg⟩ (k_X10_fails_0 l V z 2 pz0_0 pz0_5 v_234 v_235 pz0_8 v_236 v_237 v_226 v_227 pz0_13 pz0_14 pz0_18 pz0_19 pz0_22 pz0_23 pz0_29 (iv_c (2 : Int32) (by decide)) bpz0_5 bv_234 bv_235 bpz0_8 bv_237 bv_226 bv_227 bpz0_13 bpz0_14 bpz0_18 bpz0_22 bpz0_29) mt_X10_fails q_6_147 ⟨Nat.le_of_ble_eq_true rfl, Nat.le_of_ble_eq_true rfl⟩ hK hP hD hS hA hE [2] rfl rfl 2 rfl rfl rfl rfl hl.1 rfl (Nat.le_of_ble_eq_true rfl) dX10_readIf_69 ⟨Nat.le_of_ble_eq_true rfl, Nat.le_of_ble_eq_true rfl⟩) hP hD hS hA [2] [0, 1] rfl rfl rfl (by decide) (fun  w H locs hw hP hD hS => ?_)
          obtain ⟨v_252, v_253, bv_252, bv_253, rfl⟩ := hw
          have hP : va_P V.1 vwCl [(z 4, aI V 1025 f_221), (z 3, aI V 900 fz3), (z 0, .inr (10, mo z pz0_0 pz0_5 v_234 v_235 pz0_8 v_236 v_237 v_252 v_253 pz0_13 pz0_14 pz0_18 pz0_19 pz0_22 pz0_23 pz0_29))] H := hP
          have hD : va_D A [(z 4, aI V 1025 f_221), (z 3, aI V 900 fz3), (z 0, .inr (10, mo z pz0_0 pz0_5 v_234 v_235 pz0_8 v_236 v_237 v_252 v_253 pz0_13 pz0_14 pz0_18 pz0_19 pz0_22 pz0_23 pz0_29))] := hD
          have rx_254 : RX pz0_11 pz0_6 fz4 v_252 v_234 f_221 3 ((9 : Int)) := RX_f bv_252 (by decide)
          refine lv_aload_n hx hb dX10_readIf_72 rfl (lv_at hl 0 rfl) ?_
          refine lv_sipush (v := 3009) hx hb dX10_readIf_73 (by decide) ?_
          refine jnV (wr := [(z 3, aI V 900 fz3)]) (rnV (rest := []) ⟨hx, hb, hml, hown, hg⟩ (k_X10_codes_0 l V z 3009 f_221 pz0_0 pz0_5 v_234 v_235 pz0_8 v_236 v_237 v_252 v_253 pz0_13 pz0_14 pz0_18 pz0_19 pz0_22 pz0_23 pz0_29 tf_221 bpz0_5 bv_234 bv_235 bpz0_8 bv_237 (iv_w bv_252 (by decide)) bv_253 bpz0_13 bpz0_14 bpz0_18 bpz0_22 bpz0_29 (PS_n hf1 rx_254 bv_234 (by decide) (by omega))) mt_X10_codes q_6_199 ⟨Nat.le_of_ble_eq_true rfl, Nat.le_of_ble_eq_true rfl⟩ hK hP hD hS hA hE [0, 2] rfl rfl 2 rfl rfl rfl rfl hl.1 rfl (Nat.le_of_ble_eq_true rfl) dX10_readIf_76 ⟨Nat.le_of_ble_eq_true rfl, Nat.le_of_ble_eq_true rfl⟩) hP hD hS hA [0, 2] [1] rfl rfl rfl (by decide) (fun  w H locs hw hP hD hS => ?_)
          obtain ⟨f_255, tf_255, g_256, g_257, rfl⟩ := hw
          have hP : va_P V.1 vwCl [(z 3, aI V 900 fz3), (z 4, aI V 1025 f_255), (z 0, .inr (10, mo z pz0_0 pz0_5 v_234 v_235 pz0_8 v_236 v_237 v_252 v_253 pz0_13 pz0_14 pz0_18 pz0_19 pz0_22 pz0_23 pz0_29))] H := hP
          have hD : va_D A [(z 3, aI V 900 fz3), (z 4, aI V 1025 f_255), (z 0, .inr (10, mo z pz0_0 pz0_5 v_234 v_235 pz0_8 v_236 v_237 v_252 v_253 pz0_13 pz0_14 pz0_18 pz0_19 pz0_22 pz0_23 pz0_29))] := hD
          have rx_258 : RX pz0_11 pz0_6 fz4 v_252 v_234 f_255 1 ((8 : Int)) := by have q9 := RX_c rx_254 tf_221 g_256 (by decide) ⟨by decide, by decide⟩ (by decide) (PS_n hf1 rx_254 bv_234 (by decide) (by omega)); rw [(by decide : eff (3009 : Int32) = -2)] at q9; exact RX_w q9 (by omega)
          have hP := subP (ws' := [(z 4, aI V 1025 f_255), (z 3, aI V 900 fz3), (z 0, .inr (10, mo z pz0_0 pz0_5 v_234 v_235 pz0_8 v_236 v_237 v_252 v_253 pz0_13 pz0_14 pz0_18 pz0_19 pz0_22 pz0_23 pz0_29))]) hP [1, 0, 2] rfl
          have hD := hD.sub (ws' := [(z 4, aI V 1025 f_255), (z 3, aI V 900 fz3), (z 0, .inr (10, mo z pz0_0 pz0_5 v_234 v_235 pz0_8 v_236 v_237 v_252 v_253 pz0_13 pz0_14 pz0_18 pz0_19 pz0_22 pz0_23 pz0_29))]) [1, 0, 2] rfl rfl
          exact fiV hx hb hr hlk hK hP hD hS dX10_readIf_79 (Nat.le_of_ble_eq_true rfl) (Nat.le_of_ble_eq_true rfl) (⟨f_255, v_234, v_235, v_236, v_237, v_252, v_253, tf_255, bv_234, bv_235, bv_237, (iv_w bv_252 (by decide)), bv_253, g_238, (PS_f bv_252 (by decide)), (by have z_0 := g_7; have z_1 := g_26; have z_2 := g_35; have z_3 := g_162; have z_4 := g_171; have z_5 := g_230; have z_6 := g_239;have y_0 := hf0.1; have y_1 := g_6.1; have y_2 := g_24.1; have y_3 := g_34.1; have y_4 := g_160.1; have y_5 := g_170.1; have y_6 := g_228.1; have y_7 := g_238.1; omega), (RX_f bv_252 (by decide)), rfl⟩)
  · have b_259 : iv 0 0 r_1 := iv_q c_13 (iv_c (0 : Int32) (a := 0) (b := 0) (by decide))
    have c_260 : ¬ pz0_11 = 0 := (g_11 (iv_eqp b_259 (iv_c (0 : Int32) (by decide))))
    have b_261 : iv 1 4 pz0_11 := iv_n0 c_260 bpz0_11 (iv_c (0 : Int32) (a := 0) (b := 0) (by decide)) (by decide)
    exact fiV hx hb hr hlk hK hP hD hS dX10_readIf_8 (Nat.le_of_ble_eq_true rfl) (Nat.le_of_ble_eq_true rfl) (⟨fz4, v_2, v_3, v_4, v_5, pz0_11, pz0_12, tfz4, bv_2, bv_3, bv_5, (iv_w b_261 (by decide)), bpz0_12, g_6, (PS_f b_261 (by decide)), (by have z_0 := g_7;have y_0 := hf0.1; have y_1 := g_6.1; omega), (RX_f b_261 (by decide)), rfl⟩)
set_option maxHeartbeats 4000000 in
set_option maxRecDepth 100000 in
theorem k_X10_is_24 (l : Launch) (V : GV) (z : Nat → Nat) (pz0_0 : Int32) (pz0_5 : Int32) (pz0_6 : Int32) (pz0_7 : Int32) (pz0_8 : Int32) (pz0_9 : Int32) (pz0_10 : Int32) (pz0_11 : Int32) (pz0_12 : Int32) (pz0_13 : Int32) (pz0_14 : Int32) (pz0_18 : Int32) (pz0_19 : Int32) (pz0_22 : Int32) (pz0_23 : Int32) (pz0_29 : Int32) (bpz0_5 : iv 0 900 pz0_5) (bpz0_6 : iv 0 900 pz0_6) (bpz0_7 : iv 0 900 pz0_7) (bpz0_8 : iv 0 900 pz0_8) (bpz0_10 : iv 0 999 pz0_10) (bpz0_11 : iv 0 4 pz0_11) (bpz0_12 : iv 0 900 pz0_12) (bpz0_13 : iv 0 4 pz0_13) (bpz0_14 : iv (-1) 900 pz0_14) (bpz0_18 : iv 0 2 pz0_18) (bpz0_22 : iv 0 9999 pz0_22) (bpz0_29 : iv 0 10000 pz0_29) : Ct l V yX10_is (.code yX10_is cX10_is 2 (some .boolean)) 1 [.ref (z 0), .int 36] [(z 0, .inr (10, mo z pz0_0 pz0_5 pz0_6 pz0_7 pz0_8 pz0_9 pz0_10 pz0_11 pz0_12 pz0_13 pz0_14 pz0_18 pz0_19 pz0_22 pz0_23 pz0_29))] 0 0 (QI V (fun (r : Int32) (w : va_W) => iv 0 1 r ∧ (r = 1 → pz0_11 = 0) ∧ (r = 1 → pz0_9 = (36 : Int32)) ∧ w = [(z 0, .inr (10, mo z pz0_0 pz0_5 pz0_6 pz0_7 pz0_8 pz0_9 pz0_10 pz0_11 pz0_12 pz0_13 pz0_14 pz0_18 pz0_19 pz0_22 pz0_23 pz0_29))])) := by
  refine Ct.of (by decide) (Nat.le_of_ble_eq_true rfl) (fun p e s m below meth c A ls hx hb hr hml hown hlk hnm hg hP hK hD hE hA hS hl => ?_)
  have hl : lv_has ls 2 [(0, .ref (z 0)), (1, .int 36)] := hl
  refine lv_aload_n hx hb dX10_is_0 rfl (lv_at hl 0 rfl) ?_
  refine va_get (ci := 10) (v := .int pz0_11) (C := RX10) (T := TX10) (N := 40) hx hb hg inX10 hown hK hP 0 rfl rfl 11 (by decide) (hg _ q_5_235) (fun _ h9 => h9) rfl dX10_is_1 ?_
  refine lv_if_ne (tgt := 19) hx hb dX10_is_4 (by decide) (fun c_1 => ?_) (fun c_1 => ?_)
  · have b_2 : iv 1 4 pz0_11 := iv_n0 c_1 bpz0_11 (iv_c (0 : Int32) (a := 0) (b := 0) (by decide)) (by decide)
    refine lv_iconst (v := 0) hx hb dX10_is_19 (by decide) ?_
    exact fiZ rfl hx hb hr hlk hK hP hD hS dX10_is_20 (Nat.le_of_ble_eq_true rfl) (Nat.le_of_ble_eq_true rfl) (⟨(iv_c (0 : Int32) (by decide)), (fun q9 => absurd q9 (by decide)), (fun q9 => absurd q9 (by decide)), rfl⟩)
  · have b_3 : iv 0 0 pz0_11 := iv_q c_1 (iv_c (0 : Int32) (a := 0) (b := 0) (by decide))
    refine lv_aload_n hx hb dX10_is_7 rfl (lv_at hl 0 rfl) ?_
    refine va_get (ci := 10) (v := .int pz0_9) (C := RX10) (T := TX10) (N := 40) hx hb hg inX10 hown hK hP 0 rfl rfl 9 (by decide) (hg _ q_5_233) (fun _ h9 => h9) rfl dX10_is_8 ?_
    refine lv_iload_n hx hb dX10_is_11 rfl (lv_at hl 1 rfl) ?_
    refine lv_icmp_ne (tgt := 19) hx hb dX10_is_12 (by decide) (fun c_4 => ?_) (fun c_4 => ?_)
    · refine lv_iconst (v := 0) hx hb dX10_is_19 (by decide) ?_
      exact fiZ rfl hx hb hr hlk hK hP hD hS dX10_is_20 (Nat.le_of_ble_eq_true rfl) (Nat.le_of_ble_eq_true rfl) (⟨(iv_c (0 : Int32) (by decide)), (fun q9 => absurd q9 (by decide)), (fun q9 => absurd q9 (by decide)), rfl⟩)
    · have b_5 : iv 36 36 pz0_9 := iv_q c_4 (iv_c (36 : Int32) (a := 36) (b := 36) (by decide))
      refine lv_iconst (v := 1) hx hb dX10_is_15 (by decide) ?_
      refine lv_goto (tgt := 20) hx hb dX10_is_16 (by decide) ?_
      exact fiZ rfl hx hb hr hlk hK hP hD hS dX10_is_20 (Nat.le_of_ble_eq_true rfl) (Nat.le_of_ble_eq_true rfl) (⟨(iv_c (1 : Int32) (by decide)), (fun _ => c_1), (fun _ => c_4), rfl⟩)
set_option maxHeartbeats 4000000 in
set_option maxRecDepth 100000 in
theorem k_X10_eats_10 (l : Launch) (V : GV) (z : Nat → Nat) (fz3 : Nat → Int32) (pz0_0 : Int32) (pz0_5 : Int32) (pz0_6 : Int32) (pz0_7 : Int32) (pz0_8 : Int32) (pz0_9 : Int32) (pz0_10 : Int32) (pz0_11 : Int32) (pz0_12 : Int32) (pz0_13 : Int32) (pz0_14 : Int32) (pz0_18 : Int32) (pz0_19 : Int32) (pz0_22 : Int32) (pz0_23 : Int32) (pz0_29 : Int32) (bpz0_5 : iv 0 900 pz0_5) (bpz0_6 : iv 0 900 pz0_6) (bpz0_7 : iv 0 900 pz0_7) (bpz0_8 : iv 0 900 pz0_8) (bpz0_10 : iv 0 999 pz0_10) (bpz0_11 : iv 0 4 pz0_11) (bpz0_12 : iv 0 900 pz0_12) (bpz0_13 : iv 0 4 pz0_13) (bpz0_14 : iv (-1) 900 pz0_14) (bpz0_18 : iv 0 2 pz0_18) (bpz0_22 : iv 0 9999 pz0_22) (bpz0_29 : iv 0 10000 pz0_29) (hf0 : PT pz0_6 pz0_7 pz0_8 pz0_9) : Ct l V yX10_eats (.code yX10_eats cX10_eats 2 (some .boolean)) 7 [.ref (z 0), .int 36] [(z 3, aI V 900 fz3), (z 0, .inr (10, mo z pz0_0 pz0_5 pz0_6 pz0_7 pz0_8 pz0_9 pz0_10 pz0_11 pz0_12 pz0_13 pz0_14 pz0_18 pz0_19 pz0_22 pz0_23 pz0_29))] 0 0 (QI V (fun (r : Int32) (w : va_W) => ∃ (v0 : Int32) (v1 : Int32) (v2 : Int32) (v3 : Int32), iv 0 900 v0 ∧ iv 0 900 v1 ∧ iv 0 999 v3 ∧ iv 0 1 r ∧ (PT v0 v1 pz0_8 v2) ∧ ((pz0_6 : Int32).toInt ≤ (v0 : Int32).toInt) ∧ (r = 1 → pz0_11 = 0) ∧ (r = 1 → (pz0_6 : Int32).toInt + 1 ≤ (v0 : Int32).toInt) ∧ w = [(z 3, aI V 900 fz3), (z 0, .inr (10, mo z pz0_0 pz0_5 v0 v1 pz0_8 v2 v3 pz0_11 pz0_12 pz0_13 pz0_14 pz0_18 pz0_19 pz0_22 pz0_23 pz0_29))])) := by
  refine Ct.of (by decide) (Nat.le_of_ble_eq_true rfl) (fun p e s m below meth c A ls hx hb hr hml hown hlk hnm hg hP hK hD hE hA hS hl => ?_)
  have hl : lv_has ls 2 [(0, .ref (z 0)), (1, .int 36)] := hl
  refine lv_aload_n hx hb dX10_eats_0 rfl (lv_at hl 0 rfl) ?_
  refine lv_iload_n hx hb dX10_eats_1 rfl (lv_at hl 1 rfl) ?_
  refine jnI (wr := [(z 3, aI V 900 fz3)]) (rnV (rest := []) ⟨hx, hb, hml, hown, hg⟩ (k_X10_is_24 l V z pz0_0 pz0_5 pz0_6 pz0_7 pz0_8 pz0_9 pz0_10 pz0_11 pz0_12 pz0_13 pz0_14 pz0_18 pz0_19 pz0_22 pz0_23 pz0_29 bpz0_5 bpz0_6 bpz0_7 bpz0_8 bpz0_10 bpz0_11 bpz0_12 bpz0_13 bpz0_14 bpz0_18 bpz0_22 bpz0_29) mt_X10_is q_6_143 ⟨Nat.le_of_ble_eq_true rfl, Nat.le_of_ble_eq_true rfl⟩ hK hP hD hS hA hE [1] rfl rfl 1 rfl rfl rfl rfl hl.1 rfl (Nat.le_of_ble_eq_true rfl) dX10_eats_2 ⟨Nat.le_of_ble_eq_true rfl, Nat.le_of_ble_eq_true rfl⟩) hP hD hS hA [1] [0] rfl rfl rfl (by decide) (fun r_1 w H locs hw hP hD hS => ?_)
  obtain ⟨br_1, g_2, g_3, rfl⟩ := hw
  have hP : va_P V.1 vwCl [(z 3, aI V 900 fz3), (z 0, .inr (10, mo z pz0_0 pz0_5 pz0_6 pz0_7 pz0_8 pz0_9 pz0_10 pz0_11 pz0_12 pz0_13 pz0_14 pz0_18 pz0_19 pz0_22 pz0_23 pz0_29))] H := hP
  have hD : va_D A [(z 3, aI V 900 fz3), (z 0, .inr (10, mo z pz0_0 pz0_5 pz0_6 pz0_7 pz0_8 pz0_9 pz0_10 pz0_11 pz0_12 pz0_13 pz0_14 pz0_18 pz0_19 pz0_22 pz0_23 pz0_29))] := hD
  refine lv_if_ne (tgt := 10) hx hb dX10_eats_5 (by decide) (fun c_4 => ?_) (fun c_4 => ?_)
  · have b_5 : iv 1 1 r_1 := iv_n0 c_4 br_1 (iv_c (0 : Int32) (a := 0) (b := 0) (by decide)) (by decide)
    have c_6 : pz0_11 = 0 := (g_2 (iv_eqp b_5 (iv_c (1 : Int32) (by decide))))
    have b_7 : iv 0 0 pz0_11 := iv_q c_6 (iv_c (0 : Int32) (a := 0) (b := 0) (by decide))
    have c_8 : pz0_9 = 36 := (g_3 (iv_eqp b_5 (iv_c (1 : Int32) (by decide))))
    have b_9 : iv 36 36 pz0_9 := iv_q c_8 (iv_c (36 : Int32) (a := 36) (b := 36) (by decide))
    refine lv_aload_n hx hb dX10_eats_10 rfl (lv_at hl 0 rfl) ?_
    refine jnV (wr := []) (rnV (rest := []) ⟨hx, hb, hml, hown, hg⟩ (k_X10_next_0 l V z pz0_0 pz0_5 pz0_6 pz0_7 pz0_8 pz0_9 pz0_10 pz0_11 pz0_12 pz0_13 pz0_14 pz0_18 pz0_19 pz0_22 pz0_23 pz0_29 fz3 bpz0_5 bpz0_6 bpz0_7 bpz0_8 bpz0_10 (iv_w b_7 (by decide)) bpz0_12 bpz0_13 bpz0_14 bpz0_18 bpz0_22 bpz0_29 hf0.2.1) mt_X10_next q_6_117 ⟨Nat.le_of_ble_eq_true rfl, Nat.le_of_ble_eq_true rfl⟩ hK hP hD hS hA hE [1, 0] rfl rfl 1 rfl rfl rfl rfl hl.1 rfl (Nat.le_of_ble_eq_true rfl) dX10_eats_11 ⟨Nat.le_of_ble_eq_true rfl, Nat.le_of_ble_eq_true rfl⟩) hP hD hS hA [1, 0] [] rfl rfl rfl (by decide) (fun  w H locs hw hP hD hS => ?_)
    obtain ⟨v_10, v_11, v_12, v_13, bv_10, bv_11, bv_13, g_14, g_15, rfl⟩ := hw
    have hP : va_P V.1 vwCl [(z 0, .inr (10, mo z pz0_0 pz0_5 v_10 v_11 pz0_8 v_12 v_13 pz0_11 pz0_12 pz0_13 pz0_14 pz0_18 pz0_19 pz0_22 pz0_23 pz0_29)), (z 3, aI V 900 fz3)] H := hP
    have hD : va_D A [(z 0, .inr (10, mo z pz0_0 pz0_5 v_10 v_11 pz0_8 v_12 v_13 pz0_11 pz0_12 pz0_13 pz0_14 pz0_18 pz0_19 pz0_22 pz0_23 pz0_29)), (z 3, aI V 900 fz3)] := hD
    refine lv_iconst (v := 1) hx hb dX10_eats_14 (by decide) ?_
    have hP := subP (ws' := [(z 3, aI V 900 fz3), (z 0, .inr (10, mo z pz0_0 pz0_5 v_10 v_11 pz0_8 v_12 v_13 pz0_11 pz0_12 pz0_13 pz0_14 pz0_18 pz0_19 pz0_22 pz0_23 pz0_29))]) hP [1, 0] rfl
    have hD := hD.sub (ws' := [(z 3, aI V 900 fz3), (z 0, .inr (10, mo z pz0_0 pz0_5 v_10 v_11 pz0_8 v_12 v_13 pz0_11 pz0_12 pz0_13 pz0_14 pz0_18 pz0_19 pz0_22 pz0_23 pz0_29))]) [1, 0] rfl rfl
    exact fiZ rfl hx hb hr hlk hK hP hD hS dX10_eats_15 (Nat.le_of_ble_eq_true rfl) (Nat.le_of_ble_eq_true rfl) (⟨v_10, v_11, v_12, v_13, bv_10, bv_11, bv_13, (iv_c (1 : Int32) (by decide)), g_14, (by have q9 := g_15; have q8 := hf0.1; omega), (fun _ => iv_eqp b_7 (iv_c (0 : Int32) (by decide))), (fun _ => by have q9 := g_15; have q8 := hf0.2.2 (by rw [c_8]; decide); omega), rfl⟩)
  · have b_16 : iv 0 0 r_1 := iv_q c_4 (iv_c (0 : Int32) (a := 0) (b := 0) (by decide))
    refine lv_iconst (v := 0) hx hb dX10_eats_8 (by decide) ?_
    exact fiZ rfl hx hb hr hlk hK hP hD hS dX10_eats_9 (Nat.le_of_ble_eq_true rfl) (Nat.le_of_ble_eq_true rfl) (⟨pz0_6, pz0_7, pz0_9, pz0_10, bpz0_6, bpz0_7, bpz0_10, (iv_c (0 : Int32) (by decide)), hf0, (Int.le_refl _), (fun q9 => absurd q9 (by decide)), (fun q9 => absurd q9 (by decide)), rfl⟩)
theorem dX10_readAtom_84 : decode cX10_readAtom 84 = .ok (.aload_n 0, 1) := by decide +kernel
theorem dX10_readAtom_85 : decode cX10_readAtom 85 = .ok (.iload_n 1, 1) := by decide +kernel
theorem dX10_readAtom_86 : decode cX10_readAtom 86 = .ok (.iconst 1, 1) := by decide +kernel
theorem dX10_readAtom_87 : decode cX10_readAtom 87 = .ok (.iadd, 1) := by decide +kernel
theorem dX10_readAtom_88 : decode cX10_readAtom 88 = .ok (.invokevirtual 172, 3) := by decide +kernel
theorem dX10_readAtom_91 : decode cX10_readAtom 91 = .ok (.aload_n 0, 1) := by decide +kernel
theorem dX10_readAtom_92 : decode cX10_readAtom 92 = .ok (.bipush 36, 2) := by decide +kernel
theorem dX10_readAtom_94 : decode cX10_readAtom 94 = .ok (.invokevirtual 175, 3) := by decide +kernel
theorem dX10_readAtom_97 : decode cX10_readAtom 97 = .ok (.ifCond .ne 33, 3) := by decide +kernel
theorem dX10_readAtom_100 : decode cX10_readAtom 100 = .ok (.aload_n 0, 1) := by decide +kernel
theorem dX10_readAtom_101 : decode cX10_readAtom 101 = .ok (.iconst 2, 1) := by decide +kernel
theorem dX10_readAtom_102 : decode cX10_readAtom 102 = .ok (.invokevirtual 155, 3) := by decide +kernel
theorem dX10_readAtom_105 : decode cX10_readAtom 105 = .ok (.goto 25, 3) := by decide +kernel
set_option maxHeartbeats 4000000 in
set_option maxRecDepth 100000 in
theorem k_X10_readAtom_1 (l : Launch) (V : GV) (z : Nat → Nat) (fz4 : Nat → Int32) (fz3 : Nat → Int32) (pz0_0 : Int32) (pz0_5 : Int32) (pz0_6 : Int32) (pz0_7 : Int32) (pz0_8 : Int32) (pz0_9 : Int32) (pz0_10 : Int32) (pz0_11 : Int32) (pz0_12 : Int32) (pz0_13 : Int32) (pz0_14 : Int32) (pz0_18 : Int32) (pz0_19 : Int32) (pz0_22 : Int32) (pz0_23 : Int32) (pz0_29 : Int32) (tfz4 : ivT tF fz4) (bpz0_5 : iv 0 900 pz0_5) (bpz0_6 : iv 0 900 pz0_6) (bpz0_7 : iv 0 900 pz0_7) (bpz0_8 : iv 0 900 pz0_8) (bpz0_10 : iv 0 999 pz0_10) (bpz0_11 : iv 0 4 pz0_11) (bpz0_12 : iv 0 900 pz0_12) (bpz0_13 : iv 0 4 pz0_13) (bpz0_14 : iv (-1) 900 pz0_14) (bpz0_18 : iv 0 2 pz0_18) (bpz0_22 : iv 0 9999 pz0_22) (bpz0_29 : iv 0 10000 pz0_29) (hf0 : PT pz0_6 pz0_7 pz0_8 pz0_9) (hf1 : PS pz0_11 pz0_6 fz4) : Ct l V yX10_readAtom (.code yX10_readAtom cX10_readAtom 2 none) 14 [.ref (z 0), .int 5] [(z 4, aI V 1025 fz4), (z 3, aI V 900 fz3), (z 0, .inr (10, mo z pz0_0 pz0_5 pz0_6 pz0_7 pz0_8 pz0_9 pz0_10 pz0_11 pz0_12 pz0_13 pz0_14 pz0_18 pz0_19 pz0_22 pz0_23 pz0_29))] 0 0 (QV V (fun (w : va_W) => ∃ (g0 : Nat → Int32) (v1 : Int32) (v2 : Int32) (v3 : Int32) (v4 : Int32) (v5 : Int32) (v6 : Int32), (ivT tF g0) ∧ iv 0 900 v1 ∧ iv 0 900 v2 ∧ iv 0 999 v4 ∧ iv 0 4 v5 ∧ iv 0 900 v6 ∧ (PT v1 v2 pz0_8 v3) ∧ (PS v5 v1 g0) ∧ ((pz0_6 : Int32).toInt ≤ (v1 : Int32).toInt) ∧ (RX pz0_11 pz0_6 fz4 v5 v1 g0 1 0) ∧ w = [(z 4, aI V 1025 g0), (z 3, aI V 900 fz3), (z 0, .inr (10, mo z pz0_0 pz0_5 v1 v2 pz0_8 v3 v4 v5 v6 pz0_13 pz0_14 pz0_18 pz0_19 pz0_22 pz0_23 pz0_29))])) := by
  refine Ct.of (by decide) (Nat.le_of_ble_eq_true rfl) (fun p e s m below meth c A ls hx hb hr hml hown hlk hnm hg hP hK hD hE hA hS hl => ?_)
  have hl : lv_has ls 2 [(0, .ref (z 0)), (1, .int 5)] := hl
  refine lv_aload_n hx hb dX10_readAtom_0 rfl (lv_at hl 0 rfl) ?_
  refine lv_bipush (v := 23) hx hb dX10_readAtom_1 (by decide) ?_
  refine jnI (wr := [(z 4, aI V 1025 fz4), (z 3, aI V 900 fz3)]) (rnV (rest := []) ⟨hx, hb, hml, hown, hg⟩ (k_X10_is_2 l V z pz0_0 pz0_5 pz0_6 pz0_7 pz0_8 pz0_9 pz0_10 pz0_11 pz0_12 pz0_13 pz0_14 pz0_18 pz0_19 pz0_22 pz0_23 pz0_29 bpz0_5 bpz0_6 bpz0_7 bpz0_8 bpz0_10 bpz0_11 bpz0_12 bpz0_13 bpz0_14 bpz0_18 bpz0_22 bpz0_29) mt_X10_is q_6_143 ⟨Nat.le_of_ble_eq_true rfl, Nat.le_of_ble_eq_true rfl⟩ hK hP hD hS hA hE [2] rfl rfl 2 rfl rfl rfl rfl hl.1 rfl (Nat.le_of_ble_eq_true rfl) dX10_readAtom_3 ⟨Nat.le_of_ble_eq_true rfl, Nat.le_of_ble_eq_true rfl⟩) hP hD hS hA [2] [0, 1] rfl rfl rfl (by decide) (fun r_1 w H locs hw hP hD hS => ?_)
  obtain ⟨br_1, g_2, g_3, rfl⟩ := hw
  have hP : va_P V.1 vwCl [(z 4, aI V 1025 fz4), (z 3, aI V 900 fz3), (z 0, .inr (10, mo z pz0_0 pz0_5 pz0_6 pz0_7 pz0_8 pz0_9 pz0_10 pz0_11 pz0_12 pz0_13 pz0_14 pz0_18 pz0_19 pz0_22 pz0_23 pz0_29))] H := hP
  have hD : va_D A [(z 4, aI V 1025 fz4), (z 3, aI V 900 fz3), (z 0, .inr (10, mo z pz0_0 pz0_5 pz0_6 pz0_7 pz0_8 pz0_9 pz0_10 pz0_11 pz0_12 pz0_13 pz0_14 pz0_18 pz0_19 pz0_22 pz0_23 pz0_29))] := hD
  refine lv_if_eq (tgt := 24) hx hb dX10_readAtom_6 (by decide) (fun c_4 => ?_) (fun c_4 => ?_)
  · have b_5 : iv 0 0 r_1 := iv_q c_4 (iv_c (0 : Int32) (a := 0) (b := 0) (by decide))
    refine lv_aload_n hx hb dX10_readAtom_24 rfl (lv_at hl 0 rfl) ?_
    refine va_get (ci := 10) (v := .int pz0_11) (C := RX10) (T := TX10) (N := 40) hx hb hg inX10 hown hK hP 2 rfl rfl 11 (by decide) (hg _ q_5_235) (fun _ h9 => h9) rfl dX10_readAtom_25 ?_
    refine lv_if_ne (tgt := 66) hx hb dX10_readAtom_28 (by decide) (fun c_6 => ?_) (fun c_6 => ?_)
    · have b_7 : iv 1 4 pz0_11 := iv_n0 c_6 bpz0_11 (iv_c (0 : Int32) (a := 0) (b := 0) (by decide)) (by decide)
      refine lv_aload_n hx hb dX10_readAtom_66 rfl (lv_at hl 0 rfl) ?_
      refine lv_bipush (v := 35) hx hb dX10_readAtom_67 (by decide) ?_
      refine jnI (wr := [(z 4, aI V 1025 fz4), (z 3, aI V 900 fz3)]) (rnV (rest := []) ⟨hx, hb, hml, hown, hg⟩ (k_X10_is_11 l V z pz0_0 pz0_5 pz0_6 pz0_7 pz0_8 pz0_9 pz0_10 pz0_11 pz0_12 pz0_13 pz0_14 pz0_18 pz0_19 pz0_22 pz0_23 pz0_29 bpz0_5 bpz0_6 bpz0_7 bpz0_8 bpz0_10 (iv_w b_7 (by decide)) bpz0_12 bpz0_13 bpz0_14 bpz0_18 bpz0_22 bpz0_29) mt_X10_is q_6_143 ⟨Nat.le_of_ble_eq_true rfl, Nat.le_of_ble_eq_true rfl⟩ hK hP hD hS hA hE [2] rfl rfl 2 rfl rfl rfl rfl hl.1 rfl (Nat.le_of_ble_eq_true rfl) dX10_readAtom_69 ⟨Nat.le_of_ble_eq_true rfl, Nat.le_of_ble_eq_true rfl⟩) hP hD hS hA [2] [0, 1] rfl rfl rfl (by decide) (fun r_8 w H locs hw hP hD hS => ?_)
      obtain ⟨br_8, g_9, g_10, rfl⟩ := hw
      have hP : va_P V.1 vwCl [(z 4, aI V 1025 fz4), (z 3, aI V 900 fz3), (z 0, .inr (10, mo z pz0_0 pz0_5 pz0_6 pz0_7 pz0_8 pz0_9 pz0_10 pz0_11 pz0_12 pz0_13 pz0_14 pz0_18 pz0_19 pz0_22 pz0_23 pz0_29))] H := hP
      have hD : va_D A [(z 4, aI V 1025 fz4), (z 3, aI V 900 fz3), (z 0, .inr (10, mo z pz0_0 pz0_5 pz0_6 pz0_7 pz0_8 pz0_9 pz0_10 pz0_11 pz0_12 pz0_13 pz0_14 pz0_18 pz0_19 pz0_22 pz0_23 pz0_29))] := hD
      refine lv_if_eq (tgt := 108) hx hb dX10_readAtom_72 (by decide) (fun c_11 => ?_) (fun c_11 => ?_)
      · have b_12 : iv 0 0 r_8 := iv_q c_11 (iv_c (0 : Int32) (a := 0) (b := 0) (by decide))
        refine lv_aload_n hx hb dX10_readAtom_108 rfl (lv_at hl 0 rfl) ?_
        refine lv_bipush (v := 13) hx hb dX10_readAtom_109 (by decide) ?_
        refine jnI (wr := [(z 4, aI V 1025 fz4), (z 3, aI V 900 fz3)]) (rnV (rest := []) ⟨hx, hb, hml, hown, hg⟩ (k_X10_is_12 l V z pz0_0 pz0_5 pz0_6 pz0_7 pz0_8 pz0_9 pz0_10 pz0_11 pz0_12 pz0_13 pz0_14 pz0_18 pz0_19 pz0_22 pz0_23 pz0_29 bpz0_5 bpz0_6 bpz0_7 bpz0_8 bpz0_10 (iv_w b_7 (by decide)) bpz0_12 bpz0_13 bpz0_14 bpz0_18 bpz0_22 bpz0_29) mt_X10_is q_6_143 ⟨Nat.le_of_ble_eq_true rfl, Nat.le_of_ble_eq_true rfl⟩ hK hP hD hS hA hE [2] rfl rfl 2 rfl rfl rfl rfl hl.1 rfl (Nat.le_of_ble_eq_true rfl) dX10_readAtom_111 ⟨Nat.le_of_ble_eq_true rfl, Nat.le_of_ble_eq_true rfl⟩) hP hD hS hA [2] [0, 1] rfl rfl rfl (by decide) (fun r_13 w H locs hw hP hD hS => ?_)
        obtain ⟨br_13, g_14, g_15, rfl⟩ := hw
        have hP : va_P V.1 vwCl [(z 4, aI V 1025 fz4), (z 3, aI V 900 fz3), (z 0, .inr (10, mo z pz0_0 pz0_5 pz0_6 pz0_7 pz0_8 pz0_9 pz0_10 pz0_11 pz0_12 pz0_13 pz0_14 pz0_18 pz0_19 pz0_22 pz0_23 pz0_29))] H := hP
        have hD : va_D A [(z 4, aI V 1025 fz4), (z 3, aI V 900 fz3), (z 0, .inr (10, mo z pz0_0 pz0_5 pz0_6 pz0_7 pz0_8 pz0_9 pz0_10 pz0_11 pz0_12 pz0_13 pz0_14 pz0_18 pz0_19 pz0_22 pz0_23 pz0_29))] := hD
        refine lv_if_eq (tgt := 125) hx hb dX10_readAtom_114 (by decide) (fun c_16 => ?_) (fun c_16 => ?_)
        · have b_17 : iv 0 0 r_13 := iv_q c_16 (iv_c (0 : Int32) (a := 0) (b := 0) (by decide))
          refine lv_aload_n hx hb dX10_readAtom_125 rfl (lv_at hl 0 rfl) ?_
          refine lv_iconst (v := 2) hx hb dX10_readAtom_126 (by decide) ?_
          refine jnV (wr := [(z 4, aI V 1025 fz4), (z 3, aI V 900 fz3)]) (rnV (rest := []) ⟨hx, hb, hml, hown, hg⟩ (k_X10_fails_0 l V z 2 pz0_0 pz0_5 pz0_6 pz0_7 pz0_8 pz0_9 pz0_10 pz0_11 pz0_12 pz0_13 pz0_14 pz0_18 pz0_19 pz0_22 pz0_23 pz0_29 (iv_c (2 : Int32) (by decide)) bpz0_5 bpz0_6 bpz0_7 bpz0_8 bpz0_10 (iv_w b_7 (by decide)) bpz0_12 bpz0_13 bpz0_14 bpz0_18 bpz0_22 bpz0_29) mt_X10_fails q_6_147 ⟨Nat.le_of_ble_eq_true rfl, Nat.le_of_ble_eq_true rfl⟩ hK hP hD hS hA hE [2] rfl rfl 2 rfl rfl rfl rfl hl.1 rfl (Nat.le_of_ble_eq_true rfl) dX10_readAtom_127 ⟨Nat.le_of_ble_eq_true rfl, Nat.le_of_ble_eq_true rfl⟩) hP hD hS hA [2] [0, 1] rfl rfl rfl (by decide) (fun  w H locs hw hP hD hS => ?_)
          obtain ⟨v_18, v_19, bv_18, bv_19, rfl⟩ := hw
          have hP : va_P V.1 vwCl [(z 4, aI V 1025 fz4), (z 3, aI V 900 fz3), (z 0, .inr (10, mo z pz0_0 pz0_5 pz0_6 pz0_7 pz0_8 pz0_9 pz0_10 v_18 v_19 pz0_13 pz0_14 pz0_18 pz0_19 pz0_22 pz0_23 pz0_29))] H := hP
          have hD : va_D A [(z 4, aI V 1025 fz4), (z 3, aI V 900 fz3), (z 0, .inr (10, mo z pz0_0 pz0_5 pz0_6 pz0_7 pz0_8 pz0_9 pz0_10 v_18 v_19 pz0_13 pz0_14 pz0_18 pz0_19 pz0_22 pz0_23 pz0_29))] := hD
          have rx_20 : RX pz0_11 pz0_6 fz4 v_18 pz0_6 fz4 0 ((9 : Int)) := RX_f bv_18 (by decide)
          exact fiV hx hb hr hlk hK hP hD hS dX10_readAtom_130 (Nat.le_of_ble_eq_true rfl) (Nat.le_of_ble_eq_true rfl) (⟨fz4, pz0_6, pz0_7, pz0_9, pz0_10, v_18, v_19, tfz4, bpz0_6, bpz0_7, bpz0_10, (iv_w bv_18 (by decide)), bv_19, hf0, (PS_f bv_18 (by decide)), (Int.le_refl _), (RX_f bv_18 (by decide)), rfl⟩)
        · have b_21 : iv 1 1 r_13 := iv_n0 c_16 br_13 (iv_c (0 : Int32) (a := 0) (b := 0) (by decide)) (by decide)
          have c_22 : pz0_11 = 0 := (g_14 (iv_eqp b_21 (iv_c (1 : Int32) (by decide))))
          have b_23 : iv 0 0 pz0_11 := iv_q c_22 (iv_c (0 : Int32) (a := 0) (b := 0) (by decide))
          have c_24 : pz0_9 = 13 := (g_15 (iv_eqp b_21 (iv_c (1 : Int32) (by decide))))
          have b_25 : iv 13 13 pz0_9 := iv_q c_24 (iv_c (13 : Int32) (a := 13) (b := 13) (by decide))
          refine lv_aload_n hx hb dX10_readAtom_117 rfl (lv_at hl 0 rfl) ?_
          refine lv_iload_n hx hb dX10_readAtom_118 rfl (lv_at hl 1 rfl) ?_
          refine jnV (wr := []) (rnV (rest := []) ⟨hx, hb, hml, hown, hg⟩ (k_X10_readIf_1 l V z fz4 fz3 pz0_0 pz0_5 pz0_6 pz0_7 pz0_8 pz0_9 pz0_10 pz0_11 pz0_12 pz0_13 pz0_14 pz0_18 pz0_19 pz0_22 pz0_23 pz0_29 tfz4 bpz0_5 bpz0_6 bpz0_7 bpz0_8 bpz0_10 (iv_w b_23 (by decide)) bpz0_12 bpz0_13 bpz0_14 bpz0_18 bpz0_22 bpz0_29 hf0 hf1 c_24) mt_X10_readIf q_6_211 ⟨Nat.le_of_ble_eq_true rfl, Nat.le_of_ble_eq_true rfl⟩ hK hP hD hS hA hE [0, 1, 2] rfl rfl 2 rfl rfl rfl rfl hl.1 rfl (Nat.le_of_ble_eq_true rfl) dX10_readAtom_119 ⟨Nat.le_of_ble_eq_true rfl, Nat.le_of_ble_eq_true rfl⟩) hP hD hS hA [0, 1, 2] [] rfl rfl rfl (by decide) (fun  w H locs hw hP hD hS => ?_)
          obtain ⟨f_26, v_27, v_28, v_29, v_30, v_31, v_32, tf_26, bv_27, bv_28, bv_30, bv_31, bv_32, g_33, g_34, g_35, g_36, rfl⟩ := hw
          have hP : va_P V.1 vwCl [(z 4, aI V 1025 f_26), (z 3, aI V 900 fz3), (z 0, .inr (10, mo z pz0_0 pz0_5 v_27 v_28 pz0_8 v_29 v_30 v_31 v_32 pz0_13 pz0_14 pz0_18 pz0_19 pz0_22 pz0_23 pz0_29))] H := hP
          have hD : va_D A [(z 4, aI V 1025 f_26), (z 3, aI V 900 fz3), (z 0, .inr (10, mo z pz0_0 pz0_5 v_27 v_28 pz0_8 v_29 v_30 v_31 v_32 pz0_13 pz0_14 pz0_18 pz0_19 pz0_22 pz0_23 pz0_29))] := hD
          have rx_37 : RX pz0_11 pz0_6 fz4 v_31 v_27 f_26 1 ((0 : Int)) := by have q9 := RX_seq (by decide) (RX_0 (w := pz0_11) (a := pz0_6) tfz4) g_36; exact RX_w q9 (by omega)
          refine lv_goto (tgt := 130) hx hb dX10_readAtom_122 (by decide) ?_
          exact fiV hx hb hr hlk hK hP hD hS dX10_readAtom_130 (Nat.le_of_ble_eq_true rfl) (Nat.le_of_ble_eq_true rfl) (⟨f_26, v_27, v_28, v_29, v_30, v_31, v_32, tf_26, bv_27, bv_28, bv_30, bv_31, bv_32, g_33, g_34, (by have z_0 := g_35;have y_0 := hf0.1; have y_1 := g_33.1; omega), (RX_w rx_37 (by omega)), rfl⟩)
      · have b_38 : iv 1 1 r_8 := iv_n0 c_11 br_8 (iv_c (0 : Int32) (a := 0) (b := 0) (by decide)) (by decide)
        have c_39 : pz0_11 = 0 := (g_9 (iv_eqp b_38 (iv_c (1 : Int32) (by decide))))
        have b_40 : iv 0 0 pz0_11 := iv_q c_39 (iv_c (0 : Int32) (a := 0) (b := 0) (by decide))
        have c_41 : pz0_9 = 35 := (g_10 (iv_eqp b_38 (iv_c (1 : Int32) (by decide))))
        have b_42 : iv 35 35 pz0_9 := iv_q c_41 (iv_c (35 : Int32) (a := 35) (b := 35) (by decide))
        refine lv_aload_n hx hb dX10_readAtom_75 rfl (lv_at hl 0 rfl) ?_
        refine lv_iload_n hx hb dX10_readAtom_76 rfl (lv_at hl 1 rfl) ?_
        refine jnI (wr := [(z 4, aI V 1025 fz4)]) (rnV (rest := []) ⟨hx, hb, hml, hown, hg⟩ (k_X10_goesIn_5 l V z fz3 pz0_0 pz0_5 pz0_6 pz0_7 pz0_8 pz0_9 pz0_10 pz0_11 pz0_12 pz0_13 pz0_14 pz0_18 pz0_19 pz0_22 pz0_23 pz0_29 bpz0_5 bpz0_6 bpz0_7 bpz0_8 bpz0_10 (iv_w b_40 (by decide)) bpz0_12 bpz0_13 bpz0_14 bpz0_18 bpz0_22 bpz0_29 hf0) mt_X10_goesIn q_6_207 ⟨Nat.le_of_ble_eq_true rfl, Nat.le_of_ble_eq_true rfl⟩ hK hP hD hS hA hE [1, 2] rfl rfl 2 rfl rfl rfl rfl hl.1 rfl (Nat.le_of_ble_eq_true rfl) dX10_readAtom_77 ⟨Nat.le_of_ble_eq_true rfl, Nat.le_of_ble_eq_true rfl⟩) hP hD hS hA [1, 2] [0] rfl rfl rfl (by decide) (fun r_43 w H locs hw hP hD hS => ?_)
        obtain ⟨v_44, v_45, v_46, v_47, bv_44, bv_45, bv_47, br_43, g_48, g_49, g_50, g_51, g_52, g_53, rfl⟩ := hw
        have hP : va_P V.1 vwCl [(z 4, aI V 1025 fz4), (z 3, aI V 900 fz3), (z 0, .inr (10, mo z pz0_0 pz0_5 v_44 v_45 pz0_8 v_46 v_47 pz0_11 pz0_12 pz0_13 pz0_14 pz0_18 pz0_19 pz0_22 pz0_23 pz0_29))] H := hP
        have hD : va_D A [(z 4, aI V 1025 fz4), (z 3, aI V 900 fz3), (z 0, .inr (10, mo z pz0_0 pz0_5 v_44 v_45 pz0_8 v_46 v_47 pz0_11 pz0_12 pz0_13 pz0_14 pz0_18 pz0_19 pz0_22 pz0_23 pz0_29))] := hD
        have rx_54 : RX pz0_11 pz0_6 fz4 pz0_11 v_44 fz4 0 ((0 : Int) + adv r_43) := by have q9 := RX_a (RX_0 (w := pz0_11) (a := pz0_6) tfz4) g_50 (adv_le g_49 (fun q8 => g_52 (by rw [c_41]; decide) q8)); exact RX_w q9 (by omega)
        refine lv_if_ne (tgt := 84) hx hb dX10_readAtom_80 (by decide) (fun c_55 => ?_) (fun c_55 => ?_)
        · have b_56 : iv 1 1 r_43 := iv_n0 c_55 br_43 (iv_c (0 : Int32) (a := 0) (b := 0) (by decide)) (by decide)
          have c_57 : pz0_11 = 0 := (g_51 (iv_eqp b_56 (iv_c (1 : Int32) (by decide))))
          refine lv_aload_n hx hb dX10_readAtom_84 rfl (lv_at hl 0 rfl) ?_
          refine lv_iload_n hx hb dX10_readAtom_85 rfl (lv_at hl 1 rfl) ?_
          refine lv_iconst (v := 1) hx hb dX10_readAtom_86 (by decide) ?_
          refine lv_iadd hx hb dX10_readAtom_87 ?_
          refine tpi (y := 6) (by decide +kernel) ?_
          refine jnV (wr := []) (rnV (rest := []) ⟨hx, hb, hml, hown, hg⟩ (k_X10_readSum_0 l V z fz4 fz3 pz0_0 pz0_5 v_44 v_45 pz0_8 v_46 v_47 pz0_11 pz0_12 pz0_13 pz0_14 pz0_18 pz0_19 pz0_22 pz0_23 pz0_29 tfz4 bpz0_5 bv_44 bv_45 bpz0_8 bv_47 (iv_w b_40 (by decide)) bpz0_12 bpz0_13 bpz0_14 bpz0_18 bpz0_22 bpz0_29 g_48 (PS_x hf1 rx_54 (by have z_r_43 := adv_1 (iv_eqp b_56 (iv_c (1 : Int32) (by decide))); omega))) mt_X10_readSum q_6_187 ⟨Nat.le_of_ble_eq_true rfl, Nat.le_of_ble_eq_true rfl⟩ hK hP hD hS hA hE [0, 1, 2] rfl rfl 2 rfl rfl rfl rfl hl.1 rfl (Nat.le_of_ble_eq_true rfl) dX10_readAtom_88 ⟨Nat.le_of_ble_eq_true rfl, Nat.le_of_ble_eq_true rfl⟩) hP hD hS hA [0, 1, 2] [] rfl rfl rfl (by decide) (fun  w H locs hw hP hD hS => ?_)
          obtain ⟨f_58, v_59, v_60, v_61, v_62, v_63, v_64, tf_58, bv_59, bv_60, bv_62, bv_63, bv_64, g_65, g_66, g_67, g_68, rfl⟩ := hw
          have hP : va_P V.1 vwCl [(z 4, aI V 1025 f_58), (z 3, aI V 900 fz3), (z 0, .inr (10, mo z pz0_0 pz0_5 v_59 v_60 pz0_8 v_61 v_62 v_63 v_64 pz0_13 pz0_14 pz0_18 pz0_19 pz0_22 pz0_23 pz0_29))] H := hP
          have hD : va_D A [(z 4, aI V 1025 f_58), (z 3, aI V 900 fz3), (z 0, .inr (10, mo z pz0_0 pz0_5 v_59 v_60 pz0_8 v_61 v_62 v_63 v_64 pz0_13 pz0_14 pz0_18 pz0_19 pz0_22 pz0_23 pz0_29))] := hD
          have rx_69 : RX pz0_11 pz0_6 fz4 v_63 v_59 f_58 1 ((0 : Int) + adv r_43) := by have q9 := RX_seq (by decide) rx_54 g_68; exact RX_w q9 (by omega)
          refine lv_aload_n hx hb dX10_readAtom_91 rfl (lv_at hl 0 rfl) ?_
          refine lv_bipush (v := 36) hx hb dX10_readAtom_92 (by decide) ?_
          refine jnI (wr := [(z 4, aI V 1025 f_58)]) (rnV (rest := []) ⟨hx, hb, hml, hown, hg⟩ (k_X10_eats_10 l V z fz3 pz0_0 pz0_5 v_59 v_60 pz0_8 v_61 v_62 v_63 v_64 pz0_13 pz0_14 pz0_18 pz0_19 pz0_22 pz0_23 pz0_29 bpz0_5 bv_59 bv_60 bpz0_8 bv_62 bv_63 bv_64 bpz0_13 bpz0_14 bpz0_18 bpz0_22 bpz0_29 g_65) mt_X10_eats q_6_139 ⟨Nat.le_of_ble_eq_true rfl, Nat.le_of_ble_eq_true rfl⟩ hK hP hD hS hA hE [1, 2] rfl rfl 2 rfl rfl rfl rfl hl.1 rfl (Nat.le_of_ble_eq_true rfl) dX10_readAtom_94 ⟨Nat.le_of_ble_eq_true rfl, Nat.le_of_ble_eq_true rfl⟩) hP hD hS hA [1, 2] [0] rfl rfl rfl (by decide) (fun r_70 w H locs hw hP hD hS => ?_)
          obtain ⟨v_71, v_72, v_73, v_74, bv_71, bv_72, bv_74, br_70, g_75, g_76, g_77, g_78, rfl⟩ := hw
          have hP : va_P V.1 vwCl [(z 4, aI V 1025 f_58), (z 3, aI V 900 fz3), (z 0, .inr (10, mo z pz0_0 pz0_5 v_71 v_72 pz0_8 v_73 v_74 v_63 v_64 pz0_13 pz0_14 pz0_18 pz0_19 pz0_22 pz0_23 pz0_29))] H := hP
          have hD : va_D A [(z 4, aI V 1025 f_58), (z 3, aI V 900 fz3), (z 0, .inr (10, mo z pz0_0 pz0_5 v_71 v_72 pz0_8 v_73 v_74 v_63 v_64 pz0_13 pz0_14 pz0_18 pz0_19 pz0_22 pz0_23 pz0_29))] := hD
          have rx_79 : RX pz0_11 pz0_6 fz4 v_63 v_71 f_58 1 ((0 : Int) + adv r_43 + adv r_70) := by have q9 := RX_a rx_69 (fun q8 => q8) (adv_le g_76 g_78); exact RX_w q9 (by omega)
          refine lv_if_ne (tgt := 130) hx hb dX10_readAtom_97 (by decide) (fun c_80 => ?_) (fun c_80 => ?_)
          · have b_81 : iv 1 1 r_70 := iv_n0 c_80 br_70 (iv_c (0 : Int32) (a := 0) (b := 0) (by decide)) (by decide)
            have c_82 : v_63 = 0 := (g_77 (iv_eqp b_81 (iv_c (1 : Int32) (by decide))))
            have b_83 : iv 0 0 v_63 := iv_q c_82 (iv_c (0 : Int32) (a := 0) (b := 0) (by decide))
            exact fiV hx hb hr hlk hK hP hD hS dX10_readAtom_130 (Nat.le_of_ble_eq_true rfl) (Nat.le_of_ble_eq_true rfl) (⟨f_58, v_71, v_72, v_73, v_74, v_63, v_64, tf_58, bv_71, bv_72, bv_74, (iv_w b_83 (by decide)), bv_64, g_75, (PS_x hf1 rx_79 (by have z_r_43 := adv_1 (iv_eqp b_56 (iv_c (1 : Int32) (by decide))); have z_r_70 := adv_1 (iv_eqp b_81 (iv_c (1 : Int32) (by decide))); omega)), (by have z_0 := g_49; have z_1 := g_67; have z_2 := g_76;have y_0 := hf0.1; have y_1 := g_48.1; have y_2 := g_65.1; have y_3 := g_75.1; omega), (RX_w rx_79 (by have z_r_43 := adv_1 (iv_eqp b_56 (iv_c (1 : Int32) (by decide))); have z_r_70 := adv_1 (iv_eqp b_81 (iv_c (1 : Int32) (by decide))); omega)), rfl⟩)
          · have b_84 : iv 0 0 r_70 := iv_q c_80 (iv_c (0 : Int32) (a := 0) (b := 0) (by decide))
            refine lv_aload_n hx hb dX10_readAtom_100 rfl (lv_at hl 0 rfl) ?_
            refine lv_iconst (v := 2) hx hb dX10_readAtom_101 (by decide) ?_
            refine jnV (wr := [(z 4, aI V 1025 f_58), (z 3, aI V 900 fz3)]) (rnV (rest := []) ⟨hx, hb, hml, hown, hg⟩ (k_X10_fails_0 l V z 2 pz0_0 pz0_5 v_71 v_72 pz0_8 v_73 v_74 v_63 v_64 pz0_13 pz0_14 pz0_18 pz0_19 pz0_22 pz0_23 pz0_29 (iv_c (2 : Int32) (by decide)) bpz0_5 bv_71 bv_72 bpz0_8 bv_74 bv_63 bv_64 bpz0_13 bpz0_14 bpz0_18 bpz0_22 bpz0_29) mt_X10_fails q_6_147 ⟨Nat.le_of_ble_eq_true rfl, Nat.le_of_ble_eq_true rfl⟩ hK hP hD hS hA hE [2] rfl rfl 2 rfl rfl rfl rfl hl.1 rfl (Nat.le_of_ble_eq_true rfl) dX10_readAtom_102 ⟨Nat.le_of_ble_eq_true rfl, Nat.le_of_ble_eq_true rfl⟩) hP hD hS hA [2] [0, 1] rfl rfl rfl (by decide) (fun  w H locs hw hP hD hS => ?_)
            obtain ⟨v_85, v_86, bv_85, bv_86, rfl⟩ := hw
            have hP : va_P V.1 vwCl [(z 4, aI V 1025 f_58), (z 3, aI V 900 fz3), (z 0, .inr (10, mo z pz0_0 pz0_5 v_71 v_72 pz0_8 v_73 v_74 v_85 v_86 pz0_13 pz0_14 pz0_18 pz0_19 pz0_22 pz0_23 pz0_29))] H := hP
            have hD : va_D A [(z 4, aI V 1025 f_58), (z 3, aI V 900 fz3), (z 0, .inr (10, mo z pz0_0 pz0_5 v_71 v_72 pz0_8 v_73 v_74 v_85 v_86 pz0_13 pz0_14 pz0_18 pz0_19 pz0_22 pz0_23 pz0_29))] := hD
            have rx_87 : RX pz0_11 pz0_6 fz4 v_85 v_71 f_58 1 ((9 : Int)) := RX_f bv_85 (by decide)
            refine lv_goto (tgt := 130) hx hb dX10_readAtom_105 (by decide) ?_
            exact fiV hx hb hr hlk hK hP hD hS dX10_readAtom_130 (Nat.le_of_ble_eq_true rfl) (Nat.le_of_ble_eq_true rfl) (⟨f_58, v_71, v_72, v_73, v_74, v_85, v_86, tf_58, bv_71, bv_72, bv_74, (iv_w bv_85 (by decide)), bv_86, g_75, (PS_f bv_85 (by decide)), (by have z_0 := g_49; have z_1 := g_67; have z_2 := g_76;have y_0 := hf0.1; have y_1 := g_48.1; have y_2 := g_65.1; have y_3 := g_75.1; omega), (RX_f bv_85 (by decide)), rfl⟩)
        · have b_88 : iv 0 0 r_43 := iv_q c_55 (iv_c (0 : Int32) (a := 0) (b := 0) (by decide))
          have c_89 : ¬ pz0_11 = 0 := (g_53 (iv_eqp b_88 (iv_c (0 : Int32) (by decide))))
          have b_90 : iv 1 0 pz0_11 := iv_n0 c_89 b_40 (iv_c (0 : Int32) (a := 0) (b := 0) (by decide)) (by decide)
          exact fiV hx hb hr hlk hK hP hD hS dX10_readAtom_83 (Nat.le_of_ble_eq_true rfl) (Nat.le_of_ble_eq_true rfl) (⟨fz4, v_44, v_45, v_46, v_47, pz0_11, pz0_12, tfz4, bv_44, bv_45, bv_47, (iv_w b_90 (by decide)), bpz0_12, g_48, (PS_f b_90 (by decide)), (by have z_0 := g_49;have y_0 := hf0.1; have y_1 := g_48.1; omega), (RX_f b_90 (by decide)), rfl⟩)
    · have b_91 : iv 0 0 pz0_11 := iv_q c_6 (iv_c (0 : Int32) (a := 0) (b := 0) (by decide))
      refine lv_aload_n hx hb dX10_readAtom_31 rfl (lv_at hl 0 rfl) ?_
      refine lv_aload_n hx hb dX10_readAtom_32 rfl (lv_at hl 0 rfl) ?_
      refine va_get (ci := 10) (v := .int pz0_9) (C := RX10) (T := TX10) (N := 40) hx hb hg inX10 hown hK hP 2 rfl rfl 9 (by decide) (hg _ q_5_233) (fun _ h9 => h9) rfl dX10_readAtom_33 ?_
      refine jnI (wr := [(z 4, aI V 1025 fz4), (z 3, aI V 900 fz3), (z 0, .inr (10, mo z pz0_0 pz0_5 pz0_6 pz0_7 pz0_8 pz0_9 pz0_10 pz0_11 pz0_12 pz0_13 pz0_14 pz0_18 pz0_19 pz0_22 pz0_23 pz0_29))]) (rnV (rest := []) ⟨hx, hb, hml, hown, hg⟩ (k_X10_wordOf_0 l V z pz0_9) mt_X10_wordOf q_6_203 ⟨Nat.le_of_ble_eq_true rfl, Nat.le_of_ble_eq_true rfl⟩ hK hP hD hS hA hE [] rfl rfl 2 rfl rfl rfl rfl hl.1 rfl (Nat.le_of_ble_eq_true rfl) dX10_readAtom_36 ⟨Nat.le_of_ble_eq_true rfl, Nat.le_of_ble_eq_true rfl⟩) hP hD hS hA [] [0, 1, 2] rfl rfl rfl (by decide) (fun r_92 w H locs hw hP hD hS => ?_)
      obtain ⟨br_92, er_92, rfl⟩ := hw
      have hP : va_P V.1 vwCl [(z 4, aI V 1025 fz4), (z 3, aI V 900 fz3), (z 0, .inr (10, mo z pz0_0 pz0_5 pz0_6 pz0_7 pz0_8 pz0_9 pz0_10 pz0_11 pz0_12 pz0_13 pz0_14 pz0_18 pz0_19 pz0_22 pz0_23 pz0_29))] H := hP
      have hD : va_D A [(z 4, aI V 1025 fz4), (z 3, aI V 900 fz3), (z 0, .inr (10, mo z pz0_0 pz0_5 pz0_6 pz0_7 pz0_8 pz0_9 pz0_10 pz0_11 pz0_12 pz0_13 pz0_14 pz0_18 pz0_19 pz0_22 pz0_23 pz0_29))] := hD
      refine lv_iconst (v := (-1)) hx hb dX10_readAtom_39 (by decide) ?_
      refine lv_icmp_eq (tgt := 66) hx hb dX10_readAtom_40 (by decide) (fun c_93 => ?_) (fun c_93 => ?_)
      · have b_94 : iv (-1) (-1) r_92 := iv_q c_93 (iv_c ((-1) : Int32) (a := (-1)) (b := (-1)) (by decide))
        refine lv_aload_n hx hb dX10_readAtom_66 rfl (lv_at hl 0 rfl) ?_
        refine lv_bipush (v := 35) hx hb dX10_readAtom_67 (by decide) ?_
        refine jnI (wr := [(z 4, aI V 1025 fz4), (z 3, aI V 900 fz3)]) (rnV (rest := []) ⟨hx, hb, hml, hown, hg⟩ (k_X10_is_11 l V z pz0_0 pz0_5 pz0_6 pz0_7 pz0_8 pz0_9 pz0_10 pz0_11 pz0_12 pz0_13 pz0_14 pz0_18 pz0_19 pz0_22 pz0_23 pz0_29 bpz0_5 bpz0_6 bpz0_7 bpz0_8 bpz0_10 (iv_w b_91 (by decide)) bpz0_12 bpz0_13 bpz0_14 bpz0_18 bpz0_22 bpz0_29) mt_X10_is q_6_143 ⟨Nat.le_of_ble_eq_true rfl, Nat.le_of_ble_eq_true rfl⟩ hK hP hD hS hA hE [2] rfl rfl 2 rfl rfl rfl rfl hl.1 rfl (Nat.le_of_ble_eq_true rfl) dX10_readAtom_69 ⟨Nat.le_of_ble_eq_true rfl, Nat.le_of_ble_eq_true rfl⟩) hP hD hS hA [2] [0, 1] rfl rfl rfl (by decide) (fun r_95 w H locs hw hP hD hS => ?_)
        obtain ⟨br_95, g_96, g_97, rfl⟩ := hw
        have hP : va_P V.1 vwCl [(z 4, aI V 1025 fz4), (z 3, aI V 900 fz3), (z 0, .inr (10, mo z pz0_0 pz0_5 pz0_6 pz0_7 pz0_8 pz0_9 pz0_10 pz0_11 pz0_12 pz0_13 pz0_14 pz0_18 pz0_19 pz0_22 pz0_23 pz0_29))] H := hP
        have hD : va_D A [(z 4, aI V 1025 fz4), (z 3, aI V 900 fz3), (z 0, .inr (10, mo z pz0_0 pz0_5 pz0_6 pz0_7 pz0_8 pz0_9 pz0_10 pz0_11 pz0_12 pz0_13 pz0_14 pz0_18 pz0_19 pz0_22 pz0_23 pz0_29))] := hD
        refine lv_if_eq (tgt := 108) hx hb dX10_readAtom_72 (by decide) (fun c_98 => ?_) (fun c_98 => ?_)
        · have b_99 : iv 0 0 r_95 := iv_q c_98 (iv_c (0 : Int32) (a := 0) (b := 0) (by decide))
          refine lv_aload_n hx hb dX10_readAtom_108 rfl (lv_at hl 0 rfl) ?_
          refine lv_bipush (v := 13) hx hb dX10_readAtom_109 (by decide) ?_
          refine jnI (wr := [(z 4, aI V 1025 fz4), (z 3, aI V 900 fz3)]) (rnV (rest := []) ⟨hx, hb, hml, hown, hg⟩ (k_X10_is_12 l V z pz0_0 pz0_5 pz0_6 pz0_7 pz0_8 pz0_9 pz0_10 pz0_11 pz0_12 pz0_13 pz0_14 pz0_18 pz0_19 pz0_22 pz0_23 pz0_29 bpz0_5 bpz0_6 bpz0_7 bpz0_8 bpz0_10 (iv_w b_91 (by decide)) bpz0_12 bpz0_13 bpz0_14 bpz0_18 bpz0_22 bpz0_29) mt_X10_is q_6_143 ⟨Nat.le_of_ble_eq_true rfl, Nat.le_of_ble_eq_true rfl⟩ hK hP hD hS hA hE [2] rfl rfl 2 rfl rfl rfl rfl hl.1 rfl (Nat.le_of_ble_eq_true rfl) dX10_readAtom_111 ⟨Nat.le_of_ble_eq_true rfl, Nat.le_of_ble_eq_true rfl⟩) hP hD hS hA [2] [0, 1] rfl rfl rfl (by decide) (fun r_100 w H locs hw hP hD hS => ?_)
          obtain ⟨br_100, g_101, g_102, rfl⟩ := hw
          have hP : va_P V.1 vwCl [(z 4, aI V 1025 fz4), (z 3, aI V 900 fz3), (z 0, .inr (10, mo z pz0_0 pz0_5 pz0_6 pz0_7 pz0_8 pz0_9 pz0_10 pz0_11 pz0_12 pz0_13 pz0_14 pz0_18 pz0_19 pz0_22 pz0_23 pz0_29))] H := hP
          have hD : va_D A [(z 4, aI V 1025 fz4), (z 3, aI V 900 fz3), (z 0, .inr (10, mo z pz0_0 pz0_5 pz0_6 pz0_7 pz0_8 pz0_9 pz0_10 pz0_11 pz0_12 pz0_13 pz0_14 pz0_18 pz0_19 pz0_22 pz0_23 pz0_29))] := hD
          refine lv_if_eq (tgt := 125) hx hb dX10_readAtom_114 (by decide) (fun c_103 => ?_) (fun c_103 => ?_)
          · have b_104 : iv 0 0 r_100 := iv_q c_103 (iv_c (0 : Int32) (a := 0) (b := 0) (by decide))
            refine lv_aload_n hx hb dX10_readAtom_125 rfl (lv_at hl 0 rfl) ?_
            refine lv_iconst (v := 2) hx hb dX10_readAtom_126 (by decide) ?_
            refine jnV (wr := [(z 4, aI V 1025 fz4), (z 3, aI V 900 fz3)]) (rnV (rest := []) ⟨hx, hb, hml, hown, hg⟩ (k_X10_fails_0 l V z 2 pz0_0 pz0_5 pz0_6 pz0_7 pz0_8 pz0_9 pz0_10 pz0_11 pz0_12 pz0_13 pz0_14 pz0_18 pz0_19 pz0_22 pz0_23 pz0_29 (iv_c (2 : Int32) (by decide)) bpz0_5 bpz0_6 bpz0_7 bpz0_8 bpz0_10 (iv_w b_91 (by decide)) bpz0_12 bpz0_13 bpz0_14 bpz0_18 bpz0_22 bpz0_29) mt_X10_fails q_6_147 ⟨Nat.le_of_ble_eq_true rfl, Nat.le_of_ble_eq_true rfl⟩ hK hP hD hS hA hE [2] rfl rfl 2 rfl rfl rfl rfl hl.1 rfl (Nat.le_of_ble_eq_true rfl) dX10_readAtom_127 ⟨Nat.le_of_ble_eq_true rfl, Nat.le_of_ble_eq_true rfl⟩) hP hD hS hA [2] [0, 1] rfl rfl rfl (by decide) (fun  w H locs hw hP hD hS => ?_)
            obtain ⟨v_105, v_106, bv_105, bv_106, rfl⟩ := hw
            have hP : va_P V.1 vwCl [(z 4, aI V 1025 fz4), (z 3, aI V 900 fz3), (z 0, .inr (10, mo z pz0_0 pz0_5 pz0_6 pz0_7 pz0_8 pz0_9 pz0_10 v_105 v_106 pz0_13 pz0_14 pz0_18 pz0_19 pz0_22 pz0_23 pz0_29))] H := hP
            have hD : va_D A [(z 4, aI V 1025 fz4), (z 3, aI V 900 fz3), (z 0, .inr (10, mo z pz0_0 pz0_5 pz0_6 pz0_7 pz0_8 pz0_9 pz0_10 v_105 v_106 pz0_13 pz0_14 pz0_18 pz0_19 pz0_22 pz0_23 pz0_29))] := hD
            have rx_107 : RX pz0_11 pz0_6 fz4 v_105 pz0_6 fz4 0 ((9 : Int)) := RX_f bv_105 (by decide)
            exact fiV hx hb hr hlk hK hP hD hS dX10_readAtom_130 (Nat.le_of_ble_eq_true rfl) (Nat.le_of_ble_eq_true rfl) (⟨fz4, pz0_6, pz0_7, pz0_9, pz0_10, v_105, v_106, tfz4, bpz0_6, bpz0_7, bpz0_10, (iv_w bv_105 (by decide)), bv_106, hf0, (PS_f bv_105 (by decide)), (Int.le_refl _), (RX_f bv_105 (by decide)), rfl⟩)
          · have b_108 : iv 1 1 r_100 := iv_n0 c_103 br_100 (iv_c (0 : Int32) (a := 0) (b := 0) (by decide)) (by decide)
            have c_109 : pz0_11 = 0 := (g_101 (iv_eqp b_108 (iv_c (1 : Int32) (by decide))))
            have c_110 : pz0_9 = 13 := (g_102 (iv_eqp b_108 (iv_c (1 : Int32) (by decide))))
            have b_111 : iv 13 13 pz0_9 := iv_q c_110 (iv_c (13 : Int32) (a := 13) (b := 13) (by decide))
            refine lv_aload_n hx hb dX10_readAtom_117 rfl (lv_at hl 0 rfl) ?_
            refine lv_iload_n hx hb dX10_readAtom_118 rfl (lv_at hl 1 rfl) ?_
            refine jnV (wr := []) (rnV (rest := []) ⟨hx, hb, hml, hown, hg⟩ (k_X10_readIf_1 l V z fz4 fz3 pz0_0 pz0_5 pz0_6 pz0_7 pz0_8 pz0_9 pz0_10 pz0_11 pz0_12 pz0_13 pz0_14 pz0_18 pz0_19 pz0_22 pz0_23 pz0_29 tfz4 bpz0_5 bpz0_6 bpz0_7 bpz0_8 bpz0_10 (iv_w b_91 (by decide)) bpz0_12 bpz0_13 bpz0_14 bpz0_18 bpz0_22 bpz0_29 hf0 hf1 c_110) mt_X10_readIf q_6_211 ⟨Nat.le_of_ble_eq_true rfl, Nat.le_of_ble_eq_true rfl⟩ hK hP hD hS hA hE [0, 1, 2] rfl rfl 2 rfl rfl rfl rfl hl.1 rfl (Nat.le_of_ble_eq_true rfl) dX10_readAtom_119 ⟨Nat.le_of_ble_eq_true rfl, Nat.le_of_ble_eq_true rfl⟩) hP hD hS hA [0, 1, 2] [] rfl rfl rfl (by decide) (fun  w H locs hw hP hD hS => ?_)
            obtain ⟨f_112, v_113, v_114, v_115, v_116, v_117, v_118, tf_112, bv_113, bv_114, bv_116, bv_117, bv_118, g_119, g_120, g_121, g_122, rfl⟩ := hw
            have hP : va_P V.1 vwCl [(z 4, aI V 1025 f_112), (z 3, aI V 900 fz3), (z 0, .inr (10, mo z pz0_0 pz0_5 v_113 v_114 pz0_8 v_115 v_116 v_117 v_118 pz0_13 pz0_14 pz0_18 pz0_19 pz0_22 pz0_23 pz0_29))] H := hP
            have hD : va_D A [(z 4, aI V 1025 f_112), (z 3, aI V 900 fz3), (z 0, .inr (10, mo z pz0_0 pz0_5 v_113 v_114 pz0_8 v_115 v_116 v_117 v_118 pz0_13 pz0_14 pz0_18 pz0_19 pz0_22 pz0_23 pz0_29))] := hD
            have rx_123 : RX pz0_11 pz0_6 fz4 v_117 v_113 f_112 1 ((0 : Int)) := by have q9 := RX_seq (by decide) (RX_0 (w := pz0_11) (a := pz0_6) tfz4) g_122; exact RX_w q9 (by omega)
            refine lv_goto (tgt := 130) hx hb dX10_readAtom_122 (by decide) ?_
            exact fiV hx hb hr hlk hK hP hD hS dX10_readAtom_130 (Nat.le_of_ble_eq_true rfl) (Nat.le_of_ble_eq_true rfl) (⟨f_112, v_113, v_114, v_115, v_116, v_117, v_118, tf_112, bv_113, bv_114, bv_116, bv_117, bv_118, g_119, g_120, (by have z_0 := g_121;have y_0 := hf0.1; have y_1 := g_119.1; omega), (RX_w rx_123 (by omega)), rfl⟩)
        · have b_124 : iv 1 1 r_95 := iv_n0 c_98 br_95 (iv_c (0 : Int32) (a := 0) (b := 0) (by decide)) (by decide)
          have c_125 : pz0_11 = 0 := (g_96 (iv_eqp b_124 (iv_c (1 : Int32) (by decide))))
          have c_126 : pz0_9 = 35 := (g_97 (iv_eqp b_124 (iv_c (1 : Int32) (by decide))))
          have b_127 : iv 35 35 pz0_9 := iv_q c_126 (iv_c (35 : Int32) (a := 35) (b := 35) (by decide))
          refine lv_aload_n hx hb dX10_readAtom_75 rfl (lv_at hl 0 rfl) ?_
          refine lv_iload_n hx hb dX10_readAtom_76 rfl (lv_at hl 1 rfl) ?_
          refine jnI (wr := [(z 4, aI V 1025 fz4)]) (rnV (rest := []) ⟨hx, hb, hml, hown, hg⟩ (k_X10_goesIn_5 l V z fz3 pz0_0 pz0_5 pz0_6 pz0_7 pz0_8 pz0_9 pz0_10 pz0_11 pz0_12 pz0_13 pz0_14 pz0_18 pz0_19 pz0_22 pz0_23 pz0_29 bpz0_5 bpz0_6 bpz0_7 bpz0_8 bpz0_10 (iv_w b_91 (by decide)) bpz0_12 bpz0_13 bpz0_14 bpz0_18 bpz0_22 bpz0_29 hf0) mt_X10_goesIn q_6_207 ⟨Nat.le_of_ble_eq_true rfl, Nat.le_of_ble_eq_true rfl⟩ hK hP hD hS hA hE [1, 2] rfl rfl 2 rfl rfl rfl rfl hl.1 rfl (Nat.le_of_ble_eq_true rfl) dX10_readAtom_77 ⟨Nat.le_of_ble_eq_true rfl, Nat.le_of_ble_eq_true rfl⟩) hP hD hS hA [1, 2] [0] rfl rfl rfl (by decide) (fun r_128 w H locs hw hP hD hS => ?_)
          obtain ⟨v_129, v_130, v_131, v_132, bv_129, bv_130, bv_132, br_128, g_133, g_134, g_135, g_136, g_137, g_138, rfl⟩ := hw
          have hP : va_P V.1 vwCl [(z 4, aI V 1025 fz4), (z 3, aI V 900 fz3), (z 0, .inr (10, mo z pz0_0 pz0_5 v_129 v_130 pz0_8 v_131 v_132 pz0_11 pz0_12 pz0_13 pz0_14 pz0_18 pz0_19 pz0_22 pz0_23 pz0_29))] H := hP
          have hD : va_D A [(z 4, aI V 1025 fz4), (z 3, aI V 900 fz3), (z 0, .inr (10, mo z pz0_0 pz0_5 v_129 v_130 pz0_8 v_131 v_132 pz0_11 pz0_12 pz0_13 pz0_14 pz0_18 pz0_19 pz0_22 pz0_23 pz0_29))] := hD
          have rx_139 : RX pz0_11 pz0_6 fz4 pz0_11 v_129 fz4 0 ((0 : Int) + adv r_128) := by have q9 := RX_a (RX_0 (w := pz0_11) (a := pz0_6) tfz4) g_135 (adv_le g_134 (fun q8 => g_137 (by rw [c_126]; decide) q8)); exact RX_w q9 (by omega)
          refine lv_if_ne (tgt := 84) hx hb dX10_readAtom_80 (by decide) (fun c_140 => ?_) (fun c_140 => ?_)
          · have b_141 : iv 1 1 r_128 := iv_n0 c_140 br_128 (iv_c (0 : Int32) (a := 0) (b := 0) (by decide)) (by decide)
            have c_142 : pz0_11 = 0 := (g_136 (iv_eqp b_141 (iv_c (1 : Int32) (by decide))))
            refine lv_aload_n hx hb dX10_readAtom_84 rfl (lv_at hl 0 rfl) ?_
            refine lv_iload_n hx hb dX10_readAtom_85 rfl (lv_at hl 1 rfl) ?_
            refine lv_iconst (v := 1) hx hb dX10_readAtom_86 (by decide) ?_
            refine lv_iadd hx hb dX10_readAtom_87 ?_
            refine tpi (y := 6) (by decide +kernel) ?_
            refine jnV (wr := []) (rnV (rest := []) ⟨hx, hb, hml, hown, hg⟩ (k_X10_readSum_0 l V z fz4 fz3 pz0_0 pz0_5 v_129 v_130 pz0_8 v_131 v_132 pz0_11 pz0_12 pz0_13 pz0_14 pz0_18 pz0_19 pz0_22 pz0_23 pz0_29 tfz4 bpz0_5 bv_129 bv_130 bpz0_8 bv_132 (iv_w b_91 (by decide)) bpz0_12 bpz0_13 bpz0_14 bpz0_18 bpz0_22 bpz0_29 g_133 (PS_x hf1 rx_139 (by have z_r_128 := adv_1 (iv_eqp b_141 (iv_c (1 : Int32) (by decide))); omega))) mt_X10_readSum q_6_187 ⟨Nat.le_of_ble_eq_true rfl, Nat.le_of_ble_eq_true rfl⟩ hK hP hD hS hA hE [0, 1, 2] rfl rfl 2 rfl rfl rfl rfl hl.1 rfl (Nat.le_of_ble_eq_true rfl) dX10_readAtom_88 ⟨Nat.le_of_ble_eq_true rfl, Nat.le_of_ble_eq_true rfl⟩) hP hD hS hA [0, 1, 2] [] rfl rfl rfl (by decide) (fun  w H locs hw hP hD hS => ?_)
            obtain ⟨f_143, v_144, v_145, v_146, v_147, v_148, v_149, tf_143, bv_144, bv_145, bv_147, bv_148, bv_149, g_150, g_151, g_152, g_153, rfl⟩ := hw
            have hP : va_P V.1 vwCl [(z 4, aI V 1025 f_143), (z 3, aI V 900 fz3), (z 0, .inr (10, mo z pz0_0 pz0_5 v_144 v_145 pz0_8 v_146 v_147 v_148 v_149 pz0_13 pz0_14 pz0_18 pz0_19 pz0_22 pz0_23 pz0_29))] H := hP
            have hD : va_D A [(z 4, aI V 1025 f_143), (z 3, aI V 900 fz3), (z 0, .inr (10, mo z pz0_0 pz0_5 v_144 v_145 pz0_8 v_146 v_147 v_148 v_149 pz0_13 pz0_14 pz0_18 pz0_19 pz0_22 pz0_23 pz0_29))] := hD
            have rx_154 : RX pz0_11 pz0_6 fz4 v_148 v_144 f_143 1 ((0 : Int) + adv r_128) := by have q9 := RX_seq (by decide) rx_139 g_153; exact RX_w q9 (by omega)
            refine lv_aload_n hx hb dX10_readAtom_91 rfl (lv_at hl 0 rfl) ?_
            refine lv_bipush (v := 36) hx hb dX10_readAtom_92 (by decide) ?_
            refine jnI (wr := [(z 4, aI V 1025 f_143)]) (rnV (rest := []) ⟨hx, hb, hml, hown, hg⟩ (k_X10_eats_10 l V z fz3 pz0_0 pz0_5 v_144 v_145 pz0_8 v_146 v_147 v_148 v_149 pz0_13 pz0_14 pz0_18 pz0_19 pz0_22 pz0_23 pz0_29 bpz0_5 bv_144 bv_145 bpz0_8 bv_147 bv_148 bv_149 bpz0_13 bpz0_14 bpz0_18 bpz0_22 bpz0_29 g_150) mt_X10_eats q_6_139 ⟨Nat.le_of_ble_eq_true rfl, Nat.le_of_ble_eq_true rfl⟩ hK hP hD hS hA hE [1, 2] rfl rfl 2 rfl rfl rfl rfl hl.1 rfl (Nat.le_of_ble_eq_true rfl) dX10_readAtom_94 ⟨Nat.le_of_ble_eq_true rfl, Nat.le_of_ble_eq_true rfl⟩) hP hD hS hA [1, 2] [0] rfl rfl rfl (by decide) (fun r_155 w H locs hw hP hD hS => ?_)
            obtain ⟨v_156, v_157, v_158, v_159, bv_156, bv_157, bv_159, br_155, g_160, g_161, g_162, g_163, rfl⟩ := hw
            have hP : va_P V.1 vwCl [(z 4, aI V 1025 f_143), (z 3, aI V 900 fz3), (z 0, .inr (10, mo z pz0_0 pz0_5 v_156 v_157 pz0_8 v_158 v_159 v_148 v_149 pz0_13 pz0_14 pz0_18 pz0_19 pz0_22 pz0_23 pz0_29))] H := hP
            have hD : va_D A [(z 4, aI V 1025 f_143), (z 3, aI V 900 fz3), (z 0, .inr (10, mo z pz0_0 pz0_5 v_156 v_157 pz0_8 v_158 v_159 v_148 v_149 pz0_13 pz0_14 pz0_18 pz0_19 pz0_22 pz0_23 pz0_29))] := hD
            have rx_164 : RX pz0_11 pz0_6 fz4 v_148 v_156 f_143 1 ((0 : Int) + adv r_128 + adv r_155) := by have q9 := RX_a rx_154 (fun q8 => q8) (adv_le g_161 g_163); exact RX_w q9 (by omega)
            refine lv_if_ne (tgt := 130) hx hb dX10_readAtom_97 (by decide) (fun c_165 => ?_) (fun c_165 => ?_)
            · have b_166 : iv 1 1 r_155 := iv_n0 c_165 br_155 (iv_c (0 : Int32) (a := 0) (b := 0) (by decide)) (by decide)
              have c_167 : v_148 = 0 := (g_162 (iv_eqp b_166 (iv_c (1 : Int32) (by decide))))
              have b_168 : iv 0 0 v_148 := iv_q c_167 (iv_c (0 : Int32) (a := 0) (b := 0) (by decide))
              exact fiV hx hb hr hlk hK hP hD hS dX10_readAtom_130 (Nat.le_of_ble_eq_true rfl) (Nat.le_of_ble_eq_true rfl) (⟨f_143, v_156, v_157, v_158, v_159, v_148, v_149, tf_143, bv_156, bv_157, bv_159, (iv_w b_168 (by decide)), bv_149, g_160, (PS_x hf1 rx_164 (by have z_r_128 := adv_1 (iv_eqp b_141 (iv_c (1 : Int32) (by decide))); have z_r_155 := adv_1 (iv_eqp b_166 (iv_c (1 : Int32) (by decide))); omega)), (by have z_0 := g_134; have z_1 := g_152; have z_2 := g_161;have y_0 := hf0.1; have y_1 := g_133.1; have y_2 := g_150.1; have y_3 := g_160.1; omega), (RX_w rx_164 (by have z_r_128 := adv_1 (iv_eqp b_141 (iv_c (1 : Int32) (by decide))); have z_r_155 := adv_1 (iv_eqp b_166 (iv_c (1 : Int32) (by decide))); omega)), rfl⟩)
            · have b_169 : iv 0 0 r_155 := iv_q c_165 (iv_c (0 : Int32) (a := 0) (b := 0) (by decide))
              refine lv_aload_n hx hb dX10_readAtom_100 rfl (lv_at hl 0 rfl) ?_
              refine lv_iconst (v := 2) hx hb dX10_readAtom_101 (by decide) ?_
              refine jnV (wr := [(z 4, aI V 1025 f_143), (z 3, aI V 900 fz3)]) (rnV (rest := []) ⟨hx, hb, hml, hown, hg⟩ (k_X10_fails_0 l V z 2 pz0_0 pz0_5 v_156 v_157 pz0_8 v_158 v_159 v_148 v_149 pz0_13 pz0_14 pz0_18 pz0_19 pz0_22 pz0_23 pz0_29 (iv_c (2 : Int32) (by decide)) bpz0_5 bv_156 bv_157 bpz0_8 bv_159 bv_148 bv_149 bpz0_13 bpz0_14 bpz0_18 bpz0_22 bpz0_29) mt_X10_fails q_6_147 ⟨Nat.le_of_ble_eq_true rfl, Nat.le_of_ble_eq_true rfl⟩ hK hP hD hS hA hE [2] rfl rfl 2 rfl rfl rfl rfl hl.1 rfl (Nat.le_of_ble_eq_true rfl) dX10_readAtom_102 ⟨Nat.le_of_ble_eq_true rfl, Nat.le_of_ble_eq_true rfl⟩) hP hD hS hA [2] [0, 1] rfl rfl rfl (by decide) (fun  w H locs hw hP hD hS => ?_)
              obtain ⟨v_170, v_171, bv_170, bv_171, rfl⟩ := hw
              have hP : va_P V.1 vwCl [(z 4, aI V 1025 f_143), (z 3, aI V 900 fz3), (z 0, .inr (10, mo z pz0_0 pz0_5 v_156 v_157 pz0_8 v_158 v_159 v_170 v_171 pz0_13 pz0_14 pz0_18 pz0_19 pz0_22 pz0_23 pz0_29))] H := hP
              have hD : va_D A [(z 4, aI V 1025 f_143), (z 3, aI V 900 fz3), (z 0, .inr (10, mo z pz0_0 pz0_5 v_156 v_157 pz0_8 v_158 v_159 v_170 v_171 pz0_13 pz0_14 pz0_18 pz0_19 pz0_22 pz0_23 pz0_29))] := hD
              have rx_172 : RX pz0_11 pz0_6 fz4 v_170 v_156 f_143 1 ((9 : Int)) := RX_f bv_170 (by decide)
              refine lv_goto (tgt := 130) hx hb dX10_readAtom_105 (by decide) ?_
              exact fiV hx hb hr hlk hK hP hD hS dX10_readAtom_130 (Nat.le_of_ble_eq_true rfl) (Nat.le_of_ble_eq_true rfl) (⟨f_143, v_156, v_157, v_158, v_159, v_170, v_171, tf_143, bv_156, bv_157, bv_159, (iv_w bv_170 (by decide)), bv_171, g_160, (PS_f bv_170 (by decide)), (by have z_0 := g_134; have z_1 := g_152; have z_2 := g_161;have y_0 := hf0.1; have y_1 := g_133.1; have y_2 := g_150.1; have y_3 := g_160.1; omega), (RX_f bv_170 (by decide)), rfl⟩)
          · have b_173 : iv 0 0 r_128 := iv_q c_140 (iv_c (0 : Int32) (a := 0) (b := 0) (by decide))
            have c_174 : ¬ pz0_11 = 0 := (g_138 (iv_eqp b_173 (iv_c (0 : Int32) (by decide))))
            have b_175 : iv 1 0 pz0_11 := iv_n0 c_174 b_91 (iv_c (0 : Int32) (a := 0) (b := 0) (by decide)) (by decide)
            exact fiV hx hb hr hlk hK hP hD hS dX10_readAtom_83 (Nat.le_of_ble_eq_true rfl) (Nat.le_of_ble_eq_true rfl) (⟨fz4, v_129, v_130, v_131, v_132, pz0_11, pz0_12, tfz4, bv_129, bv_130, bv_132, (iv_w b_175 (by decide)), bpz0_12, g_133, (PS_f b_175 (by decide)), (by have z_0 := g_134;have y_0 := hf0.1; have y_1 := g_133.1; omega), (RX_f b_175 (by decide)), rfl⟩)
      · have b_176 : iv 0 5 r_92 := iv_n0 c_93 br_92 (iv_c ((-1) : Int32) (a := (-1)) (b := (-1)) (by decide)) (by decide)
        have b_177 : iv 0 899 pz0_6 := by have q9 := hf0; have q8 := q9.2.2 (fun q9 => c_93 (by rw [er_92, q9]; decide)); have q7 := q9.2.1; have q6 := bpz0_8; have q5 := bpz0_6; unfold iv at *; omega
        refine lv_aload_n hx hb dX10_readAtom_43 rfl (lv_at hl 0 rfl) ?_
        refine lv_sipush (v := 1000) hx hb dX10_readAtom_44 (by decide) ?_
        refine lv_aload_n hx hb dX10_readAtom_47 rfl (lv_at hl 0 rfl) ?_
        refine lv_aload_n hx hb dX10_readAtom_48 rfl (lv_at hl 0 rfl) ?_
        refine va_get (ci := 10) (v := .int pz0_9) (C := RX10) (T := TX10) (N := 40) hx hb hg inX10 hown hK hP 2 rfl rfl 9 (by decide) (hg _ q_5_233) (fun _ h9 => h9) rfl dX10_readAtom_49 ?_
        refine jnI (wr := [(z 4, aI V 1025 fz4), (z 3, aI V 900 fz3), (z 0, .inr (10, mo z pz0_0 pz0_5 pz0_6 pz0_7 pz0_8 pz0_9 pz0_10 pz0_11 pz0_12 pz0_13 pz0_14 pz0_18 pz0_19 pz0_22 pz0_23 pz0_29))]) (rnV (rest := [.int 1000, .ref (z 0)]) ⟨hx, hb, hml, hown, hg⟩ (k_X10_wordOf_0 l V z pz0_9) mt_X10_wordOf q_6_203 ⟨Nat.le_of_ble_eq_true rfl, Nat.le_of_ble_eq_true rfl⟩ hK hP hD hS hA hE [] rfl rfl 2 rfl rfl rfl rfl hl.1 rfl (Nat.le_of_ble_eq_true rfl) dX10_readAtom_52 ⟨Nat.le_of_ble_eq_true rfl, Nat.le_of_ble_eq_true rfl⟩) hP hD hS hA [] [0, 1, 2] rfl rfl rfl (by decide) (fun r_178 w H locs hw hP hD hS => ?_)
        obtain ⟨br_178, er_178, rfl⟩ := hw
        have e9_r_178 : r_178 = r_92 := er_178.trans er_92.symm
        rw [e9_r_178]
        have hP : va_P V.1 vwCl [(z 4, aI V 1025 fz4), (z 3, aI V 900 fz3), (z 0, .inr (10, mo z pz0_0 pz0_5 pz0_6 pz0_7 pz0_8 pz0_9 pz0_10 pz0_11 pz0_12 pz0_13 pz0_14 pz0_18 pz0_19 pz0_22 pz0_23 pz0_29))] H := hP
        have hD : va_D A [(z 4, aI V 1025 fz4), (z 3, aI V 900 fz3), (z 0, .inr (10, mo z pz0_0 pz0_5 pz0_6 pz0_7 pz0_8 pz0_9 pz0_10 pz0_11 pz0_12 pz0_13 pz0_14 pz0_18 pz0_19 pz0_22 pz0_23 pz0_29))] := hD
        refine lv_iadd hx hb dX10_readAtom_55 ?_
        refine lv_topi (fun x_179 ex_179 => ?_)
        have bx_179 : iv 1000 1005 x_179 := by rw [ex_179]; exact iv_add (iv_c (1000 : Int32) (a := 1000) (b := 1000) (by decide)) b_176 (by decide)
        refine jnV (wr := [(z 3, aI V 900 fz3)]) (rnV (rest := []) ⟨hx, hb, hml, hown, hg⟩ (k_X10_codes_0 l V z x_179 fz4 pz0_0 pz0_5 pz0_6 pz0_7 pz0_8 pz0_9 pz0_10 pz0_11 pz0_12 pz0_13 pz0_14 pz0_18 pz0_19 pz0_22 pz0_23 pz0_29 tfz4 bpz0_5 (iv_w b_177 (by decide)) bpz0_7 bpz0_8 bpz0_10 (iv_w b_91 (by decide)) bpz0_12 bpz0_13 bpz0_14 bpz0_18 bpz0_22 bpz0_29 (PS_d hf1 b_177 (by decide))) mt_X10_codes q_6_199 ⟨Nat.le_of_ble_eq_true rfl, Nat.le_of_ble_eq_true rfl⟩ hK hP hD hS hA hE [0, 2] rfl rfl 2 rfl rfl rfl rfl hl.1 rfl (Nat.le_of_ble_eq_true rfl) dX10_readAtom_56 ⟨Nat.le_of_ble_eq_true rfl, Nat.le_of_ble_eq_true rfl⟩) hP hD hS hA [0, 2] [1] rfl rfl rfl (by decide) (fun  w H locs hw hP hD hS => ?_)
        obtain ⟨f_180, tf_180, g_181, g_182, rfl⟩ := hw
        have hP : va_P V.1 vwCl [(z 3, aI V 900 fz3), (z 4, aI V 1025 f_180), (z 0, .inr (10, mo z pz0_0 pz0_5 pz0_6 pz0_7 pz0_8 pz0_9 pz0_10 pz0_11 pz0_12 pz0_13 pz0_14 pz0_18 pz0_19 pz0_22 pz0_23 pz0_29))] H := hP
        have hD : va_D A [(z 3, aI V 900 fz3), (z 4, aI V 1025 f_180), (z 0, .inr (10, mo z pz0_0 pz0_5 pz0_6 pz0_7 pz0_8 pz0_9 pz0_10 pz0_11 pz0_12 pz0_13 pz0_14 pz0_18 pz0_19 pz0_22 pz0_23 pz0_29))] := hD
        have rx_183 : RX pz0_11 pz0_6 fz4 pz0_11 pz0_6 f_180 1 ((-1 : Int)) := by have q9 := RX_c (RX_0 (w := pz0_11) (a := pz0_6) tfz4) tfz4 g_181 (by have q9 := bx_179; unfold iv at q9; unfold ned; rw [if_pos (by omega)]; decide) (by have q9 := bx_179; unfold iv at q9; unfold okc; omega) (by have q9 := bx_179; unfold iv at q9; omega) (PS_d hf1 b_177 (by decide)); rw [(show eff x_179 = 1 by have q9 := bx_179; unfold iv at q9; unfold eff; rw [if_pos (by omega)])] at q9; exact RX_w q9 (by omega)
        refine lv_aload_n hx hb dX10_readAtom_59 rfl (lv_at hl 0 rfl) ?_
        refine jnV (wr := [(z 4, aI V 1025 f_180)]) (rnV (rest := []) ⟨hx, hb, hml, hown, hg⟩ (k_X10_next_0 l V z pz0_0 pz0_5 pz0_6 pz0_7 pz0_8 pz0_9 pz0_10 pz0_11 pz0_12 pz0_13 pz0_14 pz0_18 pz0_19 pz0_22 pz0_23 pz0_29 fz3 bpz0_5 (iv_w b_177 (by decide)) bpz0_7 bpz0_8 bpz0_10 (iv_w b_91 (by decide)) bpz0_12 bpz0_13 bpz0_14 bpz0_18 bpz0_22 bpz0_29 hf0.2.1) mt_X10_next q_6_117 ⟨Nat.le_of_ble_eq_true rfl, Nat.le_of_ble_eq_true rfl⟩ hK hP hD hS hA hE [2, 0] rfl rfl 2 rfl rfl rfl rfl hl.1 rfl (Nat.le_of_ble_eq_true rfl) dX10_readAtom_60 ⟨Nat.le_of_ble_eq_true rfl, Nat.le_of_ble_eq_true rfl⟩) hP hD hS hA [2, 0] [1] rfl rfl rfl (by decide) (fun  w H locs hw hP hD hS => ?_)
        obtain ⟨v_184, v_185, v_186, v_187, bv_184, bv_185, bv_187, g_188, g_189, rfl⟩ := hw
        have hP : va_P V.1 vwCl [(z 4, aI V 1025 f_180), (z 0, .inr (10, mo z pz0_0 pz0_5 v_184 v_185 pz0_8 v_186 v_187 pz0_11 pz0_12 pz0_13 pz0_14 pz0_18 pz0_19 pz0_22 pz0_23 pz0_29)), (z 3, aI V 900 fz3)] H := hP
        have hD : va_D A [(z 4, aI V 1025 f_180), (z 0, .inr (10, mo z pz0_0 pz0_5 v_184 v_185 pz0_8 v_186 v_187 pz0_11 pz0_12 pz0_13 pz0_14 pz0_18 pz0_19 pz0_22 pz0_23 pz0_29)), (z 3, aI V 900 fz3)] := hD
        have rx_190 : RX pz0_11 pz0_6 fz4 pz0_11 v_184 f_180 1 ((0 : Int)) := by have q9 := RX_a (a' := v_184) rx_183 (fun q8 => q8) (t := 1) (by have q9 := g_189; have q8 := hf0.2.2 (fun q9 => c_93 (by rw [er_92, q9]; decide)); omega); exact RX_w q9 (by omega)
        refine lv_goto (tgt := 130) hx hb dX10_readAtom_63 (by decide) ?_
        have hP := subP (ws' := [(z 4, aI V 1025 f_180), (z 3, aI V 900 fz3), (z 0, .inr (10, mo z pz0_0 pz0_5 v_184 v_185 pz0_8 v_186 v_187 pz0_11 pz0_12 pz0_13 pz0_14 pz0_18 pz0_19 pz0_22 pz0_23 pz0_29))]) hP [0, 2, 1] rfl
        have hD := hD.sub (ws' := [(z 4, aI V 1025 f_180), (z 3, aI V 900 fz3), (z 0, .inr (10, mo z pz0_0 pz0_5 v_184 v_185 pz0_8 v_186 v_187 pz0_11 pz0_12 pz0_13 pz0_14 pz0_18 pz0_19 pz0_22 pz0_23 pz0_29))]) [0, 2, 1] rfl rfl
        exact fiV hx hb hr hlk hK hP hD hS dX10_readAtom_130 (Nat.le_of_ble_eq_true rfl) (Nat.le_of_ble_eq_true rfl) (⟨f_180, v_184, v_185, v_186, v_187, pz0_11, pz0_12, tf_180, bv_184, bv_185, bv_187, (iv_w b_91 (by decide)), bpz0_12, g_188, (PS_x hf1 rx_190 (by omega)), (by have z_0 := g_189;have y_0 := hf0.1; have y_1 := g_188.1; omega), (RX_w rx_190 (by omega)), rfl⟩)
  · have b_191 : iv 1 1 r_1 := iv_n0 c_4 br_1 (iv_c (0 : Int32) (a := 0) (b := 0) (by decide)) (by decide)
    have c_192 : pz0_11 = 0 := (g_2 (iv_eqp b_191 (iv_c (1 : Int32) (by decide))))
    have b_193 : iv 0 0 pz0_11 := iv_q c_192 (iv_c (0 : Int32) (a := 0) (b := 0) (by decide))
    have c_194 : pz0_9 = 23 := (g_3 (iv_eqp b_191 (iv_c (1 : Int32) (by decide))))
    have b_195 : iv 23 23 pz0_9 := iv_q c_194 (iv_c (23 : Int32) (a := 23) (b := 23) (by decide))
    have b_196 : iv 0 899 pz0_6 := by have q9 := hf0; have q8 := q9.2.2 (by rw [c_194]; decide); have q7 := q9.2.1; have q6 := bpz0_8; have q5 := bpz0_6; unfold iv at *; omega
    refine lv_aload_n hx hb dX10_readAtom_9 rfl (lv_at hl 0 rfl) ?_
    refine lv_aload_n hx hb dX10_readAtom_10 rfl (lv_at hl 0 rfl) ?_
    refine va_get (ci := 10) (v := .int pz0_10) (C := RX10) (T := TX10) (N := 40) hx hb hg inX10 hown hK hP 2 rfl rfl 10 (by decide) (hg _ q_5_234) (fun _ h9 => h9) rfl dX10_readAtom_11 ?_
    refine jnV (wr := [(z 3, aI V 900 fz3)]) (rnV (rest := []) ⟨hx, hb, hml, hown, hg⟩ (k_X10_codes_0 l V z pz0_10 fz4 pz0_0 pz0_5 pz0_6 pz0_7 pz0_8 pz0_9 pz0_10 pz0_11 pz0_12 pz0_13 pz0_14 pz0_18 pz0_19 pz0_22 pz0_23 pz0_29 tfz4 bpz0_5 (iv_w b_196 (by decide)) bpz0_7 bpz0_8 bpz0_10 (iv_w b_193 (by decide)) bpz0_12 bpz0_13 bpz0_14 bpz0_18 bpz0_22 bpz0_29 (PS_d hf1 b_196 (by decide))) mt_X10_codes q_6_199 ⟨Nat.le_of_ble_eq_true rfl, Nat.le_of_ble_eq_true rfl⟩ hK hP hD hS hA hE [0, 2] rfl rfl 2 rfl rfl rfl rfl hl.1 rfl (Nat.le_of_ble_eq_true rfl) dX10_readAtom_14 ⟨Nat.le_of_ble_eq_true rfl, Nat.le_of_ble_eq_true rfl⟩) hP hD hS hA [0, 2] [1] rfl rfl rfl (by decide) (fun  w H locs hw hP hD hS => ?_)
    obtain ⟨f_197, tf_197, g_198, g_199, rfl⟩ := hw
    have hP : va_P V.1 vwCl [(z 3, aI V 900 fz3), (z 4, aI V 1025 f_197), (z 0, .inr (10, mo z pz0_0 pz0_5 pz0_6 pz0_7 pz0_8 pz0_9 pz0_10 pz0_11 pz0_12 pz0_13 pz0_14 pz0_18 pz0_19 pz0_22 pz0_23 pz0_29))] H := hP
    have hD : va_D A [(z 3, aI V 900 fz3), (z 4, aI V 1025 f_197), (z 0, .inr (10, mo z pz0_0 pz0_5 pz0_6 pz0_7 pz0_8 pz0_9 pz0_10 pz0_11 pz0_12 pz0_13 pz0_14 pz0_18 pz0_19 pz0_22 pz0_23 pz0_29))] := hD
    have rx_200 : RX pz0_11 pz0_6 fz4 pz0_11 pz0_6 f_197 1 ((-1 : Int)) := by have q9 := RX_c (RX_0 (w := pz0_11) (a := pz0_6) tfz4) tfz4 g_198 (by have q9 := bpz0_10; unfold iv at q9; unfold ned; rw [if_pos (by omega)]; decide) (by have q9 := bpz0_10; unfold iv at q9; unfold okc; omega) (by have q9 := bpz0_10; unfold iv at q9; omega) (PS_d hf1 b_196 (by decide)); rw [(show eff pz0_10 = 1 by have q9 := bpz0_10; unfold iv at q9; unfold eff; rw [if_pos (by omega)])] at q9; exact RX_w q9 (by omega)
    refine lv_aload_n hx hb dX10_readAtom_17 rfl (lv_at hl 0 rfl) ?_
    refine jnV (wr := [(z 4, aI V 1025 f_197)]) (rnV (rest := []) ⟨hx, hb, hml, hown, hg⟩ (k_X10_next_0 l V z pz0_0 pz0_5 pz0_6 pz0_7 pz0_8 pz0_9 pz0_10 pz0_11 pz0_12 pz0_13 pz0_14 pz0_18 pz0_19 pz0_22 pz0_23 pz0_29 fz3 bpz0_5 (iv_w b_196 (by decide)) bpz0_7 bpz0_8 bpz0_10 (iv_w b_193 (by decide)) bpz0_12 bpz0_13 bpz0_14 bpz0_18 bpz0_22 bpz0_29 hf0.2.1) mt_X10_next q_6_117 ⟨Nat.le_of_ble_eq_true rfl, Nat.le_of_ble_eq_true rfl⟩ hK hP hD hS hA hE [2, 0] rfl rfl 2 rfl rfl rfl rfl hl.1 rfl (Nat.le_of_ble_eq_true rfl) dX10_readAtom_18 ⟨Nat.le_of_ble_eq_true rfl, Nat.le_of_ble_eq_true rfl⟩) hP hD hS hA [2, 0] [1] rfl rfl rfl (by decide) (fun  w H locs hw hP hD hS => ?_)
    obtain ⟨v_201, v_202, v_203, v_204, bv_201, bv_202, bv_204, g_205, g_206, rfl⟩ := hw
    have hP : va_P V.1 vwCl [(z 4, aI V 1025 f_197), (z 0, .inr (10, mo z pz0_0 pz0_5 v_201 v_202 pz0_8 v_203 v_204 pz0_11 pz0_12 pz0_13 pz0_14 pz0_18 pz0_19 pz0_22 pz0_23 pz0_29)), (z 3, aI V 900 fz3)] H := hP
    have hD : va_D A [(z 4, aI V 1025 f_197), (z 0, .inr (10, mo z pz0_0 pz0_5 v_201 v_202 pz0_8 v_203 v_204 pz0_11 pz0_12 pz0_13 pz0_14 pz0_18 pz0_19 pz0_22 pz0_23 pz0_29)), (z 3, aI V 900 fz3)] := hD
    have rx_207 : RX pz0_11 pz0_6 fz4 pz0_11 v_201 f_197 1 ((0 : Int)) := by have q9 := RX_a (a' := v_201) rx_200 (fun q8 => q8) (t := 1) (by have q9 := g_206; have q8 := hf0.2.2 (by rw [c_194]; decide); omega); exact RX_w q9 (by omega)
    refine lv_goto (tgt := 130) hx hb dX10_readAtom_21 (by decide) ?_
    have hP := subP (ws' := [(z 4, aI V 1025 f_197), (z 3, aI V 900 fz3), (z 0, .inr (10, mo z pz0_0 pz0_5 v_201 v_202 pz0_8 v_203 v_204 pz0_11 pz0_12 pz0_13 pz0_14 pz0_18 pz0_19 pz0_22 pz0_23 pz0_29))]) hP [0, 2, 1] rfl
    have hD := hD.sub (ws' := [(z 4, aI V 1025 f_197), (z 3, aI V 900 fz3), (z 0, .inr (10, mo z pz0_0 pz0_5 v_201 v_202 pz0_8 v_203 v_204 pz0_11 pz0_12 pz0_13 pz0_14 pz0_18 pz0_19 pz0_22 pz0_23 pz0_29))]) [0, 2, 1] rfl rfl
    exact fiV hx hb hr hlk hK hP hD hS dX10_readAtom_130 (Nat.le_of_ble_eq_true rfl) (Nat.le_of_ble_eq_true rfl) (⟨f_197, v_201, v_202, v_203, v_204, pz0_11, pz0_12, tf_197, bv_201, bv_202, bv_204, (iv_w b_193 (by decide)), bpz0_12, g_205, (PS_x hf1 rx_207 (by omega)), (by have z_0 := g_206;have y_0 := hf0.1; have y_1 := g_205.1; omega), (RX_w rx_207 (by omega)), rfl⟩)
set_option maxHeartbeats 4000000 in
set_option maxRecDepth 100000 in
theorem k_X10_readTerm_1 (l : Launch) (V : GV) (z : Nat → Nat) (fz4 : Nat → Int32) (fz3 : Nat → Int32) (pz0_0 : Int32) (pz0_5 : Int32) (pz0_6 : Int32) (pz0_7 : Int32) (pz0_8 : Int32) (pz0_9 : Int32) (pz0_10 : Int32) (pz0_11 : Int32) (pz0_12 : Int32) (pz0_13 : Int32) (pz0_14 : Int32) (pz0_18 : Int32) (pz0_19 : Int32) (pz0_22 : Int32) (pz0_23 : Int32) (pz0_29 : Int32) (tfz4 : ivT tF fz4) (bpz0_5 : iv 0 900 pz0_5) (bpz0_6 : iv 0 900 pz0_6) (bpz0_7 : iv 0 900 pz0_7) (bpz0_8 : iv 0 900 pz0_8) (bpz0_10 : iv 0 999 pz0_10) (bpz0_11 : iv 0 4 pz0_11) (bpz0_12 : iv 0 900 pz0_12) (bpz0_13 : iv 0 4 pz0_13) (bpz0_14 : iv (-1) 900 pz0_14) (bpz0_18 : iv 0 2 pz0_18) (bpz0_22 : iv 0 9999 pz0_22) (bpz0_29 : iv 0 10000 pz0_29) (hf0 : PT pz0_6 pz0_7 pz0_8 pz0_9) (hf1 : PS pz0_11 pz0_6 fz4) : Ct l V yX10_readTerm (.code yX10_readTerm cX10_readTerm 2 none) 15 [.ref (z 0), .int 5] [(z 4, aI V 1025 fz4), (z 3, aI V 900 fz3), (z 0, .inr (10, mo z pz0_0 pz0_5 pz0_6 pz0_7 pz0_8 pz0_9 pz0_10 pz0_11 pz0_12 pz0_13 pz0_14 pz0_18 pz0_19 pz0_22 pz0_23 pz0_29))] 0 0 (QV V (fun (w : va_W) => ∃ (g0 : Nat → Int32) (v1 : Int32) (v2 : Int32) (v3 : Int32) (v4 : Int32) (v5 : Int32) (v6 : Int32), (ivT tF g0) ∧ iv 0 900 v1 ∧ iv 0 900 v2 ∧ iv 0 999 v4 ∧ iv 0 4 v5 ∧ iv 0 900 v6 ∧ (PT v1 v2 pz0_8 v3) ∧ (PS v5 v1 g0) ∧ ((pz0_6 : Int32).toInt ≤ (v1 : Int32).toInt) ∧ (RX pz0_11 pz0_6 fz4 v5 v1 g0 1 0) ∧ w = [(z 4, aI V 1025 g0), (z 3, aI V 900 fz3), (z 0, .inr (10, mo z pz0_0 pz0_5 v1 v2 pz0_8 v3 v4 v5 v6 pz0_13 pz0_14 pz0_18 pz0_19 pz0_22 pz0_23 pz0_29))])) := by
  refine Ct.of (by decide) (Nat.le_of_ble_eq_true rfl) (fun p e s m below meth c A ls hx hb hr hml hown hlk hnm hg hP hK hD hE hA hS hl => ?_)
  have hl : lv_has ls 2 [(0, .ref (z 0)), (1, .int 5)] := hl
  refine lv_aload_n hx hb dX10_readTerm_0 rfl (lv_at hl 0 rfl) ?_
  refine lv_iload_n hx hb dX10_readTerm_1 rfl (lv_at hl 1 rfl) ?_
  refine jnV (wr := []) (rnV (rest := []) ⟨hx, hb, hml, hown, hg⟩ (k_X10_readAtom_1 l V z fz4 fz3 pz0_0 pz0_5 pz0_6 pz0_7 pz0_8 pz0_9 pz0_10 pz0_11 pz0_12 pz0_13 pz0_14 pz0_18 pz0_19 pz0_22 pz0_23 pz0_29 tfz4 bpz0_5 bpz0_6 bpz0_7 bpz0_8 bpz0_10 bpz0_11 bpz0_12 bpz0_13 bpz0_14 bpz0_18 bpz0_22 bpz0_29 hf0 hf1) mt_X10_readAtom q_6_195 ⟨Nat.le_of_ble_eq_true rfl, Nat.le_of_ble_eq_true rfl⟩ hK hP hD hS hA hE [0, 1, 2] rfl rfl 2 rfl rfl rfl rfl hl.1 rfl (Nat.le_of_ble_eq_true rfl) dX10_readTerm_2 ⟨Nat.le_of_ble_eq_true rfl, Nat.le_of_ble_eq_true rfl⟩) hP hD hS hA [0, 1, 2] [] rfl rfl rfl (by decide) (fun  w H locs hw hP hD hS => ?_)
  obtain ⟨f_1, v_2, v_3, v_4, v_5, v_6, v_7, tf_1, bv_2, bv_3, bv_5, bv_6, bv_7, g_8, g_9, g_10, g_11, rfl⟩ := hw
  have hP : va_P V.1 vwCl [(z 4, aI V 1025 f_1), (z 3, aI V 900 fz3), (z 0, .inr (10, mo z pz0_0 pz0_5 v_2 v_3 pz0_8 v_4 v_5 v_6 v_7 pz0_13 pz0_14 pz0_18 pz0_19 pz0_22 pz0_23 pz0_29))] H := hP
  have hD : va_D A [(z 4, aI V 1025 f_1), (z 3, aI V 900 fz3), (z 0, .inr (10, mo z pz0_0 pz0_5 v_2 v_3 pz0_8 v_4 v_5 v_6 v_7 pz0_13 pz0_14 pz0_18 pz0_19 pz0_22 pz0_23 pz0_29))] := hD
  have rx_12 : RX pz0_11 pz0_6 fz4 v_6 v_2 f_1 1 ((0 : Int)) := by have q9 := RX_seq (by decide) (RX_0 (w := pz0_11) (a := pz0_6) tfz4) g_11; exact RX_w q9 (by omega)
  refine loopF (X := fun (n_20 : Nat) (H : Heap) (locs : List Loc) (ls : Array Slot) => ∃ (f_13 : Nat → Int32) (u_14 : Int32) (u_15 : Int32) (u_16 : Int32) (u_17 : Int32) (u_18 : Int32) (u_19 : Int32), (ivT tF f_13) ∧ (iv 0 900 u_14) ∧ (iv 0 900 u_15) ∧ (iv 0 999 u_17) ∧ (iv 0 4 u_18) ∧ (iv 0 900 u_19) ∧ ((pz0_6 : Int32).toInt ≤ (u_14 : Int32).toInt) ∧ (RX pz0_11 pz0_6 fz4 u_18 u_14 f_13 1 0) ∧ (PT u_14 u_15 pz0_8 u_16) ∧ (PS u_18 u_14 f_13) ∧ n_20 = (900 - (u_14 : Int32).toInt).toNat ∧ va_P V.1 vwCl [(z 4, aI V 1025 f_13), (z 3, aI V 900 fz3), (z 0, .inr (10, mo z pz0_0 pz0_5 u_14 u_15 pz0_8 u_16 u_17 u_18 u_19 pz0_13 pz0_14 pz0_18 pz0_19 pz0_22 pz0_23 pz0_29))] H ∧ va_D A [(z 4, aI V 1025 f_13), (z 3, aI V 900 fz3), (z 0, .inr (10, mo z pz0_0 pz0_5 u_14 u_15 pz0_8 u_16 u_17 u_18 u_19 pz0_13 pz0_14 pz0_18 pz0_19 pz0_22 pz0_23 pz0_29))] ∧ va_S A s.heap H locs ∧ lv_has ls 2 [(0, .ref (z 0)), (1, .int 5)]) (g := fun ls => F0 m 5 ls []) (fun n_20 H locs ls hX ihn_20 => ?_) _ ⟨f_1, v_2, v_3, v_4, v_5, v_6, v_7, tf_1, bv_2, bv_3, bv_5, bv_6, bv_7, (by have z_0 := g_10;have y_0 := hf0.1; have y_1 := g_8.1; omega), (RX_w rx_12 (by omega)), g_8, g_9, rfl, hP, hD, hS, lv_sub hl [0, 1] rfl⟩
  obtain ⟨f_13, u_14, u_15, u_16, u_17, u_18, u_19, tf_13, bu_14, bu_15, bu_17, bu_18, bu_19, inn_20_0, inn_20_1, inn_20_2, inn_20_3, en_20, hP, hD, hS, hl⟩ := hX
  refine lv_aload_n hx hb dX10_readTerm_5 rfl (lv_at hl 0 rfl) ?_
  refine lv_bipush (v := 34) hx hb dX10_readTerm_6 (by decide) ?_
  refine jnI (wr := [(z 4, aI V 1025 f_13)]) (rnV (rest := []) ⟨hx, hb, hml, hown, hg⟩ (k_X10_eats_4 l V z fz3 pz0_0 pz0_5 u_14 u_15 pz0_8 u_16 u_17 u_18 u_19 pz0_13 pz0_14 pz0_18 pz0_19 pz0_22 pz0_23 pz0_29 bpz0_5 bu_14 bu_15 bpz0_8 bu_17 bu_18 bu_19 bpz0_13 bpz0_14 bpz0_18 bpz0_22 bpz0_29 inn_20_2) mt_X10_eats q_6_139 ⟨Nat.le_of_ble_eq_true rfl, Nat.le_of_ble_eq_true rfl⟩ hK hP hD hS hA hE [1, 2] rfl rfl 2 rfl rfl rfl rfl hl.1 rfl (Nat.le_of_ble_eq_true rfl) dX10_readTerm_8 ⟨Nat.le_of_ble_eq_true rfl, Nat.le_of_ble_eq_true rfl⟩) hP hD hS hA [1, 2] [0] rfl rfl rfl (by decide) (fun r_21 w H locs hw hP hD hS => ?_)
  obtain ⟨v_22, v_23, v_24, v_25, bv_22, bv_23, bv_25, br_21, g_26, g_27, g_28, g_29, rfl⟩ := hw
  have hP : va_P V.1 vwCl [(z 4, aI V 1025 f_13), (z 3, aI V 900 fz3), (z 0, .inr (10, mo z pz0_0 pz0_5 v_22 v_23 pz0_8 v_24 v_25 u_18 u_19 pz0_13 pz0_14 pz0_18 pz0_19 pz0_22 pz0_23 pz0_29))] H := hP
  have hD : va_D A [(z 4, aI V 1025 f_13), (z 3, aI V 900 fz3), (z 0, .inr (10, mo z pz0_0 pz0_5 v_22 v_23 pz0_8 v_24 v_25 u_18 u_19 pz0_13 pz0_14 pz0_18 pz0_19 pz0_22 pz0_23 pz0_29))] := hD
  have rx_30 : RX pz0_11 pz0_6 fz4 u_18 v_22 f_13 1 ((0 : Int) + adv r_21) := by have q9 := RX_a inn_20_1 (fun q8 => q8) (adv_le g_27 g_29); exact RX_w q9 (by omega)
  refine lv_if_eq (tgt := 29) hx hb dX10_readTerm_11 (by decide) (fun c_31 => ?_) (fun c_31 => ?_)
  · have b_32 : iv 0 0 r_21 := iv_q c_31 (iv_c (0 : Int32) (a := 0) (b := 0) (by decide))
    exact fiV hx hb hr hlk hK hP hD hS dX10_readTerm_29 (Nat.le_of_ble_eq_true rfl) (Nat.le_of_ble_eq_true rfl) (⟨f_13, v_22, v_23, v_24, v_25, u_18, u_19, tf_13, bv_22, bv_23, bv_25, bu_18, bu_19, g_26, (PS_x hf1 rx_30 (by have z_r_21 := adv_0 r_21; omega)), (by have z_0 := g_10; have z_1 := inn_20_0; have z_2 := g_27;have y_0 := hf0.1; have y_1 := g_8.1; have y_2 := inn_20_2.1; have y_3 := g_26.1; omega), (RX_w rx_30 (by have z_r_21 := adv_0 r_21; omega)), rfl⟩)
  · have b_33 : iv 1 1 r_21 := iv_n0 c_31 br_21 (iv_c (0 : Int32) (a := 0) (b := 0) (by decide)) (by decide)
    have c_34 : u_18 = 0 := (g_28 (iv_eqp b_33 (iv_c (1 : Int32) (by decide))))
    have b_35 : iv 0 0 u_18 := iv_q c_34 (iv_c (0 : Int32) (a := 0) (b := 0) (by decide))
    refine lv_aload_n hx hb dX10_readTerm_14 rfl (lv_at hl 0 rfl) ?_
    refine lv_iload_n hx hb dX10_readTerm_15 rfl (lv_at hl 1 rfl) ?_
    refine jnV (wr := []) (rnV (rest := []) ⟨hx, hb, hml, hown, hg⟩ (k_X10_readAtom_1 l V z f_13 fz3 pz0_0 pz0_5 v_22 v_23 pz0_8 v_24 v_25 u_18 u_19 pz0_13 pz0_14 pz0_18 pz0_19 pz0_22 pz0_23 pz0_29 tf_13 bpz0_5 bv_22 bv_23 bpz0_8 bv_25 (iv_w b_35 (by decide)) bu_19 bpz0_13 bpz0_14 bpz0_18 bpz0_22 bpz0_29 g_26 (PS_x hf1 rx_30 (by have z_r_21 := adv_1 (iv_eqp b_33 (iv_c (1 : Int32) (by decide))); omega))) mt_X10_readAtom q_6_195 ⟨Nat.le_of_ble_eq_true rfl, Nat.le_of_ble_eq_true rfl⟩ hK hP hD hS hA hE [0, 1, 2] rfl rfl 2 rfl rfl rfl rfl hl.1 rfl (Nat.le_of_ble_eq_true rfl) dX10_readTerm_16 ⟨Nat.le_of_ble_eq_true rfl, Nat.le_of_ble_eq_true rfl⟩) hP hD hS hA [0, 1, 2] [] rfl rfl rfl (by decide) (fun  w H locs hw hP hD hS => ?_)
    obtain ⟨f_36, v_37, v_38, v_39, v_40, v_41, v_42, tf_36, bv_37, bv_38, bv_40, bv_41, bv_42, g_43, g_44, g_45, g_46, rfl⟩ := hw
    have hP : va_P V.1 vwCl [(z 4, aI V 1025 f_36), (z 3, aI V 900 fz3), (z 0, .inr (10, mo z pz0_0 pz0_5 v_37 v_38 pz0_8 v_39 v_40 v_41 v_42 pz0_13 pz0_14 pz0_18 pz0_19 pz0_22 pz0_23 pz0_29))] H := hP
    have hD : va_D A [(z 4, aI V 1025 f_36), (z 3, aI V 900 fz3), (z 0, .inr (10, mo z pz0_0 pz0_5 v_37 v_38 pz0_8 v_39 v_40 v_41 v_42 pz0_13 pz0_14 pz0_18 pz0_19 pz0_22 pz0_23 pz0_29))] := hD
    have rx_47 : RX pz0_11 pz0_6 fz4 v_41 v_37 f_36 2 ((0 : Int) + adv r_21) := by have q9 := RX_seq (by decide) rx_30 g_46; exact RX_w q9 (by omega)
    refine lv_aload_n hx hb dX10_readTerm_19 rfl (lv_at hl 0 rfl) ?_
    refine lv_sipush (v := 3002) hx hb dX10_readTerm_20 (by decide) ?_
    refine jnV (wr := [(z 3, aI V 900 fz3)]) (rnV (rest := []) ⟨hx, hb, hml, hown, hg⟩ (k_X10_codes_0 l V z 3002 f_36 pz0_0 pz0_5 v_37 v_38 pz0_8 v_39 v_40 v_41 v_42 pz0_13 pz0_14 pz0_18 pz0_19 pz0_22 pz0_23 pz0_29 tf_36 bpz0_5 bv_37 bv_38 bpz0_8 bv_40 bv_41 bv_42 bpz0_13 bpz0_14 bpz0_18 bpz0_22 bpz0_29 (PS_n hf1 rx_47 bv_37 (by decide) (by have z_r_21 := adv_1 (iv_eqp b_33 (iv_c (1 : Int32) (by decide))); omega))) mt_X10_codes q_6_199 ⟨Nat.le_of_ble_eq_true rfl, Nat.le_of_ble_eq_true rfl⟩ hK hP hD hS hA hE [0, 2] rfl rfl 2 rfl rfl rfl rfl hl.1 rfl (Nat.le_of_ble_eq_true rfl) dX10_readTerm_23 ⟨Nat.le_of_ble_eq_true rfl, Nat.le_of_ble_eq_true rfl⟩) hP hD hS hA [0, 2] [1] rfl rfl rfl (by decide) (fun  w H locs hw hP hD hS => ?_)
    obtain ⟨f_48, tf_48, g_49, g_50, rfl⟩ := hw
    have hP : va_P V.1 vwCl [(z 3, aI V 900 fz3), (z 4, aI V 1025 f_48), (z 0, .inr (10, mo z pz0_0 pz0_5 v_37 v_38 pz0_8 v_39 v_40 v_41 v_42 pz0_13 pz0_14 pz0_18 pz0_19 pz0_22 pz0_23 pz0_29))] H := hP
    have hD : va_D A [(z 3, aI V 900 fz3), (z 4, aI V 1025 f_48), (z 0, .inr (10, mo z pz0_0 pz0_5 v_37 v_38 pz0_8 v_39 v_40 v_41 v_42 pz0_13 pz0_14 pz0_18 pz0_19 pz0_22 pz0_23 pz0_29))] := hD
    have rx_51 : RX pz0_11 pz0_6 fz4 v_41 v_37 f_48 1 ((-1 : Int) + adv r_21) := by have q9 := RX_c rx_47 tf_36 g_49 (by decide) ⟨by decide, by decide⟩ (by decide) (PS_n hf1 rx_47 bv_37 (by decide) (by have z_r_21 := adv_1 (iv_eqp b_33 (iv_c (1 : Int32) (by decide))); omega)); rw [(by decide : eff (3002 : Int32) = -1)] at q9; exact RX_w q9 (by omega)
    refine lv_goto (tgt := 5) hx hb dX10_readTerm_26 (by decide) ?_
    have hP := subP (ws' := [(z 4, aI V 1025 f_48), (z 3, aI V 900 fz3), (z 0, .inr (10, mo z pz0_0 pz0_5 v_37 v_38 pz0_8 v_39 v_40 v_41 v_42 pz0_13 pz0_14 pz0_18 pz0_19 pz0_22 pz0_23 pz0_29))]) hP [1, 0, 2] rfl
    have hD := hD.sub (ws' := [(z 4, aI V 1025 f_48), (z 3, aI V 900 fz3), (z 0, .inr (10, mo z pz0_0 pz0_5 v_37 v_38 pz0_8 v_39 v_40 v_41 v_42 pz0_13 pz0_14 pz0_18 pz0_19 pz0_22 pz0_23 pz0_29))]) [1, 0, 2] rfl rfl
    exact ihn_20 _ _ _ _ (by rw [en_20]; have z_0 := g_10; have z_1 := inn_20_0; have z_2 := g_27; have z_3 := g_45; have z_4 := (g_29 (iv_eqp b_33 (iv_c (1 : Int32) (by decide)))); have z_5 := hf0.1; have z_6 := g_8.1; have z_7 := inn_20_2.1; have z_8 := g_26.1; have z_9 := g_43.1; have q9 := bv_37; unfold iv at q9; omega) ⟨f_48, v_37, v_38, v_39, v_40, v_41, v_42, tf_48, bv_37, bv_38, bv_40, bv_41, bv_42, (by have z_0 := g_10; have z_1 := inn_20_0; have z_2 := g_27; have z_3 := g_45;have y_0 := hf0.1; have y_1 := g_8.1; have y_2 := inn_20_2.1; have y_3 := g_26.1; have y_4 := g_43.1; omega), (RX_w rx_51 (by have z_r_21 := adv_1 (iv_eqp b_33 (iv_c (1 : Int32) (by decide))); omega)), g_43, (PS_x hf1 rx_51 (by have z_r_21 := adv_1 (iv_eqp b_33 (iv_c (1 : Int32) (by decide))); omega)), rfl, hP, hD, hS, lv_sub hl [0, 1] rfl⟩
set_option maxHeartbeats 4000000 in
set_option maxRecDepth 100000 in
theorem k_X10_readSum_1 (l : Launch) (V : GV) (z : Nat → Nat) (fz4 : Nat → Int32) (fz3 : Nat → Int32) (pz0_0 : Int32) (pz0_5 : Int32) (pz0_6 : Int32) (pz0_7 : Int32) (pz0_8 : Int32) (pz0_9 : Int32) (pz0_10 : Int32) (pz0_11 : Int32) (pz0_12 : Int32) (pz0_13 : Int32) (pz0_14 : Int32) (pz0_18 : Int32) (pz0_19 : Int32) (pz0_22 : Int32) (pz0_23 : Int32) (pz0_29 : Int32) (tfz4 : ivT tF fz4) (bpz0_5 : iv 0 900 pz0_5) (bpz0_6 : iv 0 900 pz0_6) (bpz0_7 : iv 0 900 pz0_7) (bpz0_8 : iv 0 900 pz0_8) (bpz0_10 : iv 0 999 pz0_10) (bpz0_11 : iv 0 4 pz0_11) (bpz0_12 : iv 0 900 pz0_12) (bpz0_13 : iv 0 4 pz0_13) (bpz0_14 : iv (-1) 900 pz0_14) (bpz0_18 : iv 0 2 pz0_18) (bpz0_22 : iv 0 9999 pz0_22) (bpz0_29 : iv 0 10000 pz0_29) (hf0 : PT pz0_6 pz0_7 pz0_8 pz0_9) (hf1 : PS pz0_11 pz0_6 fz4) : Ct l V yX10_readSum (.code yX10_readSum cX10_readSum 3 none) 16 [.ref (z 0), .int 5] [(z 4, aI V 1025 fz4), (z 3, aI V 900 fz3), (z 0, .inr (10, mo z pz0_0 pz0_5 pz0_6 pz0_7 pz0_8 pz0_9 pz0_10 pz0_11 pz0_12 pz0_13 pz0_14 pz0_18 pz0_19 pz0_22 pz0_23 pz0_29))] 0 0 (QV V (fun (w : va_W) => ∃ (g0 : Nat → Int32) (v1 : Int32) (v2 : Int32) (v3 : Int32) (v4 : Int32) (v5 : Int32) (v6 : Int32), (ivT tF g0) ∧ iv 0 900 v1 ∧ iv 0 900 v2 ∧ iv 0 999 v4 ∧ iv 0 4 v5 ∧ iv 0 900 v6 ∧ (PT v1 v2 pz0_8 v3) ∧ (PS v5 v1 g0) ∧ ((pz0_6 : Int32).toInt ≤ (v1 : Int32).toInt) ∧ (RX pz0_11 pz0_6 fz4 v5 v1 g0 1 0) ∧ w = [(z 4, aI V 1025 g0), (z 3, aI V 900 fz3), (z 0, .inr (10, mo z pz0_0 pz0_5 v1 v2 pz0_8 v3 v4 v5 v6 pz0_13 pz0_14 pz0_18 pz0_19 pz0_22 pz0_23 pz0_29))])) := by
  refine Ct.of (by decide) (Nat.le_of_ble_eq_true rfl) (fun p e s m below meth c A ls hx hb hr hml hown hlk hnm hg hP hK hD hE hA hS hl => ?_)
  have hl : lv_has ls 3 [(0, .ref (z 0)), (1, .int 5)] := hl
  refine lv_aload_n hx hb dX10_readSum_0 rfl (lv_at hl 0 rfl) ?_
  refine lv_iload_n hx hb dX10_readSum_1 rfl (lv_at hl 1 rfl) ?_
  refine jnV (wr := []) (rnV (rest := []) ⟨hx, hb, hml, hown, hg⟩ (k_X10_readTerm_1 l V z fz4 fz3 pz0_0 pz0_5 pz0_6 pz0_7 pz0_8 pz0_9 pz0_10 pz0_11 pz0_12 pz0_13 pz0_14 pz0_18 pz0_19 pz0_22 pz0_23 pz0_29 tfz4 bpz0_5 bpz0_6 bpz0_7 bpz0_8 bpz0_10 bpz0_11 bpz0_12 bpz0_13 bpz0_14 bpz0_18 bpz0_22 bpz0_29 hf0 hf1) mt_X10_readTerm q_6_191 ⟨Nat.le_of_ble_eq_true rfl, Nat.le_of_ble_eq_true rfl⟩ hK hP hD hS hA hE [0, 1, 2] rfl rfl 2 rfl rfl rfl rfl hl.1 rfl (Nat.le_of_ble_eq_true rfl) dX10_readSum_2 ⟨Nat.le_of_ble_eq_true rfl, Nat.le_of_ble_eq_true rfl⟩) hP hD hS hA [0, 1, 2] [] rfl rfl rfl (by decide) (fun  w H locs hw hP hD hS => ?_)
  obtain ⟨f_1, v_2, v_3, v_4, v_5, v_6, v_7, tf_1, bv_2, bv_3, bv_5, bv_6, bv_7, g_8, g_9, g_10, g_11, rfl⟩ := hw
  have hP : va_P V.1 vwCl [(z 4, aI V 1025 f_1), (z 3, aI V 900 fz3), (z 0, .inr (10, mo z pz0_0 pz0_5 v_2 v_3 pz0_8 v_4 v_5 v_6 v_7 pz0_13 pz0_14 pz0_18 pz0_19 pz0_22 pz0_23 pz0_29))] H := hP
  have hD : va_D A [(z 4, aI V 1025 f_1), (z 3, aI V 900 fz3), (z 0, .inr (10, mo z pz0_0 pz0_5 v_2 v_3 pz0_8 v_4 v_5 v_6 v_7 pz0_13 pz0_14 pz0_18 pz0_19 pz0_22 pz0_23 pz0_29))] := hD
  have rx_12 : RX pz0_11 pz0_6 fz4 v_6 v_2 f_1 1 ((0 : Int)) := by have q9 := RX_seq (by decide) (RX_0 (w := pz0_11) (a := pz0_6) tfz4) g_11; exact RX_w q9 (by omega)
  refine loopF (X := fun (n_20 : Nat) (H : Heap) (locs : List Loc) (ls : Array Slot) => ∃ (f_13 : Nat → Int32) (u_14 : Int32) (u_15 : Int32) (u_16 : Int32) (u_17 : Int32) (u_18 : Int32) (u_19 : Int32), (ivT tF f_13) ∧ (iv 0 900 u_14) ∧ (iv 0 900 u_15) ∧ (iv 0 999 u_17) ∧ (iv 0 4 u_18) ∧ (iv 0 900 u_19) ∧ ((pz0_6 : Int32).toInt ≤ (u_14 : Int32).toInt) ∧ (RX pz0_11 pz0_6 fz4 u_18 u_14 f_13 1 0) ∧ (PT u_14 u_15 pz0_8 u_16) ∧ (PS u_18 u_14 f_13) ∧ n_20 = (900 - (u_14 : Int32).toInt).toNat ∧ va_P V.1 vwCl [(z 4, aI V 1025 f_13), (z 3, aI V 900 fz3), (z 0, .inr (10, mo z pz0_0 pz0_5 u_14 u_15 pz0_8 u_16 u_17 u_18 u_19 pz0_13 pz0_14 pz0_18 pz0_19 pz0_22 pz0_23 pz0_29))] H ∧ va_D A [(z 4, aI V 1025 f_13), (z 3, aI V 900 fz3), (z 0, .inr (10, mo z pz0_0 pz0_5 u_14 u_15 pz0_8 u_16 u_17 u_18 u_19 pz0_13 pz0_14 pz0_18 pz0_19 pz0_22 pz0_23 pz0_29))] ∧ va_S A s.heap H locs ∧ lv_has ls 3 [(0, .ref (z 0)), (1, .int 5)]) (g := fun ls => F0 m 5 ls []) (fun n_20 H locs ls hX ihn_20 => ?_) _ ⟨f_1, v_2, v_3, v_4, v_5, v_6, v_7, tf_1, bv_2, bv_3, bv_5, bv_6, bv_7, (by have z_0 := g_10;have y_0 := hf0.1; have y_1 := g_8.1; omega), (RX_w rx_12 (by omega)), g_8, g_9, rfl, hP, hD, hS, lv_sub hl [0, 1] rfl⟩
  obtain ⟨f_13, u_14, u_15, u_16, u_17, u_18, u_19, tf_13, bu_14, bu_15, bu_17, bu_18, bu_19, inn_20_0, inn_20_1, inn_20_2, inn_20_3, en_20, hP, hD, hS, hl⟩ := hX
  refine lv_aload_n hx hb dX10_readSum_5 rfl (lv_at hl 0 rfl) ?_
  refine lv_bipush (v := 32) hx hb dX10_readSum_6 (by decide) ?_
  refine jnI (wr := [(z 4, aI V 1025 f_13), (z 3, aI V 900 fz3)]) (rnV (rest := []) ⟨hx, hb, hml, hown, hg⟩ (k_X10_is_14 l V z pz0_0 pz0_5 u_14 u_15 pz0_8 u_16 u_17 u_18 u_19 pz0_13 pz0_14 pz0_18 pz0_19 pz0_22 pz0_23 pz0_29 bpz0_5 bu_14 bu_15 bpz0_8 bu_17 bu_18 bu_19 bpz0_13 bpz0_14 bpz0_18 bpz0_22 bpz0_29) mt_X10_is q_6_143 ⟨Nat.le_of_ble_eq_true rfl, Nat.le_of_ble_eq_true rfl⟩ hK hP hD hS hA hE [2] rfl rfl 2 rfl rfl rfl rfl hl.1 rfl (Nat.le_of_ble_eq_true rfl) dX10_readSum_8 ⟨Nat.le_of_ble_eq_true rfl, Nat.le_of_ble_eq_true rfl⟩) hP hD hS hA [2] [0, 1] rfl rfl rfl (by decide) (fun r_21 w H locs hw hP hD hS => ?_)
  obtain ⟨br_21, g_22, g_23, rfl⟩ := hw
  have hP : va_P V.1 vwCl [(z 4, aI V 1025 f_13), (z 3, aI V 900 fz3), (z 0, .inr (10, mo z pz0_0 pz0_5 u_14 u_15 pz0_8 u_16 u_17 u_18 u_19 pz0_13 pz0_14 pz0_18 pz0_19 pz0_22 pz0_23 pz0_29))] H := hP
  have hD : va_D A [(z 4, aI V 1025 f_13), (z 3, aI V 900 fz3), (z 0, .inr (10, mo z pz0_0 pz0_5 u_14 u_15 pz0_8 u_16 u_17 u_18 u_19 pz0_13 pz0_14 pz0_18 pz0_19 pz0_22 pz0_23 pz0_29))] := hD
  refine lv_if_ne (tgt := 23) hx hb dX10_readSum_11 (by decide) (fun c_24 => ?_) (fun c_24 => ?_)
  · have b_25 : iv 1 1 r_21 := iv_n0 c_24 br_21 (iv_c (0 : Int32) (a := 0) (b := 0) (by decide)) (by decide)
    have c_26 : u_18 = 0 := (g_22 (iv_eqp b_25 (iv_c (1 : Int32) (by decide))))
    have b_27 : iv 0 0 u_18 := iv_q c_26 (iv_c (0 : Int32) (a := 0) (b := 0) (by decide))
    have c_28 : u_16 = 32 := (g_23 (iv_eqp b_25 (iv_c (1 : Int32) (by decide))))
    have b_29 : iv 32 32 u_16 := iv_q c_28 (iv_c (32 : Int32) (a := 32) (b := 32) (by decide))
    refine lv_aload_n hx hb dX10_readSum_23 rfl (lv_at hl 0 rfl) ?_
    refine va_get (ci := 10) (v := .int u_16) (C := RX10) (T := TX10) (N := 40) hx hb hg inX10 hown hK hP 2 rfl rfl 9 (by decide) (hg _ q_5_233) (fun _ h9 => h9) rfl dX10_readSum_24 ?_
    refine lv_bipush (v := 32) hx hb dX10_readSum_27 (by decide) ?_
    refine lv_icmp_ne (tgt := 38) hx hb dX10_readSum_29 (by decide) (fun c_31 => absurd c_28 c_31) (fun _ => ?_)
    refine lv_sipush (v := 3000) hx hb dX10_readSum_32 (by decide) ?_
    refine lv_goto (tgt := 41) hx hb dX10_readSum_35 (by decide) ?_
    refine lv_istore_n (lv' := [(2, .int 3000), (0, .ref (z 0)), (1, .int 5)]) hx hb dX10_readSum_41 rfl hl (by decide) rfl (fun ls hl => ?_)
    refine lv_aload_n hx hb dX10_readSum_42 rfl (lv_at hl 1 rfl) ?_
    refine jnV (wr := [(z 4, aI V 1025 f_13)]) (rnV (rest := []) ⟨hx, hb, hml, hown, hg⟩ (k_X10_next_0 l V z pz0_0 pz0_5 u_14 u_15 pz0_8 u_16 u_17 u_18 u_19 pz0_13 pz0_14 pz0_18 pz0_19 pz0_22 pz0_23 pz0_29 fz3 bpz0_5 bu_14 bu_15 bpz0_8 bu_17 (iv_w b_27 (by decide)) bu_19 bpz0_13 bpz0_14 bpz0_18 bpz0_22 bpz0_29 inn_20_2.2.1) mt_X10_next q_6_117 ⟨Nat.le_of_ble_eq_true rfl, Nat.le_of_ble_eq_true rfl⟩ hK hP hD hS hA hE [2, 1] rfl rfl 2 rfl rfl rfl rfl hl.1 rfl (Nat.le_of_ble_eq_true rfl) dX10_readSum_43 ⟨Nat.le_of_ble_eq_true rfl, Nat.le_of_ble_eq_true rfl⟩) hP hD hS hA [2, 1] [0] rfl rfl rfl (by decide) (fun  w H locs hw hP hD hS => ?_)
    obtain ⟨v_32, v_33, v_34, v_35, bv_32, bv_33, bv_35, g_36, g_37, rfl⟩ := hw
    have hP : va_P V.1 vwCl [(z 4, aI V 1025 f_13), (z 0, .inr (10, mo z pz0_0 pz0_5 v_32 v_33 pz0_8 v_34 v_35 u_18 u_19 pz0_13 pz0_14 pz0_18 pz0_19 pz0_22 pz0_23 pz0_29)), (z 3, aI V 900 fz3)] H := hP
    have hD : va_D A [(z 4, aI V 1025 f_13), (z 0, .inr (10, mo z pz0_0 pz0_5 v_32 v_33 pz0_8 v_34 v_35 u_18 u_19 pz0_13 pz0_14 pz0_18 pz0_19 pz0_22 pz0_23 pz0_29)), (z 3, aI V 900 fz3)] := hD
    have rx_38 : RX pz0_11 pz0_6 fz4 u_18 v_32 f_13 1 ((1 : Int)) := by have q9 := RX_a (a' := v_32) inn_20_1 (fun q8 => q8) (t := 1) (by have q9 := g_37; have q8 := inn_20_2.2.2 (by rw [c_28]; decide); omega); exact RX_w q9 (by omega)
    refine lv_aload_n hx hb dX10_readSum_46 rfl (lv_at hl 1 rfl) ?_
    refine lv_iload_n hx hb dX10_readSum_47 rfl (lv_at hl 2 rfl) ?_
    refine jnV (wr := []) (rnV (rest := []) ⟨hx, hb, hml, hown, hg⟩ (k_X10_readTerm_1 l V z f_13 fz3 pz0_0 pz0_5 v_32 v_33 pz0_8 v_34 v_35 u_18 u_19 pz0_13 pz0_14 pz0_18 pz0_19 pz0_22 pz0_23 pz0_29 tf_13 bpz0_5 bv_32 bv_33 bpz0_8 bv_35 (iv_w b_27 (by decide)) bu_19 bpz0_13 bpz0_14 bpz0_18 bpz0_22 bpz0_29 g_36 (PS_x hf1 rx_38 (by omega))) mt_X10_readTerm q_6_191 ⟨Nat.le_of_ble_eq_true rfl, Nat.le_of_ble_eq_true rfl⟩ hK hP hD hS hA hE [0, 2, 1] rfl rfl 1 rfl rfl rfl rfl hl.1 rfl (Nat.le_of_ble_eq_true rfl) dX10_readSum_48 ⟨Nat.le_of_ble_eq_true rfl, Nat.le_of_ble_eq_true rfl⟩) hP hD hS hA [0, 2, 1] [] rfl rfl rfl (by decide) (fun  w H locs hw hP hD hS => ?_)
    obtain ⟨f_39, v_40, v_41, v_42, v_43, v_44, v_45, tf_39, bv_40, bv_41, bv_43, bv_44, bv_45, g_46, g_47, g_48, g_49, rfl⟩ := hw
    have hP : va_P V.1 vwCl [(z 4, aI V 1025 f_39), (z 3, aI V 900 fz3), (z 0, .inr (10, mo z pz0_0 pz0_5 v_40 v_41 pz0_8 v_42 v_43 v_44 v_45 pz0_13 pz0_14 pz0_18 pz0_19 pz0_22 pz0_23 pz0_29))] H := hP
    have hD : va_D A [(z 4, aI V 1025 f_39), (z 3, aI V 900 fz3), (z 0, .inr (10, mo z pz0_0 pz0_5 v_40 v_41 pz0_8 v_42 v_43 v_44 v_45 pz0_13 pz0_14 pz0_18 pz0_19 pz0_22 pz0_23 pz0_29))] := hD
    have rx_50 : RX pz0_11 pz0_6 fz4 v_44 v_40 f_39 2 ((1 : Int)) := by have q9 := RX_seq (by decide) rx_38 g_49; exact RX_w q9 (by omega)
    refine lv_aload_n hx hb dX10_readSum_51 rfl (lv_at hl 1 rfl) ?_
    refine lv_iload_n hx hb dX10_readSum_52 rfl (lv_at hl 0 rfl) ?_
    refine jnV (wr := [(z 3, aI V 900 fz3)]) (rnV (rest := []) ⟨hx, hb, hml, hown, hg⟩ (k_X10_codes_0 l V z 3000 f_39 pz0_0 pz0_5 v_40 v_41 pz0_8 v_42 v_43 v_44 v_45 pz0_13 pz0_14 pz0_18 pz0_19 pz0_22 pz0_23 pz0_29 tf_39 bpz0_5 bv_40 bv_41 bpz0_8 bv_43 bv_44 bv_45 bpz0_13 bpz0_14 bpz0_18 bpz0_22 bpz0_29 (PS_n hf1 rx_50 bv_40 (by decide) (by omega))) mt_X10_codes q_6_199 ⟨Nat.le_of_ble_eq_true rfl, Nat.le_of_ble_eq_true rfl⟩ hK hP hD hS hA hE [0, 2] rfl rfl 2 rfl rfl rfl rfl hl.1 rfl (Nat.le_of_ble_eq_true rfl) dX10_readSum_53 ⟨Nat.le_of_ble_eq_true rfl, Nat.le_of_ble_eq_true rfl⟩) hP hD hS hA [0, 2] [1] rfl rfl rfl (by decide) (fun  w H locs hw hP hD hS => ?_)
    obtain ⟨f_51, tf_51, g_52, g_53, rfl⟩ := hw
    have hP : va_P V.1 vwCl [(z 3, aI V 900 fz3), (z 4, aI V 1025 f_51), (z 0, .inr (10, mo z pz0_0 pz0_5 v_40 v_41 pz0_8 v_42 v_43 v_44 v_45 pz0_13 pz0_14 pz0_18 pz0_19 pz0_22 pz0_23 pz0_29))] H := hP
    have hD : va_D A [(z 3, aI V 900 fz3), (z 4, aI V 1025 f_51), (z 0, .inr (10, mo z pz0_0 pz0_5 v_40 v_41 pz0_8 v_42 v_43 v_44 v_45 pz0_13 pz0_14 pz0_18 pz0_19 pz0_22 pz0_23 pz0_29))] := hD
    have rx_54 : RX pz0_11 pz0_6 fz4 v_44 v_40 f_51 1 ((0 : Int)) := by have q9 := RX_c rx_50 tf_39 g_52 (by decide) ⟨by decide, by decide⟩ (by decide) (PS_n hf1 rx_50 bv_40 (by decide) (by omega)); rw [(by decide : eff (3000 : Int32) = -1)] at q9; exact RX_w q9 (by omega)
    refine lv_goto (tgt := 5) hx hb dX10_readSum_56 (by decide) ?_
    have hP := subP (ws' := [(z 4, aI V 1025 f_51), (z 3, aI V 900 fz3), (z 0, .inr (10, mo z pz0_0 pz0_5 v_40 v_41 pz0_8 v_42 v_43 v_44 v_45 pz0_13 pz0_14 pz0_18 pz0_19 pz0_22 pz0_23 pz0_29))]) hP [1, 0, 2] rfl
    have hD := hD.sub (ws' := [(z 4, aI V 1025 f_51), (z 3, aI V 900 fz3), (z 0, .inr (10, mo z pz0_0 pz0_5 v_40 v_41 pz0_8 v_42 v_43 v_44 v_45 pz0_13 pz0_14 pz0_18 pz0_19 pz0_22 pz0_23 pz0_29))]) [1, 0, 2] rfl rfl
    exact ihn_20 _ _ _ _ (by rw [en_20]; have z_0 := g_10; have z_1 := inn_20_0; have z_2 := g_37; have z_3 := g_48; have z_4 := hf0.1; have z_5 := g_8.1; have z_6 := inn_20_2.2.2 (by rw [c_28]; decide); have z_7 := g_36.1; have z_8 := g_46.1; have q9 := bv_40; unfold iv at q9; omega) ⟨f_51, v_40, v_41, v_42, v_43, v_44, v_45, tf_51, bv_40, bv_41, bv_43, bv_44, bv_45, (by have z_0 := g_10; have z_1 := inn_20_0; have z_2 := g_37; have z_3 := g_48;have y_0 := hf0.1; have y_1 := g_8.1; have y_2 := inn_20_2.1; have y_3 := g_36.1; have y_4 := g_46.1; omega), (RX_w rx_54 (by omega)), g_46, (PS_x hf1 rx_54 (by omega)), rfl, hP, hD, hS, lv_sub hl [1, 2] rfl⟩
  · have b_55 : iv 0 0 r_21 := iv_q c_24 (iv_c (0 : Int32) (a := 0) (b := 0) (by decide))
    refine lv_aload_n hx hb dX10_readSum_14 rfl (lv_at hl 0 rfl) ?_
    refine lv_bipush (v := 33) hx hb dX10_readSum_15 (by decide) ?_
    refine jnI (wr := [(z 4, aI V 1025 f_13), (z 3, aI V 900 fz3)]) (rnV (rest := []) ⟨hx, hb, hml, hown, hg⟩ (k_X10_is_15 l V z pz0_0 pz0_5 u_14 u_15 pz0_8 u_16 u_17 u_18 u_19 pz0_13 pz0_14 pz0_18 pz0_19 pz0_22 pz0_23 pz0_29 bpz0_5 bu_14 bu_15 bpz0_8 bu_17 bu_18 bu_19 bpz0_13 bpz0_14 bpz0_18 bpz0_22 bpz0_29) mt_X10_is q_6_143 ⟨Nat.le_of_ble_eq_true rfl, Nat.le_of_ble_eq_true rfl⟩ hK hP hD hS hA hE [2] rfl rfl 2 rfl rfl rfl rfl hl.1 rfl (Nat.le_of_ble_eq_true rfl) dX10_readSum_17 ⟨Nat.le_of_ble_eq_true rfl, Nat.le_of_ble_eq_true rfl⟩) hP hD hS hA [2] [0, 1] rfl rfl rfl (by decide) (fun r_56 w H locs hw hP hD hS => ?_)
    obtain ⟨br_56, g_57, g_58, rfl⟩ := hw
    have hP : va_P V.1 vwCl [(z 4, aI V 1025 f_13), (z 3, aI V 900 fz3), (z 0, .inr (10, mo z pz0_0 pz0_5 u_14 u_15 pz0_8 u_16 u_17 u_18 u_19 pz0_13 pz0_14 pz0_18 pz0_19 pz0_22 pz0_23 pz0_29))] H := hP
    have hD : va_D A [(z 4, aI V 1025 f_13), (z 3, aI V 900 fz3), (z 0, .inr (10, mo z pz0_0 pz0_5 u_14 u_15 pz0_8 u_16 u_17 u_18 u_19 pz0_13 pz0_14 pz0_18 pz0_19 pz0_22 pz0_23 pz0_29))] := hD
    refine lv_if_eq (tgt := 59) hx hb dX10_readSum_20 (by decide) (fun c_59 => ?_) (fun c_59 => ?_)
    · have b_60 : iv 0 0 r_56 := iv_q c_59 (iv_c (0 : Int32) (a := 0) (b := 0) (by decide))
      exact fiV hx hb hr hlk hK hP hD hS dX10_readSum_59 (Nat.le_of_ble_eq_true rfl) (Nat.le_of_ble_eq_true rfl) (⟨f_13, u_14, u_15, u_16, u_17, u_18, u_19, tf_13, bu_14, bu_15, bu_17, bu_18, bu_19, inn_20_2, inn_20_3, (by have z_0 := g_10; have z_1 := inn_20_0;have y_0 := hf0.1; have y_1 := g_8.1; have y_2 := inn_20_2.1; omega), (RX_w inn_20_1 (by omega)), rfl⟩)
    · have b_61 : iv 1 1 r_56 := iv_n0 c_59 br_56 (iv_c (0 : Int32) (a := 0) (b := 0) (by decide)) (by decide)
      have c_62 : u_18 = 0 := (g_57 (iv_eqp b_61 (iv_c (1 : Int32) (by decide))))
      have b_63 : iv 0 0 u_18 := iv_q c_62 (iv_c (0 : Int32) (a := 0) (b := 0) (by decide))
      have c_64 : u_16 = 33 := (g_58 (iv_eqp b_61 (iv_c (1 : Int32) (by decide))))
      have b_65 : iv 33 33 u_16 := iv_q c_64 (iv_c (33 : Int32) (a := 33) (b := 33) (by decide))
      refine lv_aload_n hx hb dX10_readSum_23 rfl (lv_at hl 0 rfl) ?_
      refine va_get (ci := 10) (v := .int u_16) (C := RX10) (T := TX10) (N := 40) hx hb hg inX10 hown hK hP 2 rfl rfl 9 (by decide) (hg _ q_5_233) (fun _ h9 => h9) rfl dX10_readSum_24 ?_
      refine lv_bipush (v := 32) hx hb dX10_readSum_27 (by decide) ?_
      refine lv_icmp_ne (tgt := 38) hx hb dX10_readSum_29 (by decide) (fun _ => ?_) (fun c_66 => absurd c_66 (iv_ne b_65 (iv_c (32 : Int32) (a := 32) (b := 32) (by decide)) (by decide)))
      refine lv_sipush (v := 3001) hx hb dX10_readSum_38 (by decide) ?_
      refine lv_istore_n (lv' := [(2, .int 3001), (0, .ref (z 0)), (1, .int 5)]) hx hb dX10_readSum_41 rfl hl (by decide) rfl (fun ls hl => ?_)
      refine lv_aload_n hx hb dX10_readSum_42 rfl (lv_at hl 1 rfl) ?_
      refine jnV (wr := [(z 4, aI V 1025 f_13)]) (rnV (rest := []) ⟨hx, hb, hml, hown, hg⟩ (k_X10_next_0 l V z pz0_0 pz0_5 u_14 u_15 pz0_8 u_16 u_17 u_18 u_19 pz0_13 pz0_14 pz0_18 pz0_19 pz0_22 pz0_23 pz0_29 fz3 bpz0_5 bu_14 bu_15 bpz0_8 bu_17 (iv_w b_63 (by decide)) bu_19 bpz0_13 bpz0_14 bpz0_18 bpz0_22 bpz0_29 inn_20_2.2.1) mt_X10_next q_6_117 ⟨Nat.le_of_ble_eq_true rfl, Nat.le_of_ble_eq_true rfl⟩ hK hP hD hS hA hE [2, 1] rfl rfl 2 rfl rfl rfl rfl hl.1 rfl (Nat.le_of_ble_eq_true rfl) dX10_readSum_43 ⟨Nat.le_of_ble_eq_true rfl, Nat.le_of_ble_eq_true rfl⟩) hP hD hS hA [2, 1] [0] rfl rfl rfl (by decide) (fun  w H locs hw hP hD hS => ?_)
      obtain ⟨v_67, v_68, v_69, v_70, bv_67, bv_68, bv_70, g_71, g_72, rfl⟩ := hw
      have hP : va_P V.1 vwCl [(z 4, aI V 1025 f_13), (z 0, .inr (10, mo z pz0_0 pz0_5 v_67 v_68 pz0_8 v_69 v_70 u_18 u_19 pz0_13 pz0_14 pz0_18 pz0_19 pz0_22 pz0_23 pz0_29)), (z 3, aI V 900 fz3)] H := hP
      have hD : va_D A [(z 4, aI V 1025 f_13), (z 0, .inr (10, mo z pz0_0 pz0_5 v_67 v_68 pz0_8 v_69 v_70 u_18 u_19 pz0_13 pz0_14 pz0_18 pz0_19 pz0_22 pz0_23 pz0_29)), (z 3, aI V 900 fz3)] := hD
      have rx_73 : RX pz0_11 pz0_6 fz4 u_18 v_67 f_13 1 ((1 : Int)) := by have q9 := RX_a (a' := v_67) inn_20_1 (fun q8 => q8) (t := 1) (by have q9 := g_72; have q8 := inn_20_2.2.2 (by rw [c_64]; decide); omega); exact RX_w q9 (by omega)
      refine lv_aload_n hx hb dX10_readSum_46 rfl (lv_at hl 1 rfl) ?_
      refine lv_iload_n hx hb dX10_readSum_47 rfl (lv_at hl 2 rfl) ?_
      refine jnV (wr := []) (rnV (rest := []) ⟨hx, hb, hml, hown, hg⟩ (k_X10_readTerm_1 l V z f_13 fz3 pz0_0 pz0_5 v_67 v_68 pz0_8 v_69 v_70 u_18 u_19 pz0_13 pz0_14 pz0_18 pz0_19 pz0_22 pz0_23 pz0_29 tf_13 bpz0_5 bv_67 bv_68 bpz0_8 bv_70 (iv_w b_63 (by decide)) bu_19 bpz0_13 bpz0_14 bpz0_18 bpz0_22 bpz0_29 g_71 (PS_x hf1 rx_73 (by omega))) mt_X10_readTerm q_6_191 ⟨Nat.le_of_ble_eq_true rfl, Nat.le_of_ble_eq_true rfl⟩ hK hP hD hS hA hE [0, 2, 1] rfl rfl 1 rfl rfl rfl rfl hl.1 rfl (Nat.le_of_ble_eq_true rfl) dX10_readSum_48 ⟨Nat.le_of_ble_eq_true rfl, Nat.le_of_ble_eq_true rfl⟩) hP hD hS hA [0, 2, 1] [] rfl rfl rfl (by decide) (fun  w H locs hw hP hD hS => ?_)
      obtain ⟨f_74, v_75, v_76, v_77, v_78, v_79, v_80, tf_74, bv_75, bv_76, bv_78, bv_79, bv_80, g_81, g_82, g_83, g_84, rfl⟩ := hw
      have hP : va_P V.1 vwCl [(z 4, aI V 1025 f_74), (z 3, aI V 900 fz3), (z 0, .inr (10, mo z pz0_0 pz0_5 v_75 v_76 pz0_8 v_77 v_78 v_79 v_80 pz0_13 pz0_14 pz0_18 pz0_19 pz0_22 pz0_23 pz0_29))] H := hP
      have hD : va_D A [(z 4, aI V 1025 f_74), (z 3, aI V 900 fz3), (z 0, .inr (10, mo z pz0_0 pz0_5 v_75 v_76 pz0_8 v_77 v_78 v_79 v_80 pz0_13 pz0_14 pz0_18 pz0_19 pz0_22 pz0_23 pz0_29))] := hD
      have rx_85 : RX pz0_11 pz0_6 fz4 v_79 v_75 f_74 2 ((1 : Int)) := by have q9 := RX_seq (by decide) rx_73 g_84; exact RX_w q9 (by omega)
      refine lv_aload_n hx hb dX10_readSum_51 rfl (lv_at hl 1 rfl) ?_
      refine lv_iload_n hx hb dX10_readSum_52 rfl (lv_at hl 0 rfl) ?_
      refine jnV (wr := [(z 3, aI V 900 fz3)]) (rnV (rest := []) ⟨hx, hb, hml, hown, hg⟩ (k_X10_codes_0 l V z 3001 f_74 pz0_0 pz0_5 v_75 v_76 pz0_8 v_77 v_78 v_79 v_80 pz0_13 pz0_14 pz0_18 pz0_19 pz0_22 pz0_23 pz0_29 tf_74 bpz0_5 bv_75 bv_76 bpz0_8 bv_78 bv_79 bv_80 bpz0_13 bpz0_14 bpz0_18 bpz0_22 bpz0_29 (PS_n hf1 rx_85 bv_75 (by decide) (by omega))) mt_X10_codes q_6_199 ⟨Nat.le_of_ble_eq_true rfl, Nat.le_of_ble_eq_true rfl⟩ hK hP hD hS hA hE [0, 2] rfl rfl 2 rfl rfl rfl rfl hl.1 rfl (Nat.le_of_ble_eq_true rfl) dX10_readSum_53 ⟨Nat.le_of_ble_eq_true rfl, Nat.le_of_ble_eq_true rfl⟩) hP hD hS hA [0, 2] [1] rfl rfl rfl (by decide) (fun  w H locs hw hP hD hS => ?_)
      obtain ⟨f_86, tf_86, g_87, g_88, rfl⟩ := hw
      have hP : va_P V.1 vwCl [(z 3, aI V 900 fz3), (z 4, aI V 1025 f_86), (z 0, .inr (10, mo z pz0_0 pz0_5 v_75 v_76 pz0_8 v_77 v_78 v_79 v_80 pz0_13 pz0_14 pz0_18 pz0_19 pz0_22 pz0_23 pz0_29))] H := hP
      have hD : va_D A [(z 3, aI V 900 fz3), (z 4, aI V 1025 f_86), (z 0, .inr (10, mo z pz0_0 pz0_5 v_75 v_76 pz0_8 v_77 v_78 v_79 v_80 pz0_13 pz0_14 pz0_18 pz0_19 pz0_22 pz0_23 pz0_29))] := hD
      have rx_89 : RX pz0_11 pz0_6 fz4 v_79 v_75 f_86 1 ((0 : Int)) := by have q9 := RX_c rx_85 tf_74 g_87 (by decide) ⟨by decide, by decide⟩ (by decide) (PS_n hf1 rx_85 bv_75 (by decide) (by omega)); rw [(by decide : eff (3001 : Int32) = -1)] at q9; exact RX_w q9 (by omega)
      refine lv_goto (tgt := 5) hx hb dX10_readSum_56 (by decide) ?_
      have hP := subP (ws' := [(z 4, aI V 1025 f_86), (z 3, aI V 900 fz3), (z 0, .inr (10, mo z pz0_0 pz0_5 v_75 v_76 pz0_8 v_77 v_78 v_79 v_80 pz0_13 pz0_14 pz0_18 pz0_19 pz0_22 pz0_23 pz0_29))]) hP [1, 0, 2] rfl
      have hD := hD.sub (ws' := [(z 4, aI V 1025 f_86), (z 3, aI V 900 fz3), (z 0, .inr (10, mo z pz0_0 pz0_5 v_75 v_76 pz0_8 v_77 v_78 v_79 v_80 pz0_13 pz0_14 pz0_18 pz0_19 pz0_22 pz0_23 pz0_29))]) [1, 0, 2] rfl rfl
      exact ihn_20 _ _ _ _ (by rw [en_20]; have z_0 := g_10; have z_1 := inn_20_0; have z_2 := g_72; have z_3 := g_83; have z_4 := hf0.1; have z_5 := g_8.1; have z_6 := inn_20_2.2.2 (by rw [c_64]; decide); have z_7 := g_71.1; have z_8 := g_81.1; have q9 := bv_75; unfold iv at q9; omega) ⟨f_86, v_75, v_76, v_77, v_78, v_79, v_80, tf_86, bv_75, bv_76, bv_78, bv_79, bv_80, (by have z_0 := g_10; have z_1 := inn_20_0; have z_2 := g_72; have z_3 := g_83;have y_0 := hf0.1; have y_1 := g_8.1; have y_2 := inn_20_2.1; have y_3 := g_71.1; have y_4 := g_81.1; omega), (RX_w rx_89 (by omega)), g_81, (PS_x hf1 rx_89 (by omega)), rfl, hP, hD, hS, lv_sub hl [1, 2] rfl⟩
set_option maxHeartbeats 4000000 in
set_option maxRecDepth 100000 in
theorem k_X10_is_25 (l : Launch) (V : GV) (z : Nat → Nat) (pz0_0 : Int32) (pz0_5 : Int32) (pz0_6 : Int32) (pz0_7 : Int32) (pz0_8 : Int32) (pz0_9 : Int32) (pz0_10 : Int32) (pz0_11 : Int32) (pz0_12 : Int32) (pz0_13 : Int32) (pz0_14 : Int32) (pz0_18 : Int32) (pz0_19 : Int32) (pz0_22 : Int32) (pz0_23 : Int32) (pz0_29 : Int32) (bpz0_5 : iv 0 900 pz0_5) (bpz0_6 : iv 0 900 pz0_6) (bpz0_7 : iv 0 900 pz0_7) (bpz0_8 : iv 0 900 pz0_8) (bpz0_10 : iv 0 999 pz0_10) (bpz0_11 : iv 0 4 pz0_11) (bpz0_12 : iv 0 900 pz0_12) (bpz0_13 : iv 0 4 pz0_13) (bpz0_14 : iv (-1) 900 pz0_14) (bpz0_18 : iv 0 2 pz0_18) (bpz0_22 : iv 0 9999 pz0_22) (bpz0_29 : iv 0 10000 pz0_29) : Ct l V yX10_is (.code yX10_is cX10_is 2 (some .boolean)) 1 [.ref (z 0), .int 38] [(z 0, .inr (10, mo z pz0_0 pz0_5 pz0_6 pz0_7 pz0_8 pz0_9 pz0_10 pz0_11 pz0_12 pz0_13 pz0_14 pz0_18 pz0_19 pz0_22 pz0_23 pz0_29))] 0 0 (QI V (fun (r : Int32) (w : va_W) => iv 0 1 r ∧ (r = 1 → pz0_11 = 0) ∧ (r = 1 → pz0_9 = (38 : Int32)) ∧ w = [(z 0, .inr (10, mo z pz0_0 pz0_5 pz0_6 pz0_7 pz0_8 pz0_9 pz0_10 pz0_11 pz0_12 pz0_13 pz0_14 pz0_18 pz0_19 pz0_22 pz0_23 pz0_29))])) := by
  refine Ct.of (by decide) (Nat.le_of_ble_eq_true rfl) (fun p e s m below meth c A ls hx hb hr hml hown hlk hnm hg hP hK hD hE hA hS hl => ?_)
  have hl : lv_has ls 2 [(0, .ref (z 0)), (1, .int 38)] := hl
  refine lv_aload_n hx hb dX10_is_0 rfl (lv_at hl 0 rfl) ?_
  refine va_get (ci := 10) (v := .int pz0_11) (C := RX10) (T := TX10) (N := 40) hx hb hg inX10 hown hK hP 0 rfl rfl 11 (by decide) (hg _ q_5_235) (fun _ h9 => h9) rfl dX10_is_1 ?_
  refine lv_if_ne (tgt := 19) hx hb dX10_is_4 (by decide) (fun c_1 => ?_) (fun c_1 => ?_)
  · have b_2 : iv 1 4 pz0_11 := iv_n0 c_1 bpz0_11 (iv_c (0 : Int32) (a := 0) (b := 0) (by decide)) (by decide)
    refine lv_iconst (v := 0) hx hb dX10_is_19 (by decide) ?_
    exact fiZ rfl hx hb hr hlk hK hP hD hS dX10_is_20 (Nat.le_of_ble_eq_true rfl) (Nat.le_of_ble_eq_true rfl) (⟨(iv_c (0 : Int32) (by decide)), (fun q9 => absurd q9 (by decide)), (fun q9 => absurd q9 (by decide)), rfl⟩)
  · have b_3 : iv 0 0 pz0_11 := iv_q c_1 (iv_c (0 : Int32) (a := 0) (b := 0) (by decide))
    refine lv_aload_n hx hb dX10_is_7 rfl (lv_at hl 0 rfl) ?_
    refine va_get (ci := 10) (v := .int pz0_9) (C := RX10) (T := TX10) (N := 40) hx hb hg inX10 hown hK hP 0 rfl rfl 9 (by decide) (hg _ q_5_233) (fun _ h9 => h9) rfl dX10_is_8 ?_
    refine lv_iload_n hx hb dX10_is_11 rfl (lv_at hl 1 rfl) ?_
    refine lv_icmp_ne (tgt := 19) hx hb dX10_is_12 (by decide) (fun c_4 => ?_) (fun c_4 => ?_)
    · refine lv_iconst (v := 0) hx hb dX10_is_19 (by decide) ?_
      exact fiZ rfl hx hb hr hlk hK hP hD hS dX10_is_20 (Nat.le_of_ble_eq_true rfl) (Nat.le_of_ble_eq_true rfl) (⟨(iv_c (0 : Int32) (by decide)), (fun q9 => absurd q9 (by decide)), (fun q9 => absurd q9 (by decide)), rfl⟩)
    · have b_5 : iv 38 38 pz0_9 := iv_q c_4 (iv_c (38 : Int32) (a := 38) (b := 38) (by decide))
      refine lv_iconst (v := 1) hx hb dX10_is_15 (by decide) ?_
      refine lv_goto (tgt := 20) hx hb dX10_is_16 (by decide) ?_
      exact fiZ rfl hx hb hr hlk hK hP hD hS dX10_is_20 (Nat.le_of_ble_eq_true rfl) (Nat.le_of_ble_eq_true rfl) (⟨(iv_c (1 : Int32) (by decide)), (fun _ => c_1), (fun _ => c_4), rfl⟩)
set_option maxHeartbeats 4000000 in
set_option maxRecDepth 100000 in
theorem k_X10_eats_11 (l : Launch) (V : GV) (z : Nat → Nat) (fz3 : Nat → Int32) (pz0_0 : Int32) (pz0_5 : Int32) (pz0_6 : Int32) (pz0_7 : Int32) (pz0_8 : Int32) (pz0_9 : Int32) (pz0_10 : Int32) (pz0_11 : Int32) (pz0_12 : Int32) (pz0_13 : Int32) (pz0_14 : Int32) (pz0_18 : Int32) (pz0_19 : Int32) (pz0_22 : Int32) (pz0_23 : Int32) (pz0_29 : Int32) (bpz0_5 : iv 0 900 pz0_5) (bpz0_6 : iv 0 900 pz0_6) (bpz0_7 : iv 0 900 pz0_7) (bpz0_8 : iv 0 900 pz0_8) (bpz0_10 : iv 0 999 pz0_10) (bpz0_11 : iv 0 4 pz0_11) (bpz0_12 : iv 0 900 pz0_12) (bpz0_13 : iv 0 4 pz0_13) (bpz0_14 : iv (-1) 900 pz0_14) (bpz0_18 : iv 0 2 pz0_18) (bpz0_22 : iv 0 9999 pz0_22) (bpz0_29 : iv 0 10000 pz0_29) (hf0 : PT pz0_6 pz0_7 pz0_8 pz0_9) : Ct l V yX10_eats (.code yX10_eats cX10_eats 2 (some .boolean)) 7 [.ref (z 0), .int 38] [(z 3, aI V 900 fz3), (z 0, .inr (10, mo z pz0_0 pz0_5 pz0_6 pz0_7 pz0_8 pz0_9 pz0_10 pz0_11 pz0_12 pz0_13 pz0_14 pz0_18 pz0_19 pz0_22 pz0_23 pz0_29))] 0 0 (QI V (fun (r : Int32) (w : va_W) => ∃ (v0 : Int32) (v1 : Int32) (v2 : Int32) (v3 : Int32), iv 0 900 v0 ∧ iv 0 900 v1 ∧ iv 0 999 v3 ∧ iv 0 1 r ∧ (PT v0 v1 pz0_8 v2) ∧ ((pz0_6 : Int32).toInt ≤ (v0 : Int32).toInt) ∧ (r = 1 → pz0_11 = 0) ∧ (r = 1 → (pz0_6 : Int32).toInt + 1 ≤ (v0 : Int32).toInt) ∧ w = [(z 3, aI V 900 fz3), (z 0, .inr (10, mo z pz0_0 pz0_5 v0 v1 pz0_8 v2 v3 pz0_11 pz0_12 pz0_13 pz0_14 pz0_18 pz0_19 pz0_22 pz0_23 pz0_29))])) := by
  refine Ct.of (by decide) (Nat.le_of_ble_eq_true rfl) (fun p e s m below meth c A ls hx hb hr hml hown hlk hnm hg hP hK hD hE hA hS hl => ?_)
  have hl : lv_has ls 2 [(0, .ref (z 0)), (1, .int 38)] := hl
  refine lv_aload_n hx hb dX10_eats_0 rfl (lv_at hl 0 rfl) ?_
  refine lv_iload_n hx hb dX10_eats_1 rfl (lv_at hl 1 rfl) ?_
  refine jnI (wr := [(z 3, aI V 900 fz3)]) (rnV (rest := []) ⟨hx, hb, hml, hown, hg⟩ (k_X10_is_25 l V z pz0_0 pz0_5 pz0_6 pz0_7 pz0_8 pz0_9 pz0_10 pz0_11 pz0_12 pz0_13 pz0_14 pz0_18 pz0_19 pz0_22 pz0_23 pz0_29 bpz0_5 bpz0_6 bpz0_7 bpz0_8 bpz0_10 bpz0_11 bpz0_12 bpz0_13 bpz0_14 bpz0_18 bpz0_22 bpz0_29) mt_X10_is q_6_143 ⟨Nat.le_of_ble_eq_true rfl, Nat.le_of_ble_eq_true rfl⟩ hK hP hD hS hA hE [1] rfl rfl 1 rfl rfl rfl rfl hl.1 rfl (Nat.le_of_ble_eq_true rfl) dX10_eats_2 ⟨Nat.le_of_ble_eq_true rfl, Nat.le_of_ble_eq_true rfl⟩) hP hD hS hA [1] [0] rfl rfl rfl (by decide) (fun r_1 w H locs hw hP hD hS => ?_)
  obtain ⟨br_1, g_2, g_3, rfl⟩ := hw
  have hP : va_P V.1 vwCl [(z 3, aI V 900 fz3), (z 0, .inr (10, mo z pz0_0 pz0_5 pz0_6 pz0_7 pz0_8 pz0_9 pz0_10 pz0_11 pz0_12 pz0_13 pz0_14 pz0_18 pz0_19 pz0_22 pz0_23 pz0_29))] H := hP
  have hD : va_D A [(z 3, aI V 900 fz3), (z 0, .inr (10, mo z pz0_0 pz0_5 pz0_6 pz0_7 pz0_8 pz0_9 pz0_10 pz0_11 pz0_12 pz0_13 pz0_14 pz0_18 pz0_19 pz0_22 pz0_23 pz0_29))] := hD
  refine lv_if_ne (tgt := 10) hx hb dX10_eats_5 (by decide) (fun c_4 => ?_) (fun c_4 => ?_)
  · have b_5 : iv 1 1 r_1 := iv_n0 c_4 br_1 (iv_c (0 : Int32) (a := 0) (b := 0) (by decide)) (by decide)
    have c_6 : pz0_11 = 0 := (g_2 (iv_eqp b_5 (iv_c (1 : Int32) (by decide))))
    have b_7 : iv 0 0 pz0_11 := iv_q c_6 (iv_c (0 : Int32) (a := 0) (b := 0) (by decide))
    have c_8 : pz0_9 = 38 := (g_3 (iv_eqp b_5 (iv_c (1 : Int32) (by decide))))
    have b_9 : iv 38 38 pz0_9 := iv_q c_8 (iv_c (38 : Int32) (a := 38) (b := 38) (by decide))
    refine lv_aload_n hx hb dX10_eats_10 rfl (lv_at hl 0 rfl) ?_
    refine jnV (wr := []) (rnV (rest := []) ⟨hx, hb, hml, hown, hg⟩ (k_X10_next_0 l V z pz0_0 pz0_5 pz0_6 pz0_7 pz0_8 pz0_9 pz0_10 pz0_11 pz0_12 pz0_13 pz0_14 pz0_18 pz0_19 pz0_22 pz0_23 pz0_29 fz3 bpz0_5 bpz0_6 bpz0_7 bpz0_8 bpz0_10 (iv_w b_7 (by decide)) bpz0_12 bpz0_13 bpz0_14 bpz0_18 bpz0_22 bpz0_29 hf0.2.1) mt_X10_next q_6_117 ⟨Nat.le_of_ble_eq_true rfl, Nat.le_of_ble_eq_true rfl⟩ hK hP hD hS hA hE [1, 0] rfl rfl 1 rfl rfl rfl rfl hl.1 rfl (Nat.le_of_ble_eq_true rfl) dX10_eats_11 ⟨Nat.le_of_ble_eq_true rfl, Nat.le_of_ble_eq_true rfl⟩) hP hD hS hA [1, 0] [] rfl rfl rfl (by decide) (fun  w H locs hw hP hD hS => ?_)
    obtain ⟨v_10, v_11, v_12, v_13, bv_10, bv_11, bv_13, g_14, g_15, rfl⟩ := hw
    have hP : va_P V.1 vwCl [(z 0, .inr (10, mo z pz0_0 pz0_5 v_10 v_11 pz0_8 v_12 v_13 pz0_11 pz0_12 pz0_13 pz0_14 pz0_18 pz0_19 pz0_22 pz0_23 pz0_29)), (z 3, aI V 900 fz3)] H := hP
    have hD : va_D A [(z 0, .inr (10, mo z pz0_0 pz0_5 v_10 v_11 pz0_8 v_12 v_13 pz0_11 pz0_12 pz0_13 pz0_14 pz0_18 pz0_19 pz0_22 pz0_23 pz0_29)), (z 3, aI V 900 fz3)] := hD
    refine lv_iconst (v := 1) hx hb dX10_eats_14 (by decide) ?_
    have hP := subP (ws' := [(z 3, aI V 900 fz3), (z 0, .inr (10, mo z pz0_0 pz0_5 v_10 v_11 pz0_8 v_12 v_13 pz0_11 pz0_12 pz0_13 pz0_14 pz0_18 pz0_19 pz0_22 pz0_23 pz0_29))]) hP [1, 0] rfl
    have hD := hD.sub (ws' := [(z 3, aI V 900 fz3), (z 0, .inr (10, mo z pz0_0 pz0_5 v_10 v_11 pz0_8 v_12 v_13 pz0_11 pz0_12 pz0_13 pz0_14 pz0_18 pz0_19 pz0_22 pz0_23 pz0_29))]) [1, 0] rfl rfl
    exact fiZ rfl hx hb hr hlk hK hP hD hS dX10_eats_15 (Nat.le_of_ble_eq_true rfl) (Nat.le_of_ble_eq_true rfl) (⟨v_10, v_11, v_12, v_13, bv_10, bv_11, bv_13, (iv_c (1 : Int32) (by decide)), g_14, (by have q9 := g_15; have q8 := hf0.1; omega), (fun _ => iv_eqp b_7 (iv_c (0 : Int32) (by decide))), (fun _ => by have q9 := g_15; have q8 := hf0.2.2 (by rw [c_8]; decide); omega), rfl⟩)
  · have b_16 : iv 0 0 r_1 := iv_q c_4 (iv_c (0 : Int32) (a := 0) (b := 0) (by decide))
    refine lv_iconst (v := 0) hx hb dX10_eats_8 (by decide) ?_
    exact fiZ rfl hx hb hr hlk hK hP hD hS dX10_eats_9 (Nat.le_of_ble_eq_true rfl) (Nat.le_of_ble_eq_true rfl) (⟨pz0_6, pz0_7, pz0_9, pz0_10, bpz0_6, bpz0_7, bpz0_10, (iv_c (0 : Int32) (by decide)), hf0, (Int.le_refl _), (fun q9 => absurd q9 (by decide)), (fun q9 => absurd q9 (by decide)), rfl⟩)
theorem dX10_readUnit_51 : decode cX10_readUnit 51 = .ok (.aload_n 0, 1) := by decide +kernel
theorem dX10_readUnit_52 : decode cX10_readUnit 52 = .ok (.iload_n 1, 1) := by decide +kernel
theorem dX10_readUnit_53 : decode cX10_readUnit 53 = .ok (.iconst 1, 1) := by decide +kernel
theorem dX10_readUnit_54 : decode cX10_readUnit 54 = .ok (.iadd, 1) := by decide +kernel
theorem dX10_readUnit_55 : decode cX10_readUnit 55 = .ok (.invokevirtual 181, 3) := by decide +kernel
theorem dX10_readUnit_58 : decode cX10_readUnit 58 = .ok (.aload_n 0, 1) := by decide +kernel
theorem dX10_readUnit_59 : decode cX10_readUnit 59 = .ok (.bipush 38, 2) := by decide +kernel
theorem dX10_readUnit_61 : decode cX10_readUnit 61 = .ok (.invokevirtual 175, 3) := by decide +kernel
theorem dX10_readUnit_64 : decode cX10_readUnit 64 = .ok (.ifCond .ne 8, 3) := by decide +kernel
theorem dX10_readUnit_72 : decode cX10_readUnit 72 = .ok (.return_, 1) := by decide +kernel
theorem dX10_readUnit_67 : decode cX10_readUnit 67 = .ok (.aload_n 0, 1) := by decide +kernel
theorem dX10_readUnit_68 : decode cX10_readUnit 68 = .ok (.iconst 2, 1) := by decide +kernel
theorem dX10_readUnit_69 : decode cX10_readUnit 69 = .ok (.invokevirtual 155, 3) := by decide +kernel
theorem dX10_readUnit_18 : decode cX10_readUnit 18 = .ok (.aload_n 0, 1) := by decide +kernel
theorem dX10_readUnit_19 : decode cX10_readUnit 19 = .ok (.iload_n 1, 1) := by decide +kernel
theorem dX10_readUnit_20 : decode cX10_readUnit 20 = .ok (.iconst 1, 1) := by decide +kernel
theorem dX10_readUnit_21 : decode cX10_readUnit 21 = .ok (.iadd, 1) := by decide +kernel
theorem dX10_readUnit_22 : decode cX10_readUnit 22 = .ok (.invokevirtual 190, 3) := by decide +kernel
theorem dX10_readUnit_25 : decode cX10_readUnit 25 = .ok (.aload_n 0, 1) := by decide +kernel
theorem dX10_readUnit_26 : decode cX10_readUnit 26 = .ok (.sipush 3006, 3) := by decide +kernel
theorem dX10_readUnit_29 : decode cX10_readUnit 29 = .ok (.invokevirtual 163, 3) := by decide +kernel
theorem dX10_readUnit_32 : decode cX10_readUnit 32 = .ok (.return_, 1) := by decide +kernel
set_option maxHeartbeats 4000000 in
set_option maxRecDepth 100000 in
theorem k_X10_readUnit_1 (l : Launch) (V : GV) (z : Nat → Nat) (fz4 : Nat → Int32) (fz3 : Nat → Int32) (pz0_0 : Int32) (pz0_5 : Int32) (pz0_6 : Int32) (pz0_7 : Int32) (pz0_8 : Int32) (pz0_9 : Int32) (pz0_10 : Int32) (pz0_11 : Int32) (pz0_12 : Int32) (pz0_13 : Int32) (pz0_14 : Int32) (pz0_18 : Int32) (pz0_19 : Int32) (pz0_22 : Int32) (pz0_23 : Int32) (pz0_29 : Int32) (tfz4 : ivT tF fz4) (bpz0_5 : iv 0 900 pz0_5) (bpz0_6 : iv 0 900 pz0_6) (bpz0_7 : iv 0 900 pz0_7) (bpz0_8 : iv 0 900 pz0_8) (bpz0_10 : iv 0 999 pz0_10) (bpz0_11 : iv 0 4 pz0_11) (bpz0_12 : iv 0 900 pz0_12) (bpz0_13 : iv 0 4 pz0_13) (bpz0_14 : iv (-1) 900 pz0_14) (bpz0_18 : iv 0 2 pz0_18) (bpz0_22 : iv 0 9999 pz0_22) (bpz0_29 : iv 0 10000 pz0_29) (hf0 : PT pz0_6 pz0_7 pz0_8 pz0_9) (hf1 : PS pz0_11 pz0_6 fz4) : Ct l V yX10_readUnit (.code yX10_readUnit cX10_readUnit 3 none) 17 [.ref (z 0), .int 5] [(z 4, aI V 1025 fz4), (z 3, aI V 900 fz3), (z 0, .inr (10, mo z pz0_0 pz0_5 pz0_6 pz0_7 pz0_8 pz0_9 pz0_10 pz0_11 pz0_12 pz0_13 pz0_14 pz0_18 pz0_19 pz0_22 pz0_23 pz0_29))] 0 0 (QV V (fun (w : va_W) => ∃ (g0 : Nat → Int32) (v1 : Int32) (v2 : Int32) (v3 : Int32) (v4 : Int32) (v5 : Int32) (v6 : Int32), (ivT tF g0) ∧ iv 0 900 v1 ∧ iv 0 900 v2 ∧ iv 0 999 v4 ∧ iv 0 4 v5 ∧ iv 0 900 v6 ∧ (PT v1 v2 pz0_8 v3) ∧ (PS v5 v1 g0) ∧ ((pz0_6 : Int32).toInt ≤ (v1 : Int32).toInt) ∧ (RX pz0_11 pz0_6 fz4 v5 v1 g0 1 0) ∧ w = [(z 4, aI V 1025 g0), (z 3, aI V 900 fz3), (z 0, .inr (10, mo z pz0_0 pz0_5 v1 v2 pz0_8 v3 v4 v5 v6 pz0_13 pz0_14 pz0_18 pz0_19 pz0_22 pz0_23 pz0_29))])) := by
  refine Ct.of (by decide) (Nat.le_of_ble_eq_true rfl) (fun p e s m below meth c A ls hx hb hr hml hown hlk hnm hg hP hK hD hE hA hS hl => ?_)
  have hl : lv_has ls 3 [(0, .ref (z 0)), (1, .int 5)] := hl
  refine lv_aload_n hx hb dX10_readUnit_0 rfl (lv_at hl 0 rfl) ?_
  refine lv_bipush (v := 21) hx hb dX10_readUnit_1 (by decide) ?_
  refine jnI (wr := [(z 4, aI V 1025 fz4), (z 3, aI V 900 fz3)]) (rnV (rest := []) ⟨hx, hb, hml, hown, hg⟩ (k_X10_is_9 l V z pz0_0 pz0_5 pz0_6 pz0_7 pz0_8 pz0_9 pz0_10 pz0_11 pz0_12 pz0_13 pz0_14 pz0_18 pz0_19 pz0_22 pz0_23 pz0_29 bpz0_5 bpz0_6 bpz0_7 bpz0_8 bpz0_10 bpz0_11 bpz0_12 bpz0_13 bpz0_14 bpz0_18 bpz0_22 bpz0_29) mt_X10_is q_6_143 ⟨Nat.le_of_ble_eq_true rfl, Nat.le_of_ble_eq_true rfl⟩ hK hP hD hS hA hE [2] rfl rfl 2 rfl rfl rfl rfl hl.1 rfl (Nat.le_of_ble_eq_true rfl) dX10_readUnit_3 ⟨Nat.le_of_ble_eq_true rfl, Nat.le_of_ble_eq_true rfl⟩) hP hD hS hA [2] [0, 1] rfl rfl rfl (by decide) (fun r_1 w H locs hw hP hD hS => ?_)
  obtain ⟨br_1, g_2, g_3, rfl⟩ := hw
  have hP : va_P V.1 vwCl [(z 4, aI V 1025 fz4), (z 3, aI V 900 fz3), (z 0, .inr (10, mo z pz0_0 pz0_5 pz0_6 pz0_7 pz0_8 pz0_9 pz0_10 pz0_11 pz0_12 pz0_13 pz0_14 pz0_18 pz0_19 pz0_22 pz0_23 pz0_29))] H := hP
  have hD : va_D A [(z 4, aI V 1025 fz4), (z 3, aI V 900 fz3), (z 0, .inr (10, mo z pz0_0 pz0_5 pz0_6 pz0_7 pz0_8 pz0_9 pz0_10 pz0_11 pz0_12 pz0_13 pz0_14 pz0_18 pz0_19 pz0_22 pz0_23 pz0_29))] := hD
  refine lv_if_eq (tgt := 33) hx hb dX10_readUnit_6 (by decide) (fun c_4 => ?_) (fun c_4 => ?_)
  · have b_5 : iv 0 0 r_1 := iv_q c_4 (iv_c (0 : Int32) (a := 0) (b := 0) (by decide))
    refine lv_aload_n hx hb dX10_readUnit_33 rfl (lv_at hl 0 rfl) ?_
    refine lv_bipush (v := 37) hx hb dX10_readUnit_34 (by decide) ?_
    refine jnI (wr := [(z 4, aI V 1025 fz4), (z 3, aI V 900 fz3)]) (rnV (rest := []) ⟨hx, hb, hml, hown, hg⟩ (k_X10_is_10 l V z pz0_0 pz0_5 pz0_6 pz0_7 pz0_8 pz0_9 pz0_10 pz0_11 pz0_12 pz0_13 pz0_14 pz0_18 pz0_19 pz0_22 pz0_23 pz0_29 bpz0_5 bpz0_6 bpz0_7 bpz0_8 bpz0_10 bpz0_11 bpz0_12 bpz0_13 bpz0_14 bpz0_18 bpz0_22 bpz0_29) mt_X10_is q_6_143 ⟨Nat.le_of_ble_eq_true rfl, Nat.le_of_ble_eq_true rfl⟩ hK hP hD hS hA hE [2] rfl rfl 2 rfl rfl rfl rfl hl.1 rfl (Nat.le_of_ble_eq_true rfl) dX10_readUnit_36 ⟨Nat.le_of_ble_eq_true rfl, Nat.le_of_ble_eq_true rfl⟩) hP hD hS hA [2] [0, 1] rfl rfl rfl (by decide) (fun r_6 w H locs hw hP hD hS => ?_)
    obtain ⟨br_6, g_7, g_8, rfl⟩ := hw
    have hP : va_P V.1 vwCl [(z 4, aI V 1025 fz4), (z 3, aI V 900 fz3), (z 0, .inr (10, mo z pz0_0 pz0_5 pz0_6 pz0_7 pz0_8 pz0_9 pz0_10 pz0_11 pz0_12 pz0_13 pz0_14 pz0_18 pz0_19 pz0_22 pz0_23 pz0_29))] H := hP
    have hD : va_D A [(z 4, aI V 1025 fz4), (z 3, aI V 900 fz3), (z 0, .inr (10, mo z pz0_0 pz0_5 pz0_6 pz0_7 pz0_8 pz0_9 pz0_10 pz0_11 pz0_12 pz0_13 pz0_14 pz0_18 pz0_19 pz0_22 pz0_23 pz0_29))] := hD
    refine lv_if_eq (tgt := 73) hx hb dX10_readUnit_39 (by decide) (fun c_9 => ?_) (fun c_9 => ?_)
    · have b_10 : iv 0 0 r_6 := iv_q c_9 (iv_c (0 : Int32) (a := 0) (b := 0) (by decide))
      refine lv_aload_n hx hb dX10_readUnit_73 rfl (lv_at hl 0 rfl) ?_
      refine lv_iload_n hx hb dX10_readUnit_74 rfl (lv_at hl 1 rfl) ?_
      refine jnV (wr := []) (rnV (rest := []) ⟨hx, hb, hml, hown, hg⟩ (k_X10_readSum_1 l V z fz4 fz3 pz0_0 pz0_5 pz0_6 pz0_7 pz0_8 pz0_9 pz0_10 pz0_11 pz0_12 pz0_13 pz0_14 pz0_18 pz0_19 pz0_22 pz0_23 pz0_29 tfz4 bpz0_5 bpz0_6 bpz0_7 bpz0_8 bpz0_10 bpz0_11 bpz0_12 bpz0_13 bpz0_14 bpz0_18 bpz0_22 bpz0_29 hf0 hf1) mt_X10_readSum q_6_187 ⟨Nat.le_of_ble_eq_true rfl, Nat.le_of_ble_eq_true rfl⟩ hK hP hD hS hA hE [0, 1, 2] rfl rfl 2 rfl rfl rfl rfl hl.1 rfl (Nat.le_of_ble_eq_true rfl) dX10_readUnit_75 ⟨Nat.le_of_ble_eq_true rfl, Nat.le_of_ble_eq_true rfl⟩) hP hD hS hA [0, 1, 2] [] rfl rfl rfl (by decide) (fun  w H locs hw hP hD hS => ?_)
      obtain ⟨f_11, v_12, v_13, v_14, v_15, v_16, v_17, tf_11, bv_12, bv_13, bv_15, bv_16, bv_17, g_18, g_19, g_20, g_21, rfl⟩ := hw
      have hP : va_P V.1 vwCl [(z 4, aI V 1025 f_11), (z 3, aI V 900 fz3), (z 0, .inr (10, mo z pz0_0 pz0_5 v_12 v_13 pz0_8 v_14 v_15 v_16 v_17 pz0_13 pz0_14 pz0_18 pz0_19 pz0_22 pz0_23 pz0_29))] H := hP
      have hD : va_D A [(z 4, aI V 1025 f_11), (z 3, aI V 900 fz3), (z 0, .inr (10, mo z pz0_0 pz0_5 v_12 v_13 pz0_8 v_14 v_15 v_16 v_17 pz0_13 pz0_14 pz0_18 pz0_19 pz0_22 pz0_23 pz0_29))] := hD
      have rx_22 : RX pz0_11 pz0_6 fz4 v_16 v_12 f_11 1 ((0 : Int)) := by have q9 := RX_seq (by decide) (RX_0 (w := pz0_11) (a := pz0_6) tfz4) g_21; exact RX_w q9 (by omega)
      refine lv_aload_n hx hb dX10_readUnit_78 rfl (lv_at hl 0 rfl) ?_
      refine lv_bipush (v := 39) hx hb dX10_readUnit_79 (by decide) ?_
      refine jnI (wr := [(z 4, aI V 1025 f_11), (z 3, aI V 900 fz3)]) (rnV (rest := []) ⟨hx, hb, hml, hown, hg⟩ (k_X10_is_16 l V z pz0_0 pz0_5 v_12 v_13 pz0_8 v_14 v_15 v_16 v_17 pz0_13 pz0_14 pz0_18 pz0_19 pz0_22 pz0_23 pz0_29 bpz0_5 bv_12 bv_13 bpz0_8 bv_15 bv_16 bv_17 bpz0_13 bpz0_14 bpz0_18 bpz0_22 bpz0_29) mt_X10_is q_6_143 ⟨Nat.le_of_ble_eq_true rfl, Nat.le_of_ble_eq_true rfl⟩ hK hP hD hS hA hE [2] rfl rfl 2 rfl rfl rfl rfl hl.1 rfl (Nat.le_of_ble_eq_true rfl) dX10_readUnit_81 ⟨Nat.le_of_ble_eq_true rfl, Nat.le_of_ble_eq_true rfl⟩) hP hD hS hA [2] [0, 1] rfl rfl rfl (by decide) (fun r_23 w H locs hw hP hD hS => ?_)
      obtain ⟨br_23, g_24, g_25, rfl⟩ := hw
      have hP : va_P V.1 vwCl [(z 4, aI V 1025 f_11), (z 3, aI V 900 fz3), (z 0, .inr (10, mo z pz0_0 pz0_5 v_12 v_13 pz0_8 v_14 v_15 v_16 v_17 pz0_13 pz0_14 pz0_18 pz0_19 pz0_22 pz0_23 pz0_29))] H := hP
      have hD : va_D A [(z 4, aI V 1025 f_11), (z 3, aI V 900 fz3), (z 0, .inr (10, mo z pz0_0 pz0_5 v_12 v_13 pz0_8 v_14 v_15 v_16 v_17 pz0_13 pz0_14 pz0_18 pz0_19 pz0_22 pz0_23 pz0_29))] := hD
      refine lv_if_eq (tgt := 93) hx hb dX10_readUnit_84 (by decide) (fun c_26 => ?_) (fun c_26 => ?_)
      · have b_27 : iv 0 0 r_23 := iv_q c_26 (iv_c (0 : Int32) (a := 0) (b := 0) (by decide))
        refine lv_aload_n hx hb dX10_readUnit_93 rfl (lv_at hl 0 rfl) ?_
        refine lv_bipush (v := 40) hx hb dX10_readUnit_94 (by decide) ?_
        refine jnI (wr := [(z 4, aI V 1025 f_11), (z 3, aI V 900 fz3)]) (rnV (rest := []) ⟨hx, hb, hml, hown, hg⟩ (k_X10_is_17 l V z pz0_0 pz0_5 v_12 v_13 pz0_8 v_14 v_15 v_16 v_17 pz0_13 pz0_14 pz0_18 pz0_19 pz0_22 pz0_23 pz0_29 bpz0_5 bv_12 bv_13 bpz0_8 bv_15 bv_16 bv_17 bpz0_13 bpz0_14 bpz0_18 bpz0_22 bpz0_29) mt_X10_is q_6_143 ⟨Nat.le_of_ble_eq_true rfl, Nat.le_of_ble_eq_true rfl⟩ hK hP hD hS hA hE [2] rfl rfl 2 rfl rfl rfl rfl hl.1 rfl (Nat.le_of_ble_eq_true rfl) dX10_readUnit_96 ⟨Nat.le_of_ble_eq_true rfl, Nat.le_of_ble_eq_true rfl⟩) hP hD hS hA [2] [0, 1] rfl rfl rfl (by decide) (fun r_28 w H locs hw hP hD hS => ?_)
        obtain ⟨br_28, g_29, g_30, rfl⟩ := hw
        have hP : va_P V.1 vwCl [(z 4, aI V 1025 f_11), (z 3, aI V 900 fz3), (z 0, .inr (10, mo z pz0_0 pz0_5 v_12 v_13 pz0_8 v_14 v_15 v_16 v_17 pz0_13 pz0_14 pz0_18 pz0_19 pz0_22 pz0_23 pz0_29))] H := hP
        have hD : va_D A [(z 4, aI V 1025 f_11), (z 3, aI V 900 fz3), (z 0, .inr (10, mo z pz0_0 pz0_5 v_12 v_13 pz0_8 v_14 v_15 v_16 v_17 pz0_13 pz0_14 pz0_18 pz0_19 pz0_22 pz0_23 pz0_29))] := hD
        refine lv_if_eq (tgt := 108) hx hb dX10_readUnit_99 (by decide) (fun c_31 => ?_) (fun c_31 => ?_)
        · have b_32 : iv 0 0 r_28 := iv_q c_31 (iv_c (0 : Int32) (a := 0) (b := 0) (by decide))
          refine lv_sipush (v := 3005) hx hb dX10_readUnit_108 (by decide) ?_
          refine lv_istore_n (lv' := [(2, .int 3005), (0, .ref (z 0)), (1, .int 5)]) hx hb dX10_readUnit_111 rfl hl (by decide) rfl (fun ls hl => ?_)
          refine lv_aload_n hx hb dX10_readUnit_112 rfl (lv_at hl 1 rfl) ?_
          refine lv_bipush (v := 39) hx hb dX10_readUnit_113 (by decide) ?_
          refine jnI (wr := [(z 4, aI V 1025 f_11), (z 3, aI V 900 fz3)]) (rnV (rest := []) ⟨hx, hb, hml, hown, hg⟩ (k_X10_is_16 l V z pz0_0 pz0_5 v_12 v_13 pz0_8 v_14 v_15 v_16 v_17 pz0_13 pz0_14 pz0_18 pz0_19 pz0_22 pz0_23 pz0_29 bpz0_5 bv_12 bv_13 bpz0_8 bv_15 bv_16 bv_17 bpz0_13 bpz0_14 bpz0_18 bpz0_22 bpz0_29) mt_X10_is q_6_143 ⟨Nat.le_of_ble_eq_true rfl, Nat.le_of_ble_eq_true rfl⟩ hK hP hD hS hA hE [2] rfl rfl 2 rfl rfl rfl rfl hl.1 rfl (Nat.le_of_ble_eq_true rfl) dX10_readUnit_115 ⟨Nat.le_of_ble_eq_true rfl, Nat.le_of_ble_eq_true rfl⟩) hP hD hS hA [2] [0, 1] rfl rfl rfl (by decide) (fun r_33 w H locs hw hP hD hS => ?_)
          obtain ⟨br_33, g_34, g_35, rfl⟩ := hw
          have hP : va_P V.1 vwCl [(z 4, aI V 1025 f_11), (z 3, aI V 900 fz3), (z 0, .inr (10, mo z pz0_0 pz0_5 v_12 v_13 pz0_8 v_14 v_15 v_16 v_17 pz0_13 pz0_14 pz0_18 pz0_19 pz0_22 pz0_23 pz0_29))] H := hP
          have hD : va_D A [(z 4, aI V 1025 f_11), (z 3, aI V 900 fz3), (z 0, .inr (10, mo z pz0_0 pz0_5 v_12 v_13 pz0_8 v_14 v_15 v_16 v_17 pz0_13 pz0_14 pz0_18 pz0_19 pz0_22 pz0_23 pz0_29))] := hD
          refine lv_if_ne (tgt := 139) hx hb dX10_readUnit_118 (by decide) (fun c_36 => ?_) (fun c_36 => ?_)
          · have b_37 : iv 1 1 r_33 := iv_n0 c_36 br_33 (iv_c (0 : Int32) (a := 0) (b := 0) (by decide)) (by decide)
            have c_38 : v_16 = 0 := (g_34 (iv_eqp b_37 (iv_c (1 : Int32) (by decide))))
            have b_39 : iv 0 0 v_16 := iv_q c_38 (iv_c (0 : Int32) (a := 0) (b := 0) (by decide))
            have c_40 : v_14 = 39 := (g_35 (iv_eqp b_37 (iv_c (1 : Int32) (by decide))))
            have b_41 : iv 39 39 v_14 := iv_q c_40 (iv_c (39 : Int32) (a := 39) (b := 39) (by decide))
            refine lv_aload_n hx hb dX10_readUnit_139 rfl (lv_at hl 1 rfl) ?_
            refine jnV (wr := [(z 4, aI V 1025 f_11)]) (rnV (rest := []) ⟨hx, hb, hml, hown, hg⟩ (k_X10_next_0 l V z pz0_0 pz0_5 v_12 v_13 pz0_8 v_14 v_15 v_16 v_17 pz0_13 pz0_14 pz0_18 pz0_19 pz0_22 pz0_23 pz0_29 fz3 bpz0_5 bv_12 bv_13 bpz0_8 bv_15 (iv_w b_39 (by decide)) bv_17 bpz0_13 bpz0_14 bpz0_18 bpz0_22 bpz0_29 g_18.2.1) mt_X10_next q_6_117 ⟨Nat.le_of_ble_eq_true rfl, Nat.le_of_ble_eq_true rfl⟩ hK hP hD hS hA hE [2, 1] rfl rfl 2 rfl rfl rfl rfl hl.1 rfl (Nat.le_of_ble_eq_true rfl) dX10_readUnit_140 ⟨Nat.le_of_ble_eq_true rfl, Nat.le_of_ble_eq_true rfl⟩) hP hD hS hA [2, 1] [0] rfl rfl rfl (by decide) (fun  w H locs hw hP hD hS => ?_)
            obtain ⟨v_42, v_43, v_44, v_45, bv_42, bv_43, bv_45, g_46, g_47, rfl⟩ := hw
            have hP : va_P V.1 vwCl [(z 4, aI V 1025 f_11), (z 0, .inr (10, mo z pz0_0 pz0_5 v_42 v_43 pz0_8 v_44 v_45 v_16 v_17 pz0_13 pz0_14 pz0_18 pz0_19 pz0_22 pz0_23 pz0_29)), (z 3, aI V 900 fz3)] H := hP
            have hD : va_D A [(z 4, aI V 1025 f_11), (z 0, .inr (10, mo z pz0_0 pz0_5 v_42 v_43 pz0_8 v_44 v_45 v_16 v_17 pz0_13 pz0_14 pz0_18 pz0_19 pz0_22 pz0_23 pz0_29)), (z 3, aI V 900 fz3)] := hD
            have rx_48 : RX pz0_11 pz0_6 fz4 v_16 v_42 f_11 1 ((1 : Int)) := by have q9 := RX_a (a' := v_42) rx_22 (fun q8 => q8) (t := 1) (by have q9 := g_47; have q8 := g_18.2.2 (by rw [c_40]; decide); omega); exact RX_w q9 (by omega)
            refine lv_goto (tgt := 151) hx hb dX10_readUnit_143 (by decide) ?_
            refine lv_aload_n hx hb dX10_readUnit_151 rfl (lv_at hl 1 rfl) ?_
            refine lv_iload_n hx hb dX10_readUnit_152 rfl (lv_at hl 2 rfl) ?_
            refine jnV (wr := []) (rnV (rest := []) ⟨hx, hb, hml, hown, hg⟩ (k_X10_readSum_1 l V z f_11 fz3 pz0_0 pz0_5 v_42 v_43 pz0_8 v_44 v_45 v_16 v_17 pz0_13 pz0_14 pz0_18 pz0_19 pz0_22 pz0_23 pz0_29 tf_11 bpz0_5 bv_42 bv_43 bpz0_8 bv_45 (iv_w b_39 (by decide)) bv_17 bpz0_13 bpz0_14 bpz0_18 bpz0_22 bpz0_29 g_46 (PS_x hf1 rx_48 (by omega))) mt_X10_readSum q_6_187 ⟨Nat.le_of_ble_eq_true rfl, Nat.le_of_ble_eq_true rfl⟩ hK hP hD hS hA hE [0, 2, 1] rfl rfl 1 rfl rfl rfl rfl hl.1 rfl (Nat.le_of_ble_eq_true rfl) dX10_readUnit_153 ⟨Nat.le_of_ble_eq_true rfl, Nat.le_of_ble_eq_true rfl⟩) hP hD hS hA [0, 2, 1] [] rfl rfl rfl (by decide) (fun  w H locs hw hP hD hS => ?_)
            obtain ⟨f_49, v_50, v_51, v_52, v_53, v_54, v_55, tf_49, bv_50, bv_51, bv_53, bv_54, bv_55, g_56, g_57, g_58, g_59, rfl⟩ := hw
            have hP : va_P V.1 vwCl [(z 4, aI V 1025 f_49), (z 3, aI V 900 fz3), (z 0, .inr (10, mo z pz0_0 pz0_5 v_50 v_51 pz0_8 v_52 v_53 v_54 v_55 pz0_13 pz0_14 pz0_18 pz0_19 pz0_22 pz0_23 pz0_29))] H := hP
            have hD : va_D A [(z 4, aI V 1025 f_49), (z 3, aI V 900 fz3), (z 0, .inr (10, mo z pz0_0 pz0_5 v_50 v_51 pz0_8 v_52 v_53 v_54 v_55 pz0_13 pz0_14 pz0_18 pz0_19 pz0_22 pz0_23 pz0_29))] := hD
            have rx_60 : RX pz0_11 pz0_6 fz4 v_54 v_50 f_49 2 ((1 : Int)) := by have q9 := RX_seq (by decide) rx_48 g_59; exact RX_w q9 (by omega)
            refine lv_aload_n hx hb dX10_readUnit_156 rfl (lv_at hl 1 rfl) ?_
            refine lv_iload_n hx hb dX10_readUnit_157 rfl (lv_at hl 0 rfl) ?_
            refine jnV (wr := [(z 3, aI V 900 fz3)]) (rnV (rest := []) ⟨hx, hb, hml, hown, hg⟩ (k_X10_codes_0 l V z 3005 f_49 pz0_0 pz0_5 v_50 v_51 pz0_8 v_52 v_53 v_54 v_55 pz0_13 pz0_14 pz0_18 pz0_19 pz0_22 pz0_23 pz0_29 tf_49 bpz0_5 bv_50 bv_51 bpz0_8 bv_53 bv_54 bv_55 bpz0_13 bpz0_14 bpz0_18 bpz0_22 bpz0_29 (PS_n hf1 rx_60 bv_50 (by decide) (by omega))) mt_X10_codes q_6_199 ⟨Nat.le_of_ble_eq_true rfl, Nat.le_of_ble_eq_true rfl⟩ hK hP hD hS hA hE [0, 2] rfl rfl 2 rfl rfl rfl rfl hl.1 rfl (Nat.le_of_ble_eq_true rfl) dX10_readUnit_158 ⟨Nat.le_of_ble_eq_true rfl, Nat.le_of_ble_eq_true rfl⟩) hP hD hS hA [0, 2] [1] rfl rfl rfl (by decide) (fun  w H locs hw hP hD hS => ?_)
            obtain ⟨f_61, tf_61, g_62, g_63, rfl⟩ := hw
            have hP : va_P V.1 vwCl [(z 3, aI V 900 fz3), (z 4, aI V 1025 f_61), (z 0, .inr (10, mo z pz0_0 pz0_5 v_50 v_51 pz0_8 v_52 v_53 v_54 v_55 pz0_13 pz0_14 pz0_18 pz0_19 pz0_22 pz0_23 pz0_29))] H := hP
            have hD : va_D A [(z 3, aI V 900 fz3), (z 4, aI V 1025 f_61), (z 0, .inr (10, mo z pz0_0 pz0_5 v_50 v_51 pz0_8 v_52 v_53 v_54 v_55 pz0_13 pz0_14 pz0_18 pz0_19 pz0_22 pz0_23 pz0_29))] := hD
            have rx_64 : RX pz0_11 pz0_6 fz4 v_54 v_50 f_61 1 ((0 : Int)) := by have q9 := RX_c rx_60 tf_49 g_62 (by decide) ⟨by decide, by decide⟩ (by decide) (PS_n hf1 rx_60 bv_50 (by decide) (by omega)); rw [(by decide : eff (3005 : Int32) = -1)] at q9; exact RX_w q9 (by omega)
            have hP := subP (ws' := [(z 4, aI V 1025 f_61), (z 3, aI V 900 fz3), (z 0, .inr (10, mo z pz0_0 pz0_5 v_50 v_51 pz0_8 v_52 v_53 v_54 v_55 pz0_13 pz0_14 pz0_18 pz0_19 pz0_22 pz0_23 pz0_29))]) hP [1, 0, 2] rfl
            have hD := hD.sub (ws' := [(z 4, aI V 1025 f_61), (z 3, aI V 900 fz3), (z 0, .inr (10, mo z pz0_0 pz0_5 v_50 v_51 pz0_8 v_52 v_53 v_54 v_55 pz0_13 pz0_14 pz0_18 pz0_19 pz0_22 pz0_23 pz0_29))]) [1, 0, 2] rfl rfl
            exact fiV hx hb hr hlk hK hP hD hS dX10_readUnit_161 (Nat.le_of_ble_eq_true rfl) (Nat.le_of_ble_eq_true rfl) (⟨f_61, v_50, v_51, v_52, v_53, v_54, v_55, tf_61, bv_50, bv_51, bv_53, bv_54, bv_55, g_56, (PS_x hf1 rx_64 (by omega)), (by have z_0 := g_20; have z_1 := g_47; have z_2 := g_58;have y_0 := hf0.1; have y_1 := g_18.1; have y_2 := g_46.1; have y_3 := g_56.1; omega), (RX_w rx_64 (by omega)), rfl⟩)
          · have b_65 : iv 0 0 r_33 := iv_q c_36 (iv_c (0 : Int32) (a := 0) (b := 0) (by decide))
            refine lv_aload_n hx hb dX10_readUnit_121 rfl (lv_at hl 1 rfl) ?_
            refine lv_bipush (v := 40) hx hb dX10_readUnit_122 (by decide) ?_
            refine jnI (wr := [(z 4, aI V 1025 f_11), (z 3, aI V 900 fz3)]) (rnV (rest := []) ⟨hx, hb, hml, hown, hg⟩ (k_X10_is_17 l V z pz0_0 pz0_5 v_12 v_13 pz0_8 v_14 v_15 v_16 v_17 pz0_13 pz0_14 pz0_18 pz0_19 pz0_22 pz0_23 pz0_29 bpz0_5 bv_12 bv_13 bpz0_8 bv_15 bv_16 bv_17 bpz0_13 bpz0_14 bpz0_18 bpz0_22 bpz0_29) mt_X10_is q_6_143 ⟨Nat.le_of_ble_eq_true rfl, Nat.le_of_ble_eq_true rfl⟩ hK hP hD hS hA hE [2] rfl rfl 2 rfl rfl rfl rfl hl.1 rfl (Nat.le_of_ble_eq_true rfl) dX10_readUnit_124 ⟨Nat.le_of_ble_eq_true rfl, Nat.le_of_ble_eq_true rfl⟩) hP hD hS hA [2] [0, 1] rfl rfl rfl (by decide) (fun r_66 w H locs hw hP hD hS => ?_)
            obtain ⟨br_66, g_67, g_68, rfl⟩ := hw
            have hP : va_P V.1 vwCl [(z 4, aI V 1025 f_11), (z 3, aI V 900 fz3), (z 0, .inr (10, mo z pz0_0 pz0_5 v_12 v_13 pz0_8 v_14 v_15 v_16 v_17 pz0_13 pz0_14 pz0_18 pz0_19 pz0_22 pz0_23 pz0_29))] H := hP
            have hD : va_D A [(z 4, aI V 1025 f_11), (z 3, aI V 900 fz3), (z 0, .inr (10, mo z pz0_0 pz0_5 v_12 v_13 pz0_8 v_14 v_15 v_16 v_17 pz0_13 pz0_14 pz0_18 pz0_19 pz0_22 pz0_23 pz0_29))] := hD
            refine lv_if_ne (tgt := 139) hx hb dX10_readUnit_127 (by decide) (fun c_69 => ?_) (fun c_69 => ?_)
            · have b_70 : iv 1 1 r_66 := iv_n0 c_69 br_66 (iv_c (0 : Int32) (a := 0) (b := 0) (by decide)) (by decide)
              have c_71 : v_16 = 0 := (g_67 (iv_eqp b_70 (iv_c (1 : Int32) (by decide))))
              have b_72 : iv 0 0 v_16 := iv_q c_71 (iv_c (0 : Int32) (a := 0) (b := 0) (by decide))
              have c_73 : v_14 = 40 := (g_68 (iv_eqp b_70 (iv_c (1 : Int32) (by decide))))
              have b_74 : iv 40 40 v_14 := iv_q c_73 (iv_c (40 : Int32) (a := 40) (b := 40) (by decide))
              refine lv_aload_n hx hb dX10_readUnit_139 rfl (lv_at hl 1 rfl) ?_
              refine jnV (wr := [(z 4, aI V 1025 f_11)]) (rnV (rest := []) ⟨hx, hb, hml, hown, hg⟩ (k_X10_next_0 l V z pz0_0 pz0_5 v_12 v_13 pz0_8 v_14 v_15 v_16 v_17 pz0_13 pz0_14 pz0_18 pz0_19 pz0_22 pz0_23 pz0_29 fz3 bpz0_5 bv_12 bv_13 bpz0_8 bv_15 (iv_w b_72 (by decide)) bv_17 bpz0_13 bpz0_14 bpz0_18 bpz0_22 bpz0_29 g_18.2.1) mt_X10_next q_6_117 ⟨Nat.le_of_ble_eq_true rfl, Nat.le_of_ble_eq_true rfl⟩ hK hP hD hS hA hE [2, 1] rfl rfl 2 rfl rfl rfl rfl hl.1 rfl (Nat.le_of_ble_eq_true rfl) dX10_readUnit_140 ⟨Nat.le_of_ble_eq_true rfl, Nat.le_of_ble_eq_true rfl⟩) hP hD hS hA [2, 1] [0] rfl rfl rfl (by decide) (fun  w H locs hw hP hD hS => ?_)
              obtain ⟨v_75, v_76, v_77, v_78, bv_75, bv_76, bv_78, g_79, g_80, rfl⟩ := hw
              have hP : va_P V.1 vwCl [(z 4, aI V 1025 f_11), (z 0, .inr (10, mo z pz0_0 pz0_5 v_75 v_76 pz0_8 v_77 v_78 v_16 v_17 pz0_13 pz0_14 pz0_18 pz0_19 pz0_22 pz0_23 pz0_29)), (z 3, aI V 900 fz3)] H := hP
              have hD : va_D A [(z 4, aI V 1025 f_11), (z 0, .inr (10, mo z pz0_0 pz0_5 v_75 v_76 pz0_8 v_77 v_78 v_16 v_17 pz0_13 pz0_14 pz0_18 pz0_19 pz0_22 pz0_23 pz0_29)), (z 3, aI V 900 fz3)] := hD
              have rx_81 : RX pz0_11 pz0_6 fz4 v_16 v_75 f_11 1 ((1 : Int)) := by have q9 := RX_a (a' := v_75) rx_22 (fun q8 => q8) (t := 1) (by have q9 := g_80; have q8 := g_18.2.2 (by rw [c_73]; decide); omega); exact RX_w q9 (by omega)
              refine lv_goto (tgt := 151) hx hb dX10_readUnit_143 (by decide) ?_
              refine lv_aload_n hx hb dX10_readUnit_151 rfl (lv_at hl 1 rfl) ?_
              refine lv_iload_n hx hb dX10_readUnit_152 rfl (lv_at hl 2 rfl) ?_
              refine jnV (wr := []) (rnV (rest := []) ⟨hx, hb, hml, hown, hg⟩ (k_X10_readSum_1 l V z f_11 fz3 pz0_0 pz0_5 v_75 v_76 pz0_8 v_77 v_78 v_16 v_17 pz0_13 pz0_14 pz0_18 pz0_19 pz0_22 pz0_23 pz0_29 tf_11 bpz0_5 bv_75 bv_76 bpz0_8 bv_78 (iv_w b_72 (by decide)) bv_17 bpz0_13 bpz0_14 bpz0_18 bpz0_22 bpz0_29 g_79 (PS_x hf1 rx_81 (by omega))) mt_X10_readSum q_6_187 ⟨Nat.le_of_ble_eq_true rfl, Nat.le_of_ble_eq_true rfl⟩ hK hP hD hS hA hE [0, 2, 1] rfl rfl 1 rfl rfl rfl rfl hl.1 rfl (Nat.le_of_ble_eq_true rfl) dX10_readUnit_153 ⟨Nat.le_of_ble_eq_true rfl, Nat.le_of_ble_eq_true rfl⟩) hP hD hS hA [0, 2, 1] [] rfl rfl rfl (by decide) (fun  w H locs hw hP hD hS => ?_)
              obtain ⟨f_82, v_83, v_84, v_85, v_86, v_87, v_88, tf_82, bv_83, bv_84, bv_86, bv_87, bv_88, g_89, g_90, g_91, g_92, rfl⟩ := hw
              have hP : va_P V.1 vwCl [(z 4, aI V 1025 f_82), (z 3, aI V 900 fz3), (z 0, .inr (10, mo z pz0_0 pz0_5 v_83 v_84 pz0_8 v_85 v_86 v_87 v_88 pz0_13 pz0_14 pz0_18 pz0_19 pz0_22 pz0_23 pz0_29))] H := hP
              have hD : va_D A [(z 4, aI V 1025 f_82), (z 3, aI V 900 fz3), (z 0, .inr (10, mo z pz0_0 pz0_5 v_83 v_84 pz0_8 v_85 v_86 v_87 v_88 pz0_13 pz0_14 pz0_18 pz0_19 pz0_22 pz0_23 pz0_29))] := hD
              have rx_93 : RX pz0_11 pz0_6 fz4 v_87 v_83 f_82 2 ((1 : Int)) := by have q9 := RX_seq (by decide) rx_81 g_92; exact RX_w q9 (by omega)
              refine lv_aload_n hx hb dX10_readUnit_156 rfl (lv_at hl 1 rfl) ?_
              refine lv_iload_n hx hb dX10_readUnit_157 rfl (lv_at hl 0 rfl) ?_
              refine jnV (wr := [(z 3, aI V 900 fz3)]) (rnV (rest := []) ⟨hx, hb, hml, hown, hg⟩ (k_X10_codes_0 l V z 3005 f_82 pz0_0 pz0_5 v_83 v_84 pz0_8 v_85 v_86 v_87 v_88 pz0_13 pz0_14 pz0_18 pz0_19 pz0_22 pz0_23 pz0_29 tf_82 bpz0_5 bv_83 bv_84 bpz0_8 bv_86 bv_87 bv_88 bpz0_13 bpz0_14 bpz0_18 bpz0_22 bpz0_29 (PS_n hf1 rx_93 bv_83 (by decide) (by omega))) mt_X10_codes q_6_199 ⟨Nat.le_of_ble_eq_true rfl, Nat.le_of_ble_eq_true rfl⟩ hK hP hD hS hA hE [0, 2] rfl rfl 2 rfl rfl rfl rfl hl.1 rfl (Nat.le_of_ble_eq_true rfl) dX10_readUnit_158 ⟨Nat.le_of_ble_eq_true rfl, Nat.le_of_ble_eq_true rfl⟩) hP hD hS hA [0, 2] [1] rfl rfl rfl (by decide) (fun  w H locs hw hP hD hS => ?_)
              obtain ⟨f_94, tf_94, g_95, g_96, rfl⟩ := hw
              have hP : va_P V.1 vwCl [(z 3, aI V 900 fz3), (z 4, aI V 1025 f_94), (z 0, .inr (10, mo z pz0_0 pz0_5 v_83 v_84 pz0_8 v_85 v_86 v_87 v_88 pz0_13 pz0_14 pz0_18 pz0_19 pz0_22 pz0_23 pz0_29))] H := hP
              have hD : va_D A [(z 3, aI V 900 fz3), (z 4, aI V 1025 f_94), (z 0, .inr (10, mo z pz0_0 pz0_5 v_83 v_84 pz0_8 v_85 v_86 v_87 v_88 pz0_13 pz0_14 pz0_18 pz0_19 pz0_22 pz0_23 pz0_29))] := hD
              have rx_97 : RX pz0_11 pz0_6 fz4 v_87 v_83 f_94 1 ((0 : Int)) := by have q9 := RX_c rx_93 tf_82 g_95 (by decide) ⟨by decide, by decide⟩ (by decide) (PS_n hf1 rx_93 bv_83 (by decide) (by omega)); rw [(by decide : eff (3005 : Int32) = -1)] at q9; exact RX_w q9 (by omega)
              have hP := subP (ws' := [(z 4, aI V 1025 f_94), (z 3, aI V 900 fz3), (z 0, .inr (10, mo z pz0_0 pz0_5 v_83 v_84 pz0_8 v_85 v_86 v_87 v_88 pz0_13 pz0_14 pz0_18 pz0_19 pz0_22 pz0_23 pz0_29))]) hP [1, 0, 2] rfl
              have hD := hD.sub (ws' := [(z 4, aI V 1025 f_94), (z 3, aI V 900 fz3), (z 0, .inr (10, mo z pz0_0 pz0_5 v_83 v_84 pz0_8 v_85 v_86 v_87 v_88 pz0_13 pz0_14 pz0_18 pz0_19 pz0_22 pz0_23 pz0_29))]) [1, 0, 2] rfl rfl
              exact fiV hx hb hr hlk hK hP hD hS dX10_readUnit_161 (Nat.le_of_ble_eq_true rfl) (Nat.le_of_ble_eq_true rfl) (⟨f_94, v_83, v_84, v_85, v_86, v_87, v_88, tf_94, bv_83, bv_84, bv_86, bv_87, bv_88, g_89, (PS_x hf1 rx_97 (by omega)), (by have z_0 := g_20; have z_1 := g_80; have z_2 := g_91;have y_0 := hf0.1; have y_1 := g_18.1; have y_2 := g_79.1; have y_3 := g_89.1; omega), (RX_w rx_97 (by omega)), rfl⟩)
            · have b_98 : iv 0 0 r_66 := iv_q c_69 (iv_c (0 : Int32) (a := 0) (b := 0) (by decide))
              refine lv_aload_n hx hb dX10_readUnit_130 rfl (lv_at hl 1 rfl) ?_
              refine lv_bipush (v := 41) hx hb dX10_readUnit_131 (by decide) ?_
              refine jnI (wr := [(z 4, aI V 1025 f_11), (z 3, aI V 900 fz3)]) (rnV (rest := []) ⟨hx, hb, hml, hown, hg⟩ (k_X10_is_18 l V z pz0_0 pz0_5 v_12 v_13 pz0_8 v_14 v_15 v_16 v_17 pz0_13 pz0_14 pz0_18 pz0_19 pz0_22 pz0_23 pz0_29 bpz0_5 bv_12 bv_13 bpz0_8 bv_15 bv_16 bv_17 bpz0_13 bpz0_14 bpz0_18 bpz0_22 bpz0_29) mt_X10_is q_6_143 ⟨Nat.le_of_ble_eq_true rfl, Nat.le_of_ble_eq_true rfl⟩ hK hP hD hS hA hE [2] rfl rfl 2 rfl rfl rfl rfl hl.1 rfl (Nat.le_of_ble_eq_true rfl) dX10_readUnit_133 ⟨Nat.le_of_ble_eq_true rfl, Nat.le_of_ble_eq_true rfl⟩) hP hD hS hA [2] [0, 1] rfl rfl rfl (by decide) (fun r_99 w H locs hw hP hD hS => ?_)
              obtain ⟨br_99, g_100, g_101, rfl⟩ := hw
              have hP : va_P V.1 vwCl [(z 4, aI V 1025 f_11), (z 3, aI V 900 fz3), (z 0, .inr (10, mo z pz0_0 pz0_5 v_12 v_13 pz0_8 v_14 v_15 v_16 v_17 pz0_13 pz0_14 pz0_18 pz0_19 pz0_22 pz0_23 pz0_29))] H := hP
              have hD : va_D A [(z 4, aI V 1025 f_11), (z 3, aI V 900 fz3), (z 0, .inr (10, mo z pz0_0 pz0_5 v_12 v_13 pz0_8 v_14 v_15 v_16 v_17 pz0_13 pz0_14 pz0_18 pz0_19 pz0_22 pz0_23 pz0_29))] := hD
              refine lv_if_eq (tgt := 146) hx hb dX10_readUnit_136 (by decide) (fun c_102 => ?_) (fun c_102 => ?_)
              · have b_103 : iv 0 0 r_99 := iv_q c_102 (iv_c (0 : Int32) (a := 0) (b := 0) (by decide))
                refine lv_aload_n hx hb dX10_readUnit_146 rfl (lv_at hl 1 rfl) ?_
                refine lv_iconst (v := 2) hx hb dX10_readUnit_147 (by decide) ?_
                refine jnV (wr := [(z 4, aI V 1025 f_11), (z 3, aI V 900 fz3)]) (rnV (rest := []) ⟨hx, hb, hml, hown, hg⟩ (k_X10_fails_0 l V z 2 pz0_0 pz0_5 v_12 v_13 pz0_8 v_14 v_15 v_16 v_17 pz0_13 pz0_14 pz0_18 pz0_19 pz0_22 pz0_23 pz0_29 (iv_c (2 : Int32) (by decide)) bpz0_5 bv_12 bv_13 bpz0_8 bv_15 bv_16 bv_17 bpz0_13 bpz0_14 bpz0_18 bpz0_22 bpz0_29) mt_X10_fails q_6_147 ⟨Nat.le_of_ble_eq_true rfl, Nat.le_of_ble_eq_true rfl⟩ hK hP hD hS hA hE [2] rfl rfl 2 rfl rfl rfl rfl hl.1 rfl (Nat.le_of_ble_eq_true rfl) dX10_readUnit_148 ⟨Nat.le_of_ble_eq_true rfl, Nat.le_of_ble_eq_true rfl⟩) hP hD hS hA [2] [0, 1] rfl rfl rfl (by decide) (fun  w H locs hw hP hD hS => ?_)
                obtain ⟨v_104, v_105, bv_104, bv_105, rfl⟩ := hw
                have hP : va_P V.1 vwCl [(z 4, aI V 1025 f_11), (z 3, aI V 900 fz3), (z 0, .inr (10, mo z pz0_0 pz0_5 v_12 v_13 pz0_8 v_14 v_15 v_104 v_105 pz0_13 pz0_14 pz0_18 pz0_19 pz0_22 pz0_23 pz0_29))] H := hP
                have hD : va_D A [(z 4, aI V 1025 f_11), (z 3, aI V 900 fz3), (z 0, .inr (10, mo z pz0_0 pz0_5 v_12 v_13 pz0_8 v_14 v_15 v_104 v_105 pz0_13 pz0_14 pz0_18 pz0_19 pz0_22 pz0_23 pz0_29))] := hD
                have rx_106 : RX pz0_11 pz0_6 fz4 v_104 v_12 f_11 1 ((9 : Int)) := RX_f bv_104 (by decide)
                refine lv_aload_n hx hb dX10_readUnit_151 rfl (lv_at hl 1 rfl) ?_
                refine lv_iload_n hx hb dX10_readUnit_152 rfl (lv_at hl 2 rfl) ?_
                refine jnV (wr := []) (rnV (rest := []) ⟨hx, hb, hml, hown, hg⟩ (k_X10_readSum_1 l V z f_11 fz3 pz0_0 pz0_5 v_12 v_13 pz0_8 v_14 v_15 v_104 v_105 pz0_13 pz0_14 pz0_18 pz0_19 pz0_22 pz0_23 pz0_29 tf_11 bpz0_5 bv_12 bv_13 bpz0_8 bv_15 (iv_w bv_104 (by decide)) bv_105 bpz0_13 bpz0_14 bpz0_18 bpz0_22 bpz0_29 g_18 (PS_f bv_104 (by decide))) mt_X10_readSum q_6_187 ⟨Nat.le_of_ble_eq_true rfl, Nat.le_of_ble_eq_true rfl⟩ hK hP hD hS hA hE [0, 1, 2] rfl rfl 2 rfl rfl rfl rfl hl.1 rfl (Nat.le_of_ble_eq_true rfl) dX10_readUnit_153 ⟨Nat.le_of_ble_eq_true rfl, Nat.le_of_ble_eq_true rfl⟩) hP hD hS hA [0, 1, 2] [] rfl rfl rfl (by decide) (fun  w H locs hw hP hD hS => ?_)
                obtain ⟨f_107, v_108, v_109, v_110, v_111, v_112, v_113, tf_107, bv_108, bv_109, bv_111, bv_112, bv_113, g_114, g_115, g_116, g_117, rfl⟩ := hw
                have hP : va_P V.1 vwCl [(z 4, aI V 1025 f_107), (z 3, aI V 900 fz3), (z 0, .inr (10, mo z pz0_0 pz0_5 v_108 v_109 pz0_8 v_110 v_111 v_112 v_113 pz0_13 pz0_14 pz0_18 pz0_19 pz0_22 pz0_23 pz0_29))] H := hP
                have hD : va_D A [(z 4, aI V 1025 f_107), (z 3, aI V 900 fz3), (z 0, .inr (10, mo z pz0_0 pz0_5 v_108 v_109 pz0_8 v_110 v_111 v_112 v_113 pz0_13 pz0_14 pz0_18 pz0_19 pz0_22 pz0_23 pz0_29))] := hD
                have rx_118 : RX pz0_11 pz0_6 fz4 v_112 v_108 f_107 2 ((9 : Int)) := by have q9 := RX_seq (by decide) rx_106 g_117; exact RX_w q9 (by omega)
                refine lv_aload_n hx hb dX10_readUnit_156 rfl (lv_at hl 1 rfl) ?_
                refine lv_iload_n hx hb dX10_readUnit_157 rfl (lv_at hl 0 rfl) ?_
                refine jnV (wr := [(z 3, aI V 900 fz3)]) (rnV (rest := []) ⟨hx, hb, hml, hown, hg⟩ (k_X10_codes_0 l V z 3005 f_107 pz0_0 pz0_5 v_108 v_109 pz0_8 v_110 v_111 v_112 v_113 pz0_13 pz0_14 pz0_18 pz0_19 pz0_22 pz0_23 pz0_29 tf_107 bpz0_5 bv_108 bv_109 bpz0_8 bv_111 bv_112 bv_113 bpz0_13 bpz0_14 bpz0_18 bpz0_22 bpz0_29 (PS_n hf1 rx_118 bv_108 (by decide) (by omega))) mt_X10_codes q_6_199 ⟨Nat.le_of_ble_eq_true rfl, Nat.le_of_ble_eq_true rfl⟩ hK hP hD hS hA hE [0, 2] rfl rfl 2 rfl rfl rfl rfl hl.1 rfl (Nat.le_of_ble_eq_true rfl) dX10_readUnit_158 ⟨Nat.le_of_ble_eq_true rfl, Nat.le_of_ble_eq_true rfl⟩) hP hD hS hA [0, 2] [1] rfl rfl rfl (by decide) (fun  w H locs hw hP hD hS => ?_)
                obtain ⟨f_119, tf_119, g_120, g_121, rfl⟩ := hw
                have hP : va_P V.1 vwCl [(z 3, aI V 900 fz3), (z 4, aI V 1025 f_119), (z 0, .inr (10, mo z pz0_0 pz0_5 v_108 v_109 pz0_8 v_110 v_111 v_112 v_113 pz0_13 pz0_14 pz0_18 pz0_19 pz0_22 pz0_23 pz0_29))] H := hP
                have hD : va_D A [(z 3, aI V 900 fz3), (z 4, aI V 1025 f_119), (z 0, .inr (10, mo z pz0_0 pz0_5 v_108 v_109 pz0_8 v_110 v_111 v_112 v_113 pz0_13 pz0_14 pz0_18 pz0_19 pz0_22 pz0_23 pz0_29))] := hD
                have rx_122 : RX pz0_11 pz0_6 fz4 v_112 v_108 f_119 1 ((8 : Int)) := by have q9 := RX_c rx_118 tf_107 g_120 (by decide) ⟨by decide, by decide⟩ (by decide) (PS_n hf1 rx_118 bv_108 (by decide) (by omega)); rw [(by decide : eff (3005 : Int32) = -1)] at q9; exact RX_w q9 (by omega)
                have hP := subP (ws' := [(z 4, aI V 1025 f_119), (z 3, aI V 900 fz3), (z 0, .inr (10, mo z pz0_0 pz0_5 v_108 v_109 pz0_8 v_110 v_111 v_112 v_113 pz0_13 pz0_14 pz0_18 pz0_19 pz0_22 pz0_23 pz0_29))]) hP [1, 0, 2] rfl
                have hD := hD.sub (ws' := [(z 4, aI V 1025 f_119), (z 3, aI V 900 fz3), (z 0, .inr (10, mo z pz0_0 pz0_5 v_108 v_109 pz0_8 v_110 v_111 v_112 v_113 pz0_13 pz0_14 pz0_18 pz0_19 pz0_22 pz0_23 pz0_29))]) [1, 0, 2] rfl rfl
                exact fiV hx hb hr hlk hK hP hD hS dX10_readUnit_161 (Nat.le_of_ble_eq_true rfl) (Nat.le_of_ble_eq_true rfl) (⟨f_119, v_108, v_109, v_110, v_111, v_112, v_113, tf_119, bv_108, bv_109, bv_111, bv_112, bv_113, g_114, (PS_x hf1 rx_122 (by omega)), (by have z_0 := g_20; have z_1 := g_116;have y_0 := hf0.1; have y_1 := g_18.1; have y_2 := g_114.1; omega), (RX_w rx_122 (by omega)), rfl⟩)
              · have b_123 : iv 1 1 r_99 := iv_n0 c_102 br_99 (iv_c (0 : Int32) (a := 0) (b := 0) (by decide)) (by decide)
                have c_124 : v_16 = 0 := (g_100 (iv_eqp b_123 (iv_c (1 : Int32) (by decide))))
                have b_125 : iv 0 0 v_16 := iv_q c_124 (iv_c (0 : Int32) (a := 0) (b := 0) (by decide))
                have c_126 : v_14 = 41 := (g_101 (iv_eqp b_123 (iv_c (1 : Int32) (by decide))))
                have b_127 : iv 41 41 v_14 := iv_q c_126 (iv_c (41 : Int32) (a := 41) (b := 41) (by decide))
                refine lv_aload_n hx hb dX10_readUnit_139 rfl (lv_at hl 1 rfl) ?_
                refine jnV (wr := [(z 4, aI V 1025 f_11)]) (rnV (rest := []) ⟨hx, hb, hml, hown, hg⟩ (k_X10_next_0 l V z pz0_0 pz0_5 v_12 v_13 pz0_8 v_14 v_15 v_16 v_17 pz0_13 pz0_14 pz0_18 pz0_19 pz0_22 pz0_23 pz0_29 fz3 bpz0_5 bv_12 bv_13 bpz0_8 bv_15 (iv_w b_125 (by decide)) bv_17 bpz0_13 bpz0_14 bpz0_18 bpz0_22 bpz0_29 g_18.2.1) mt_X10_next q_6_117 ⟨Nat.le_of_ble_eq_true rfl, Nat.le_of_ble_eq_true rfl⟩ hK hP hD hS hA hE [2, 1] rfl rfl 2 rfl rfl rfl rfl hl.1 rfl (Nat.le_of_ble_eq_true rfl) dX10_readUnit_140 ⟨Nat.le_of_ble_eq_true rfl, Nat.le_of_ble_eq_true rfl⟩) hP hD hS hA [2, 1] [0] rfl rfl rfl (by decide) (fun  w H locs hw hP hD hS => ?_)
                obtain ⟨v_128, v_129, v_130, v_131, bv_128, bv_129, bv_131, g_132, g_133, rfl⟩ := hw
                have hP : va_P V.1 vwCl [(z 4, aI V 1025 f_11), (z 0, .inr (10, mo z pz0_0 pz0_5 v_128 v_129 pz0_8 v_130 v_131 v_16 v_17 pz0_13 pz0_14 pz0_18 pz0_19 pz0_22 pz0_23 pz0_29)), (z 3, aI V 900 fz3)] H := hP
                have hD : va_D A [(z 4, aI V 1025 f_11), (z 0, .inr (10, mo z pz0_0 pz0_5 v_128 v_129 pz0_8 v_130 v_131 v_16 v_17 pz0_13 pz0_14 pz0_18 pz0_19 pz0_22 pz0_23 pz0_29)), (z 3, aI V 900 fz3)] := hD
                have rx_134 : RX pz0_11 pz0_6 fz4 v_16 v_128 f_11 1 ((1 : Int)) := by have q9 := RX_a (a' := v_128) rx_22 (fun q8 => q8) (t := 1) (by have q9 := g_133; have q8 := g_18.2.2 (by rw [c_126]; decide); omega); exact RX_w q9 (by omega)
                refine lv_goto (tgt := 151) hx hb dX10_readUnit_143 (by decide) ?_
                refine lv_aload_n hx hb dX10_readUnit_151 rfl (lv_at hl 1 rfl) ?_
                refine lv_iload_n hx hb dX10_readUnit_152 rfl (lv_at hl 2 rfl) ?_
                refine jnV (wr := []) (rnV (rest := []) ⟨hx, hb, hml, hown, hg⟩ (k_X10_readSum_1 l V z f_11 fz3 pz0_0 pz0_5 v_128 v_129 pz0_8 v_130 v_131 v_16 v_17 pz0_13 pz0_14 pz0_18 pz0_19 pz0_22 pz0_23 pz0_29 tf_11 bpz0_5 bv_128 bv_129 bpz0_8 bv_131 (iv_w b_125 (by decide)) bv_17 bpz0_13 bpz0_14 bpz0_18 bpz0_22 bpz0_29 g_132 (PS_x hf1 rx_134 (by omega))) mt_X10_readSum q_6_187 ⟨Nat.le_of_ble_eq_true rfl, Nat.le_of_ble_eq_true rfl⟩ hK hP hD hS hA hE [0, 2, 1] rfl rfl 1 rfl rfl rfl rfl hl.1 rfl (Nat.le_of_ble_eq_true rfl) dX10_readUnit_153 ⟨Nat.le_of_ble_eq_true rfl, Nat.le_of_ble_eq_true rfl⟩) hP hD hS hA [0, 2, 1] [] rfl rfl rfl (by decide) (fun  w H locs hw hP hD hS => ?_)
                obtain ⟨f_135, v_136, v_137, v_138, v_139, v_140, v_141, tf_135, bv_136, bv_137, bv_139, bv_140, bv_141, g_142, g_143, g_144, g_145, rfl⟩ := hw
                have hP : va_P V.1 vwCl [(z 4, aI V 1025 f_135), (z 3, aI V 900 fz3), (z 0, .inr (10, mo z pz0_0 pz0_5 v_136 v_137 pz0_8 v_138 v_139 v_140 v_141 pz0_13 pz0_14 pz0_18 pz0_19 pz0_22 pz0_23 pz0_29))] H := hP
                have hD : va_D A [(z 4, aI V 1025 f_135), (z 3, aI V 900 fz3), (z 0, .inr (10, mo z pz0_0 pz0_5 v_136 v_137 pz0_8 v_138 v_139 v_140 v_141 pz0_13 pz0_14 pz0_18 pz0_19 pz0_22 pz0_23 pz0_29))] := hD
                have rx_146 : RX pz0_11 pz0_6 fz4 v_140 v_136 f_135 2 ((1 : Int)) := by have q9 := RX_seq (by decide) rx_134 g_145; exact RX_w q9 (by omega)
                refine lv_aload_n hx hb dX10_readUnit_156 rfl (lv_at hl 1 rfl) ?_
                refine lv_iload_n hx hb dX10_readUnit_157 rfl (lv_at hl 0 rfl) ?_
                refine jnV (wr := [(z 3, aI V 900 fz3)]) (rnV (rest := []) ⟨hx, hb, hml, hown, hg⟩ (k_X10_codes_0 l V z 3005 f_135 pz0_0 pz0_5 v_136 v_137 pz0_8 v_138 v_139 v_140 v_141 pz0_13 pz0_14 pz0_18 pz0_19 pz0_22 pz0_23 pz0_29 tf_135 bpz0_5 bv_136 bv_137 bpz0_8 bv_139 bv_140 bv_141 bpz0_13 bpz0_14 bpz0_18 bpz0_22 bpz0_29 (PS_n hf1 rx_146 bv_136 (by decide) (by omega))) mt_X10_codes q_6_199 ⟨Nat.le_of_ble_eq_true rfl, Nat.le_of_ble_eq_true rfl⟩ hK hP hD hS hA hE [0, 2] rfl rfl 2 rfl rfl rfl rfl hl.1 rfl (Nat.le_of_ble_eq_true rfl) dX10_readUnit_158 ⟨Nat.le_of_ble_eq_true rfl, Nat.le_of_ble_eq_true rfl⟩) hP hD hS hA [0, 2] [1] rfl rfl rfl (by decide) (fun  w H locs hw hP hD hS => ?_)
                obtain ⟨f_147, tf_147, g_148, g_149, rfl⟩ := hw
                have hP : va_P V.1 vwCl [(z 3, aI V 900 fz3), (z 4, aI V 1025 f_147), (z 0, .inr (10, mo z pz0_0 pz0_5 v_136 v_137 pz0_8 v_138 v_139 v_140 v_141 pz0_13 pz0_14 pz0_18 pz0_19 pz0_22 pz0_23 pz0_29))] H := hP
                have hD : va_D A [(z 3, aI V 900 fz3), (z 4, aI V 1025 f_147), (z 0, .inr (10, mo z pz0_0 pz0_5 v_136 v_137 pz0_8 v_138 v_139 v_140 v_141 pz0_13 pz0_14 pz0_18 pz0_19 pz0_22 pz0_23 pz0_29))] := hD
                have rx_150 : RX pz0_11 pz0_6 fz4 v_140 v_136 f_147 1 ((0 : Int)) := by have q9 := RX_c rx_146 tf_135 g_148 (by decide) ⟨by decide, by decide⟩ (by decide) (PS_n hf1 rx_146 bv_136 (by decide) (by omega)); rw [(by decide : eff (3005 : Int32) = -1)] at q9; exact RX_w q9 (by omega)
                have hP := subP (ws' := [(z 4, aI V 1025 f_147), (z 3, aI V 900 fz3), (z 0, .inr (10, mo z pz0_0 pz0_5 v_136 v_137 pz0_8 v_138 v_139 v_140 v_141 pz0_13 pz0_14 pz0_18 pz0_19 pz0_22 pz0_23 pz0_29))]) hP [1, 0, 2] rfl
                have hD := hD.sub (ws' := [(z 4, aI V 1025 f_147), (z 3, aI V 900 fz3), (z 0, .inr (10, mo z pz0_0 pz0_5 v_136 v_137 pz0_8 v_138 v_139 v_140 v_141 pz0_13 pz0_14 pz0_18 pz0_19 pz0_22 pz0_23 pz0_29))]) [1, 0, 2] rfl rfl
                exact fiV hx hb hr hlk hK hP hD hS dX10_readUnit_161 (Nat.le_of_ble_eq_true rfl) (Nat.le_of_ble_eq_true rfl) (⟨f_147, v_136, v_137, v_138, v_139, v_140, v_141, tf_147, bv_136, bv_137, bv_139, bv_140, bv_141, g_142, (PS_x hf1 rx_150 (by omega)), (by have z_0 := g_20; have z_1 := g_133; have z_2 := g_144;have y_0 := hf0.1; have y_1 := g_18.1; have y_2 := g_132.1; have y_3 := g_142.1; omega), (RX_w rx_150 (by omega)), rfl⟩)
        · have b_151 : iv 1 1 r_28 := iv_n0 c_31 br_28 (iv_c (0 : Int32) (a := 0) (b := 0) (by decide)) (by decide)
          have c_152 : v_16 = 0 := (g_29 (iv_eqp b_151 (iv_c (1 : Int32) (by decide))))
          have b_153 : iv 0 0 v_16 := iv_q c_152 (iv_c (0 : Int32) (a := 0) (b := 0) (by decide))
          have c_154 : v_14 = 40 := (g_30 (iv_eqp b_151 (iv_c (1 : Int32) (by decide))))
          have b_155 : iv 40 40 v_14 := iv_q c_154 (iv_c (40 : Int32) (a := 40) (b := 40) (by decide))
          refine lv_sipush (v := 3004) hx hb dX10_readUnit_102 (by decide) ?_
          refine lv_goto (tgt := 111) hx hb dX10_readUnit_105 (by decide) ?_
          refine lv_istore_n (lv' := [(2, .int 3004), (0, .ref (z 0)), (1, .int 5)]) hx hb dX10_readUnit_111 rfl hl (by decide) rfl (fun ls hl => ?_)
          refine lv_aload_n hx hb dX10_readUnit_112 rfl (lv_at hl 1 rfl) ?_
          refine lv_bipush (v := 39) hx hb dX10_readUnit_113 (by decide) ?_
          refine jnI (wr := [(z 4, aI V 1025 f_11), (z 3, aI V 900 fz3)]) (rnV (rest := []) ⟨hx, hb, hml, hown, hg⟩ (k_X10_is_16 l V z pz0_0 pz0_5 v_12 v_13 pz0_8 v_14 v_15 v_16 v_17 pz0_13 pz0_14 pz0_18 pz0_19 pz0_22 pz0_23 pz0_29 bpz0_5 bv_12 bv_13 bpz0_8 bv_15 (iv_w b_153 (by decide)) bv_17 bpz0_13 bpz0_14 bpz0_18 bpz0_22 bpz0_29) mt_X10_is q_6_143 ⟨Nat.le_of_ble_eq_true rfl, Nat.le_of_ble_eq_true rfl⟩ hK hP hD hS hA hE [2] rfl rfl 2 rfl rfl rfl rfl hl.1 rfl (Nat.le_of_ble_eq_true rfl) dX10_readUnit_115 ⟨Nat.le_of_ble_eq_true rfl, Nat.le_of_ble_eq_true rfl⟩) hP hD hS hA [2] [0, 1] rfl rfl rfl (by decide) (fun r_156 w H locs hw hP hD hS => ?_)
          obtain ⟨br_156, g_157, g_158, rfl⟩ := hw
          have hP : va_P V.1 vwCl [(z 4, aI V 1025 f_11), (z 3, aI V 900 fz3), (z 0, .inr (10, mo z pz0_0 pz0_5 v_12 v_13 pz0_8 v_14 v_15 v_16 v_17 pz0_13 pz0_14 pz0_18 pz0_19 pz0_22 pz0_23 pz0_29))] H := hP
          have hD : va_D A [(z 4, aI V 1025 f_11), (z 3, aI V 900 fz3), (z 0, .inr (10, mo z pz0_0 pz0_5 v_12 v_13 pz0_8 v_14 v_15 v_16 v_17 pz0_13 pz0_14 pz0_18 pz0_19 pz0_22 pz0_23 pz0_29))] := hD
          refine lv_if_ne (tgt := 139) hx hb dX10_readUnit_118 (by decide) (fun c_159 => ?_) (fun c_159 => ?_)
          · have b_160 : iv 1 1 r_156 := iv_n0 c_159 br_156 (iv_c (0 : Int32) (a := 0) (b := 0) (by decide)) (by decide)
            have c_161 : v_16 = 0 := (g_157 (iv_eqp b_160 (iv_c (1 : Int32) (by decide))))
            have c_162 : v_14 = 39 := (g_158 (iv_eqp b_160 (iv_c (1 : Int32) (by decide))))
            have b_163 : iv 39 39 v_14 := iv_q c_162 (iv_c (39 : Int32) (a := 39) (b := 39) (by decide))
            refine lv_aload_n hx hb dX10_readUnit_139 rfl (lv_at hl 1 rfl) ?_
            refine jnV (wr := [(z 4, aI V 1025 f_11)]) (rnV (rest := []) ⟨hx, hb, hml, hown, hg⟩ (k_X10_next_0 l V z pz0_0 pz0_5 v_12 v_13 pz0_8 v_14 v_15 v_16 v_17 pz0_13 pz0_14 pz0_18 pz0_19 pz0_22 pz0_23 pz0_29 fz3 bpz0_5 bv_12 bv_13 bpz0_8 bv_15 (iv_w b_153 (by decide)) bv_17 bpz0_13 bpz0_14 bpz0_18 bpz0_22 bpz0_29 g_18.2.1) mt_X10_next q_6_117 ⟨Nat.le_of_ble_eq_true rfl, Nat.le_of_ble_eq_true rfl⟩ hK hP hD hS hA hE [2, 1] rfl rfl 2 rfl rfl rfl rfl hl.1 rfl (Nat.le_of_ble_eq_true rfl) dX10_readUnit_140 ⟨Nat.le_of_ble_eq_true rfl, Nat.le_of_ble_eq_true rfl⟩) hP hD hS hA [2, 1] [0] rfl rfl rfl (by decide) (fun  w H locs hw hP hD hS => ?_)
            obtain ⟨v_164, v_165, v_166, v_167, bv_164, bv_165, bv_167, g_168, g_169, rfl⟩ := hw
            have hP : va_P V.1 vwCl [(z 4, aI V 1025 f_11), (z 0, .inr (10, mo z pz0_0 pz0_5 v_164 v_165 pz0_8 v_166 v_167 v_16 v_17 pz0_13 pz0_14 pz0_18 pz0_19 pz0_22 pz0_23 pz0_29)), (z 3, aI V 900 fz3)] H := hP
            have hD : va_D A [(z 4, aI V 1025 f_11), (z 0, .inr (10, mo z pz0_0 pz0_5 v_164 v_165 pz0_8 v_166 v_167 v_16 v_17 pz0_13 pz0_14 pz0_18 pz0_19 pz0_22 pz0_23 pz0_29)), (z 3, aI V 900 fz3)] := hD
            have rx_170 : RX pz0_11 pz0_6 fz4 v_16 v_164 f_11 1 ((1 : Int)) := by have q9 := RX_a (a' := v_164) rx_22 (fun q8 => q8) (t := 1) (by have q9 := g_169; have q8 := g_18.2.2 (by rw [c_162]; decide); omega); exact RX_w q9 (by omega)
            refine lv_goto (tgt := 151) hx hb dX10_readUnit_143 (by decide) ?_
            refine lv_aload_n hx hb dX10_readUnit_151 rfl (lv_at hl 1 rfl) ?_
            refine lv_iload_n hx hb dX10_readUnit_152 rfl (lv_at hl 2 rfl) ?_
            refine jnV (wr := []) (rnV (rest := []) ⟨hx, hb, hml, hown, hg⟩ (k_X10_readSum_1 l V z f_11 fz3 pz0_0 pz0_5 v_164 v_165 pz0_8 v_166 v_167 v_16 v_17 pz0_13 pz0_14 pz0_18 pz0_19 pz0_22 pz0_23 pz0_29 tf_11 bpz0_5 bv_164 bv_165 bpz0_8 bv_167 (iv_w b_153 (by decide)) bv_17 bpz0_13 bpz0_14 bpz0_18 bpz0_22 bpz0_29 g_168 (PS_x hf1 rx_170 (by omega))) mt_X10_readSum q_6_187 ⟨Nat.le_of_ble_eq_true rfl, Nat.le_of_ble_eq_true rfl⟩ hK hP hD hS hA hE [0, 2, 1] rfl rfl 1 rfl rfl rfl rfl hl.1 rfl (Nat.le_of_ble_eq_true rfl) dX10_readUnit_153 ⟨Nat.le_of_ble_eq_true rfl, Nat.le_of_ble_eq_true rfl⟩) hP hD hS hA [0, 2, 1] [] rfl rfl rfl (by decide) (fun  w H locs hw hP hD hS => ?_)
            obtain ⟨f_171, v_172, v_173, v_174, v_175, v_176, v_177, tf_171, bv_172, bv_173, bv_175, bv_176, bv_177, g_178, g_179, g_180, g_181, rfl⟩ := hw
            have hP : va_P V.1 vwCl [(z 4, aI V 1025 f_171), (z 3, aI V 900 fz3), (z 0, .inr (10, mo z pz0_0 pz0_5 v_172 v_173 pz0_8 v_174 v_175 v_176 v_177 pz0_13 pz0_14 pz0_18 pz0_19 pz0_22 pz0_23 pz0_29))] H := hP
            have hD : va_D A [(z 4, aI V 1025 f_171), (z 3, aI V 900 fz3), (z 0, .inr (10, mo z pz0_0 pz0_5 v_172 v_173 pz0_8 v_174 v_175 v_176 v_177 pz0_13 pz0_14 pz0_18 pz0_19 pz0_22 pz0_23 pz0_29))] := hD
            have rx_182 : RX pz0_11 pz0_6 fz4 v_176 v_172 f_171 2 ((1 : Int)) := by have q9 := RX_seq (by decide) rx_170 g_181; exact RX_w q9 (by omega)
            refine lv_aload_n hx hb dX10_readUnit_156 rfl (lv_at hl 1 rfl) ?_
            refine lv_iload_n hx hb dX10_readUnit_157 rfl (lv_at hl 0 rfl) ?_
            refine jnV (wr := [(z 3, aI V 900 fz3)]) (rnV (rest := []) ⟨hx, hb, hml, hown, hg⟩ (k_X10_codes_0 l V z 3004 f_171 pz0_0 pz0_5 v_172 v_173 pz0_8 v_174 v_175 v_176 v_177 pz0_13 pz0_14 pz0_18 pz0_19 pz0_22 pz0_23 pz0_29 tf_171 bpz0_5 bv_172 bv_173 bpz0_8 bv_175 bv_176 bv_177 bpz0_13 bpz0_14 bpz0_18 bpz0_22 bpz0_29 (PS_n hf1 rx_182 bv_172 (by decide) (by omega))) mt_X10_codes q_6_199 ⟨Nat.le_of_ble_eq_true rfl, Nat.le_of_ble_eq_true rfl⟩ hK hP hD hS hA hE [0, 2] rfl rfl 2 rfl rfl rfl rfl hl.1 rfl (Nat.le_of_ble_eq_true rfl) dX10_readUnit_158 ⟨Nat.le_of_ble_eq_true rfl, Nat.le_of_ble_eq_true rfl⟩) hP hD hS hA [0, 2] [1] rfl rfl rfl (by decide) (fun  w H locs hw hP hD hS => ?_)
            obtain ⟨f_183, tf_183, g_184, g_185, rfl⟩ := hw
            have hP : va_P V.1 vwCl [(z 3, aI V 900 fz3), (z 4, aI V 1025 f_183), (z 0, .inr (10, mo z pz0_0 pz0_5 v_172 v_173 pz0_8 v_174 v_175 v_176 v_177 pz0_13 pz0_14 pz0_18 pz0_19 pz0_22 pz0_23 pz0_29))] H := hP
            have hD : va_D A [(z 3, aI V 900 fz3), (z 4, aI V 1025 f_183), (z 0, .inr (10, mo z pz0_0 pz0_5 v_172 v_173 pz0_8 v_174 v_175 v_176 v_177 pz0_13 pz0_14 pz0_18 pz0_19 pz0_22 pz0_23 pz0_29))] := hD
            have rx_186 : RX pz0_11 pz0_6 fz4 v_176 v_172 f_183 1 ((0 : Int)) := by have q9 := RX_c rx_182 tf_171 g_184 (by decide) ⟨by decide, by decide⟩ (by decide) (PS_n hf1 rx_182 bv_172 (by decide) (by omega)); rw [(by decide : eff (3004 : Int32) = -1)] at q9; exact RX_w q9 (by omega)
            have hP := subP (ws' := [(z 4, aI V 1025 f_183), (z 3, aI V 900 fz3), (z 0, .inr (10, mo z pz0_0 pz0_5 v_172 v_173 pz0_8 v_174 v_175 v_176 v_177 pz0_13 pz0_14 pz0_18 pz0_19 pz0_22 pz0_23 pz0_29))]) hP [1, 0, 2] rfl
            have hD := hD.sub (ws' := [(z 4, aI V 1025 f_183), (z 3, aI V 900 fz3), (z 0, .inr (10, mo z pz0_0 pz0_5 v_172 v_173 pz0_8 v_174 v_175 v_176 v_177 pz0_13 pz0_14 pz0_18 pz0_19 pz0_22 pz0_23 pz0_29))]) [1, 0, 2] rfl rfl
            exact fiV hx hb hr hlk hK hP hD hS dX10_readUnit_161 (Nat.le_of_ble_eq_true rfl) (Nat.le_of_ble_eq_true rfl) (⟨f_183, v_172, v_173, v_174, v_175, v_176, v_177, tf_183, bv_172, bv_173, bv_175, bv_176, bv_177, g_178, (PS_x hf1 rx_186 (by omega)), (by have z_0 := g_20; have z_1 := g_169; have z_2 := g_180;have y_0 := hf0.1; have y_1 := g_18.1; have y_2 := g_168.1; have y_3 := g_178.1; omega), (RX_w rx_186 (by omega)), rfl⟩)
          · have b_187 : iv 0 0 r_156 := iv_q c_159 (iv_c (0 : Int32) (a := 0) (b := 0) (by decide))
            refine lv_aload_n hx hb dX10_readUnit_121 rfl (lv_at hl 1 rfl) ?_
            refine lv_bipush (v := 40) hx hb dX10_readUnit_122 (by decide) ?_
            refine jnI (wr := [(z 4, aI V 1025 f_11), (z 3, aI V 900 fz3)]) (rnV (rest := []) ⟨hx, hb, hml, hown, hg⟩ (k_X10_is_17 l V z pz0_0 pz0_5 v_12 v_13 pz0_8 v_14 v_15 v_16 v_17 pz0_13 pz0_14 pz0_18 pz0_19 pz0_22 pz0_23 pz0_29 bpz0_5 bv_12 bv_13 bpz0_8 bv_15 (iv_w b_153 (by decide)) bv_17 bpz0_13 bpz0_14 bpz0_18 bpz0_22 bpz0_29) mt_X10_is q_6_143 ⟨Nat.le_of_ble_eq_true rfl, Nat.le_of_ble_eq_true rfl⟩ hK hP hD hS hA hE [2] rfl rfl 2 rfl rfl rfl rfl hl.1 rfl (Nat.le_of_ble_eq_true rfl) dX10_readUnit_124 ⟨Nat.le_of_ble_eq_true rfl, Nat.le_of_ble_eq_true rfl⟩) hP hD hS hA [2] [0, 1] rfl rfl rfl (by decide) (fun r_188 w H locs hw hP hD hS => ?_)
            obtain ⟨br_188, g_189, g_190, rfl⟩ := hw
            have hP : va_P V.1 vwCl [(z 4, aI V 1025 f_11), (z 3, aI V 900 fz3), (z 0, .inr (10, mo z pz0_0 pz0_5 v_12 v_13 pz0_8 v_14 v_15 v_16 v_17 pz0_13 pz0_14 pz0_18 pz0_19 pz0_22 pz0_23 pz0_29))] H := hP
            have hD : va_D A [(z 4, aI V 1025 f_11), (z 3, aI V 900 fz3), (z 0, .inr (10, mo z pz0_0 pz0_5 v_12 v_13 pz0_8 v_14 v_15 v_16 v_17 pz0_13 pz0_14 pz0_18 pz0_19 pz0_22 pz0_23 pz0_29))] := hD
            refine lv_if_ne (tgt := 139) hx hb dX10_readUnit_127 (by decide) (fun c_191 => ?_) (fun c_191 => ?_)
            · have b_192 : iv 1 1 r_188 := iv_n0 c_191 br_188 (iv_c (0 : Int32) (a := 0) (b := 0) (by decide)) (by decide)
              have c_193 : v_16 = 0 := (g_189 (iv_eqp b_192 (iv_c (1 : Int32) (by decide))))
              have c_194 : v_14 = 40 := (g_190 (iv_eqp b_192 (iv_c (1 : Int32) (by decide))))
              refine lv_aload_n hx hb dX10_readUnit_139 rfl (lv_at hl 1 rfl) ?_
              refine jnV (wr := [(z 4, aI V 1025 f_11)]) (rnV (rest := []) ⟨hx, hb, hml, hown, hg⟩ (k_X10_next_0 l V z pz0_0 pz0_5 v_12 v_13 pz0_8 v_14 v_15 v_16 v_17 pz0_13 pz0_14 pz0_18 pz0_19 pz0_22 pz0_23 pz0_29 fz3 bpz0_5 bv_12 bv_13 bpz0_8 bv_15 (iv_w b_153 (by decide)) bv_17 bpz0_13 bpz0_14 bpz0_18 bpz0_22 bpz0_29 g_18.2.1) mt_X10_next q_6_117 ⟨Nat.le_of_ble_eq_true rfl, Nat.le_of_ble_eq_true rfl⟩ hK hP hD hS hA hE [2, 1] rfl rfl 2 rfl rfl rfl rfl hl.1 rfl (Nat.le_of_ble_eq_true rfl) dX10_readUnit_140 ⟨Nat.le_of_ble_eq_true rfl, Nat.le_of_ble_eq_true rfl⟩) hP hD hS hA [2, 1] [0] rfl rfl rfl (by decide) (fun  w H locs hw hP hD hS => ?_)
              obtain ⟨v_195, v_196, v_197, v_198, bv_195, bv_196, bv_198, g_199, g_200, rfl⟩ := hw
              have hP : va_P V.1 vwCl [(z 4, aI V 1025 f_11), (z 0, .inr (10, mo z pz0_0 pz0_5 v_195 v_196 pz0_8 v_197 v_198 v_16 v_17 pz0_13 pz0_14 pz0_18 pz0_19 pz0_22 pz0_23 pz0_29)), (z 3, aI V 900 fz3)] H := hP
              have hD : va_D A [(z 4, aI V 1025 f_11), (z 0, .inr (10, mo z pz0_0 pz0_5 v_195 v_196 pz0_8 v_197 v_198 v_16 v_17 pz0_13 pz0_14 pz0_18 pz0_19 pz0_22 pz0_23 pz0_29)), (z 3, aI V 900 fz3)] := hD
              have rx_201 : RX pz0_11 pz0_6 fz4 v_16 v_195 f_11 1 ((1 : Int)) := by have q9 := RX_a (a' := v_195) rx_22 (fun q8 => q8) (t := 1) (by have q9 := g_200; have q8 := g_18.2.2 (by rw [c_194]; decide); omega); exact RX_w q9 (by omega)
              refine lv_goto (tgt := 151) hx hb dX10_readUnit_143 (by decide) ?_
              refine lv_aload_n hx hb dX10_readUnit_151 rfl (lv_at hl 1 rfl) ?_
              refine lv_iload_n hx hb dX10_readUnit_152 rfl (lv_at hl 2 rfl) ?_
              refine jnV (wr := []) (rnV (rest := []) ⟨hx, hb, hml, hown, hg⟩ (k_X10_readSum_1 l V z f_11 fz3 pz0_0 pz0_5 v_195 v_196 pz0_8 v_197 v_198 v_16 v_17 pz0_13 pz0_14 pz0_18 pz0_19 pz0_22 pz0_23 pz0_29 tf_11 bpz0_5 bv_195 bv_196 bpz0_8 bv_198 (iv_w b_153 (by decide)) bv_17 bpz0_13 bpz0_14 bpz0_18 bpz0_22 bpz0_29 g_199 (PS_x hf1 rx_201 (by omega))) mt_X10_readSum q_6_187 ⟨Nat.le_of_ble_eq_true rfl, Nat.le_of_ble_eq_true rfl⟩ hK hP hD hS hA hE [0, 2, 1] rfl rfl 1 rfl rfl rfl rfl hl.1 rfl (Nat.le_of_ble_eq_true rfl) dX10_readUnit_153 ⟨Nat.le_of_ble_eq_true rfl, Nat.le_of_ble_eq_true rfl⟩) hP hD hS hA [0, 2, 1] [] rfl rfl rfl (by decide) (fun  w H locs hw hP hD hS => ?_)
              obtain ⟨f_202, v_203, v_204, v_205, v_206, v_207, v_208, tf_202, bv_203, bv_204, bv_206, bv_207, bv_208, g_209, g_210, g_211, g_212, rfl⟩ := hw
              have hP : va_P V.1 vwCl [(z 4, aI V 1025 f_202), (z 3, aI V 900 fz3), (z 0, .inr (10, mo z pz0_0 pz0_5 v_203 v_204 pz0_8 v_205 v_206 v_207 v_208 pz0_13 pz0_14 pz0_18 pz0_19 pz0_22 pz0_23 pz0_29))] H := hP
              have hD : va_D A [(z 4, aI V 1025 f_202), (z 3, aI V 900 fz3), (z 0, .inr (10, mo z pz0_0 pz0_5 v_203 v_204 pz0_8 v_205 v_206 v_207 v_208 pz0_13 pz0_14 pz0_18 pz0_19 pz0_22 pz0_23 pz0_29))] := hD
              have rx_213 : RX pz0_11 pz0_6 fz4 v_207 v_203 f_202 2 ((1 : Int)) := by have q9 := RX_seq (by decide) rx_201 g_212; exact RX_w q9 (by omega)
              refine lv_aload_n hx hb dX10_readUnit_156 rfl (lv_at hl 1 rfl) ?_
              refine lv_iload_n hx hb dX10_readUnit_157 rfl (lv_at hl 0 rfl) ?_
              refine jnV (wr := [(z 3, aI V 900 fz3)]) (rnV (rest := []) ⟨hx, hb, hml, hown, hg⟩ (k_X10_codes_0 l V z 3004 f_202 pz0_0 pz0_5 v_203 v_204 pz0_8 v_205 v_206 v_207 v_208 pz0_13 pz0_14 pz0_18 pz0_19 pz0_22 pz0_23 pz0_29 tf_202 bpz0_5 bv_203 bv_204 bpz0_8 bv_206 bv_207 bv_208 bpz0_13 bpz0_14 bpz0_18 bpz0_22 bpz0_29 (PS_n hf1 rx_213 bv_203 (by decide) (by omega))) mt_X10_codes q_6_199 ⟨Nat.le_of_ble_eq_true rfl, Nat.le_of_ble_eq_true rfl⟩ hK hP hD hS hA hE [0, 2] rfl rfl 2 rfl rfl rfl rfl hl.1 rfl (Nat.le_of_ble_eq_true rfl) dX10_readUnit_158 ⟨Nat.le_of_ble_eq_true rfl, Nat.le_of_ble_eq_true rfl⟩) hP hD hS hA [0, 2] [1] rfl rfl rfl (by decide) (fun  w H locs hw hP hD hS => ?_)
              obtain ⟨f_214, tf_214, g_215, g_216, rfl⟩ := hw
              have hP : va_P V.1 vwCl [(z 3, aI V 900 fz3), (z 4, aI V 1025 f_214), (z 0, .inr (10, mo z pz0_0 pz0_5 v_203 v_204 pz0_8 v_205 v_206 v_207 v_208 pz0_13 pz0_14 pz0_18 pz0_19 pz0_22 pz0_23 pz0_29))] H := hP
              have hD : va_D A [(z 3, aI V 900 fz3), (z 4, aI V 1025 f_214), (z 0, .inr (10, mo z pz0_0 pz0_5 v_203 v_204 pz0_8 v_205 v_206 v_207 v_208 pz0_13 pz0_14 pz0_18 pz0_19 pz0_22 pz0_23 pz0_29))] := hD
              have rx_217 : RX pz0_11 pz0_6 fz4 v_207 v_203 f_214 1 ((0 : Int)) := by have q9 := RX_c rx_213 tf_202 g_215 (by decide) ⟨by decide, by decide⟩ (by decide) (PS_n hf1 rx_213 bv_203 (by decide) (by omega)); rw [(by decide : eff (3004 : Int32) = -1)] at q9; exact RX_w q9 (by omega)
              have hP := subP (ws' := [(z 4, aI V 1025 f_214), (z 3, aI V 900 fz3), (z 0, .inr (10, mo z pz0_0 pz0_5 v_203 v_204 pz0_8 v_205 v_206 v_207 v_208 pz0_13 pz0_14 pz0_18 pz0_19 pz0_22 pz0_23 pz0_29))]) hP [1, 0, 2] rfl
              have hD := hD.sub (ws' := [(z 4, aI V 1025 f_214), (z 3, aI V 900 fz3), (z 0, .inr (10, mo z pz0_0 pz0_5 v_203 v_204 pz0_8 v_205 v_206 v_207 v_208 pz0_13 pz0_14 pz0_18 pz0_19 pz0_22 pz0_23 pz0_29))]) [1, 0, 2] rfl rfl
              exact fiV hx hb hr hlk hK hP hD hS dX10_readUnit_161 (Nat.le_of_ble_eq_true rfl) (Nat.le_of_ble_eq_true rfl) (⟨f_214, v_203, v_204, v_205, v_206, v_207, v_208, tf_214, bv_203, bv_204, bv_206, bv_207, bv_208, g_209, (PS_x hf1 rx_217 (by omega)), (by have z_0 := g_20; have z_1 := g_200; have z_2 := g_211;have y_0 := hf0.1; have y_1 := g_18.1; have y_2 := g_199.1; have y_3 := g_209.1; omega), (RX_w rx_217 (by omega)), rfl⟩)
            · have b_218 : iv 0 0 r_188 := iv_q c_191 (iv_c (0 : Int32) (a := 0) (b := 0) (by decide))
              refine lv_aload_n hx hb dX10_readUnit_130 rfl (lv_at hl 1 rfl) ?_
              refine lv_bipush (v := 41) hx hb dX10_readUnit_131 (by decide) ?_
              refine jnI (wr := [(z 4, aI V 1025 f_11), (z 3, aI V 900 fz3)]) (rnV (rest := []) ⟨hx, hb, hml, hown, hg⟩ (k_X10_is_18 l V z pz0_0 pz0_5 v_12 v_13 pz0_8 v_14 v_15 v_16 v_17 pz0_13 pz0_14 pz0_18 pz0_19 pz0_22 pz0_23 pz0_29 bpz0_5 bv_12 bv_13 bpz0_8 bv_15 (iv_w b_153 (by decide)) bv_17 bpz0_13 bpz0_14 bpz0_18 bpz0_22 bpz0_29) mt_X10_is q_6_143 ⟨Nat.le_of_ble_eq_true rfl, Nat.le_of_ble_eq_true rfl⟩ hK hP hD hS hA hE [2] rfl rfl 2 rfl rfl rfl rfl hl.1 rfl (Nat.le_of_ble_eq_true rfl) dX10_readUnit_133 ⟨Nat.le_of_ble_eq_true rfl, Nat.le_of_ble_eq_true rfl⟩) hP hD hS hA [2] [0, 1] rfl rfl rfl (by decide) (fun r_219 w H locs hw hP hD hS => ?_)
              obtain ⟨br_219, g_220, g_221, rfl⟩ := hw
              have hP : va_P V.1 vwCl [(z 4, aI V 1025 f_11), (z 3, aI V 900 fz3), (z 0, .inr (10, mo z pz0_0 pz0_5 v_12 v_13 pz0_8 v_14 v_15 v_16 v_17 pz0_13 pz0_14 pz0_18 pz0_19 pz0_22 pz0_23 pz0_29))] H := hP
              have hD : va_D A [(z 4, aI V 1025 f_11), (z 3, aI V 900 fz3), (z 0, .inr (10, mo z pz0_0 pz0_5 v_12 v_13 pz0_8 v_14 v_15 v_16 v_17 pz0_13 pz0_14 pz0_18 pz0_19 pz0_22 pz0_23 pz0_29))] := hD
              refine lv_if_eq (tgt := 146) hx hb dX10_readUnit_136 (by decide) (fun c_222 => ?_) (fun c_222 => ?_)
              · have b_223 : iv 0 0 r_219 := iv_q c_222 (iv_c (0 : Int32) (a := 0) (b := 0) (by decide))
                refine lv_aload_n hx hb dX10_readUnit_146 rfl (lv_at hl 1 rfl) ?_
                refine lv_iconst (v := 2) hx hb dX10_readUnit_147 (by decide) ?_
                refine jnV (wr := [(z 4, aI V 1025 f_11), (z 3, aI V 900 fz3)]) (rnV (rest := []) ⟨hx, hb, hml, hown, hg⟩ (k_X10_fails_0 l V z 2 pz0_0 pz0_5 v_12 v_13 pz0_8 v_14 v_15 v_16 v_17 pz0_13 pz0_14 pz0_18 pz0_19 pz0_22 pz0_23 pz0_29 (iv_c (2 : Int32) (by decide)) bpz0_5 bv_12 bv_13 bpz0_8 bv_15 (iv_w b_153 (by decide)) bv_17 bpz0_13 bpz0_14 bpz0_18 bpz0_22 bpz0_29) mt_X10_fails q_6_147 ⟨Nat.le_of_ble_eq_true rfl, Nat.le_of_ble_eq_true rfl⟩ hK hP hD hS hA hE [2] rfl rfl 2 rfl rfl rfl rfl hl.1 rfl (Nat.le_of_ble_eq_true rfl) dX10_readUnit_148 ⟨Nat.le_of_ble_eq_true rfl, Nat.le_of_ble_eq_true rfl⟩) hP hD hS hA [2] [0, 1] rfl rfl rfl (by decide) (fun  w H locs hw hP hD hS => ?_)
                obtain ⟨v_224, v_225, bv_224, bv_225, rfl⟩ := hw
                have hP : va_P V.1 vwCl [(z 4, aI V 1025 f_11), (z 3, aI V 900 fz3), (z 0, .inr (10, mo z pz0_0 pz0_5 v_12 v_13 pz0_8 v_14 v_15 v_224 v_225 pz0_13 pz0_14 pz0_18 pz0_19 pz0_22 pz0_23 pz0_29))] H := hP
                have hD : va_D A [(z 4, aI V 1025 f_11), (z 3, aI V 900 fz3), (z 0, .inr (10, mo z pz0_0 pz0_5 v_12 v_13 pz0_8 v_14 v_15 v_224 v_225 pz0_13 pz0_14 pz0_18 pz0_19 pz0_22 pz0_23 pz0_29))] := hD
                have rx_226 : RX pz0_11 pz0_6 fz4 v_224 v_12 f_11 1 ((9 : Int)) := RX_f bv_224 (by decide)
                refine lv_aload_n hx hb dX10_readUnit_151 rfl (lv_at hl 1 rfl) ?_
                refine lv_iload_n hx hb dX10_readUnit_152 rfl (lv_at hl 2 rfl) ?_
                refine jnV (wr := []) (rnV (rest := []) ⟨hx, hb, hml, hown, hg⟩ (k_X10_readSum_1 l V z f_11 fz3 pz0_0 pz0_5 v_12 v_13 pz0_8 v_14 v_15 v_224 v_225 pz0_13 pz0_14 pz0_18 pz0_19 pz0_22 pz0_23 pz0_29 tf_11 bpz0_5 bv_12 bv_13 bpz0_8 bv_15 (iv_w bv_224 (by decide)) bv_225 bpz0_13 bpz0_14 bpz0_18 bpz0_22 bpz0_29 g_18 (PS_f bv_224 (by decide))) mt_X10_readSum q_6_187 ⟨Nat.le_of_ble_eq_true rfl, Nat.le_of_ble_eq_true rfl⟩ hK hP hD hS hA hE [0, 1, 2] rfl rfl 2 rfl rfl rfl rfl hl.1 rfl (Nat.le_of_ble_eq_true rfl) dX10_readUnit_153 ⟨Nat.le_of_ble_eq_true rfl, Nat.le_of_ble_eq_true rfl⟩) hP hD hS hA [0, 1, 2] [] rfl rfl rfl (by decide) (fun  w H locs hw hP hD hS => ?_)
                obtain ⟨f_227, v_228, v_229, v_230, v_231, v_232, v_233, tf_227, bv_228, bv_229, bv_231, bv_232, bv_233, g_234, g_235, g_236, g_237, rfl⟩ := hw
                have hP : va_P V.1 vwCl [(z 4, aI V 1025 f_227), (z 3, aI V 900 fz3), (z 0, .inr (10, mo z pz0_0 pz0_5 v_228 v_229 pz0_8 v_230 v_231 v_232 v_233 pz0_13 pz0_14 pz0_18 pz0_19 pz0_22 pz0_23 pz0_29))] H := hP
                have hD : va_D A [(z 4, aI V 1025 f_227), (z 3, aI V 900 fz3), (z 0, .inr (10, mo z pz0_0 pz0_5 v_228 v_229 pz0_8 v_230 v_231 v_232 v_233 pz0_13 pz0_14 pz0_18 pz0_19 pz0_22 pz0_23 pz0_29))] := hD
                have rx_238 : RX pz0_11 pz0_6 fz4 v_232 v_228 f_227 2 ((9 : Int)) := by have q9 := RX_seq (by decide) rx_226 g_237; exact RX_w q9 (by omega)
                refine lv_aload_n hx hb dX10_readUnit_156 rfl (lv_at hl 1 rfl) ?_
                refine lv_iload_n hx hb dX10_readUnit_157 rfl (lv_at hl 0 rfl) ?_
                refine jnV (wr := [(z 3, aI V 900 fz3)]) (rnV (rest := []) ⟨hx, hb, hml, hown, hg⟩ (k_X10_codes_0 l V z 3004 f_227 pz0_0 pz0_5 v_228 v_229 pz0_8 v_230 v_231 v_232 v_233 pz0_13 pz0_14 pz0_18 pz0_19 pz0_22 pz0_23 pz0_29 tf_227 bpz0_5 bv_228 bv_229 bpz0_8 bv_231 bv_232 bv_233 bpz0_13 bpz0_14 bpz0_18 bpz0_22 bpz0_29 (PS_n hf1 rx_238 bv_228 (by decide) (by omega))) mt_X10_codes q_6_199 ⟨Nat.le_of_ble_eq_true rfl, Nat.le_of_ble_eq_true rfl⟩ hK hP hD hS hA hE [0, 2] rfl rfl 2 rfl rfl rfl rfl hl.1 rfl (Nat.le_of_ble_eq_true rfl) dX10_readUnit_158 ⟨Nat.le_of_ble_eq_true rfl, Nat.le_of_ble_eq_true rfl⟩) hP hD hS hA [0, 2] [1] rfl rfl rfl (by decide) (fun  w H locs hw hP hD hS => ?_)
                obtain ⟨f_239, tf_239, g_240, g_241, rfl⟩ := hw
                have hP : va_P V.1 vwCl [(z 3, aI V 900 fz3), (z 4, aI V 1025 f_239), (z 0, .inr (10, mo z pz0_0 pz0_5 v_228 v_229 pz0_8 v_230 v_231 v_232 v_233 pz0_13 pz0_14 pz0_18 pz0_19 pz0_22 pz0_23 pz0_29))] H := hP
                have hD : va_D A [(z 3, aI V 900 fz3), (z 4, aI V 1025 f_239), (z 0, .inr (10, mo z pz0_0 pz0_5 v_228 v_229 pz0_8 v_230 v_231 v_232 v_233 pz0_13 pz0_14 pz0_18 pz0_19 pz0_22 pz0_23 pz0_29))] := hD
                have rx_242 : RX pz0_11 pz0_6 fz4 v_232 v_228 f_239 1 ((8 : Int)) := by have q9 := RX_c rx_238 tf_227 g_240 (by decide) ⟨by decide, by decide⟩ (by decide) (PS_n hf1 rx_238 bv_228 (by decide) (by omega)); rw [(by decide : eff (3004 : Int32) = -1)] at q9; exact RX_w q9 (by omega)
                have hP := subP (ws' := [(z 4, aI V 1025 f_239), (z 3, aI V 900 fz3), (z 0, .inr (10, mo z pz0_0 pz0_5 v_228 v_229 pz0_8 v_230 v_231 v_232 v_233 pz0_13 pz0_14 pz0_18 pz0_19 pz0_22 pz0_23 pz0_29))]) hP [1, 0, 2] rfl
                have hD := hD.sub (ws' := [(z 4, aI V 1025 f_239), (z 3, aI V 900 fz3), (z 0, .inr (10, mo z pz0_0 pz0_5 v_228 v_229 pz0_8 v_230 v_231 v_232 v_233 pz0_13 pz0_14 pz0_18 pz0_19 pz0_22 pz0_23 pz0_29))]) [1, 0, 2] rfl rfl
                exact fiV hx hb hr hlk hK hP hD hS dX10_readUnit_161 (Nat.le_of_ble_eq_true rfl) (Nat.le_of_ble_eq_true rfl) (⟨f_239, v_228, v_229, v_230, v_231, v_232, v_233, tf_239, bv_228, bv_229, bv_231, bv_232, bv_233, g_234, (PS_x hf1 rx_242 (by omega)), (by have z_0 := g_20; have z_1 := g_236;have y_0 := hf0.1; have y_1 := g_18.1; have y_2 := g_234.1; omega), (RX_w rx_242 (by omega)), rfl⟩)
              · have b_243 : iv 1 1 r_219 := iv_n0 c_222 br_219 (iv_c (0 : Int32) (a := 0) (b := 0) (by decide)) (by decide)
                have c_244 : v_16 = 0 := (g_220 (iv_eqp b_243 (iv_c (1 : Int32) (by decide))))
                have c_245 : v_14 = 41 := (g_221 (iv_eqp b_243 (iv_c (1 : Int32) (by decide))))
                have b_246 : iv 41 41 v_14 := iv_q c_245 (iv_c (41 : Int32) (a := 41) (b := 41) (by decide))
                refine lv_aload_n hx hb dX10_readUnit_139 rfl (lv_at hl 1 rfl) ?_
                refine jnV (wr := [(z 4, aI V 1025 f_11)]) (rnV (rest := []) ⟨hx, hb, hml, hown, hg⟩ (k_X10_next_0 l V z pz0_0 pz0_5 v_12 v_13 pz0_8 v_14 v_15 v_16 v_17 pz0_13 pz0_14 pz0_18 pz0_19 pz0_22 pz0_23 pz0_29 fz3 bpz0_5 bv_12 bv_13 bpz0_8 bv_15 (iv_w b_153 (by decide)) bv_17 bpz0_13 bpz0_14 bpz0_18 bpz0_22 bpz0_29 g_18.2.1) mt_X10_next q_6_117 ⟨Nat.le_of_ble_eq_true rfl, Nat.le_of_ble_eq_true rfl⟩ hK hP hD hS hA hE [2, 1] rfl rfl 2 rfl rfl rfl rfl hl.1 rfl (Nat.le_of_ble_eq_true rfl) dX10_readUnit_140 ⟨Nat.le_of_ble_eq_true rfl, Nat.le_of_ble_eq_true rfl⟩) hP hD hS hA [2, 1] [0] rfl rfl rfl (by decide) (fun  w H locs hw hP hD hS => ?_)
                obtain ⟨v_247, v_248, v_249, v_250, bv_247, bv_248, bv_250, g_251, g_252, rfl⟩ := hw
                have hP : va_P V.1 vwCl [(z 4, aI V 1025 f_11), (z 0, .inr (10, mo z pz0_0 pz0_5 v_247 v_248 pz0_8 v_249 v_250 v_16 v_17 pz0_13 pz0_14 pz0_18 pz0_19 pz0_22 pz0_23 pz0_29)), (z 3, aI V 900 fz3)] H := hP
                have hD : va_D A [(z 4, aI V 1025 f_11), (z 0, .inr (10, mo z pz0_0 pz0_5 v_247 v_248 pz0_8 v_249 v_250 v_16 v_17 pz0_13 pz0_14 pz0_18 pz0_19 pz0_22 pz0_23 pz0_29)), (z 3, aI V 900 fz3)] := hD
                have rx_253 : RX pz0_11 pz0_6 fz4 v_16 v_247 f_11 1 ((1 : Int)) := by have q9 := RX_a (a' := v_247) rx_22 (fun q8 => q8) (t := 1) (by have q9 := g_252; have q8 := g_18.2.2 (by rw [c_245]; decide); omega); exact RX_w q9 (by omega)
                refine lv_goto (tgt := 151) hx hb dX10_readUnit_143 (by decide) ?_
                refine lv_aload_n hx hb dX10_readUnit_151 rfl (lv_at hl 1 rfl) ?_
                refine lv_iload_n hx hb dX10_readUnit_152 rfl (lv_at hl 2 rfl) ?_
                refine jnV (wr := []) (rnV (rest := []) ⟨hx, hb, hml, hown, hg⟩ (k_X10_readSum_1 l V z f_11 fz3 pz0_0 pz0_5 v_247 v_248 pz0_8 v_249 v_250 v_16 v_17 pz0_13 pz0_14 pz0_18 pz0_19 pz0_22 pz0_23 pz0_29 tf_11 bpz0_5 bv_247 bv_248 bpz0_8 bv_250 (iv_w b_153 (by decide)) bv_17 bpz0_13 bpz0_14 bpz0_18 bpz0_22 bpz0_29 g_251 (PS_x hf1 rx_253 (by omega))) mt_X10_readSum q_6_187 ⟨Nat.le_of_ble_eq_true rfl, Nat.le_of_ble_eq_true rfl⟩ hK hP hD hS hA hE [0, 2, 1] rfl rfl 1 rfl rfl rfl rfl hl.1 rfl (Nat.le_of_ble_eq_true rfl) dX10_readUnit_153 ⟨Nat.le_of_ble_eq_true rfl, Nat.le_of_ble_eq_true rfl⟩) hP hD hS hA [0, 2, 1] [] rfl rfl rfl (by decide) (fun  w H locs hw hP hD hS => ?_)
                obtain ⟨f_254, v_255, v_256, v_257, v_258, v_259, v_260, tf_254, bv_255, bv_256, bv_258, bv_259, bv_260, g_261, g_262, g_263, g_264, rfl⟩ := hw
                have hP : va_P V.1 vwCl [(z 4, aI V 1025 f_254), (z 3, aI V 900 fz3), (z 0, .inr (10, mo z pz0_0 pz0_5 v_255 v_256 pz0_8 v_257 v_258 v_259 v_260 pz0_13 pz0_14 pz0_18 pz0_19 pz0_22 pz0_23 pz0_29))] H := hP
                have hD : va_D A [(z 4, aI V 1025 f_254), (z 3, aI V 900 fz3), (z 0, .inr (10, mo z pz0_0 pz0_5 v_255 v_256 pz0_8 v_257 v_258 v_259 v_260 pz0_13 pz0_14 pz0_18 pz0_19 pz0_22 pz0_23 pz0_29))] := hD
                have rx_265 : RX pz0_11 pz0_6 fz4 v_259 v_255 f_254 2 ((1 : Int)) := by have q9 := RX_seq (by decide) rx_253 g_264; exact RX_w q9 (by omega)
                refine lv_aload_n hx hb dX10_readUnit_156 rfl (lv_at hl 1 rfl) ?_
                refine lv_iload_n hx hb dX10_readUnit_157 rfl (lv_at hl 0 rfl) ?_
                refine jnV (wr := [(z 3, aI V 900 fz3)]) (rnV (rest := []) ⟨hx, hb, hml, hown, hg⟩ (k_X10_codes_0 l V z 3004 f_254 pz0_0 pz0_5 v_255 v_256 pz0_8 v_257 v_258 v_259 v_260 pz0_13 pz0_14 pz0_18 pz0_19 pz0_22 pz0_23 pz0_29 tf_254 bpz0_5 bv_255 bv_256 bpz0_8 bv_258 bv_259 bv_260 bpz0_13 bpz0_14 bpz0_18 bpz0_22 bpz0_29 (PS_n hf1 rx_265 bv_255 (by decide) (by omega))) mt_X10_codes q_6_199 ⟨Nat.le_of_ble_eq_true rfl, Nat.le_of_ble_eq_true rfl⟩ hK hP hD hS hA hE [0, 2] rfl rfl 2 rfl rfl rfl rfl hl.1 rfl (Nat.le_of_ble_eq_true rfl) dX10_readUnit_158 ⟨Nat.le_of_ble_eq_true rfl, Nat.le_of_ble_eq_true rfl⟩) hP hD hS hA [0, 2] [1] rfl rfl rfl (by decide) (fun  w H locs hw hP hD hS => ?_)
                obtain ⟨f_266, tf_266, g_267, g_268, rfl⟩ := hw
                have hP : va_P V.1 vwCl [(z 3, aI V 900 fz3), (z 4, aI V 1025 f_266), (z 0, .inr (10, mo z pz0_0 pz0_5 v_255 v_256 pz0_8 v_257 v_258 v_259 v_260 pz0_13 pz0_14 pz0_18 pz0_19 pz0_22 pz0_23 pz0_29))] H := hP
                have hD : va_D A [(z 3, aI V 900 fz3), (z 4, aI V 1025 f_266), (z 0, .inr (10, mo z pz0_0 pz0_5 v_255 v_256 pz0_8 v_257 v_258 v_259 v_260 pz0_13 pz0_14 pz0_18 pz0_19 pz0_22 pz0_23 pz0_29))] := hD
                have rx_269 : RX pz0_11 pz0_6 fz4 v_259 v_255 f_266 1 ((0 : Int)) := by have q9 := RX_c rx_265 tf_254 g_267 (by decide) ⟨by decide, by decide⟩ (by decide) (PS_n hf1 rx_265 bv_255 (by decide) (by omega)); rw [(by decide : eff (3004 : Int32) = -1)] at q9; exact RX_w q9 (by omega)
                have hP := subP (ws' := [(z 4, aI V 1025 f_266), (z 3, aI V 900 fz3), (z 0, .inr (10, mo z pz0_0 pz0_5 v_255 v_256 pz0_8 v_257 v_258 v_259 v_260 pz0_13 pz0_14 pz0_18 pz0_19 pz0_22 pz0_23 pz0_29))]) hP [1, 0, 2] rfl
                have hD := hD.sub (ws' := [(z 4, aI V 1025 f_266), (z 3, aI V 900 fz3), (z 0, .inr (10, mo z pz0_0 pz0_5 v_255 v_256 pz0_8 v_257 v_258 v_259 v_260 pz0_13 pz0_14 pz0_18 pz0_19 pz0_22 pz0_23 pz0_29))]) [1, 0, 2] rfl rfl
                exact fiV hx hb hr hlk hK hP hD hS dX10_readUnit_161 (Nat.le_of_ble_eq_true rfl) (Nat.le_of_ble_eq_true rfl) (⟨f_266, v_255, v_256, v_257, v_258, v_259, v_260, tf_266, bv_255, bv_256, bv_258, bv_259, bv_260, g_261, (PS_x hf1 rx_269 (by omega)), (by have z_0 := g_20; have z_1 := g_252; have z_2 := g_263;have y_0 := hf0.1; have y_1 := g_18.1; have y_2 := g_251.1; have y_3 := g_261.1; omega), (RX_w rx_269 (by omega)), rfl⟩)
      · have b_270 : iv 1 1 r_23 := iv_n0 c_26 br_23 (iv_c (0 : Int32) (a := 0) (b := 0) (by decide)) (by decide)
        have c_271 : v_16 = 0 := (g_24 (iv_eqp b_270 (iv_c (1 : Int32) (by decide))))
        have b_272 : iv 0 0 v_16 := iv_q c_271 (iv_c (0 : Int32) (a := 0) (b := 0) (by decide))
        have c_273 : v_14 = 39 := (g_25 (iv_eqp b_270 (iv_c (1 : Int32) (by decide))))
        have b_274 : iv 39 39 v_14 := iv_q c_273 (iv_c (39 : Int32) (a := 39) (b := 39) (by decide))
        refine lv_sipush (v := 3003) hx hb dX10_readUnit_87 (by decide) ?_
        refine lv_goto (tgt := 111) hx hb dX10_readUnit_90 (by decide) ?_
        refine lv_istore_n (lv' := [(2, .int 3003), (0, .ref (z 0)), (1, .int 5)]) hx hb dX10_readUnit_111 rfl hl (by decide) rfl (fun ls hl => ?_)
        refine lv_aload_n hx hb dX10_readUnit_112 rfl (lv_at hl 1 rfl) ?_
        refine lv_bipush (v := 39) hx hb dX10_readUnit_113 (by decide) ?_
        refine jnI (wr := [(z 4, aI V 1025 f_11), (z 3, aI V 900 fz3)]) (rnV (rest := []) ⟨hx, hb, hml, hown, hg⟩ (k_X10_is_16 l V z pz0_0 pz0_5 v_12 v_13 pz0_8 v_14 v_15 v_16 v_17 pz0_13 pz0_14 pz0_18 pz0_19 pz0_22 pz0_23 pz0_29 bpz0_5 bv_12 bv_13 bpz0_8 bv_15 (iv_w b_272 (by decide)) bv_17 bpz0_13 bpz0_14 bpz0_18 bpz0_22 bpz0_29) mt_X10_is q_6_143 ⟨Nat.le_of_ble_eq_true rfl, Nat.le_of_ble_eq_true rfl⟩ hK hP hD hS hA hE [2] rfl rfl 2 rfl rfl rfl rfl hl.1 rfl (Nat.le_of_ble_eq_true rfl) dX10_readUnit_115 ⟨Nat.le_of_ble_eq_true rfl, Nat.le_of_ble_eq_true rfl⟩) hP hD hS hA [2] [0, 1] rfl rfl rfl (by decide) (fun r_275 w H locs hw hP hD hS => ?_)
        obtain ⟨br_275, g_276, g_277, rfl⟩ := hw
        have hP : va_P V.1 vwCl [(z 4, aI V 1025 f_11), (z 3, aI V 900 fz3), (z 0, .inr (10, mo z pz0_0 pz0_5 v_12 v_13 pz0_8 v_14 v_15 v_16 v_17 pz0_13 pz0_14 pz0_18 pz0_19 pz0_22 pz0_23 pz0_29))] H := hP
        have hD : va_D A [(z 4, aI V 1025 f_11), (z 3, aI V 900 fz3), (z 0, .inr (10, mo z pz0_0 pz0_5 v_12 v_13 pz0_8 v_14 v_15 v_16 v_17 pz0_13 pz0_14 pz0_18 pz0_19 pz0_22 pz0_23 pz0_29))] := hD
        refine lv_if_ne (tgt := 139) hx hb dX10_readUnit_118 (by decide) (fun c_278 => ?_) (fun c_278 => ?_)
        · have b_279 : iv 1 1 r_275 := iv_n0 c_278 br_275 (iv_c (0 : Int32) (a := 0) (b := 0) (by decide)) (by decide)
          have c_280 : v_16 = 0 := (g_276 (iv_eqp b_279 (iv_c (1 : Int32) (by decide))))
          have c_281 : v_14 = 39 := (g_277 (iv_eqp b_279 (iv_c (1 : Int32) (by decide))))
          refine lv_aload_n hx hb dX10_readUnit_139 rfl (lv_at hl 1 rfl) ?_
          refine jnV (wr := [(z 4, aI V 1025 f_11)]) (rnV (rest := []) ⟨hx, hb, hml, hown, hg⟩ (k_X10_next_0 l V z pz0_0 pz0_5 v_12 v_13 pz0_8 v_14 v_15 v_16 v_17 pz0_13 pz0_14 pz0_18 pz0_19 pz0_22 pz0_23 pz0_29 fz3 bpz0_5 bv_12 bv_13 bpz0_8 bv_15 (iv_w b_272 (by decide)) bv_17 bpz0_13 bpz0_14 bpz0_18 bpz0_22 bpz0_29 g_18.2.1) mt_X10_next q_6_117 ⟨Nat.le_of_ble_eq_true rfl, Nat.le_of_ble_eq_true rfl⟩ hK hP hD hS hA hE [2, 1] rfl rfl 2 rfl rfl rfl rfl hl.1 rfl (Nat.le_of_ble_eq_true rfl) dX10_readUnit_140 ⟨Nat.le_of_ble_eq_true rfl, Nat.le_of_ble_eq_true rfl⟩) hP hD hS hA [2, 1] [0] rfl rfl rfl (by decide) (fun  w H locs hw hP hD hS => ?_)
          obtain ⟨v_282, v_283, v_284, v_285, bv_282, bv_283, bv_285, g_286, g_287, rfl⟩ := hw
          have hP : va_P V.1 vwCl [(z 4, aI V 1025 f_11), (z 0, .inr (10, mo z pz0_0 pz0_5 v_282 v_283 pz0_8 v_284 v_285 v_16 v_17 pz0_13 pz0_14 pz0_18 pz0_19 pz0_22 pz0_23 pz0_29)), (z 3, aI V 900 fz3)] H := hP
          have hD : va_D A [(z 4, aI V 1025 f_11), (z 0, .inr (10, mo z pz0_0 pz0_5 v_282 v_283 pz0_8 v_284 v_285 v_16 v_17 pz0_13 pz0_14 pz0_18 pz0_19 pz0_22 pz0_23 pz0_29)), (z 3, aI V 900 fz3)] := hD
          have rx_288 : RX pz0_11 pz0_6 fz4 v_16 v_282 f_11 1 ((1 : Int)) := by have q9 := RX_a (a' := v_282) rx_22 (fun q8 => q8) (t := 1) (by have q9 := g_287; have q8 := g_18.2.2 (by rw [c_281]; decide); omega); exact RX_w q9 (by omega)
          refine lv_goto (tgt := 151) hx hb dX10_readUnit_143 (by decide) ?_
          refine lv_aload_n hx hb dX10_readUnit_151 rfl (lv_at hl 1 rfl) ?_
          refine lv_iload_n hx hb dX10_readUnit_152 rfl (lv_at hl 2 rfl) ?_
          refine jnV (wr := []) (rnV (rest := []) ⟨hx, hb, hml, hown, hg⟩ (k_X10_readSum_1 l V z f_11 fz3 pz0_0 pz0_5 v_282 v_283 pz0_8 v_284 v_285 v_16 v_17 pz0_13 pz0_14 pz0_18 pz0_19 pz0_22 pz0_23 pz0_29 tf_11 bpz0_5 bv_282 bv_283 bpz0_8 bv_285 (iv_w b_272 (by decide)) bv_17 bpz0_13 bpz0_14 bpz0_18 bpz0_22 bpz0_29 g_286 (PS_x hf1 rx_288 (by omega))) mt_X10_readSum q_6_187 ⟨Nat.le_of_ble_eq_true rfl, Nat.le_of_ble_eq_true rfl⟩ hK hP hD hS hA hE [0, 2, 1] rfl rfl 1 rfl rfl rfl rfl hl.1 rfl (Nat.le_of_ble_eq_true rfl) dX10_readUnit_153 ⟨Nat.le_of_ble_eq_true rfl, Nat.le_of_ble_eq_true rfl⟩) hP hD hS hA [0, 2, 1] [] rfl rfl rfl (by decide) (fun  w H locs hw hP hD hS => ?_)
          obtain ⟨f_289, v_290, v_291, v_292, v_293, v_294, v_295, tf_289, bv_290, bv_291, bv_293, bv_294, bv_295, g_296, g_297, g_298, g_299, rfl⟩ := hw
          have hP : va_P V.1 vwCl [(z 4, aI V 1025 f_289), (z 3, aI V 900 fz3), (z 0, .inr (10, mo z pz0_0 pz0_5 v_290 v_291 pz0_8 v_292 v_293 v_294 v_295 pz0_13 pz0_14 pz0_18 pz0_19 pz0_22 pz0_23 pz0_29))] H := hP
          have hD : va_D A [(z 4, aI V 1025 f_289), (z 3, aI V 900 fz3), (z 0, .inr (10, mo z pz0_0 pz0_5 v_290 v_291 pz0_8 v_292 v_293 v_294 v_295 pz0_13 pz0_14 pz0_18 pz0_19 pz0_22 pz0_23 pz0_29))] := hD
          have rx_300 : RX pz0_11 pz0_6 fz4 v_294 v_290 f_289 2 ((1 : Int)) := by have q9 := RX_seq (by decide) rx_288 g_299; exact RX_w q9 (by omega)
          refine lv_aload_n hx hb dX10_readUnit_156 rfl (lv_at hl 1 rfl) ?_
          refine lv_iload_n hx hb dX10_readUnit_157 rfl (lv_at hl 0 rfl) ?_
          refine jnV (wr := [(z 3, aI V 900 fz3)]) (rnV (rest := []) ⟨hx, hb, hml, hown, hg⟩ (k_X10_codes_0 l V z 3003 f_289 pz0_0 pz0_5 v_290 v_291 pz0_8 v_292 v_293 v_294 v_295 pz0_13 pz0_14 pz0_18 pz0_19 pz0_22 pz0_23 pz0_29 tf_289 bpz0_5 bv_290 bv_291 bpz0_8 bv_293 bv_294 bv_295 bpz0_13 bpz0_14 bpz0_18 bpz0_22 bpz0_29 (PS_n hf1 rx_300 bv_290 (by decide) (by omega))) mt_X10_codes q_6_199 ⟨Nat.le_of_ble_eq_true rfl, Nat.le_of_ble_eq_true rfl⟩ hK hP hD hS hA hE [0, 2] rfl rfl 2 rfl rfl rfl rfl hl.1 rfl (Nat.le_of_ble_eq_true rfl) dX10_readUnit_158 ⟨Nat.le_of_ble_eq_true rfl, Nat.le_of_ble_eq_true rfl⟩) hP hD hS hA [0, 2] [1] rfl rfl rfl (by decide) (fun  w H locs hw hP hD hS => ?_)
          obtain ⟨f_301, tf_301, g_302, g_303, rfl⟩ := hw
          have hP : va_P V.1 vwCl [(z 3, aI V 900 fz3), (z 4, aI V 1025 f_301), (z 0, .inr (10, mo z pz0_0 pz0_5 v_290 v_291 pz0_8 v_292 v_293 v_294 v_295 pz0_13 pz0_14 pz0_18 pz0_19 pz0_22 pz0_23 pz0_29))] H := hP
          have hD : va_D A [(z 3, aI V 900 fz3), (z 4, aI V 1025 f_301), (z 0, .inr (10, mo z pz0_0 pz0_5 v_290 v_291 pz0_8 v_292 v_293 v_294 v_295 pz0_13 pz0_14 pz0_18 pz0_19 pz0_22 pz0_23 pz0_29))] := hD
          have rx_304 : RX pz0_11 pz0_6 fz4 v_294 v_290 f_301 1 ((0 : Int)) := by have q9 := RX_c rx_300 tf_289 g_302 (by decide) ⟨by decide, by decide⟩ (by decide) (PS_n hf1 rx_300 bv_290 (by decide) (by omega)); rw [(by decide : eff (3003 : Int32) = -1)] at q9; exact RX_w q9 (by omega)
          have hP := subP (ws' := [(z 4, aI V 1025 f_301), (z 3, aI V 900 fz3), (z 0, .inr (10, mo z pz0_0 pz0_5 v_290 v_291 pz0_8 v_292 v_293 v_294 v_295 pz0_13 pz0_14 pz0_18 pz0_19 pz0_22 pz0_23 pz0_29))]) hP [1, 0, 2] rfl
          have hD := hD.sub (ws' := [(z 4, aI V 1025 f_301), (z 3, aI V 900 fz3), (z 0, .inr (10, mo z pz0_0 pz0_5 v_290 v_291 pz0_8 v_292 v_293 v_294 v_295 pz0_13 pz0_14 pz0_18 pz0_19 pz0_22 pz0_23 pz0_29))]) [1, 0, 2] rfl rfl
          exact fiV hx hb hr hlk hK hP hD hS dX10_readUnit_161 (Nat.le_of_ble_eq_true rfl) (Nat.le_of_ble_eq_true rfl) (⟨f_301, v_290, v_291, v_292, v_293, v_294, v_295, tf_301, bv_290, bv_291, bv_293, bv_294, bv_295, g_296, (PS_x hf1 rx_304 (by omega)), (by have z_0 := g_20; have z_1 := g_287; have z_2 := g_298;have y_0 := hf0.1; have y_1 := g_18.1; have y_2 := g_286.1; have y_3 := g_296.1; omega), (RX_w rx_304 (by omega)), rfl⟩)
        · have b_305 : iv 0 0 r_275 := iv_q c_278 (iv_c (0 : Int32) (a := 0) (b := 0) (by decide))
          refine lv_aload_n hx hb dX10_readUnit_121 rfl (lv_at hl 1 rfl) ?_
          refine lv_bipush (v := 40) hx hb dX10_readUnit_122 (by decide) ?_
          refine jnI (wr := [(z 4, aI V 1025 f_11), (z 3, aI V 900 fz3)]) (rnV (rest := []) ⟨hx, hb, hml, hown, hg⟩ (k_X10_is_17 l V z pz0_0 pz0_5 v_12 v_13 pz0_8 v_14 v_15 v_16 v_17 pz0_13 pz0_14 pz0_18 pz0_19 pz0_22 pz0_23 pz0_29 bpz0_5 bv_12 bv_13 bpz0_8 bv_15 (iv_w b_272 (by decide)) bv_17 bpz0_13 bpz0_14 bpz0_18 bpz0_22 bpz0_29) mt_X10_is q_6_143 ⟨Nat.le_of_ble_eq_true rfl, Nat.le_of_ble_eq_true rfl⟩ hK hP hD hS hA hE [2] rfl rfl 2 rfl rfl rfl rfl hl.1 rfl (Nat.le_of_ble_eq_true rfl) dX10_readUnit_124 ⟨Nat.le_of_ble_eq_true rfl, Nat.le_of_ble_eq_true rfl⟩) hP hD hS hA [2] [0, 1] rfl rfl rfl (by decide) (fun r_306 w H locs hw hP hD hS => ?_)
          obtain ⟨br_306, g_307, g_308, rfl⟩ := hw
          have hP : va_P V.1 vwCl [(z 4, aI V 1025 f_11), (z 3, aI V 900 fz3), (z 0, .inr (10, mo z pz0_0 pz0_5 v_12 v_13 pz0_8 v_14 v_15 v_16 v_17 pz0_13 pz0_14 pz0_18 pz0_19 pz0_22 pz0_23 pz0_29))] H := hP
          have hD : va_D A [(z 4, aI V 1025 f_11), (z 3, aI V 900 fz3), (z 0, .inr (10, mo z pz0_0 pz0_5 v_12 v_13 pz0_8 v_14 v_15 v_16 v_17 pz0_13 pz0_14 pz0_18 pz0_19 pz0_22 pz0_23 pz0_29))] := hD
          refine lv_if_ne (tgt := 139) hx hb dX10_readUnit_127 (by decide) (fun c_309 => ?_) (fun c_309 => ?_)
          · have b_310 : iv 1 1 r_306 := iv_n0 c_309 br_306 (iv_c (0 : Int32) (a := 0) (b := 0) (by decide)) (by decide)
            have c_311 : v_16 = 0 := (g_307 (iv_eqp b_310 (iv_c (1 : Int32) (by decide))))
            have c_312 : v_14 = 40 := (g_308 (iv_eqp b_310 (iv_c (1 : Int32) (by decide))))
            have b_313 : iv 40 40 v_14 := iv_q c_312 (iv_c (40 : Int32) (a := 40) (b := 40) (by decide))
            refine lv_aload_n hx hb dX10_readUnit_139 rfl (lv_at hl 1 rfl) ?_
            refine jnV (wr := [(z 4, aI V 1025 f_11)]) (rnV (rest := []) ⟨hx, hb, hml, hown, hg⟩ (k_X10_next_0 l V z pz0_0 pz0_5 v_12 v_13 pz0_8 v_14 v_15 v_16 v_17 pz0_13 pz0_14 pz0_18 pz0_19 pz0_22 pz0_23 pz0_29 fz3 bpz0_5 bv_12 bv_13 bpz0_8 bv_15 (iv_w b_272 (by decide)) bv_17 bpz0_13 bpz0_14 bpz0_18 bpz0_22 bpz0_29 g_18.2.1) mt_X10_next q_6_117 ⟨Nat.le_of_ble_eq_true rfl, Nat.le_of_ble_eq_true rfl⟩ hK hP hD hS hA hE [2, 1] rfl rfl 2 rfl rfl rfl rfl hl.1 rfl (Nat.le_of_ble_eq_true rfl) dX10_readUnit_140 ⟨Nat.le_of_ble_eq_true rfl, Nat.le_of_ble_eq_true rfl⟩) hP hD hS hA [2, 1] [0] rfl rfl rfl (by decide) (fun  w H locs hw hP hD hS => ?_)
            obtain ⟨v_314, v_315, v_316, v_317, bv_314, bv_315, bv_317, g_318, g_319, rfl⟩ := hw
            have hP : va_P V.1 vwCl [(z 4, aI V 1025 f_11), (z 0, .inr (10, mo z pz0_0 pz0_5 v_314 v_315 pz0_8 v_316 v_317 v_16 v_17 pz0_13 pz0_14 pz0_18 pz0_19 pz0_22 pz0_23 pz0_29)), (z 3, aI V 900 fz3)] H := hP
            have hD : va_D A [(z 4, aI V 1025 f_11), (z 0, .inr (10, mo z pz0_0 pz0_5 v_314 v_315 pz0_8 v_316 v_317 v_16 v_17 pz0_13 pz0_14 pz0_18 pz0_19 pz0_22 pz0_23 pz0_29)), (z 3, aI V 900 fz3)] := hD
            have rx_320 : RX pz0_11 pz0_6 fz4 v_16 v_314 f_11 1 ((1 : Int)) := by have q9 := RX_a (a' := v_314) rx_22 (fun q8 => q8) (t := 1) (by have q9 := g_319; have q8 := g_18.2.2 (by rw [c_312]; decide); omega); exact RX_w q9 (by omega)
            refine lv_goto (tgt := 151) hx hb dX10_readUnit_143 (by decide) ?_
            refine lv_aload_n hx hb dX10_readUnit_151 rfl (lv_at hl 1 rfl) ?_
            refine lv_iload_n hx hb dX10_readUnit_152 rfl (lv_at hl 2 rfl) ?_
            refine jnV (wr := []) (rnV (rest := []) ⟨hx, hb, hml, hown, hg⟩ (k_X10_readSum_1 l V z f_11 fz3 pz0_0 pz0_5 v_314 v_315 pz0_8 v_316 v_317 v_16 v_17 pz0_13 pz0_14 pz0_18 pz0_19 pz0_22 pz0_23 pz0_29 tf_11 bpz0_5 bv_314 bv_315 bpz0_8 bv_317 (iv_w b_272 (by decide)) bv_17 bpz0_13 bpz0_14 bpz0_18 bpz0_22 bpz0_29 g_318 (PS_x hf1 rx_320 (by omega))) mt_X10_readSum q_6_187 ⟨Nat.le_of_ble_eq_true rfl, Nat.le_of_ble_eq_true rfl⟩ hK hP hD hS hA hE [0, 2, 1] rfl rfl 1 rfl rfl rfl rfl hl.1 rfl (Nat.le_of_ble_eq_true rfl) dX10_readUnit_153 ⟨Nat.le_of_ble_eq_true rfl, Nat.le_of_ble_eq_true rfl⟩) hP hD hS hA [0, 2, 1] [] rfl rfl rfl (by decide) (fun  w H locs hw hP hD hS => ?_)
            obtain ⟨f_321, v_322, v_323, v_324, v_325, v_326, v_327, tf_321, bv_322, bv_323, bv_325, bv_326, bv_327, g_328, g_329, g_330, g_331, rfl⟩ := hw
            have hP : va_P V.1 vwCl [(z 4, aI V 1025 f_321), (z 3, aI V 900 fz3), (z 0, .inr (10, mo z pz0_0 pz0_5 v_322 v_323 pz0_8 v_324 v_325 v_326 v_327 pz0_13 pz0_14 pz0_18 pz0_19 pz0_22 pz0_23 pz0_29))] H := hP
            have hD : va_D A [(z 4, aI V 1025 f_321), (z 3, aI V 900 fz3), (z 0, .inr (10, mo z pz0_0 pz0_5 v_322 v_323 pz0_8 v_324 v_325 v_326 v_327 pz0_13 pz0_14 pz0_18 pz0_19 pz0_22 pz0_23 pz0_29))] := hD
            have rx_332 : RX pz0_11 pz0_6 fz4 v_326 v_322 f_321 2 ((1 : Int)) := by have q9 := RX_seq (by decide) rx_320 g_331; exact RX_w q9 (by omega)
            refine lv_aload_n hx hb dX10_readUnit_156 rfl (lv_at hl 1 rfl) ?_
            refine lv_iload_n hx hb dX10_readUnit_157 rfl (lv_at hl 0 rfl) ?_
            refine jnV (wr := [(z 3, aI V 900 fz3)]) (rnV (rest := []) ⟨hx, hb, hml, hown, hg⟩ (k_X10_codes_0 l V z 3003 f_321 pz0_0 pz0_5 v_322 v_323 pz0_8 v_324 v_325 v_326 v_327 pz0_13 pz0_14 pz0_18 pz0_19 pz0_22 pz0_23 pz0_29 tf_321 bpz0_5 bv_322 bv_323 bpz0_8 bv_325 bv_326 bv_327 bpz0_13 bpz0_14 bpz0_18 bpz0_22 bpz0_29 (PS_n hf1 rx_332 bv_322 (by decide) (by omega))) mt_X10_codes q_6_199 ⟨Nat.le_of_ble_eq_true rfl, Nat.le_of_ble_eq_true rfl⟩ hK hP hD hS hA hE [0, 2] rfl rfl 2 rfl rfl rfl rfl hl.1 rfl (Nat.le_of_ble_eq_true rfl) dX10_readUnit_158 ⟨Nat.le_of_ble_eq_true rfl, Nat.le_of_ble_eq_true rfl⟩) hP hD hS hA [0, 2] [1] rfl rfl rfl (by decide) (fun  w H locs hw hP hD hS => ?_)
            obtain ⟨f_333, tf_333, g_334, g_335, rfl⟩ := hw
            have hP : va_P V.1 vwCl [(z 3, aI V 900 fz3), (z 4, aI V 1025 f_333), (z 0, .inr (10, mo z pz0_0 pz0_5 v_322 v_323 pz0_8 v_324 v_325 v_326 v_327 pz0_13 pz0_14 pz0_18 pz0_19 pz0_22 pz0_23 pz0_29))] H := hP
            have hD : va_D A [(z 3, aI V 900 fz3), (z 4, aI V 1025 f_333), (z 0, .inr (10, mo z pz0_0 pz0_5 v_322 v_323 pz0_8 v_324 v_325 v_326 v_327 pz0_13 pz0_14 pz0_18 pz0_19 pz0_22 pz0_23 pz0_29))] := hD
            have rx_336 : RX pz0_11 pz0_6 fz4 v_326 v_322 f_333 1 ((0 : Int)) := by have q9 := RX_c rx_332 tf_321 g_334 (by decide) ⟨by decide, by decide⟩ (by decide) (PS_n hf1 rx_332 bv_322 (by decide) (by omega)); rw [(by decide : eff (3003 : Int32) = -1)] at q9; exact RX_w q9 (by omega)
            have hP := subP (ws' := [(z 4, aI V 1025 f_333), (z 3, aI V 900 fz3), (z 0, .inr (10, mo z pz0_0 pz0_5 v_322 v_323 pz0_8 v_324 v_325 v_326 v_327 pz0_13 pz0_14 pz0_18 pz0_19 pz0_22 pz0_23 pz0_29))]) hP [1, 0, 2] rfl
            have hD := hD.sub (ws' := [(z 4, aI V 1025 f_333), (z 3, aI V 900 fz3), (z 0, .inr (10, mo z pz0_0 pz0_5 v_322 v_323 pz0_8 v_324 v_325 v_326 v_327 pz0_13 pz0_14 pz0_18 pz0_19 pz0_22 pz0_23 pz0_29))]) [1, 0, 2] rfl rfl
            exact fiV hx hb hr hlk hK hP hD hS dX10_readUnit_161 (Nat.le_of_ble_eq_true rfl) (Nat.le_of_ble_eq_true rfl) (⟨f_333, v_322, v_323, v_324, v_325, v_326, v_327, tf_333, bv_322, bv_323, bv_325, bv_326, bv_327, g_328, (PS_x hf1 rx_336 (by omega)), (by have z_0 := g_20; have z_1 := g_319; have z_2 := g_330;have y_0 := hf0.1; have y_1 := g_18.1; have y_2 := g_318.1; have y_3 := g_328.1; omega), (RX_w rx_336 (by omega)), rfl⟩)
          · have b_337 : iv 0 0 r_306 := iv_q c_309 (iv_c (0 : Int32) (a := 0) (b := 0) (by decide))
            refine lv_aload_n hx hb dX10_readUnit_130 rfl (lv_at hl 1 rfl) ?_
            refine lv_bipush (v := 41) hx hb dX10_readUnit_131 (by decide) ?_
            refine jnI (wr := [(z 4, aI V 1025 f_11), (z 3, aI V 900 fz3)]) (rnV (rest := []) ⟨hx, hb, hml, hown, hg⟩ (k_X10_is_18 l V z pz0_0 pz0_5 v_12 v_13 pz0_8 v_14 v_15 v_16 v_17 pz0_13 pz0_14 pz0_18 pz0_19 pz0_22 pz0_23 pz0_29 bpz0_5 bv_12 bv_13 bpz0_8 bv_15 (iv_w b_272 (by decide)) bv_17 bpz0_13 bpz0_14 bpz0_18 bpz0_22 bpz0_29) mt_X10_is q_6_143 ⟨Nat.le_of_ble_eq_true rfl, Nat.le_of_ble_eq_true rfl⟩ hK hP hD hS hA hE [2] rfl rfl 2 rfl rfl rfl rfl hl.1 rfl (Nat.le_of_ble_eq_true rfl) dX10_readUnit_133 ⟨Nat.le_of_ble_eq_true rfl, Nat.le_of_ble_eq_true rfl⟩) hP hD hS hA [2] [0, 1] rfl rfl rfl (by decide) (fun r_338 w H locs hw hP hD hS => ?_)
            obtain ⟨br_338, g_339, g_340, rfl⟩ := hw
            have hP : va_P V.1 vwCl [(z 4, aI V 1025 f_11), (z 3, aI V 900 fz3), (z 0, .inr (10, mo z pz0_0 pz0_5 v_12 v_13 pz0_8 v_14 v_15 v_16 v_17 pz0_13 pz0_14 pz0_18 pz0_19 pz0_22 pz0_23 pz0_29))] H := hP
            have hD : va_D A [(z 4, aI V 1025 f_11), (z 3, aI V 900 fz3), (z 0, .inr (10, mo z pz0_0 pz0_5 v_12 v_13 pz0_8 v_14 v_15 v_16 v_17 pz0_13 pz0_14 pz0_18 pz0_19 pz0_22 pz0_23 pz0_29))] := hD
            refine lv_if_eq (tgt := 146) hx hb dX10_readUnit_136 (by decide) (fun c_341 => ?_) (fun c_341 => ?_)
            · have b_342 : iv 0 0 r_338 := iv_q c_341 (iv_c (0 : Int32) (a := 0) (b := 0) (by decide))
              refine lv_aload_n hx hb dX10_readUnit_146 rfl (lv_at hl 1 rfl) ?_
              refine lv_iconst (v := 2) hx hb dX10_readUnit_147 (by decide) ?_
              refine jnV (wr := [(z 4, aI V 1025 f_11), (z 3, aI V 900 fz3)]) (rnV (rest := []) ⟨hx, hb, hml, hown, hg⟩ (k_X10_fails_0 l V z 2 pz0_0 pz0_5 v_12 v_13 pz0_8 v_14 v_15 v_16 v_17 pz0_13 pz0_14 pz0_18 pz0_19 pz0_22 pz0_23 pz0_29 (iv_c (2 : Int32) (by decide)) bpz0_5 bv_12 bv_13 bpz0_8 bv_15 (iv_w b_272 (by decide)) bv_17 bpz0_13 bpz0_14 bpz0_18 bpz0_22 bpz0_29) mt_X10_fails q_6_147 ⟨Nat.le_of_ble_eq_true rfl, Nat.le_of_ble_eq_true rfl⟩ hK hP hD hS hA hE [2] rfl rfl 2 rfl rfl rfl rfl hl.1 rfl (Nat.le_of_ble_eq_true rfl) dX10_readUnit_148 ⟨Nat.le_of_ble_eq_true rfl, Nat.le_of_ble_eq_true rfl⟩) hP hD hS hA [2] [0, 1] rfl rfl rfl (by decide) (fun  w H locs hw hP hD hS => ?_)
              obtain ⟨v_343, v_344, bv_343, bv_344, rfl⟩ := hw
              have hP : va_P V.1 vwCl [(z 4, aI V 1025 f_11), (z 3, aI V 900 fz3), (z 0, .inr (10, mo z pz0_0 pz0_5 v_12 v_13 pz0_8 v_14 v_15 v_343 v_344 pz0_13 pz0_14 pz0_18 pz0_19 pz0_22 pz0_23 pz0_29))] H := hP
              have hD : va_D A [(z 4, aI V 1025 f_11), (z 3, aI V 900 fz3), (z 0, .inr (10, mo z pz0_0 pz0_5 v_12 v_13 pz0_8 v_14 v_15 v_343 v_344 pz0_13 pz0_14 pz0_18 pz0_19 pz0_22 pz0_23 pz0_29))] := hD
              have rx_345 : RX pz0_11 pz0_6 fz4 v_343 v_12 f_11 1 ((9 : Int)) := RX_f bv_343 (by decide)
              refine lv_aload_n hx hb dX10_readUnit_151 rfl (lv_at hl 1 rfl) ?_
              refine lv_iload_n hx hb dX10_readUnit_152 rfl (lv_at hl 2 rfl) ?_
              refine jnV (wr := []) (rnV (rest := []) ⟨hx, hb, hml, hown, hg⟩ (k_X10_readSum_1 l V z f_11 fz3 pz0_0 pz0_5 v_12 v_13 pz0_8 v_14 v_15 v_343 v_344 pz0_13 pz0_14 pz0_18 pz0_19 pz0_22 pz0_23 pz0_29 tf_11 bpz0_5 bv_12 bv_13 bpz0_8 bv_15 (iv_w bv_343 (by decide)) bv_344 bpz0_13 bpz0_14 bpz0_18 bpz0_22 bpz0_29 g_18 (PS_f bv_343 (by decide))) mt_X10_readSum q_6_187 ⟨Nat.le_of_ble_eq_true rfl, Nat.le_of_ble_eq_true rfl⟩ hK hP hD hS hA hE [0, 1, 2] rfl rfl 2 rfl rfl rfl rfl hl.1 rfl (Nat.le_of_ble_eq_true rfl) dX10_readUnit_153 ⟨Nat.le_of_ble_eq_true rfl, Nat.le_of_ble_eq_true rfl⟩) hP hD hS hA [0, 1, 2] [] rfl rfl rfl (by decide) (fun  w H locs hw hP hD hS => ?_)
              obtain ⟨f_346, v_347, v_348, v_349, v_350, v_351, v_352, tf_346, bv_347, bv_348, bv_350, bv_351, bv_352, g_353, g_354, g_355, g_356, rfl⟩ := hw
              have hP : va_P V.1 vwCl [(z 4, aI V 1025 f_346), (z 3, aI V 900 fz3), (z 0, .inr (10, mo z pz0_0 pz0_5 v_347 v_348 pz0_8 v_349 v_350 v_351 v_352 pz0_13 pz0_14 pz0_18 pz0_19 pz0_22 pz0_23 pz0_29))] H := hP
              have hD : va_D A [(z 4, aI V 1025 f_346), (z 3, aI V 900 fz3), (z 0, .inr (10, mo z pz0_0 pz0_5 v_347 v_348 pz0_8 v_349 v_350 v_351 v_352 pz0_13 pz0_14 pz0_18 pz0_19 pz0_22 pz0_23 pz0_29))] := hD
              have rx_357 : RX pz0_11 pz0_6 fz4 v_351 v_347 f_346 2 ((9 : Int)) := by have q9 := RX_seq (by decide) rx_345 g_356; exact RX_w q9 (by omega)
              refine lv_aload_n hx hb dX10_readUnit_156 rfl (lv_at hl 1 rfl) ?_
              refine lv_iload_n hx hb dX10_readUnit_157 rfl (lv_at hl 0 rfl) ?_
              refine jnV (wr := [(z 3, aI V 900 fz3)]) (rnV (rest := []) ⟨hx, hb, hml, hown, hg⟩ (k_X10_codes_0 l V z 3003 f_346 pz0_0 pz0_5 v_347 v_348 pz0_8 v_349 v_350 v_351 v_352 pz0_13 pz0_14 pz0_18 pz0_19 pz0_22 pz0_23 pz0_29 tf_346 bpz0_5 bv_347 bv_348 bpz0_8 bv_350 bv_351 bv_352 bpz0_13 bpz0_14 bpz0_18 bpz0_22 bpz0_29 (PS_n hf1 rx_357 bv_347 (by decide) (by omega))) mt_X10_codes q_6_199 ⟨Nat.le_of_ble_eq_true rfl, Nat.le_of_ble_eq_true rfl⟩ hK hP hD hS hA hE [0, 2] rfl rfl 2 rfl rfl rfl rfl hl.1 rfl (Nat.le_of_ble_eq_true rfl) dX10_readUnit_158 ⟨Nat.le_of_ble_eq_true rfl, Nat.le_of_ble_eq_true rfl⟩) hP hD hS hA [0, 2] [1] rfl rfl rfl (by decide) (fun  w H locs hw hP hD hS => ?_)
              obtain ⟨f_358, tf_358, g_359, g_360, rfl⟩ := hw
              have hP : va_P V.1 vwCl [(z 3, aI V 900 fz3), (z 4, aI V 1025 f_358), (z 0, .inr (10, mo z pz0_0 pz0_5 v_347 v_348 pz0_8 v_349 v_350 v_351 v_352 pz0_13 pz0_14 pz0_18 pz0_19 pz0_22 pz0_23 pz0_29))] H := hP
              have hD : va_D A [(z 3, aI V 900 fz3), (z 4, aI V 1025 f_358), (z 0, .inr (10, mo z pz0_0 pz0_5 v_347 v_348 pz0_8 v_349 v_350 v_351 v_352 pz0_13 pz0_14 pz0_18 pz0_19 pz0_22 pz0_23 pz0_29))] := hD
              have rx_361 : RX pz0_11 pz0_6 fz4 v_351 v_347 f_358 1 ((8 : Int)) := by have q9 := RX_c rx_357 tf_346 g_359 (by decide) ⟨by decide, by decide⟩ (by decide) (PS_n hf1 rx_357 bv_347 (by decide) (by omega)); rw [(by decide : eff (3003 : Int32) = -1)] at q9; exact RX_w q9 (by omega)
              have hP := subP (ws' := [(z 4, aI V 1025 f_358), (z 3, aI V 900 fz3), (z 0, .inr (10, mo z pz0_0 pz0_5 v_347 v_348 pz0_8 v_349 v_350 v_351 v_352 pz0_13 pz0_14 pz0_18 pz0_19 pz0_22 pz0_23 pz0_29))]) hP [1, 0, 2] rfl
              have hD := hD.sub (ws' := [(z 4, aI V 1025 f_358), (z 3, aI V 900 fz3), (z 0, .inr (10, mo z pz0_0 pz0_5 v_347 v_348 pz0_8 v_349 v_350 v_351 v_352 pz0_13 pz0_14 pz0_18 pz0_19 pz0_22 pz0_23 pz0_29))]) [1, 0, 2] rfl rfl
              exact fiV hx hb hr hlk hK hP hD hS dX10_readUnit_161 (Nat.le_of_ble_eq_true rfl) (Nat.le_of_ble_eq_true rfl) (⟨f_358, v_347, v_348, v_349, v_350, v_351, v_352, tf_358, bv_347, bv_348, bv_350, bv_351, bv_352, g_353, (PS_x hf1 rx_361 (by omega)), (by have z_0 := g_20; have z_1 := g_355;have y_0 := hf0.1; have y_1 := g_18.1; have y_2 := g_353.1; omega), (RX_w rx_361 (by omega)), rfl⟩)
            · have b_362 : iv 1 1 r_338 := iv_n0 c_341 br_338 (iv_c (0 : Int32) (a := 0) (b := 0) (by decide)) (by decide)
              have c_363 : v_16 = 0 := (g_339 (iv_eqp b_362 (iv_c (1 : Int32) (by decide))))
              have c_364 : v_14 = 41 := (g_340 (iv_eqp b_362 (iv_c (1 : Int32) (by decide))))
              have b_365 : iv 41 41 v_14 := iv_q c_364 (iv_c (41 : Int32) (a := 41) (b := 41) (by decide))
              refine lv_aload_n hx hb dX10_readUnit_139 rfl (lv_at hl 1 rfl) ?_
              refine jnV (wr := [(z 4, aI V 1025 f_11)]) (rnV (rest := []) ⟨hx, hb, hml, hown, hg⟩ (k_X10_next_0 l V z pz0_0 pz0_5 v_12 v_13 pz0_8 v_14 v_15 v_16 v_17 pz0_13 pz0_14 pz0_18 pz0_19 pz0_22 pz0_23 pz0_29 fz3 bpz0_5 bv_12 bv_13 bpz0_8 bv_15 (iv_w b_272 (by decide)) bv_17 bpz0_13 bpz0_14 bpz0_18 bpz0_22 bpz0_29 g_18.2.1) mt_X10_next q_6_117 ⟨Nat.le_of_ble_eq_true rfl, Nat.le_of_ble_eq_true rfl⟩ hK hP hD hS hA hE [2, 1] rfl rfl 2 rfl rfl rfl rfl hl.1 rfl (Nat.le_of_ble_eq_true rfl) dX10_readUnit_140 ⟨Nat.le_of_ble_eq_true rfl, Nat.le_of_ble_eq_true rfl⟩) hP hD hS hA [2, 1] [0] rfl rfl rfl (by decide) (fun  w H locs hw hP hD hS => ?_)
              obtain ⟨v_366, v_367, v_368, v_369, bv_366, bv_367, bv_369, g_370, g_371, rfl⟩ := hw
              have hP : va_P V.1 vwCl [(z 4, aI V 1025 f_11), (z 0, .inr (10, mo z pz0_0 pz0_5 v_366 v_367 pz0_8 v_368 v_369 v_16 v_17 pz0_13 pz0_14 pz0_18 pz0_19 pz0_22 pz0_23 pz0_29)), (z 3, aI V 900 fz3)] H := hP
              have hD : va_D A [(z 4, aI V 1025 f_11), (z 0, .inr (10, mo z pz0_0 pz0_5 v_366 v_367 pz0_8 v_368 v_369 v_16 v_17 pz0_13 pz0_14 pz0_18 pz0_19 pz0_22 pz0_23 pz0_29)), (z 3, aI V 900 fz3)] := hD
              have rx_372 : RX pz0_11 pz0_6 fz4 v_16 v_366 f_11 1 ((1 : Int)) := by have q9 := RX_a (a' := v_366) rx_22 (fun q8 => q8) (t := 1) (by have q9 := g_371; have q8 := g_18.2.2 (by rw [c_364]; decide); omega); exact RX_w q9 (by omega)
              refine lv_goto (tgt := 151) hx hb dX10_readUnit_143 (by decide) ?_
              refine lv_aload_n hx hb dX10_readUnit_151 rfl (lv_at hl 1 rfl) ?_
              refine lv_iload_n hx hb dX10_readUnit_152 rfl (lv_at hl 2 rfl) ?_
              refine jnV (wr := []) (rnV (rest := []) ⟨hx, hb, hml, hown, hg⟩ (k_X10_readSum_1 l V z f_11 fz3 pz0_0 pz0_5 v_366 v_367 pz0_8 v_368 v_369 v_16 v_17 pz0_13 pz0_14 pz0_18 pz0_19 pz0_22 pz0_23 pz0_29 tf_11 bpz0_5 bv_366 bv_367 bpz0_8 bv_369 (iv_w b_272 (by decide)) bv_17 bpz0_13 bpz0_14 bpz0_18 bpz0_22 bpz0_29 g_370 (PS_x hf1 rx_372 (by omega))) mt_X10_readSum q_6_187 ⟨Nat.le_of_ble_eq_true rfl, Nat.le_of_ble_eq_true rfl⟩ hK hP hD hS hA hE [0, 2, 1] rfl rfl 1 rfl rfl rfl rfl hl.1 rfl (Nat.le_of_ble_eq_true rfl) dX10_readUnit_153 ⟨Nat.le_of_ble_eq_true rfl, Nat.le_of_ble_eq_true rfl⟩) hP hD hS hA [0, 2, 1] [] rfl rfl rfl (by decide) (fun  w H locs hw hP hD hS => ?_)
              obtain ⟨f_373, v_374, v_375, v_376, v_377, v_378, v_379, tf_373, bv_374, bv_375, bv_377, bv_378, bv_379, g_380, g_381, g_382, g_383, rfl⟩ := hw
              have hP : va_P V.1 vwCl [(z 4, aI V 1025 f_373), (z 3, aI V 900 fz3), (z 0, .inr (10, mo z pz0_0 pz0_5 v_374 v_375 pz0_8 v_376 v_377 v_378 v_379 pz0_13 pz0_14 pz0_18 pz0_19 pz0_22 pz0_23 pz0_29))] H := hP
              have hD : va_D A [(z 4, aI V 1025 f_373), (z 3, aI V 900 fz3), (z 0, .inr (10, mo z pz0_0 pz0_5 v_374 v_375 pz0_8 v_376 v_377 v_378 v_379 pz0_13 pz0_14 pz0_18 pz0_19 pz0_22 pz0_23 pz0_29))] := hD
              have rx_384 : RX pz0_11 pz0_6 fz4 v_378 v_374 f_373 2 ((1 : Int)) := by have q9 := RX_seq (by decide) rx_372 g_383; exact RX_w q9 (by omega)
              refine lv_aload_n hx hb dX10_readUnit_156 rfl (lv_at hl 1 rfl) ?_
              refine lv_iload_n hx hb dX10_readUnit_157 rfl (lv_at hl 0 rfl) ?_
              refine jnV (wr := [(z 3, aI V 900 fz3)]) (rnV (rest := []) ⟨hx, hb, hml, hown, hg⟩ (k_X10_codes_0 l V z 3003 f_373 pz0_0 pz0_5 v_374 v_375 pz0_8 v_376 v_377 v_378 v_379 pz0_13 pz0_14 pz0_18 pz0_19 pz0_22 pz0_23 pz0_29 tf_373 bpz0_5 bv_374 bv_375 bpz0_8 bv_377 bv_378 bv_379 bpz0_13 bpz0_14 bpz0_18 bpz0_22 bpz0_29 (PS_n hf1 rx_384 bv_374 (by decide) (by omega))) mt_X10_codes q_6_199 ⟨Nat.le_of_ble_eq_true rfl, Nat.le_of_ble_eq_true rfl⟩ hK hP hD hS hA hE [0, 2] rfl rfl 2 rfl rfl rfl rfl hl.1 rfl (Nat.le_of_ble_eq_true rfl) dX10_readUnit_158 ⟨Nat.le_of_ble_eq_true rfl, Nat.le_of_ble_eq_true rfl⟩) hP hD hS hA [0, 2] [1] rfl rfl rfl (by decide) (fun  w H locs hw hP hD hS => ?_)
              obtain ⟨f_385, tf_385, g_386, g_387, rfl⟩ := hw
              have hP : va_P V.1 vwCl [(z 3, aI V 900 fz3), (z 4, aI V 1025 f_385), (z 0, .inr (10, mo z pz0_0 pz0_5 v_374 v_375 pz0_8 v_376 v_377 v_378 v_379 pz0_13 pz0_14 pz0_18 pz0_19 pz0_22 pz0_23 pz0_29))] H := hP
              have hD : va_D A [(z 3, aI V 900 fz3), (z 4, aI V 1025 f_385), (z 0, .inr (10, mo z pz0_0 pz0_5 v_374 v_375 pz0_8 v_376 v_377 v_378 v_379 pz0_13 pz0_14 pz0_18 pz0_19 pz0_22 pz0_23 pz0_29))] := hD
              have rx_388 : RX pz0_11 pz0_6 fz4 v_378 v_374 f_385 1 ((0 : Int)) := by have q9 := RX_c rx_384 tf_373 g_386 (by decide) ⟨by decide, by decide⟩ (by decide) (PS_n hf1 rx_384 bv_374 (by decide) (by omega)); rw [(by decide : eff (3003 : Int32) = -1)] at q9; exact RX_w q9 (by omega)
              have hP := subP (ws' := [(z 4, aI V 1025 f_385), (z 3, aI V 900 fz3), (z 0, .inr (10, mo z pz0_0 pz0_5 v_374 v_375 pz0_8 v_376 v_377 v_378 v_379 pz0_13 pz0_14 pz0_18 pz0_19 pz0_22 pz0_23 pz0_29))]) hP [1, 0, 2] rfl
              have hD := hD.sub (ws' := [(z 4, aI V 1025 f_385), (z 3, aI V 900 fz3), (z 0, .inr (10, mo z pz0_0 pz0_5 v_374 v_375 pz0_8 v_376 v_377 v_378 v_379 pz0_13 pz0_14 pz0_18 pz0_19 pz0_22 pz0_23 pz0_29))]) [1, 0, 2] rfl rfl
              exact fiV hx hb hr hlk hK hP hD hS dX10_readUnit_161 (Nat.le_of_ble_eq_true rfl) (Nat.le_of_ble_eq_true rfl) (⟨f_385, v_374, v_375, v_376, v_377, v_378, v_379, tf_385, bv_374, bv_375, bv_377, bv_378, bv_379, g_380, (PS_x hf1 rx_388 (by omega)), (by have z_0 := g_20; have z_1 := g_371; have z_2 := g_382;have y_0 := hf0.1; have y_1 := g_18.1; have y_2 := g_370.1; have y_3 := g_380.1; omega), (RX_w rx_388 (by omega)), rfl⟩)
    · have b_389 : iv 1 1 r_6 := iv_n0 c_9 br_6 (iv_c (0 : Int32) (a := 0) (b := 0) (by decide)) (by decide)
      have c_390 : pz0_11 = 0 := (g_7 (iv_eqp b_389 (iv_c (1 : Int32) (by decide))))
      have b_391 : iv 0 0 pz0_11 := iv_q c_390 (iv_c (0 : Int32) (a := 0) (b := 0) (by decide))
      have c_392 : pz0_9 = 37 := (g_8 (iv_eqp b_389 (iv_c (1 : Int32) (by decide))))
      have b_393 : iv 37 37 pz0_9 := iv_q c_392 (iv_c (37 : Int32) (a := 37) (b := 37) (by decide))
      refine lv_aload_n hx hb dX10_readUnit_42 rfl (lv_at hl 0 rfl) ?_
      refine lv_iload_n hx hb dX10_readUnit_43 rfl (lv_at hl 1 rfl) ?_
      refine jnI (wr := [(z 4, aI V 1025 fz4)]) (rnV (rest := []) ⟨hx, hb, hml, hown, hg⟩ (k_X10_goesIn_5 l V z fz3 pz0_0 pz0_5 pz0_6 pz0_7 pz0_8 pz0_9 pz0_10 pz0_11 pz0_12 pz0_13 pz0_14 pz0_18 pz0_19 pz0_22 pz0_23 pz0_29 bpz0_5 bpz0_6 bpz0_7 bpz0_8 bpz0_10 (iv_w b_391 (by decide)) bpz0_12 bpz0_13 bpz0_14 bpz0_18 bpz0_22 bpz0_29 hf0) mt_X10_goesIn q_6_207 ⟨Nat.le_of_ble_eq_true rfl, Nat.le_of_ble_eq_true rfl⟩ hK hP hD hS hA hE [1, 2] rfl rfl 2 rfl rfl rfl rfl hl.1 rfl (Nat.le_of_ble_eq_true rfl) dX10_readUnit_44 ⟨Nat.le_of_ble_eq_true rfl, Nat.le_of_ble_eq_true rfl⟩) hP hD hS hA [1, 2] [0] rfl rfl rfl (by decide) (fun r_394 w H locs hw hP hD hS => ?_)
      obtain ⟨v_395, v_396, v_397, v_398, bv_395, bv_396, bv_398, br_394, g_399, g_400, g_401, g_402, g_403, g_404, rfl⟩ := hw
      have hP : va_P V.1 vwCl [(z 4, aI V 1025 fz4), (z 3, aI V 900 fz3), (z 0, .inr (10, mo z pz0_0 pz0_5 v_395 v_396 pz0_8 v_397 v_398 pz0_11 pz0_12 pz0_13 pz0_14 pz0_18 pz0_19 pz0_22 pz0_23 pz0_29))] H := hP
      have hD : va_D A [(z 4, aI V 1025 fz4), (z 3, aI V 900 fz3), (z 0, .inr (10, mo z pz0_0 pz0_5 v_395 v_396 pz0_8 v_397 v_398 pz0_11 pz0_12 pz0_13 pz0_14 pz0_18 pz0_19 pz0_22 pz0_23 pz0_29))] := hD
      have rx_405 : RX pz0_11 pz0_6 fz4 pz0_11 v_395 fz4 0 ((0 : Int) + adv r_394) := by have q9 := RX_a (RX_0 (w := pz0_11) (a := pz0_6) tfz4) g_401 (adv_le g_400 (fun q8 => g_403 (by rw [c_392]; decide) q8)); exact RX_w q9 (by omega)
      refine lv_if_ne (tgt := 51) hx hb dX10_readUnit_47 (by decide) (fun c_406 => ?_) (fun c_406 => ?_)
      · have b_407 : iv 1 1 r_394 := iv_n0 c_406 br_394 (iv_c (0 : Int32) (a := 0) (b := 0) (by decide)) (by decide)
        have c_408 : pz0_11 = 0 := (g_402 (iv_eqp b_407 (iv_c (1 : Int32) (by decide))))
        refine lv_aload_n hx hb dX10_readUnit_51 rfl (lv_at hl 0 rfl) ?_
        refine lv_iload_n hx hb dX10_readUnit_52 rfl (lv_at hl 1 rfl) ?_
        refine lv_iconst (v := 1) hx hb dX10_readUnit_53 (by decide) ?_
        refine lv_iadd hx hb dX10_readUnit_54 ?_
        refine tpi (y := 6) (by decide +kernel) ?_
        refine jnV (wr := []) (rnV (rest := []) ⟨hx, hb, hml, hown, hg⟩ (k_X10_readTruth_0 l V z fz4 fz3 pz0_0 pz0_5 v_395 v_396 pz0_8 v_397 v_398 pz0_11 pz0_12 pz0_13 pz0_14 pz0_18 pz0_19 pz0_22 pz0_23 pz0_29 tfz4 bpz0_5 bv_395 bv_396 bpz0_8 bv_398 (iv_w b_391 (by decide)) bpz0_12 bpz0_13 bpz0_14 bpz0_18 bpz0_22 bpz0_29 g_399 (PS_x hf1 rx_405 (by have z_r_394 := adv_1 (iv_eqp b_407 (iv_c (1 : Int32) (by decide))); omega))) mt_X10_readTruth q_6_215 ⟨Nat.le_of_ble_eq_true rfl, Nat.le_of_ble_eq_true rfl⟩ hK hP hD hS hA hE [0, 1, 2] rfl rfl 2 rfl rfl rfl rfl hl.1 rfl (Nat.le_of_ble_eq_true rfl) dX10_readUnit_55 ⟨Nat.le_of_ble_eq_true rfl, Nat.le_of_ble_eq_true rfl⟩) hP hD hS hA [0, 1, 2] [] rfl rfl rfl (by decide) (fun  w H locs hw hP hD hS => ?_)
        obtain ⟨f_409, v_410, v_411, v_412, v_413, v_414, v_415, tf_409, bv_410, bv_411, bv_413, bv_414, bv_415, g_416, g_417, g_418, g_419, rfl⟩ := hw
        have hP : va_P V.1 vwCl [(z 4, aI V 1025 f_409), (z 3, aI V 900 fz3), (z 0, .inr (10, mo z pz0_0 pz0_5 v_410 v_411 pz0_8 v_412 v_413 v_414 v_415 pz0_13 pz0_14 pz0_18 pz0_19 pz0_22 pz0_23 pz0_29))] H := hP
        have hD : va_D A [(z 4, aI V 1025 f_409), (z 3, aI V 900 fz3), (z 0, .inr (10, mo z pz0_0 pz0_5 v_410 v_411 pz0_8 v_412 v_413 v_414 v_415 pz0_13 pz0_14 pz0_18 pz0_19 pz0_22 pz0_23 pz0_29))] := hD
        have rx_420 : RX pz0_11 pz0_6 fz4 v_414 v_410 f_409 1 ((0 : Int) + adv r_394) := by have q9 := RX_seq (by decide) rx_405 g_419; exact RX_w q9 (by omega)
        refine lv_aload_n hx hb dX10_readUnit_58 rfl (lv_at hl 0 rfl) ?_
        refine lv_bipush (v := 38) hx hb dX10_readUnit_59 (by decide) ?_
        refine jnI (wr := [(z 4, aI V 1025 f_409)]) (rnV (rest := []) ⟨hx, hb, hml, hown, hg⟩ (k_X10_eats_11 l V z fz3 pz0_0 pz0_5 v_410 v_411 pz0_8 v_412 v_413 v_414 v_415 pz0_13 pz0_14 pz0_18 pz0_19 pz0_22 pz0_23 pz0_29 bpz0_5 bv_410 bv_411 bpz0_8 bv_413 bv_414 bv_415 bpz0_13 bpz0_14 bpz0_18 bpz0_22 bpz0_29 g_416) mt_X10_eats q_6_139 ⟨Nat.le_of_ble_eq_true rfl, Nat.le_of_ble_eq_true rfl⟩ hK hP hD hS hA hE [1, 2] rfl rfl 2 rfl rfl rfl rfl hl.1 rfl (Nat.le_of_ble_eq_true rfl) dX10_readUnit_61 ⟨Nat.le_of_ble_eq_true rfl, Nat.le_of_ble_eq_true rfl⟩) hP hD hS hA [1, 2] [0] rfl rfl rfl (by decide) (fun r_421 w H locs hw hP hD hS => ?_)
        obtain ⟨v_422, v_423, v_424, v_425, bv_422, bv_423, bv_425, br_421, g_426, g_427, g_428, g_429, rfl⟩ := hw
        have hP : va_P V.1 vwCl [(z 4, aI V 1025 f_409), (z 3, aI V 900 fz3), (z 0, .inr (10, mo z pz0_0 pz0_5 v_422 v_423 pz0_8 v_424 v_425 v_414 v_415 pz0_13 pz0_14 pz0_18 pz0_19 pz0_22 pz0_23 pz0_29))] H := hP
        have hD : va_D A [(z 4, aI V 1025 f_409), (z 3, aI V 900 fz3), (z 0, .inr (10, mo z pz0_0 pz0_5 v_422 v_423 pz0_8 v_424 v_425 v_414 v_415 pz0_13 pz0_14 pz0_18 pz0_19 pz0_22 pz0_23 pz0_29))] := hD
        have rx_430 : RX pz0_11 pz0_6 fz4 v_414 v_422 f_409 1 ((0 : Int) + adv r_394 + adv r_421) := by have q9 := RX_a rx_420 (fun q8 => q8) (adv_le g_427 g_429); exact RX_w q9 (by omega)
        refine lv_if_ne (tgt := 72) hx hb dX10_readUnit_64 (by decide) (fun c_431 => ?_) (fun c_431 => ?_)
        · have b_432 : iv 1 1 r_421 := iv_n0 c_431 br_421 (iv_c (0 : Int32) (a := 0) (b := 0) (by decide)) (by decide)
          have c_433 : v_414 = 0 := (g_428 (iv_eqp b_432 (iv_c (1 : Int32) (by decide))))
          have b_434 : iv 0 0 v_414 := iv_q c_433 (iv_c (0 : Int32) (a := 0) (b := 0) (by decide))
          exact fiV hx hb hr hlk hK hP hD hS dX10_readUnit_72 (Nat.le_of_ble_eq_true rfl) (Nat.le_of_ble_eq_true rfl) (⟨f_409, v_422, v_423, v_424, v_425, v_414, v_415, tf_409, bv_422, bv_423, bv_425, (iv_w b_434 (by decide)), bv_415, g_426, (PS_x hf1 rx_430 (by have z_r_394 := adv_1 (iv_eqp b_407 (iv_c (1 : Int32) (by decide))); have z_r_421 := adv_1 (iv_eqp b_432 (iv_c (1 : Int32) (by decide))); omega)), (by have z_0 := g_400; have z_1 := g_418; have z_2 := g_427;have y_0 := hf0.1; have y_1 := g_399.1; have y_2 := g_416.1; have y_3 := g_426.1; omega), (RX_w rx_430 (by have z_r_394 := adv_1 (iv_eqp b_407 (iv_c (1 : Int32) (by decide))); have z_r_421 := adv_1 (iv_eqp b_432 (iv_c (1 : Int32) (by decide))); omega)), rfl⟩)
        · have b_435 : iv 0 0 r_421 := iv_q c_431 (iv_c (0 : Int32) (a := 0) (b := 0) (by decide))
          refine lv_aload_n hx hb dX10_readUnit_67 rfl (lv_at hl 0 rfl) ?_
          refine lv_iconst (v := 2) hx hb dX10_readUnit_68 (by decide) ?_
          refine jnV (wr := [(z 4, aI V 1025 f_409), (z 3, aI V 900 fz3)]) (rnV (rest := []) ⟨hx, hb, hml, hown, hg⟩ (k_X10_fails_0 l V z 2 pz0_0 pz0_5 v_422 v_423 pz0_8 v_424 v_425 v_414 v_415 pz0_13 pz0_14 pz0_18 pz0_19 pz0_22 pz0_23 pz0_29 (iv_c (2 : Int32) (by decide)) bpz0_5 bv_422 bv_423 bpz0_8 bv_425 bv_414 bv_415 bpz0_13 bpz0_14 bpz0_18 bpz0_22 bpz0_29) mt_X10_fails q_6_147 ⟨Nat.le_of_ble_eq_true rfl, Nat.le_of_ble_eq_true rfl⟩ hK hP hD hS hA hE [2] rfl rfl 2 rfl rfl rfl rfl hl.1 rfl (Nat.le_of_ble_eq_true rfl) dX10_readUnit_69 ⟨Nat.le_of_ble_eq_true rfl, Nat.le_of_ble_eq_true rfl⟩) hP hD hS hA [2] [0, 1] rfl rfl rfl (by decide) (fun  w H locs hw hP hD hS => ?_)
          obtain ⟨v_436, v_437, bv_436, bv_437, rfl⟩ := hw
          have hP : va_P V.1 vwCl [(z 4, aI V 1025 f_409), (z 3, aI V 900 fz3), (z 0, .inr (10, mo z pz0_0 pz0_5 v_422 v_423 pz0_8 v_424 v_425 v_436 v_437 pz0_13 pz0_14 pz0_18 pz0_19 pz0_22 pz0_23 pz0_29))] H := hP
          have hD : va_D A [(z 4, aI V 1025 f_409), (z 3, aI V 900 fz3), (z 0, .inr (10, mo z pz0_0 pz0_5 v_422 v_423 pz0_8 v_424 v_425 v_436 v_437 pz0_13 pz0_14 pz0_18 pz0_19 pz0_22 pz0_23 pz0_29))] := hD
          have rx_438 : RX pz0_11 pz0_6 fz4 v_436 v_422 f_409 1 ((9 : Int)) := RX_f bv_436 (by decide)
          exact fiV hx hb hr hlk hK hP hD hS dX10_readUnit_72 (Nat.le_of_ble_eq_true rfl) (Nat.le_of_ble_eq_true rfl) (⟨f_409, v_422, v_423, v_424, v_425, v_436, v_437, tf_409, bv_422, bv_423, bv_425, (iv_w bv_436 (by decide)), bv_437, g_426, (PS_f bv_436 (by decide)), (by have z_0 := g_400; have z_1 := g_418; have z_2 := g_427;have y_0 := hf0.1; have y_1 := g_399.1; have y_2 := g_416.1; have y_3 := g_426.1; omega), (RX_f bv_436 (by decide)), rfl⟩)
      · have b_439 : iv 0 0 r_394 := iv_q c_406 (iv_c (0 : Int32) (a := 0) (b := 0) (by decide))
        have c_440 : ¬ pz0_11 = 0 := (g_404 (iv_eqp b_439 (iv_c (0 : Int32) (by decide))))
        have b_441 : iv 1 0 pz0_11 := iv_n0 c_440 b_391 (iv_c (0 : Int32) (a := 0) (b := 0) (by decide)) (by decide)
        exact fiV hx hb hr hlk hK hP hD hS dX10_readUnit_50 (Nat.le_of_ble_eq_true rfl) (Nat.le_of_ble_eq_true rfl) (⟨fz4, v_395, v_396, v_397, v_398, pz0_11, pz0_12, tfz4, bv_395, bv_396, bv_398, (iv_w b_441 (by decide)), bpz0_12, g_399, (PS_f b_441 (by decide)), (by have z_0 := g_400;have y_0 := hf0.1; have y_1 := g_399.1; omega), (RX_f b_441 (by decide)), rfl⟩)
  · have b_442 : iv 1 1 r_1 := iv_n0 c_4 br_1 (iv_c (0 : Int32) (a := 0) (b := 0) (by decide)) (by decide)
    have c_443 : pz0_11 = 0 := (g_2 (iv_eqp b_442 (iv_c (1 : Int32) (by decide))))
    have b_444 : iv 0 0 pz0_11 := iv_q c_443 (iv_c (0 : Int32) (a := 0) (b := 0) (by decide))
    have c_445 : pz0_9 = 21 := (g_3 (iv_eqp b_442 (iv_c (1 : Int32) (by decide))))
    have b_446 : iv 21 21 pz0_9 := iv_q c_445 (iv_c (21 : Int32) (a := 21) (b := 21) (by decide))
    refine lv_aload_n hx hb dX10_readUnit_9 rfl (lv_at hl 0 rfl) ?_
    refine lv_iload_n hx hb dX10_readUnit_10 rfl (lv_at hl 1 rfl) ?_
    refine jnI (wr := [(z 4, aI V 1025 fz4)]) (rnV (rest := []) ⟨hx, hb, hml, hown, hg⟩ (k_X10_goesIn_5 l V z fz3 pz0_0 pz0_5 pz0_6 pz0_7 pz0_8 pz0_9 pz0_10 pz0_11 pz0_12 pz0_13 pz0_14 pz0_18 pz0_19 pz0_22 pz0_23 pz0_29 bpz0_5 bpz0_6 bpz0_7 bpz0_8 bpz0_10 (iv_w b_444 (by decide)) bpz0_12 bpz0_13 bpz0_14 bpz0_18 bpz0_22 bpz0_29 hf0) mt_X10_goesIn q_6_207 ⟨Nat.le_of_ble_eq_true rfl, Nat.le_of_ble_eq_true rfl⟩ hK hP hD hS hA hE [1, 2] rfl rfl 2 rfl rfl rfl rfl hl.1 rfl (Nat.le_of_ble_eq_true rfl) dX10_readUnit_11 ⟨Nat.le_of_ble_eq_true rfl, Nat.le_of_ble_eq_true rfl⟩) hP hD hS hA [1, 2] [0] rfl rfl rfl (by decide) (fun r_447 w H locs hw hP hD hS => ?_)
    obtain ⟨v_448, v_449, v_450, v_451, bv_448, bv_449, bv_451, br_447, g_452, g_453, g_454, g_455, g_456, g_457, rfl⟩ := hw
    have hP : va_P V.1 vwCl [(z 4, aI V 1025 fz4), (z 3, aI V 900 fz3), (z 0, .inr (10, mo z pz0_0 pz0_5 v_448 v_449 pz0_8 v_450 v_451 pz0_11 pz0_12 pz0_13 pz0_14 pz0_18 pz0_19 pz0_22 pz0_23 pz0_29))] H := hP
    have hD : va_D A [(z 4, aI V 1025 fz4), (z 3, aI V 900 fz3), (z 0, .inr (10, mo z pz0_0 pz0_5 v_448 v_449 pz0_8 v_450 v_451 pz0_11 pz0_12 pz0_13 pz0_14 pz0_18 pz0_19 pz0_22 pz0_23 pz0_29))] := hD
    have rx_458 : RX pz0_11 pz0_6 fz4 pz0_11 v_448 fz4 0 ((0 : Int) + adv r_447) := by have q9 := RX_a (RX_0 (w := pz0_11) (a := pz0_6) tfz4) g_454 (adv_le g_453 (fun q8 => g_456 (by rw [c_445]; decide) q8)); exact RX_w q9 (by omega)
    refine lv_if_ne (tgt := 18) hx hb dX10_readUnit_14 (by decide) (fun c_459 => ?_) (fun c_459 => ?_)
    · have b_460 : iv 1 1 r_447 := iv_n0 c_459 br_447 (iv_c (0 : Int32) (a := 0) (b := 0) (by decide)) (by decide)
      have c_461 : pz0_11 = 0 := (g_455 (iv_eqp b_460 (iv_c (1 : Int32) (by decide))))
      refine lv_aload_n hx hb dX10_readUnit_18 rfl (lv_at hl 0 rfl) ?_
      refine lv_iload_n hx hb dX10_readUnit_19 rfl (lv_at hl 1 rfl) ?_
      refine lv_iconst (v := 1) hx hb dX10_readUnit_20 (by decide) ?_
      refine lv_iadd hx hb dX10_readUnit_21 ?_
      refine tpi (y := 6) (by decide +kernel) ?_
      refine jnV (wr := []) (rnV (rest := []) ⟨hx, hb, hml, hown, hg⟩ (k_X10_readUnit_0 l V z fz4 fz3 pz0_0 pz0_5 v_448 v_449 pz0_8 v_450 v_451 pz0_11 pz0_12 pz0_13 pz0_14 pz0_18 pz0_19 pz0_22 pz0_23 pz0_29 tfz4 bpz0_5 bv_448 bv_449 bpz0_8 bv_451 (iv_w b_444 (by decide)) bpz0_12 bpz0_13 bpz0_14 bpz0_18 bpz0_22 bpz0_29 g_452 (PS_x hf1 rx_458 (by have z_r_447 := adv_1 (iv_eqp b_460 (iv_c (1 : Int32) (by decide))); omega))) mt_X10_readUnit q_6_223 ⟨Nat.le_of_ble_eq_true rfl, Nat.le_of_ble_eq_true rfl⟩ hK hP hD hS hA hE [0, 1, 2] rfl rfl 2 rfl rfl rfl rfl hl.1 rfl (Nat.le_of_ble_eq_true rfl) dX10_readUnit_22 ⟨Nat.le_of_ble_eq_true rfl, Nat.le_of_ble_eq_true rfl⟩) hP hD hS hA [0, 1, 2] [] rfl rfl rfl (by decide) (fun  w H locs hw hP hD hS => ?_)
      obtain ⟨f_462, v_463, v_464, v_465, v_466, v_467, v_468, tf_462, bv_463, bv_464, bv_466, bv_467, bv_468, g_469, g_470, g_471, g_472, rfl⟩ := hw
      have hP : va_P V.1 vwCl [(z 4, aI V 1025 f_462), (z 3, aI V 900 fz3), (z 0, .inr (10, mo z pz0_0 pz0_5 v_463 v_464 pz0_8 v_465 v_466 v_467 v_468 pz0_13 pz0_14 pz0_18 pz0_19 pz0_22 pz0_23 pz0_29))] H := hP
      have hD : va_D A [(z 4, aI V 1025 f_462), (z 3, aI V 900 fz3), (z 0, .inr (10, mo z pz0_0 pz0_5 v_463 v_464 pz0_8 v_465 v_466 v_467 v_468 pz0_13 pz0_14 pz0_18 pz0_19 pz0_22 pz0_23 pz0_29))] := hD
      have rx_473 : RX pz0_11 pz0_6 fz4 v_467 v_463 f_462 1 ((0 : Int) + adv r_447) := by have q9 := RX_seq (by decide) rx_458 g_472; exact RX_w q9 (by omega)
      refine lv_aload_n hx hb dX10_readUnit_25 rfl (lv_at hl 0 rfl) ?_
      refine lv_sipush (v := 3006) hx hb dX10_readUnit_26 (by decide) ?_
      refine jnV (wr := [(z 3, aI V 900 fz3)]) (rnV (rest := []) ⟨hx, hb, hml, hown, hg⟩ (k_X10_codes_0 l V z 3006 f_462 pz0_0 pz0_5 v_463 v_464 pz0_8 v_465 v_466 v_467 v_468 pz0_13 pz0_14 pz0_18 pz0_19 pz0_22 pz0_23 pz0_29 tf_462 bpz0_5 bv_463 bv_464 bpz0_8 bv_466 bv_467 bv_468 bpz0_13 bpz0_14 bpz0_18 bpz0_22 bpz0_29 (PS_n hf1 rx_473 bv_463 (by decide) (by have z_r_447 := adv_1 (iv_eqp b_460 (iv_c (1 : Int32) (by decide))); omega))) mt_X10_codes q_6_199 ⟨Nat.le_of_ble_eq_true rfl, Nat.le_of_ble_eq_true rfl⟩ hK hP hD hS hA hE [0, 2] rfl rfl 2 rfl rfl rfl rfl hl.1 rfl (Nat.le_of_ble_eq_true rfl) dX10_readUnit_29 ⟨Nat.le_of_ble_eq_true rfl, Nat.le_of_ble_eq_true rfl⟩) hP hD hS hA [0, 2] [1] rfl rfl rfl (by decide) (fun  w H locs hw hP hD hS => ?_)
      obtain ⟨f_474, tf_474, g_475, g_476, rfl⟩ := hw
      have hP : va_P V.1 vwCl [(z 3, aI V 900 fz3), (z 4, aI V 1025 f_474), (z 0, .inr (10, mo z pz0_0 pz0_5 v_463 v_464 pz0_8 v_465 v_466 v_467 v_468 pz0_13 pz0_14 pz0_18 pz0_19 pz0_22 pz0_23 pz0_29))] H := hP
      have hD : va_D A [(z 3, aI V 900 fz3), (z 4, aI V 1025 f_474), (z 0, .inr (10, mo z pz0_0 pz0_5 v_463 v_464 pz0_8 v_465 v_466 v_467 v_468 pz0_13 pz0_14 pz0_18 pz0_19 pz0_22 pz0_23 pz0_29))] := hD
      have rx_477 : RX pz0_11 pz0_6 fz4 v_467 v_463 f_474 1 ((-1 : Int) + adv r_447) := by have q9 := RX_c rx_473 tf_462 g_475 (by decide) ⟨by decide, by decide⟩ (by decide) (PS_n hf1 rx_473 bv_463 (by decide) (by have z_r_447 := adv_1 (iv_eqp b_460 (iv_c (1 : Int32) (by decide))); omega)); rw [(by decide : eff (3006 : Int32) = 0)] at q9; exact RX_w q9 (by omega)
      have hP := subP (ws' := [(z 4, aI V 1025 f_474), (z 3, aI V 900 fz3), (z 0, .inr (10, mo z pz0_0 pz0_5 v_463 v_464 pz0_8 v_465 v_466 v_467 v_468 pz0_13 pz0_14 pz0_18 pz0_19 pz0_22 pz0_23 pz0_29))]) hP [1, 0, 2] rfl
      have hD := hD.sub (ws' := [(z 4, aI V 1025 f_474), (z 3, aI V 900 fz3), (z 0, .inr (10, mo z pz0_0 pz0_5 v_463 v_464 pz0_8 v_465 v_466 v_467 v_468 pz0_13 pz0_14 pz0_18 pz0_19 pz0_22 pz0_23 pz0_29))]) [1, 0, 2] rfl rfl
      exact fiV hx hb hr hlk hK hP hD hS dX10_readUnit_32 (Nat.le_of_ble_eq_true rfl) (Nat.le_of_ble_eq_true rfl) (⟨f_474, v_463, v_464, v_465, v_466, v_467, v_468, tf_474, bv_463, bv_464, bv_466, bv_467, bv_468, g_469, (PS_x hf1 rx_477 (by have z_r_447 := adv_1 (iv_eqp b_460 (iv_c (1 : Int32) (by decide))); omega)), (by have z_0 := g_453; have z_1 := g_471;have y_0 := hf0.1; have y_1 := g_452.1; have y_2 := g_469.1; omega), (RX_w rx_477 (by have z_r_447 := adv_1 (iv_eqp b_460 (iv_c (1 : Int32) (by decide))); omega)), rfl⟩)
    · have b_478 : iv 0 0 r_447 := iv_q c_459 (iv_c (0 : Int32) (a := 0) (b := 0) (by decide))
      have c_479 : ¬ pz0_11 = 0 := (g_457 (iv_eqp b_478 (iv_c (0 : Int32) (by decide))))
      have b_480 : iv 1 0 pz0_11 := iv_n0 c_479 b_444 (iv_c (0 : Int32) (a := 0) (b := 0) (by decide)) (by decide)
      exact fiV hx hb hr hlk hK hP hD hS dX10_readUnit_17 (Nat.le_of_ble_eq_true rfl) (Nat.le_of_ble_eq_true rfl) (⟨fz4, v_448, v_449, v_450, v_451, pz0_11, pz0_12, tfz4, bv_448, bv_449, bv_451, (iv_w b_480 (by decide)), bpz0_12, g_452, (PS_f b_480 (by decide)), (by have z_0 := g_453;have y_0 := hf0.1; have y_1 := g_452.1; omega), (RX_f b_480 (by decide)), rfl⟩)
