set_option maxHeartbeats 4000000 in
set_option maxRecDepth 100000 in
theorem k_X10_eats_15 (l : Launch) (V : GV) (z : Nat → Nat) (pz0_0 : Int32) (pz0_5 : Int32) (pz0_6 : Int32) (pz0_7 : Int32) (pz0_8 : Int32) (pz0_9 : Int32) (pz0_10 : Int32) (pz0_11 : Int32) (pz0_12 : Int32) (pz0_13 : Int32) (pz0_14 : Int32) (pz0_18 : Int32) (pz0_19 : Int32) (pz0_22 : Int32) (pz0_23 : Int32) (pz0_29 : Int32) (fz3 : Nat → Int32) (bpz0_5 : iv 0 900 pz0_5) (bpz0_6 : iv 0 900 pz0_6) (bpz0_7 : iv 0 900 pz0_7) (bpz0_8 : iv 0 900 pz0_8) (bpz0_10 : iv 0 999 pz0_10) (bpz0_11 : iv 0 4 pz0_11) (bpz0_12 : iv 0 900 pz0_12) (bpz0_13 : iv 0 4 pz0_13) (bpz0_14 : iv (-1) 900 pz0_14) (bpz0_18 : iv 0 2 pz0_18) (bpz0_22 : iv 0 9999 pz0_22) (bpz0_29 : iv 0 10000 pz0_29) (tfz3 : ∀ j, iv 0 255 (fz3 j)) (hf0 : PT pz0_6 pz0_7 pz0_8 pz0_9) : Ct l V yX10_eats (.code yX10_eats cX10_eats 2 (some .boolean)) 7 [.ref (z 0), .int 4] [(z 0, .inr (10, mo z pz0_0 pz0_5 pz0_6 pz0_7 pz0_8 pz0_9 pz0_10 pz0_11 pz0_12 pz0_13 pz0_14 pz0_18 pz0_19 pz0_22 pz0_23 pz0_29)), (z 3, aI V 900 fz3)] 0 0 (QI V (fun (r : Int32) (w : va_W) => ∃ (v0 : Int32) (v1 : Int32) (v2 : Int32) (v3 : Int32), iv 0 900 v0 ∧ iv 0 900 v1 ∧ iv 0 999 v3 ∧ iv 0 1 r ∧ (PT v0 v1 pz0_8 v2) ∧ ((pz0_6 : Int32).toInt ≤ (v0 : Int32).toInt) ∧ (r = 1 → pz0_11 = 0) ∧ (r = 1 → (pz0_6 : Int32).toInt + 1 ≤ (v0 : Int32).toInt) ∧ (∀ q9 : Sg, RZ fz3 pz0_8 q9 pz0_11 pz0_12 pz0_9 pz0_6 pz0_7 pz0_10 → (r = 1 → isQ (tkX fz3 pz0_8) q9 (4 : Int32) = true ∧ RZ fz3 pz0_8 (nxP (tkX fz3 pz0_8) q9) pz0_11 pz0_12 v2 v0 v1 v3) ∧ (r = 0 → isQ (tkX fz3 pz0_8) q9 (4 : Int32) = false ∧ RZ fz3 pz0_8 q9 pz0_11 pz0_12 v2 v0 v1 v3)) ∧ w = [(z 0, .inr (10, mo z pz0_0 pz0_5 v0 v1 pz0_8 v2 v3 pz0_11 pz0_12 pz0_13 pz0_14 pz0_18 pz0_19 pz0_22 pz0_23 pz0_29)), (z 3, aI V 900 fz3)])) := by
  refine Ct.of (by decide) (Nat.le_of_ble_eq_true rfl) (fun p e s m below meth c A ls hx hb hr hml hown hlk hnm hg hP hK hD hE hA hS hl => ?_)
  have hl : lv_has ls 2 [(0, .ref (z 0)), (1, .int 4)] := hl
  refine lv_aload_n hx hb dX10_eats_0 rfl (lv_at hl 0 rfl) ?_
  refine lv_iload_n hx hb dX10_eats_1 rfl (lv_at hl 1 rfl) ?_
  refine jnI (wr := [(z 3, aI V 900 fz3)]) (rnV (rest := []) ⟨hx, hb, hml, hown, hg⟩ (k_X10_is_30 l V z pz0_0 pz0_5 pz0_6 pz0_7 pz0_8 pz0_9 pz0_10 pz0_11 pz0_12 pz0_13 pz0_14 pz0_18 pz0_19 pz0_22 pz0_23 pz0_29 bpz0_5 bpz0_6 bpz0_7 bpz0_8 bpz0_10 bpz0_11 bpz0_12 bpz0_13 bpz0_14 bpz0_18 bpz0_22 bpz0_29) mt_X10_is q_6_143 ⟨Nat.le_of_ble_eq_true rfl, Nat.le_of_ble_eq_true rfl⟩ hK hP hD hS hA hE [0] rfl rfl 0 rfl rfl rfl rfl hl.1 rfl (Nat.le_of_ble_eq_true rfl) dX10_eats_2 ⟨Nat.le_of_ble_eq_true rfl, Nat.le_of_ble_eq_true rfl⟩) hP hD hS hA [0] [1] rfl rfl rfl (by decide) (fun r_1 w H locs hw hP hD hS => ?_)
  obtain ⟨br_1, g_2, g_3, g_4, rfl⟩ := hw
  have hP : va_P V.1 vwCl [(z 3, aI V 900 fz3), (z 0, .inr (10, mo z pz0_0 pz0_5 pz0_6 pz0_7 pz0_8 pz0_9 pz0_10 pz0_11 pz0_12 pz0_13 pz0_14 pz0_18 pz0_19 pz0_22 pz0_23 pz0_29))] H := hP
  have hD : va_D A [(z 3, aI V 900 fz3), (z 0, .inr (10, mo z pz0_0 pz0_5 pz0_6 pz0_7 pz0_8 pz0_9 pz0_10 pz0_11 pz0_12 pz0_13 pz0_14 pz0_18 pz0_19 pz0_22 pz0_23 pz0_29))] := hD
  refine lv_if_ne (tgt := 10) hx hb dX10_eats_5 (by decide) (fun c_5 => ?_) (fun c_5 => ?_)
  · have b_6 : iv 1 1 r_1 := iv_n0 c_5 br_1 (iv_c (0 : Int32) (a := 0) (b := 0) (by decide)) (by decide)
    have c_7 : pz0_11 = 0 := (g_2 (iv_eqp b_6 (iv_c (1 : Int32) (by decide))))
    have b_8 : iv 0 0 pz0_11 := iv_q c_7 (iv_c (0 : Int32) (a := 0) (b := 0) (by decide))
    have c_9 : pz0_9 = 4 := (g_3 (iv_eqp b_6 (iv_c (1 : Int32) (by decide))))
    have b_10 : iv 4 4 pz0_9 := iv_q c_9 (iv_c (4 : Int32) (a := 4) (b := 4) (by decide))
    refine lv_aload_n hx hb dX10_eats_10 rfl (lv_at hl 0 rfl) ?_
    refine jnV (wr := []) (rnV (rest := []) ⟨hx, hb, hml, hown, hg⟩ (k_X10_next_0 l V z pz0_0 pz0_5 pz0_6 pz0_7 pz0_8 pz0_9 pz0_10 pz0_11 pz0_12 pz0_13 pz0_14 pz0_18 pz0_19 pz0_22 pz0_23 pz0_29 fz3 bpz0_5 bpz0_6 bpz0_7 bpz0_8 bpz0_10 (iv_w b_8 (by decide)) bpz0_12 bpz0_13 bpz0_14 bpz0_18 bpz0_22 bpz0_29 tfz3 hf0.2.1) mt_X10_next q_6_117 ⟨Nat.le_of_ble_eq_true rfl, Nat.le_of_ble_eq_true rfl⟩ hK hP hD hS hA hE [1, 0] rfl rfl 1 rfl rfl rfl rfl hl.1 rfl (Nat.le_of_ble_eq_true rfl) dX10_eats_11 ⟨Nat.le_of_ble_eq_true rfl, Nat.le_of_ble_eq_true rfl⟩) hP hD hS hA [1, 0] [] rfl rfl rfl (by decide) (fun  w H locs hw hP hD hS => ?_)
    obtain ⟨v_11, v_12, v_13, v_14, bv_11, bv_12, bv_14, g_15, g_16, g_17, rfl⟩ := hw
    have hP : va_P V.1 vwCl [(z 0, .inr (10, mo z pz0_0 pz0_5 v_11 v_12 pz0_8 v_13 v_14 pz0_11 pz0_12 pz0_13 pz0_14 pz0_18 pz0_19 pz0_22 pz0_23 pz0_29)), (z 3, aI V 900 fz3)] H := hP
    have hD : va_D A [(z 0, .inr (10, mo z pz0_0 pz0_5 v_11 v_12 pz0_8 v_13 v_14 pz0_11 pz0_12 pz0_13 pz0_14 pz0_18 pz0_19 pz0_22 pz0_23 pz0_29)), (z 3, aI V 900 fz3)] := hD
    refine lv_iconst (v := 1) hx hb dX10_eats_14 (by decide) ?_
    exact fiZ rfl hx hb hr hlk hK hP hD hS dX10_eats_15 (Nat.le_of_ble_eq_true rfl) (Nat.le_of_ble_eq_true rfl) (⟨v_11, v_12, v_13, v_14, bv_11, bv_12, bv_14, (iv_c (1 : Int32) (by decide)), g_15, (by have q9 := g_16; have q8 := hf0.1; omega), (fun _ => iv_eqp b_8 (iv_c (0 : Int32) (by decide))), (fun _ => by have q9 := g_16; have q8 := hf0.2.2 (by rw [c_9]; decide); omega), (fun q9 h9 => by have b_1 := RZ_i1 (k := 4) h9 (by decide) g_2 g_3 b_6; have h_2 := RZ_nx bpz0_8.2 h9 (isQ_iff.mp b_1).1 g_17; exact ⟨fun _ => ⟨b_1, h_2⟩, fun z => absurd z (by decide)⟩), rfl⟩)
  · have b_18 : iv 0 0 r_1 := iv_q c_5 (iv_c (0 : Int32) (a := 0) (b := 0) (by decide))
    refine lv_iconst (v := 0) hx hb dX10_eats_8 (by decide) ?_
    have hP := subP (ws' := [(z 0, .inr (10, mo z pz0_0 pz0_5 pz0_6 pz0_7 pz0_8 pz0_9 pz0_10 pz0_11 pz0_12 pz0_13 pz0_14 pz0_18 pz0_19 pz0_22 pz0_23 pz0_29)), (z 3, aI V 900 fz3)]) hP [1, 0] rfl
    have hD := hD.sub (ws' := [(z 0, .inr (10, mo z pz0_0 pz0_5 pz0_6 pz0_7 pz0_8 pz0_9 pz0_10 pz0_11 pz0_12 pz0_13 pz0_14 pz0_18 pz0_19 pz0_22 pz0_23 pz0_29)), (z 3, aI V 900 fz3)]) [1, 0] rfl rfl
    exact fiZ rfl hx hb hr hlk hK hP hD hS dX10_eats_9 (Nat.le_of_ble_eq_true rfl) (Nat.le_of_ble_eq_true rfl) (⟨pz0_6, pz0_7, pz0_9, pz0_10, bpz0_6, bpz0_7, bpz0_10, (iv_c (0 : Int32) (by decide)), hf0, (Int.le_refl _), (fun q9 => absurd q9 (by decide)), (fun q9 => absurd q9 (by decide)), (fun q9 h9 => by have b_1 := RZ_i0 (k := 4) h9 (by decide) g_4 b_18; exact ⟨fun z => absurd z (by decide), fun _ => ⟨b_1, h9⟩⟩), rfl⟩)
set_option maxHeartbeats 4000000 in
set_option maxRecDepth 100000 in
theorem k_X10_named_4 (l : Launch) (V : GV) (z : Nat → Nat) (a2 : Int32) (a3 : Int32) (pz0_0 : Int32) (pz0_5 : Int32) (pz0_6 : Int32) (pz0_7 : Int32) (pz0_8 : Int32) (pz0_9 : Int32) (pz0_10 : Int32) (pz0_11 : Int32) (pz0_12 : Int32) (pz0_13 : Int32) (pz0_14 : Int32) (pz0_18 : Int32) (pz0_19 : Int32) (pz0_22 : Int32) (pz0_23 : Int32) (pz0_29 : Int32) (fz3 : Nat → Int32) (bpz0_5 : iv 0 900 pz0_5) (bpz0_6 : iv 0 900 pz0_6) (bpz0_7 : iv 0 900 pz0_7) (bpz0_8 : iv 0 900 pz0_8) (bpz0_10 : iv 0 999 pz0_10) (bpz0_11 : iv 0 4 pz0_11) (bpz0_12 : iv 0 900 pz0_12) (bpz0_13 : iv 0 4 pz0_13) (bpz0_14 : iv (-1) 900 pz0_14) (bpz0_18 : iv 0 2 pz0_18) (bpz0_22 : iv 0 9999 pz0_22) (bpz0_29 : iv 0 10000 pz0_29) (tfz3 : ∀ j, iv 0 255 (fz3 j)) (hf0 : PT pz0_6 pz0_7 pz0_8 pz0_9) : Ct l V yX10_named (.code yX10_named cX10_named 4 (some .int)) 8 [.ref (z 0), .int 4, .int a2, .int a3] [(z 0, .inr (10, mo z pz0_0 pz0_5 pz0_6 pz0_7 pz0_8 pz0_9 pz0_10 pz0_11 pz0_12 pz0_13 pz0_14 pz0_18 pz0_19 pz0_22 pz0_23 pz0_29)), (z 3, aI V 900 fz3)] 0 0 (QI V (fun (r : Int32) (w : va_W) => ∃ (v0 : Int32) (v1 : Int32) (v2 : Int32) (v3 : Int32) (v4 : Int32) (v5 : Int32), iv 0 900 v0 ∧ iv 0 900 v1 ∧ iv 0 999 v3 ∧ iv 0 4 v4 ∧ iv 0 900 v5 ∧ iv 0 999 r ∧ (PT v0 v1 pz0_8 v2) ∧ ((pz0_6 : Int32).toInt ≤ (v0 : Int32).toInt) ∧ (v4 = 0 → pz0_11 = 0) ∧ (v4 = 0 → (a2 : Int32).toInt ≤ (r : Int32).toInt ∧ (r : Int32).toInt ≤ (a3 : Int32).toInt) ∧ (a2 = 0 → ∀ q9 : Sg, RZ fz3 pz0_8 q9 pz0_11 pz0_12 pz0_9 pz0_6 pz0_7 pz0_10 → RZ fz3 pz0_8 (nuP (tkX fz3 pz0_8) a3 (exP (tkX fz3 pz0_8) (4 : Int32) q9)) v4 v5 v2 v0 v1 v3) ∧ w = [(z 0, .inr (10, mo z pz0_0 pz0_5 v0 v1 pz0_8 v2 v3 v4 v5 pz0_13 pz0_14 pz0_18 pz0_19 pz0_22 pz0_23 pz0_29)), (z 3, aI V 900 fz3)])) := by
  refine Ct.of (by decide) (Nat.le_of_ble_eq_true rfl) (fun p e s m below meth c A ls hx hb hr hml hown hlk hnm hg hP hK hD hE hA hS hl => ?_)
  have hl : lv_has ls 4 [(0, .ref (z 0)), (1, .int 4), (2, .int a2), (3, .int a3)] := hl
  refine lv_aload_n hx hb dX10_named_0 rfl (lv_at hl 0 rfl) ?_
  refine lv_iload_n hx hb dX10_named_1 rfl (lv_at hl 1 rfl) ?_
  refine jnI (wr := []) (rnV (rest := []) ⟨hx, hb, hml, hown, hg⟩ (k_X10_eats_15 l V z pz0_0 pz0_5 pz0_6 pz0_7 pz0_8 pz0_9 pz0_10 pz0_11 pz0_12 pz0_13 pz0_14 pz0_18 pz0_19 pz0_22 pz0_23 pz0_29 fz3 bpz0_5 bpz0_6 bpz0_7 bpz0_8 bpz0_10 bpz0_11 bpz0_12 bpz0_13 bpz0_14 bpz0_18 bpz0_22 bpz0_29 tfz3 hf0) mt_X10_eats q_6_139 ⟨Nat.le_of_ble_eq_true rfl, Nat.le_of_ble_eq_true rfl⟩ hK hP hD hS hA hE [0, 1] rfl rfl 0 rfl rfl rfl rfl hl.1 rfl (Nat.le_of_ble_eq_true rfl) dX10_named_2 ⟨Nat.le_of_ble_eq_true rfl, Nat.le_of_ble_eq_true rfl⟩) hP hD hS hA [0, 1] [] rfl rfl rfl (by decide) (fun r_1 w H locs hw hP hD hS => ?_)
  obtain ⟨v_2, v_3, v_4, v_5, bv_2, bv_3, bv_5, br_1, g_6, g_7, g_8, g_9, g_10, rfl⟩ := hw
  have hP : va_P V.1 vwCl [(z 0, .inr (10, mo z pz0_0 pz0_5 v_2 v_3 pz0_8 v_4 v_5 pz0_11 pz0_12 pz0_13 pz0_14 pz0_18 pz0_19 pz0_22 pz0_23 pz0_29)), (z 3, aI V 900 fz3)] H := hP
  have hD : va_D A [(z 0, .inr (10, mo z pz0_0 pz0_5 v_2 v_3 pz0_8 v_4 v_5 pz0_11 pz0_12 pz0_13 pz0_14 pz0_18 pz0_19 pz0_22 pz0_23 pz0_29)), (z 3, aI V 900 fz3)] := hD
  refine lv_if_ne (tgt := 13) hx hb dX10_named_5 (by decide) (fun c_11 => ?_) (fun c_11 => ?_)
  · have b_12 : iv 1 1 r_1 := iv_n0 c_11 br_1 (iv_c (0 : Int32) (a := 0) (b := 0) (by decide)) (by decide)
    have c_13 : pz0_11 = 0 := (g_8 (iv_eqp b_12 (iv_c (1 : Int32) (by decide))))
    have b_14 : iv 0 0 pz0_11 := iv_q c_13 (iv_c (0 : Int32) (a := 0) (b := 0) (by decide))
    refine lv_aload_n hx hb dX10_named_13 rfl (lv_at hl 0 rfl) ?_
    refine lv_iload_n hx hb dX10_named_14 rfl (lv_at hl 2 rfl) ?_
    refine lv_iload_n hx hb dX10_named_15 rfl (lv_at hl 3 rfl) ?_
    refine jnI (wr := []) (rnV (rest := []) ⟨hx, hb, hml, hown, hg⟩ (k_X10_takesOne_0 l V z a2 a3 pz0_0 pz0_5 v_2 v_3 pz0_8 v_4 v_5 pz0_11 pz0_12 pz0_13 pz0_14 pz0_18 pz0_19 pz0_22 pz0_23 pz0_29 fz3 bpz0_5 bv_2 bv_3 bpz0_8 bv_5 (iv_w b_14 (by decide)) bpz0_12 bpz0_13 bpz0_14 bpz0_18 bpz0_22 bpz0_29 tfz3 g_6) mt_X10_takesOne q_6_155 ⟨Nat.le_of_ble_eq_true rfl, Nat.le_of_ble_eq_true rfl⟩ hK hP hD hS hA hE [0, 1] rfl rfl 0 rfl rfl rfl rfl hl.1 rfl (Nat.le_of_ble_eq_true rfl) dX10_named_16 ⟨Nat.le_of_ble_eq_true rfl, Nat.le_of_ble_eq_true rfl⟩) hP hD hS hA [0, 1] [] rfl rfl rfl (by decide) (fun r_15 w H locs hw hP hD hS => ?_)
    obtain ⟨v_16, v_17, v_18, v_19, v_20, v_21, bv_16, bv_17, bv_19, bv_20, bv_21, br_15, g_22, g_23, g_24, g_25, g_26, rfl⟩ := hw
    have hP : va_P V.1 vwCl [(z 0, .inr (10, mo z pz0_0 pz0_5 v_16 v_17 pz0_8 v_18 v_19 v_20 v_21 pz0_13 pz0_14 pz0_18 pz0_19 pz0_22 pz0_23 pz0_29)), (z 3, aI V 900 fz3)] H := hP
    have hD : va_D A [(z 0, .inr (10, mo z pz0_0 pz0_5 v_16 v_17 pz0_8 v_18 v_19 v_20 v_21 pz0_13 pz0_14 pz0_18 pz0_19 pz0_22 pz0_23 pz0_29)), (z 3, aI V 900 fz3)] := hD
    exact fiI hx hb hr hlk hK hP hD hS dX10_named_19 (Nat.le_of_ble_eq_true rfl) (Nat.le_of_ble_eq_true rfl) (⟨v_16, v_17, v_18, v_19, v_20, v_21, bv_16, bv_17, bv_19, bv_20, bv_21, br_15, g_22, (by have z_0 := g_7; have z_1 := g_23;have y_0 := hf0.1; have y_1 := g_6.1; have y_2 := g_22.1; omega), (fun q9 => ((g_24) q9)), g_25, (fun z9 q9 h9 => by obtain ⟨b_1, h_1⟩ := (g_10 _ h9).1 (iv_eqp b_12 (iv_c (1 : Int32) (by decide))); have h_1x := RZ_cg (exP_1 b_1) h_1; have h_2 := g_26 z9 _ h_1x; exact h_2), rfl⟩)
  · have b_27 : iv 0 0 r_1 := iv_q c_11 (iv_c (0 : Int32) (a := 0) (b := 0) (by decide))
    refine lv_aload_n hx hb dX10_named_8 rfl (lv_at hl 0 rfl) ?_
    refine lv_iconst (v := 2) hx hb dX10_named_9 (by decide) ?_
    refine jnV (wr := [(z 3, aI V 900 fz3)]) (rnV (rest := []) ⟨hx, hb, hml, hown, hg⟩ (k_X10_fails_0 l V z 2 pz0_0 pz0_5 v_2 v_3 pz0_8 v_4 v_5 pz0_11 pz0_12 pz0_13 pz0_14 pz0_18 pz0_19 pz0_22 pz0_23 pz0_29 (iv_c (2 : Int32) (by decide)) bpz0_5 bv_2 bv_3 bpz0_8 bv_5 bpz0_11 bpz0_12 bpz0_13 bpz0_14 bpz0_18 bpz0_22 bpz0_29) mt_X10_fails q_6_147 ⟨Nat.le_of_ble_eq_true rfl, Nat.le_of_ble_eq_true rfl⟩ hK hP hD hS hA hE [0] rfl rfl 0 rfl rfl rfl rfl hl.1 rfl (Nat.le_of_ble_eq_true rfl) dX10_named_10 ⟨Nat.le_of_ble_eq_true rfl, Nat.le_of_ble_eq_true rfl⟩) hP hD hS hA [0] [1] rfl rfl rfl (by decide) (fun  w H locs hw hP hD hS => ?_)
    obtain ⟨v_28, v_29, bv_28, bv_29, g_30, rfl⟩ := hw
    have hP : va_P V.1 vwCl [(z 3, aI V 900 fz3), (z 0, .inr (10, mo z pz0_0 pz0_5 v_2 v_3 pz0_8 v_4 v_5 v_28 v_29 pz0_13 pz0_14 pz0_18 pz0_19 pz0_22 pz0_23 pz0_29))] H := hP
    have hD : va_D A [(z 3, aI V 900 fz3), (z 0, .inr (10, mo z pz0_0 pz0_5 v_2 v_3 pz0_8 v_4 v_5 v_28 v_29 pz0_13 pz0_14 pz0_18 pz0_19 pz0_22 pz0_23 pz0_29))] := hD
    refine lv_aload_n hx hb dX10_named_13 rfl (lv_at hl 0 rfl) ?_
    refine lv_iload_n hx hb dX10_named_14 rfl (lv_at hl 2 rfl) ?_
    refine lv_iload_n hx hb dX10_named_15 rfl (lv_at hl 3 rfl) ?_
    refine jnI (wr := []) (rnV (rest := []) ⟨hx, hb, hml, hown, hg⟩ (k_X10_takesOne_0 l V z a2 a3 pz0_0 pz0_5 v_2 v_3 pz0_8 v_4 v_5 v_28 v_29 pz0_13 pz0_14 pz0_18 pz0_19 pz0_22 pz0_23 pz0_29 fz3 bpz0_5 bv_2 bv_3 bpz0_8 bv_5 (iv_w bv_28 (by decide)) bv_29 bpz0_13 bpz0_14 bpz0_18 bpz0_22 bpz0_29 tfz3 g_6) mt_X10_takesOne q_6_155 ⟨Nat.le_of_ble_eq_true rfl, Nat.le_of_ble_eq_true rfl⟩ hK hP hD hS hA hE [1, 0] rfl rfl 1 rfl rfl rfl rfl hl.1 rfl (Nat.le_of_ble_eq_true rfl) dX10_named_16 ⟨Nat.le_of_ble_eq_true rfl, Nat.le_of_ble_eq_true rfl⟩) hP hD hS hA [1, 0] [] rfl rfl rfl (by decide) (fun r_31 w H locs hw hP hD hS => ?_)
    obtain ⟨v_32, v_33, v_34, v_35, v_36, v_37, bv_32, bv_33, bv_35, bv_36, bv_37, br_31, g_38, g_39, g_40, g_41, g_42, rfl⟩ := hw
    have hP : va_P V.1 vwCl [(z 0, .inr (10, mo z pz0_0 pz0_5 v_32 v_33 pz0_8 v_34 v_35 v_36 v_37 pz0_13 pz0_14 pz0_18 pz0_19 pz0_22 pz0_23 pz0_29)), (z 3, aI V 900 fz3)] H := hP
    have hD : va_D A [(z 0, .inr (10, mo z pz0_0 pz0_5 v_32 v_33 pz0_8 v_34 v_35 v_36 v_37 pz0_13 pz0_14 pz0_18 pz0_19 pz0_22 pz0_23 pz0_29)), (z 3, aI V 900 fz3)] := hD
    exact fiI hx hb hr hlk hK hP hD hS dX10_named_19 (Nat.le_of_ble_eq_true rfl) (Nat.le_of_ble_eq_true rfl) (⟨v_32, v_33, v_34, v_35, v_36, v_37, bv_32, bv_33, bv_35, bv_36, bv_37, br_31, g_38, (by have z_0 := g_7; have z_1 := g_39;have y_0 := hf0.1; have y_1 := g_6.1; have y_2 := g_38.1; omega), (fun q9 => ((fun q8 => absurd q8 (iv_nz bv_28 (by decide))) ((g_40) q9))), g_41, (fun z9 q9 h9 => by obtain ⟨b_1, h_1⟩ := (g_10 _ h9).2 (iv_eqp b_27 (iv_c (0 : Int32) (by decide))); have h_2 := RZ_cg (exP_0 b_1) (RZ_fl h_1 g_30 (by decide)); have h_3 := g_42 z9 _ h_2; exact h_3), rfl⟩)
set_option maxHeartbeats 4000000 in
set_option maxRecDepth 100000 in
theorem k_X10_is_31 (l : Launch) (V : GV) (z : Nat → Nat) (pz0_0 : Int32) (pz0_5 : Int32) (pz0_6 : Int32) (pz0_7 : Int32) (pz0_8 : Int32) (pz0_9 : Int32) (pz0_10 : Int32) (pz0_11 : Int32) (pz0_12 : Int32) (pz0_13 : Int32) (pz0_14 : Int32) (pz0_18 : Int32) (pz0_19 : Int32) (pz0_22 : Int32) (pz0_23 : Int32) (pz0_29 : Int32) (bpz0_5 : iv 0 900 pz0_5) (bpz0_6 : iv 0 900 pz0_6) (bpz0_7 : iv 0 900 pz0_7) (bpz0_8 : iv 0 900 pz0_8) (bpz0_10 : iv 0 999 pz0_10) (bpz0_11 : iv 0 4 pz0_11) (bpz0_12 : iv 0 900 pz0_12) (bpz0_13 : iv 0 4 pz0_13) (bpz0_14 : iv (-1) 900 pz0_14) (bpz0_18 : iv 0 2 pz0_18) (bpz0_22 : iv 0 9999 pz0_22) (bpz0_29 : iv 0 10000 pz0_29) : Ct l V yX10_is (.code yX10_is cX10_is 2 (some .boolean)) 1 [.ref (z 0), .int 5] [(z 0, .inr (10, mo z pz0_0 pz0_5 pz0_6 pz0_7 pz0_8 pz0_9 pz0_10 pz0_11 pz0_12 pz0_13 pz0_14 pz0_18 pz0_19 pz0_22 pz0_23 pz0_29))] 0 0 (QI V (fun (r : Int32) (w : va_W) => iv 0 1 r ∧ (r = 1 → pz0_11 = 0) ∧ (r = 1 → pz0_9 = (5 : Int32)) ∧ (r = 0 → ¬ (pz0_11 = 0 ∧ pz0_9 = (5 : Int32))) ∧ w = [(z 0, .inr (10, mo z pz0_0 pz0_5 pz0_6 pz0_7 pz0_8 pz0_9 pz0_10 pz0_11 pz0_12 pz0_13 pz0_14 pz0_18 pz0_19 pz0_22 pz0_23 pz0_29))])) := by
  refine Ct.of (by decide) (Nat.le_of_ble_eq_true rfl) (fun p e s m below meth c A ls hx hb hr hml hown hlk hnm hg hP hK hD hE hA hS hl => ?_)
  have hl : lv_has ls 2 [(0, .ref (z 0)), (1, .int 5)] := hl
  refine lv_aload_n hx hb dX10_is_0 rfl (lv_at hl 0 rfl) ?_
  refine va_get (ci := 10) (v := .int pz0_11) (C := RX10) (T := TX10) (N := 40) hx hb hg inX10 hown hK hP 0 rfl rfl 11 (by decide) (hg _ q_5_235) (fun _ h9 => h9) rfl dX10_is_1 ?_
  refine lv_if_ne (tgt := 19) hx hb dX10_is_4 (by decide) (fun c_1 => ?_) (fun c_1 => ?_)
  · have b_2 : iv 1 4 pz0_11 := iv_n0 c_1 bpz0_11 (iv_c (0 : Int32) (a := 0) (b := 0) (by decide)) (by decide)
    refine lv_iconst (v := 0) hx hb dX10_is_19 (by decide) ?_
    exact fiZ rfl hx hb hr hlk hK hP hD hS dX10_is_20 (Nat.le_of_ble_eq_true rfl) (Nat.le_of_ble_eq_true rfl) (⟨(iv_c (0 : Int32) (by decide)), (fun q9 => absurd q9 (by decide)), (fun q9 => absurd q9 (by decide)), (fun _ q9 => c_1 q9.1), rfl⟩)
  · have b_3 : iv 0 0 pz0_11 := iv_q c_1 (iv_c (0 : Int32) (a := 0) (b := 0) (by decide))
    refine lv_aload_n hx hb dX10_is_7 rfl (lv_at hl 0 rfl) ?_
    refine va_get (ci := 10) (v := .int pz0_9) (C := RX10) (T := TX10) (N := 40) hx hb hg inX10 hown hK hP 0 rfl rfl 9 (by decide) (hg _ q_5_233) (fun _ h9 => h9) rfl dX10_is_8 ?_
    refine lv_iload_n hx hb dX10_is_11 rfl (lv_at hl 1 rfl) ?_
    refine lv_icmp_ne (tgt := 19) hx hb dX10_is_12 (by decide) (fun c_4 => ?_) (fun c_4 => ?_)
    · refine lv_iconst (v := 0) hx hb dX10_is_19 (by decide) ?_
      exact fiZ rfl hx hb hr hlk hK hP hD hS dX10_is_20 (Nat.le_of_ble_eq_true rfl) (Nat.le_of_ble_eq_true rfl) (⟨(iv_c (0 : Int32) (by decide)), (fun q9 => absurd q9 (by decide)), (fun q9 => absurd q9 (by decide)), (fun _ q9 => c_4 q9.2), rfl⟩)
    · have b_5 : iv 5 5 pz0_9 := iv_q c_4 (iv_c (5 : Int32) (a := 5) (b := 5) (by decide))
      refine lv_iconst (v := 1) hx hb dX10_is_15 (by decide) ?_
      refine lv_goto (tgt := 20) hx hb dX10_is_16 (by decide) ?_
      exact fiZ rfl hx hb hr hlk hK hP hD hS dX10_is_20 (Nat.le_of_ble_eq_true rfl) (Nat.le_of_ble_eq_true rfl) (⟨(iv_c (1 : Int32) (by decide)), (fun _ => c_1), (fun _ => c_4), (fun q9 => absurd q9 (by decide)), rfl⟩)
set_option maxHeartbeats 4000000 in
set_option maxRecDepth 100000 in
theorem k_X10_eats_16 (l : Launch) (V : GV) (z : Nat → Nat) (pz0_0 : Int32) (pz0_5 : Int32) (pz0_6 : Int32) (pz0_7 : Int32) (pz0_8 : Int32) (pz0_9 : Int32) (pz0_10 : Int32) (pz0_11 : Int32) (pz0_12 : Int32) (pz0_13 : Int32) (pz0_14 : Int32) (pz0_18 : Int32) (pz0_19 : Int32) (pz0_22 : Int32) (pz0_23 : Int32) (pz0_29 : Int32) (fz3 : Nat → Int32) (bpz0_5 : iv 0 900 pz0_5) (bpz0_6 : iv 0 900 pz0_6) (bpz0_7 : iv 0 900 pz0_7) (bpz0_8 : iv 0 900 pz0_8) (bpz0_10 : iv 0 999 pz0_10) (bpz0_11 : iv 0 4 pz0_11) (bpz0_12 : iv 0 900 pz0_12) (bpz0_13 : iv 0 4 pz0_13) (bpz0_14 : iv (-1) 900 pz0_14) (bpz0_18 : iv 0 2 pz0_18) (bpz0_22 : iv 0 9999 pz0_22) (bpz0_29 : iv 0 10000 pz0_29) (tfz3 : ∀ j, iv 0 255 (fz3 j)) (hf0 : PT pz0_6 pz0_7 pz0_8 pz0_9) : Ct l V yX10_eats (.code yX10_eats cX10_eats 2 (some .boolean)) 7 [.ref (z 0), .int 5] [(z 0, .inr (10, mo z pz0_0 pz0_5 pz0_6 pz0_7 pz0_8 pz0_9 pz0_10 pz0_11 pz0_12 pz0_13 pz0_14 pz0_18 pz0_19 pz0_22 pz0_23 pz0_29)), (z 3, aI V 900 fz3)] 0 0 (QI V (fun (r : Int32) (w : va_W) => ∃ (v0 : Int32) (v1 : Int32) (v2 : Int32) (v3 : Int32), iv 0 900 v0 ∧ iv 0 900 v1 ∧ iv 0 999 v3 ∧ iv 0 1 r ∧ (PT v0 v1 pz0_8 v2) ∧ ((pz0_6 : Int32).toInt ≤ (v0 : Int32).toInt) ∧ (r = 1 → pz0_11 = 0) ∧ (r = 1 → (pz0_6 : Int32).toInt + 1 ≤ (v0 : Int32).toInt) ∧ (∀ q9 : Sg, RZ fz3 pz0_8 q9 pz0_11 pz0_12 pz0_9 pz0_6 pz0_7 pz0_10 → (r = 1 → isQ (tkX fz3 pz0_8) q9 (5 : Int32) = true ∧ RZ fz3 pz0_8 (nxP (tkX fz3 pz0_8) q9) pz0_11 pz0_12 v2 v0 v1 v3) ∧ (r = 0 → isQ (tkX fz3 pz0_8) q9 (5 : Int32) = false ∧ RZ fz3 pz0_8 q9 pz0_11 pz0_12 v2 v0 v1 v3)) ∧ w = [(z 0, .inr (10, mo z pz0_0 pz0_5 v0 v1 pz0_8 v2 v3 pz0_11 pz0_12 pz0_13 pz0_14 pz0_18 pz0_19 pz0_22 pz0_23 pz0_29)), (z 3, aI V 900 fz3)])) := by
  refine Ct.of (by decide) (Nat.le_of_ble_eq_true rfl) (fun p e s m below meth c A ls hx hb hr hml hown hlk hnm hg hP hK hD hE hA hS hl => ?_)
  have hl : lv_has ls 2 [(0, .ref (z 0)), (1, .int 5)] := hl
  refine lv_aload_n hx hb dX10_eats_0 rfl (lv_at hl 0 rfl) ?_
  refine lv_iload_n hx hb dX10_eats_1 rfl (lv_at hl 1 rfl) ?_
  refine jnI (wr := [(z 3, aI V 900 fz3)]) (rnV (rest := []) ⟨hx, hb, hml, hown, hg⟩ (k_X10_is_31 l V z pz0_0 pz0_5 pz0_6 pz0_7 pz0_8 pz0_9 pz0_10 pz0_11 pz0_12 pz0_13 pz0_14 pz0_18 pz0_19 pz0_22 pz0_23 pz0_29 bpz0_5 bpz0_6 bpz0_7 bpz0_8 bpz0_10 bpz0_11 bpz0_12 bpz0_13 bpz0_14 bpz0_18 bpz0_22 bpz0_29) mt_X10_is q_6_143 ⟨Nat.le_of_ble_eq_true rfl, Nat.le_of_ble_eq_true rfl⟩ hK hP hD hS hA hE [0] rfl rfl 0 rfl rfl rfl rfl hl.1 rfl (Nat.le_of_ble_eq_true rfl) dX10_eats_2 ⟨Nat.le_of_ble_eq_true rfl, Nat.le_of_ble_eq_true rfl⟩) hP hD hS hA [0] [1] rfl rfl rfl (by decide) (fun r_1 w H locs hw hP hD hS => ?_)
  obtain ⟨br_1, g_2, g_3, g_4, rfl⟩ := hw
  have hP : va_P V.1 vwCl [(z 3, aI V 900 fz3), (z 0, .inr (10, mo z pz0_0 pz0_5 pz0_6 pz0_7 pz0_8 pz0_9 pz0_10 pz0_11 pz0_12 pz0_13 pz0_14 pz0_18 pz0_19 pz0_22 pz0_23 pz0_29))] H := hP
  have hD : va_D A [(z 3, aI V 900 fz3), (z 0, .inr (10, mo z pz0_0 pz0_5 pz0_6 pz0_7 pz0_8 pz0_9 pz0_10 pz0_11 pz0_12 pz0_13 pz0_14 pz0_18 pz0_19 pz0_22 pz0_23 pz0_29))] := hD
  refine lv_if_ne (tgt := 10) hx hb dX10_eats_5 (by decide) (fun c_5 => ?_) (fun c_5 => ?_)
  · have b_6 : iv 1 1 r_1 := iv_n0 c_5 br_1 (iv_c (0 : Int32) (a := 0) (b := 0) (by decide)) (by decide)
    have c_7 : pz0_11 = 0 := (g_2 (iv_eqp b_6 (iv_c (1 : Int32) (by decide))))
    have b_8 : iv 0 0 pz0_11 := iv_q c_7 (iv_c (0 : Int32) (a := 0) (b := 0) (by decide))
    have c_9 : pz0_9 = 5 := (g_3 (iv_eqp b_6 (iv_c (1 : Int32) (by decide))))
    have b_10 : iv 5 5 pz0_9 := iv_q c_9 (iv_c (5 : Int32) (a := 5) (b := 5) (by decide))
    refine lv_aload_n hx hb dX10_eats_10 rfl (lv_at hl 0 rfl) ?_
    refine jnV (wr := []) (rnV (rest := []) ⟨hx, hb, hml, hown, hg⟩ (k_X10_next_0 l V z pz0_0 pz0_5 pz0_6 pz0_7 pz0_8 pz0_9 pz0_10 pz0_11 pz0_12 pz0_13 pz0_14 pz0_18 pz0_19 pz0_22 pz0_23 pz0_29 fz3 bpz0_5 bpz0_6 bpz0_7 bpz0_8 bpz0_10 (iv_w b_8 (by decide)) bpz0_12 bpz0_13 bpz0_14 bpz0_18 bpz0_22 bpz0_29 tfz3 hf0.2.1) mt_X10_next q_6_117 ⟨Nat.le_of_ble_eq_true rfl, Nat.le_of_ble_eq_true rfl⟩ hK hP hD hS hA hE [1, 0] rfl rfl 1 rfl rfl rfl rfl hl.1 rfl (Nat.le_of_ble_eq_true rfl) dX10_eats_11 ⟨Nat.le_of_ble_eq_true rfl, Nat.le_of_ble_eq_true rfl⟩) hP hD hS hA [1, 0] [] rfl rfl rfl (by decide) (fun  w H locs hw hP hD hS => ?_)
    obtain ⟨v_11, v_12, v_13, v_14, bv_11, bv_12, bv_14, g_15, g_16, g_17, rfl⟩ := hw
    have hP : va_P V.1 vwCl [(z 0, .inr (10, mo z pz0_0 pz0_5 v_11 v_12 pz0_8 v_13 v_14 pz0_11 pz0_12 pz0_13 pz0_14 pz0_18 pz0_19 pz0_22 pz0_23 pz0_29)), (z 3, aI V 900 fz3)] H := hP
    have hD : va_D A [(z 0, .inr (10, mo z pz0_0 pz0_5 v_11 v_12 pz0_8 v_13 v_14 pz0_11 pz0_12 pz0_13 pz0_14 pz0_18 pz0_19 pz0_22 pz0_23 pz0_29)), (z 3, aI V 900 fz3)] := hD
    refine lv_iconst (v := 1) hx hb dX10_eats_14 (by decide) ?_
    exact fiZ rfl hx hb hr hlk hK hP hD hS dX10_eats_15 (Nat.le_of_ble_eq_true rfl) (Nat.le_of_ble_eq_true rfl) (⟨v_11, v_12, v_13, v_14, bv_11, bv_12, bv_14, (iv_c (1 : Int32) (by decide)), g_15, (by have q9 := g_16; have q8 := hf0.1; omega), (fun _ => iv_eqp b_8 (iv_c (0 : Int32) (by decide))), (fun _ => by have q9 := g_16; have q8 := hf0.2.2 (by rw [c_9]; decide); omega), (fun q9 h9 => by have b_1 := RZ_i1 (k := 5) h9 (by decide) g_2 g_3 b_6; have h_2 := RZ_nx bpz0_8.2 h9 (isQ_iff.mp b_1).1 g_17; exact ⟨fun _ => ⟨b_1, h_2⟩, fun z => absurd z (by decide)⟩), rfl⟩)
  · have b_18 : iv 0 0 r_1 := iv_q c_5 (iv_c (0 : Int32) (a := 0) (b := 0) (by decide))
    refine lv_iconst (v := 0) hx hb dX10_eats_8 (by decide) ?_
    have hP := subP (ws' := [(z 0, .inr (10, mo z pz0_0 pz0_5 pz0_6 pz0_7 pz0_8 pz0_9 pz0_10 pz0_11 pz0_12 pz0_13 pz0_14 pz0_18 pz0_19 pz0_22 pz0_23 pz0_29)), (z 3, aI V 900 fz3)]) hP [1, 0] rfl
    have hD := hD.sub (ws' := [(z 0, .inr (10, mo z pz0_0 pz0_5 pz0_6 pz0_7 pz0_8 pz0_9 pz0_10 pz0_11 pz0_12 pz0_13 pz0_14 pz0_18 pz0_19 pz0_22 pz0_23 pz0_29)), (z 3, aI V 900 fz3)]) [1, 0] rfl rfl
    exact fiZ rfl hx hb hr hlk hK hP hD hS dX10_eats_9 (Nat.le_of_ble_eq_true rfl) (Nat.le_of_ble_eq_true rfl) (⟨pz0_6, pz0_7, pz0_9, pz0_10, bpz0_6, bpz0_7, bpz0_10, (iv_c (0 : Int32) (by decide)), hf0, (Int.le_refl _), (fun q9 => absurd q9 (by decide)), (fun q9 => absurd q9 (by decide)), (fun q9 h9 => by have b_1 := RZ_i0 (k := 5) h9 (by decide) g_4 b_18; exact ⟨fun z => absurd z (by decide), fun _ => ⟨b_1, h9⟩⟩), rfl⟩)
set_option maxHeartbeats 4000000 in
set_option maxRecDepth 100000 in
theorem k_X10_is_32 (l : Launch) (V : GV) (z : Nat → Nat) (pz0_0 : Int32) (pz0_5 : Int32) (pz0_6 : Int32) (pz0_7 : Int32) (pz0_8 : Int32) (pz0_9 : Int32) (pz0_10 : Int32) (pz0_11 : Int32) (pz0_12 : Int32) (pz0_13 : Int32) (pz0_14 : Int32) (pz0_18 : Int32) (pz0_19 : Int32) (pz0_22 : Int32) (pz0_23 : Int32) (pz0_29 : Int32) (bpz0_5 : iv 0 900 pz0_5) (bpz0_6 : iv 0 900 pz0_6) (bpz0_7 : iv 0 900 pz0_7) (bpz0_8 : iv 0 900 pz0_8) (bpz0_10 : iv 0 999 pz0_10) (bpz0_11 : iv 0 4 pz0_11) (bpz0_12 : iv 0 900 pz0_12) (bpz0_13 : iv 0 4 pz0_13) (bpz0_14 : iv (-1) 900 pz0_14) (bpz0_18 : iv 0 2 pz0_18) (bpz0_22 : iv 0 9999 pz0_22) (bpz0_29 : iv 0 10000 pz0_29) : Ct l V yX10_is (.code yX10_is cX10_is 2 (some .boolean)) 1 [.ref (z 0), .int 6] [(z 0, .inr (10, mo z pz0_0 pz0_5 pz0_6 pz0_7 pz0_8 pz0_9 pz0_10 pz0_11 pz0_12 pz0_13 pz0_14 pz0_18 pz0_19 pz0_22 pz0_23 pz0_29))] 0 0 (QI V (fun (r : Int32) (w : va_W) => iv 0 1 r ∧ (r = 1 → pz0_11 = 0) ∧ (r = 1 → pz0_9 = (6 : Int32)) ∧ (r = 0 → ¬ (pz0_11 = 0 ∧ pz0_9 = (6 : Int32))) ∧ w = [(z 0, .inr (10, mo z pz0_0 pz0_5 pz0_6 pz0_7 pz0_8 pz0_9 pz0_10 pz0_11 pz0_12 pz0_13 pz0_14 pz0_18 pz0_19 pz0_22 pz0_23 pz0_29))])) := by
  refine Ct.of (by decide) (Nat.le_of_ble_eq_true rfl) (fun p e s m below meth c A ls hx hb hr hml hown hlk hnm hg hP hK hD hE hA hS hl => ?_)
  have hl : lv_has ls 2 [(0, .ref (z 0)), (1, .int 6)] := hl
  refine lv_aload_n hx hb dX10_is_0 rfl (lv_at hl 0 rfl) ?_
  refine va_get (ci := 10) (v := .int pz0_11) (C := RX10) (T := TX10) (N := 40) hx hb hg inX10 hown hK hP 0 rfl rfl 11 (by decide) (hg _ q_5_235) (fun _ h9 => h9) rfl dX10_is_1 ?_
  refine lv_if_ne (tgt := 19) hx hb dX10_is_4 (by decide) (fun c_1 => ?_) (fun c_1 => ?_)
  · have b_2 : iv 1 4 pz0_11 := iv_n0 c_1 bpz0_11 (iv_c (0 : Int32) (a := 0) (b := 0) (by decide)) (by decide)
    refine lv_iconst (v := 0) hx hb dX10_is_19 (by decide) ?_
    exact fiZ rfl hx hb hr hlk hK hP hD hS dX10_is_20 (Nat.le_of_ble_eq_true rfl) (Nat.le_of_ble_eq_true rfl) (⟨(iv_c (0 : Int32) (by decide)), (fun q9 => absurd q9 (by decide)), (fun q9 => absurd q9 (by decide)), (fun _ q9 => c_1 q9.1), rfl⟩)
  · have b_3 : iv 0 0 pz0_11 := iv_q c_1 (iv_c (0 : Int32) (a := 0) (b := 0) (by decide))
    refine lv_aload_n hx hb dX10_is_7 rfl (lv_at hl 0 rfl) ?_
    refine va_get (ci := 10) (v := .int pz0_9) (C := RX10) (T := TX10) (N := 40) hx hb hg inX10 hown hK hP 0 rfl rfl 9 (by decide) (hg _ q_5_233) (fun _ h9 => h9) rfl dX10_is_8 ?_
    refine lv_iload_n hx hb dX10_is_11 rfl (lv_at hl 1 rfl) ?_
    refine lv_icmp_ne (tgt := 19) hx hb dX10_is_12 (by decide) (fun c_4 => ?_) (fun c_4 => ?_)
    · refine lv_iconst (v := 0) hx hb dX10_is_19 (by decide) ?_
      exact fiZ rfl hx hb hr hlk hK hP hD hS dX10_is_20 (Nat.le_of_ble_eq_true rfl) (Nat.le_of_ble_eq_true rfl) (⟨(iv_c (0 : Int32) (by decide)), (fun q9 => absurd q9 (by decide)), (fun q9 => absurd q9 (by decide)), (fun _ q9 => c_4 q9.2), rfl⟩)
    · have b_5 : iv 6 6 pz0_9 := iv_q c_4 (iv_c (6 : Int32) (a := 6) (b := 6) (by decide))
      refine lv_iconst (v := 1) hx hb dX10_is_15 (by decide) ?_
      refine lv_goto (tgt := 20) hx hb dX10_is_16 (by decide) ?_
      exact fiZ rfl hx hb hr hlk hK hP hD hS dX10_is_20 (Nat.le_of_ble_eq_true rfl) (Nat.le_of_ble_eq_true rfl) (⟨(iv_c (1 : Int32) (by decide)), (fun _ => c_1), (fun _ => c_4), (fun q9 => absurd q9 (by decide)), rfl⟩)
set_option maxHeartbeats 4000000 in
set_option maxRecDepth 100000 in
theorem k_X10_eats_17 (l : Launch) (V : GV) (z : Nat → Nat) (pz0_0 : Int32) (pz0_5 : Int32) (pz0_6 : Int32) (pz0_7 : Int32) (pz0_8 : Int32) (pz0_9 : Int32) (pz0_10 : Int32) (pz0_11 : Int32) (pz0_12 : Int32) (pz0_13 : Int32) (pz0_14 : Int32) (pz0_18 : Int32) (pz0_19 : Int32) (pz0_22 : Int32) (pz0_23 : Int32) (pz0_29 : Int32) (fz3 : Nat → Int32) (bpz0_5 : iv 0 900 pz0_5) (bpz0_6 : iv 0 900 pz0_6) (bpz0_7 : iv 0 900 pz0_7) (bpz0_8 : iv 0 900 pz0_8) (bpz0_10 : iv 0 999 pz0_10) (bpz0_11 : iv 0 4 pz0_11) (bpz0_12 : iv 0 900 pz0_12) (bpz0_13 : iv 0 4 pz0_13) (bpz0_14 : iv (-1) 900 pz0_14) (bpz0_18 : iv 0 2 pz0_18) (bpz0_22 : iv 0 9999 pz0_22) (bpz0_29 : iv 0 10000 pz0_29) (tfz3 : ∀ j, iv 0 255 (fz3 j)) (hf0 : PT pz0_6 pz0_7 pz0_8 pz0_9) : Ct l V yX10_eats (.code yX10_eats cX10_eats 2 (some .boolean)) 7 [.ref (z 0), .int 6] [(z 0, .inr (10, mo z pz0_0 pz0_5 pz0_6 pz0_7 pz0_8 pz0_9 pz0_10 pz0_11 pz0_12 pz0_13 pz0_14 pz0_18 pz0_19 pz0_22 pz0_23 pz0_29)), (z 3, aI V 900 fz3)] 0 0 (QI V (fun (r : Int32) (w : va_W) => ∃ (v0 : Int32) (v1 : Int32) (v2 : Int32) (v3 : Int32), iv 0 900 v0 ∧ iv 0 900 v1 ∧ iv 0 999 v3 ∧ iv 0 1 r ∧ (PT v0 v1 pz0_8 v2) ∧ ((pz0_6 : Int32).toInt ≤ (v0 : Int32).toInt) ∧ (r = 1 → pz0_11 = 0) ∧ (r = 1 → (pz0_6 : Int32).toInt + 1 ≤ (v0 : Int32).toInt) ∧ (∀ q9 : Sg, RZ fz3 pz0_8 q9 pz0_11 pz0_12 pz0_9 pz0_6 pz0_7 pz0_10 → (r = 1 → isQ (tkX fz3 pz0_8) q9 (6 : Int32) = true ∧ RZ fz3 pz0_8 (nxP (tkX fz3 pz0_8) q9) pz0_11 pz0_12 v2 v0 v1 v3) ∧ (r = 0 → isQ (tkX fz3 pz0_8) q9 (6 : Int32) = false ∧ RZ fz3 pz0_8 q9 pz0_11 pz0_12 v2 v0 v1 v3)) ∧ w = [(z 0, .inr (10, mo z pz0_0 pz0_5 v0 v1 pz0_8 v2 v3 pz0_11 pz0_12 pz0_13 pz0_14 pz0_18 pz0_19 pz0_22 pz0_23 pz0_29)), (z 3, aI V 900 fz3)])) := by
  refine Ct.of (by decide) (Nat.le_of_ble_eq_true rfl) (fun p e s m below meth c A ls hx hb hr hml hown hlk hnm hg hP hK hD hE hA hS hl => ?_)
  have hl : lv_has ls 2 [(0, .ref (z 0)), (1, .int 6)] := hl
  refine lv_aload_n hx hb dX10_eats_0 rfl (lv_at hl 0 rfl) ?_
  refine lv_iload_n hx hb dX10_eats_1 rfl (lv_at hl 1 rfl) ?_
  refine jnI (wr := [(z 3, aI V 900 fz3)]) (rnV (rest := []) ⟨hx, hb, hml, hown, hg⟩ (k_X10_is_32 l V z pz0_0 pz0_5 pz0_6 pz0_7 pz0_8 pz0_9 pz0_10 pz0_11 pz0_12 pz0_13 pz0_14 pz0_18 pz0_19 pz0_22 pz0_23 pz0_29 bpz0_5 bpz0_6 bpz0_7 bpz0_8 bpz0_10 bpz0_11 bpz0_12 bpz0_13 bpz0_14 bpz0_18 bpz0_22 bpz0_29) mt_X10_is q_6_143 ⟨Nat.le_of_ble_eq_true rfl, Nat.le_of_ble_eq_true rfl⟩ hK hP hD hS hA hE [0] rfl rfl 0 rfl rfl rfl rfl hl.1 rfl (Nat.le_of_ble_eq_true rfl) dX10_eats_2 ⟨Nat.le_of_ble_eq_true rfl, Nat.le_of_ble_eq_true rfl⟩) hP hD hS hA [0] [1] rfl rfl rfl (by decide) (fun r_1 w H locs hw hP hD hS => ?_)
  obtain ⟨br_1, g_2, g_3, g_4, rfl⟩ := hw
  have hP : va_P V.1 vwCl [(z 3, aI V 900 fz3), (z 0, .inr (10, mo z pz0_0 pz0_5 pz0_6 pz0_7 pz0_8 pz0_9 pz0_10 pz0_11 pz0_12 pz0_13 pz0_14 pz0_18 pz0_19 pz0_22 pz0_23 pz0_29))] H := hP
  have hD : va_D A [(z 3, aI V 900 fz3), (z 0, .inr (10, mo z pz0_0 pz0_5 pz0_6 pz0_7 pz0_8 pz0_9 pz0_10 pz0_11 pz0_12 pz0_13 pz0_14 pz0_18 pz0_19 pz0_22 pz0_23 pz0_29))] := hD
  refine lv_if_ne (tgt := 10) hx hb dX10_eats_5 (by decide) (fun c_5 => ?_) (fun c_5 => ?_)
  · have b_6 : iv 1 1 r_1 := iv_n0 c_5 br_1 (iv_c (0 : Int32) (a := 0) (b := 0) (by decide)) (by decide)
    have c_7 : pz0_11 = 0 := (g_2 (iv_eqp b_6 (iv_c (1 : Int32) (by decide))))
    have b_8 : iv 0 0 pz0_11 := iv_q c_7 (iv_c (0 : Int32) (a := 0) (b := 0) (by decide))
    have c_9 : pz0_9 = 6 := (g_3 (iv_eqp b_6 (iv_c (1 : Int32) (by decide))))
    have b_10 : iv 6 6 pz0_9 := iv_q c_9 (iv_c (6 : Int32) (a := 6) (b := 6) (by decide))
    refine lv_aload_n hx hb dX10_eats_10 rfl (lv_at hl 0 rfl) ?_
    refine jnV (wr := []) (rnV (rest := []) ⟨hx, hb, hml, hown, hg⟩ (k_X10_next_0 l V z pz0_0 pz0_5 pz0_6 pz0_7 pz0_8 pz0_9 pz0_10 pz0_11 pz0_12 pz0_13 pz0_14 pz0_18 pz0_19 pz0_22 pz0_23 pz0_29 fz3 bpz0_5 bpz0_6 bpz0_7 bpz0_8 bpz0_10 (iv_w b_8 (by decide)) bpz0_12 bpz0_13 bpz0_14 bpz0_18 bpz0_22 bpz0_29 tfz3 hf0.2.1) mt_X10_next q_6_117 ⟨Nat.le_of_ble_eq_true rfl, Nat.le_of_ble_eq_true rfl⟩ hK hP hD hS hA hE [1, 0] rfl rfl 1 rfl rfl rfl rfl hl.1 rfl (Nat.le_of_ble_eq_true rfl) dX10_eats_11 ⟨Nat.le_of_ble_eq_true rfl, Nat.le_of_ble_eq_true rfl⟩) hP hD hS hA [1, 0] [] rfl rfl rfl (by decide) (fun  w H locs hw hP hD hS => ?_)
    obtain ⟨v_11, v_12, v_13, v_14, bv_11, bv_12, bv_14, g_15, g_16, g_17, rfl⟩ := hw
    have hP : va_P V.1 vwCl [(z 0, .inr (10, mo z pz0_0 pz0_5 v_11 v_12 pz0_8 v_13 v_14 pz0_11 pz0_12 pz0_13 pz0_14 pz0_18 pz0_19 pz0_22 pz0_23 pz0_29)), (z 3, aI V 900 fz3)] H := hP
    have hD : va_D A [(z 0, .inr (10, mo z pz0_0 pz0_5 v_11 v_12 pz0_8 v_13 v_14 pz0_11 pz0_12 pz0_13 pz0_14 pz0_18 pz0_19 pz0_22 pz0_23 pz0_29)), (z 3, aI V 900 fz3)] := hD
    refine lv_iconst (v := 1) hx hb dX10_eats_14 (by decide) ?_
    exact fiZ rfl hx hb hr hlk hK hP hD hS dX10_eats_15 (Nat.le_of_ble_eq_true rfl) (Nat.le_of_ble_eq_true rfl) (⟨v_11, v_12, v_13, v_14, bv_11, bv_12, bv_14, (iv_c (1 : Int32) (by decide)), g_15, (by have q9 := g_16; have q8 := hf0.1; omega), (fun _ => iv_eqp b_8 (iv_c (0 : Int32) (by decide))), (fun _ => by have q9 := g_16; have q8 := hf0.2.2 (by rw [c_9]; decide); omega), (fun q9 h9 => by have b_1 := RZ_i1 (k := 6) h9 (by decide) g_2 g_3 b_6; have h_2 := RZ_nx bpz0_8.2 h9 (isQ_iff.mp b_1).1 g_17; exact ⟨fun _ => ⟨b_1, h_2⟩, fun z => absurd z (by decide)⟩), rfl⟩)
  · have b_18 : iv 0 0 r_1 := iv_q c_5 (iv_c (0 : Int32) (a := 0) (b := 0) (by decide))
    refine lv_iconst (v := 0) hx hb dX10_eats_8 (by decide) ?_
    have hP := subP (ws' := [(z 0, .inr (10, mo z pz0_0 pz0_5 pz0_6 pz0_7 pz0_8 pz0_9 pz0_10 pz0_11 pz0_12 pz0_13 pz0_14 pz0_18 pz0_19 pz0_22 pz0_23 pz0_29)), (z 3, aI V 900 fz3)]) hP [1, 0] rfl
    have hD := hD.sub (ws' := [(z 0, .inr (10, mo z pz0_0 pz0_5 pz0_6 pz0_7 pz0_8 pz0_9 pz0_10 pz0_11 pz0_12 pz0_13 pz0_14 pz0_18 pz0_19 pz0_22 pz0_23 pz0_29)), (z 3, aI V 900 fz3)]) [1, 0] rfl rfl
    exact fiZ rfl hx hb hr hlk hK hP hD hS dX10_eats_9 (Nat.le_of_ble_eq_true rfl) (Nat.le_of_ble_eq_true rfl) (⟨pz0_6, pz0_7, pz0_9, pz0_10, bpz0_6, bpz0_7, bpz0_10, (iv_c (0 : Int32) (by decide)), hf0, (Int.le_refl _), (fun q9 => absurd q9 (by decide)), (fun q9 => absurd q9 (by decide)), (fun q9 h9 => by have b_1 := RZ_i0 (k := 6) h9 (by decide) g_4 b_18; exact ⟨fun z => absurd z (by decide), fun _ => ⟨b_1, h9⟩⟩), rfl⟩)
theorem dX10_readFlag_0 : decode cX10_readFlag 0 = .ok (.aload_n 0, 1) := by decide +kernel
theorem dX10_readFlag_1 : decode cX10_readFlag 1 = .ok (.iconst 5, 1) := by decide +kernel
theorem dX10_readFlag_2 : decode cX10_readFlag 2 = .ok (.invokevirtual 175, 3) := by decide +kernel
theorem dX10_readFlag_5 : decode cX10_readFlag 5 = .ok (.ifCond .eq 22, 3) := by decide +kernel
theorem dX10_readFlag_27 : decode cX10_readFlag 27 = .ok (.aload_n 0, 1) := by decide +kernel
theorem dX10_readFlag_28 : decode cX10_readFlag 28 = .ok (.bipush 6, 2) := by decide +kernel
theorem dX10_readFlag_30 : decode cX10_readFlag 30 = .ok (.invokevirtual 175, 3) := by decide +kernel
theorem dX10_readFlag_33 : decode cX10_readFlag 33 = .ok (.ifCond .eq 19, 3) := by decide +kernel
theorem dX10_readFlag_52 : decode cX10_readFlag 52 = .ok (.iconst 0, 1) := by decide +kernel
theorem dX10_readFlag_53 : decode cX10_readFlag 53 = .ok (.ireturn, 1) := by decide +kernel
theorem dX10_readFlag_36 : decode cX10_readFlag 36 = .ok (.aload_n 0, 1) := by decide +kernel
theorem dX10_readFlag_37 : decode cX10_readFlag 37 = .ok (.getfield 24, 3) := by decide +kernel
theorem dX10_readFlag_40 : decode cX10_readFlag 40 = .ok (.bipush 50, 2) := by decide +kernel
theorem dX10_readFlag_42 : decode cX10_readFlag 42 = .ok (.dup2, 1) := by decide +kernel
theorem dX10_readFlag_43 : decode cX10_readFlag 43 = .ok (.iaload, 1) := by decide +kernel
theorem dX10_readFlag_44 : decode cX10_readFlag 44 = .ok (.iconst 1, 1) := by decide +kernel
theorem dX10_readFlag_45 : decode cX10_readFlag 45 = .ok (.iload_n 1, 1) := by decide +kernel
theorem dX10_readFlag_46 : decode cX10_readFlag 46 = .ok (.ishl, 1) := by decide +kernel
theorem dX10_readFlag_47 : decode cX10_readFlag 47 = .ok (.ior, 1) := by decide +kernel
theorem dX10_readFlag_48 : decode cX10_readFlag 48 = .ok (.iastore, 1) := by decide +kernel
theorem dX10_readFlag_49 : decode cX10_readFlag 49 = .ok (.goto 5, 3) := by decide +kernel
theorem dX10_readFlag_54 : decode cX10_readFlag 54 = .ok (.aload_n 0, 1) := by decide +kernel
theorem dX10_readFlag_55 : decode cX10_readFlag 55 = .ok (.getfield 143, 3) := by decide +kernel
theorem dX10_readFlag_58 : decode cX10_readFlag 58 = .ok (.ifCond .ne 7, 3) := by decide +kernel
theorem dX10_readFlag_61 : decode cX10_readFlag 61 = .ok (.iconst 1, 1) := by decide +kernel
theorem dX10_readFlag_62 : decode cX10_readFlag 62 = .ok (.goto 4, 3) := by decide +kernel
theorem dX10_readFlag_66 : decode cX10_readFlag 66 = .ok (.ireturn, 1) := by decide +kernel
theorem dX10_readFlag_8 : decode cX10_readFlag 8 = .ok (.aload_n 0, 1) := by decide +kernel
theorem dX10_readFlag_9 : decode cX10_readFlag 9 = .ok (.getfield 24, 3) := by decide +kernel
theorem dX10_readFlag_12 : decode cX10_readFlag 12 = .ok (.bipush 14, 2) := by decide +kernel
theorem dX10_readFlag_14 : decode cX10_readFlag 14 = .ok (.iload_n 1, 1) := by decide +kernel
theorem dX10_readFlag_15 : decode cX10_readFlag 15 = .ok (.iadd, 1) := by decide +kernel
theorem dX10_readFlag_16 : decode cX10_readFlag 16 = .ok (.aload_n 0, 1) := by decide +kernel
theorem dX10_readFlag_17 : decode cX10_readFlag 17 = .ok (.iconst 0, 1) := by decide +kernel
theorem dX10_readFlag_18 : decode cX10_readFlag 18 = .ok (.bipush 9, 2) := by decide +kernel
theorem dX10_readFlag_20 : decode cX10_readFlag 20 = .ok (.invokevirtual 196, 3) := by decide +kernel
theorem dX10_readFlag_23 : decode cX10_readFlag 23 = .ok (.iastore, 1) := by decide +kernel
theorem dX10_readFlag_24 : decode cX10_readFlag 24 = .ok (.goto 30, 3) := by decide +kernel
theorem dX10_readFlag_65 : decode cX10_readFlag 65 = .ok (.iconst 0, 1) := by decide +kernel
set_option maxHeartbeats 4000000 in
set_option maxRecDepth 100000 in
theorem k_X10_readFlag_0 (l : Launch) (V : GV) (z : Nat → Nat) (a1 : Int32) (fz4 : Nat → Int32) (pz0_0 : Int32) (pz0_5 : Int32) (pz0_6 : Int32) (pz0_7 : Int32) (pz0_8 : Int32) (pz0_9 : Int32) (pz0_10 : Int32) (pz0_11 : Int32) (pz0_12 : Int32) (pz0_13 : Int32) (pz0_14 : Int32) (pz0_18 : Int32) (pz0_19 : Int32) (pz0_22 : Int32) (pz0_23 : Int32) (pz0_29 : Int32) (fz3 : Nat → Int32) (ba1 : iv 0 3 a1) (tfz4 : ivT tF fz4) (bpz0_5 : iv 0 900 pz0_5) (bpz0_6 : iv 0 900 pz0_6) (bpz0_7 : iv 0 900 pz0_7) (bpz0_8 : iv 0 900 pz0_8) (bpz0_10 : iv 0 999 pz0_10) (bpz0_11 : iv 0 4 pz0_11) (bpz0_12 : iv 0 900 pz0_12) (bpz0_13 : iv 0 4 pz0_13) (bpz0_14 : iv (-1) 900 pz0_14) (bpz0_18 : iv 0 2 pz0_18) (bpz0_22 : iv 0 9999 pz0_22) (bpz0_29 : iv 0 10000 pz0_29) (tfz3 : ∀ j, iv 0 255 (fz3 j)) (hf0 : PT pz0_6 pz0_7 pz0_8 pz0_9) (hf1 : PS pz0_11 pz0_6 fz4) : Ct l V yX10_readFlag (.code yX10_readFlag cX10_readFlag 2 (some .boolean)) 8 [.ref (z 0), .int a1] [(z 4, aI V 1025 fz4), (z 0, .inr (10, mo z pz0_0 pz0_5 pz0_6 pz0_7 pz0_8 pz0_9 pz0_10 pz0_11 pz0_12 pz0_13 pz0_14 pz0_18 pz0_19 pz0_22 pz0_23 pz0_29)), (z 3, aI V 900 fz3)] 0 0 (QI V (fun (r : Int32) (w : va_W) => ∃ (g0 : Nat → Int32) (v1 : Int32) (v2 : Int32) (v3 : Int32) (v4 : Int32) (v5 : Int32) (v6 : Int32), (ivT tF g0) ∧ iv 0 900 v1 ∧ iv 0 900 v2 ∧ iv 0 999 v4 ∧ iv 0 4 v5 ∧ iv 0 900 v6 ∧ iv 0 1 r ∧ (PT v1 v2 pz0_8 v3) ∧ (PS v5 v1 g0) ∧ ((pz0_6 : Int32).toInt ≤ (v1 : Int32).toInt) ∧ (v5 = 0 → pz0_11 = 0) ∧ (r = 1 → v5 = 0) ∧ (r = 1 → (pz0_6 : Int32).toInt + 1 ≤ (v1 : Int32).toInt) ∧ (g0 (1 : Int32).toNatClampNeg = fz4 (1 : Int32).toNatClampNeg) ∧ (∀ q9 : Sg, RZ fz3 pz0_8 q9 pz0_11 pz0_12 pz0_9 pz0_6 pz0_7 pz0_10 → (isQ (tkX fz3 pz0_8) q9 5 = true ∧ RZ fz3 pz0_8 (nuP (tkX fz3 pz0_8) 9 (nxP (tkX fz3 pz0_8) q9)) v5 v6 v3 v1 v2 v4 ∧ (r = 0 → ¬ v5 = 0)) ∨ (isQ (tkX fz3 pz0_8) q9 6 = true ∧ RZ fz3 pz0_8 (nxP (tkX fz3 pz0_8) q9) v5 v6 v3 v1 v2 v4 ∧ (r = 0 → ¬ v5 = 0)) ∨ (isQ (tkX fz3 pz0_8) q9 5 = false ∧ isQ (tkX fz3 pz0_8) q9 6 = false ∧ RZ fz3 pz0_8 q9 v5 v6 v3 v1 v2 v4 ∧ r = 0)) ∧ (g0 (0 : Int32).toNatClampNeg = fz4 (0 : Int32).toNatClampNeg) ∧ (g0 (2 : Int32).toNatClampNeg = fz4 (2 : Int32).toNatClampNeg) ∧ (g0 (3 : Int32).toNatClampNeg = fz4 (3 : Int32).toNatClampNeg) ∧ w = [(z 4, aI V 1025 g0), (z 0, .inr (10, mo z pz0_0 pz0_5 v1 v2 pz0_8 v3 v4 v5 v6 pz0_13 pz0_14 pz0_18 pz0_19 pz0_22 pz0_23 pz0_29)), (z 3, aI V 900 fz3)])) := by
  refine Ct.of (by decide) (Nat.le_of_ble_eq_true rfl) (fun p e s m below meth c A ls hx hb hr hml hown hlk hnm hg hP hK hD hE hA hS hl => ?_)
  have hl : lv_has ls 2 [(0, .ref (z 0)), (1, .int a1)] := hl
  refine lv_aload_n hx hb dX10_readFlag_0 rfl (lv_at hl 0 rfl) ?_
  refine lv_iconst (v := 5) hx hb dX10_readFlag_1 (by decide) ?_
  refine jnI (wr := [(z 4, aI V 1025 fz4)]) (rnV (rest := []) ⟨hx, hb, hml, hown, hg⟩ (k_X10_eats_16 l V z pz0_0 pz0_5 pz0_6 pz0_7 pz0_8 pz0_9 pz0_10 pz0_11 pz0_12 pz0_13 pz0_14 pz0_18 pz0_19 pz0_22 pz0_23 pz0_29 fz3 bpz0_5 bpz0_6 bpz0_7 bpz0_8 bpz0_10 bpz0_11 bpz0_12 bpz0_13 bpz0_14 bpz0_18 bpz0_22 bpz0_29 tfz3 hf0) mt_X10_eats q_6_139 ⟨Nat.le_of_ble_eq_true rfl, Nat.le_of_ble_eq_true rfl⟩ hK hP hD hS hA hE [1, 2] rfl rfl 1 rfl rfl rfl rfl hl.1 rfl (Nat.le_of_ble_eq_true rfl) dX10_readFlag_2 ⟨Nat.le_of_ble_eq_true rfl, Nat.le_of_ble_eq_true rfl⟩) hP hD hS hA [1, 2] [0] rfl rfl rfl (by decide) (fun r_1 w H locs hw hP hD hS => ?_)
  obtain ⟨v_2, v_3, v_4, v_5, bv_2, bv_3, bv_5, br_1, g_6, g_7, g_8, g_9, g_10, rfl⟩ := hw
  have hP : va_P V.1 vwCl [(z 4, aI V 1025 fz4), (z 0, .inr (10, mo z pz0_0 pz0_5 v_2 v_3 pz0_8 v_4 v_5 pz0_11 pz0_12 pz0_13 pz0_14 pz0_18 pz0_19 pz0_22 pz0_23 pz0_29)), (z 3, aI V 900 fz3)] H := hP
  have hD : va_D A [(z 4, aI V 1025 fz4), (z 0, .inr (10, mo z pz0_0 pz0_5 v_2 v_3 pz0_8 v_4 v_5 pz0_11 pz0_12 pz0_13 pz0_14 pz0_18 pz0_19 pz0_22 pz0_23 pz0_29)), (z 3, aI V 900 fz3)] := hD
  refine lv_if_eq (tgt := 27) hx hb dX10_readFlag_5 (by decide) (fun c_11 => ?_) (fun c_11 => ?_)
  · have b_12 : iv 0 0 r_1 := iv_q c_11 (iv_c (0 : Int32) (a := 0) (b := 0) (by decide))
    refine lv_aload_n hx hb dX10_readFlag_27 rfl (lv_at hl 0 rfl) ?_
    refine lv_bipush (v := 6) hx hb dX10_readFlag_28 (by decide) ?_
    refine jnI (wr := [(z 4, aI V 1025 fz4)]) (rnV (rest := []) ⟨hx, hb, hml, hown, hg⟩ (k_X10_eats_17 l V z pz0_0 pz0_5 v_2 v_3 pz0_8 v_4 v_5 pz0_11 pz0_12 pz0_13 pz0_14 pz0_18 pz0_19 pz0_22 pz0_23 pz0_29 fz3 bpz0_5 bv_2 bv_3 bpz0_8 bv_5 bpz0_11 bpz0_12 bpz0_13 bpz0_14 bpz0_18 bpz0_22 bpz0_29 tfz3 g_6) mt_X10_eats q_6_139 ⟨Nat.le_of_ble_eq_true rfl, Nat.le_of_ble_eq_true rfl⟩ hK hP hD hS hA hE [1, 2] rfl rfl 1 rfl rfl rfl rfl hl.1 rfl (Nat.le_of_ble_eq_true rfl) dX10_readFlag_30 ⟨Nat.le_of_ble_eq_true rfl, Nat.le_of_ble_eq_true rfl⟩) hP hD hS hA [1, 2] [0] rfl rfl rfl (by decide) (fun r_13 w H locs hw hP hD hS => ?_)
    obtain ⟨v_14, v_15, v_16, v_17, bv_14, bv_15, bv_17, br_13, g_18, g_19, g_20, g_21, g_22, rfl⟩ := hw
    have hP : va_P V.1 vwCl [(z 4, aI V 1025 fz4), (z 0, .inr (10, mo z pz0_0 pz0_5 v_14 v_15 pz0_8 v_16 v_17 pz0_11 pz0_12 pz0_13 pz0_14 pz0_18 pz0_19 pz0_22 pz0_23 pz0_29)), (z 3, aI V 900 fz3)] H := hP
    have hD : va_D A [(z 4, aI V 1025 fz4), (z 0, .inr (10, mo z pz0_0 pz0_5 v_14 v_15 pz0_8 v_16 v_17 pz0_11 pz0_12 pz0_13 pz0_14 pz0_18 pz0_19 pz0_22 pz0_23 pz0_29)), (z 3, aI V 900 fz3)] := hD
    refine lv_if_eq (tgt := 52) hx hb dX10_readFlag_33 (by decide) (fun c_23 => ?_) (fun c_23 => ?_)
    · have b_24 : iv 0 0 r_13 := iv_q c_23 (iv_c (0 : Int32) (a := 0) (b := 0) (by decide))
      refine lv_iconst (v := 0) hx hb dX10_readFlag_52 (by decide) ?_
      exact fiZ rfl hx hb hr hlk hK hP hD hS dX10_readFlag_53 (Nat.le_of_ble_eq_true rfl) (Nat.le_of_ble_eq_true rfl) (⟨fz4, v_14, v_15, v_16, v_17, pz0_11, pz0_12, tfz4, bv_14, bv_15, bv_17, bpz0_11, bpz0_12, (iv_c (0 : Int32) (by decide)), g_18, (PS_a hf1 (fun q9 => q9) (by have z_0 := g_7; have z_1 := g_19;have y_0 := hf0.1; have y_1 := g_6.1; have y_2 := g_18.1; omega)), (by have z_0 := g_7; have z_1 := g_19;have y_0 := hf0.1; have y_1 := g_6.1; have y_2 := g_18.1; omega), (fun q9 => q9), (fun q9 => absurd q9 (by decide)), (fun q9 => absurd q9 (by decide)), rfl, (fun q9 h9 => by obtain ⟨b_1, h_1⟩ := (g_10 _ h9).2 (iv_eqp b_12 (iv_c (0 : Int32) (by decide))); obtain ⟨b_2, h_2⟩ := (g_22 _ h_1).2 (iv_eqp b_24 (iv_c (0 : Int32) (by decide))); exact Or.inr (Or.inr ⟨b_1, b_2, h_2, rfl⟩)), rfl, rfl, rfl, rfl⟩)
    · have b_25 : iv 1 1 r_13 := iv_n0 c_23 br_13 (iv_c (0 : Int32) (a := 0) (b := 0) (by decide)) (by decide)
      have c_26 : pz0_11 = 0 := (g_20 (iv_eqp b_25 (iv_c (1 : Int32) (by decide))))
      have b_27 : iv 0 0 pz0_11 := iv_q c_26 (iv_c (0 : Int32) (a := 0) (b := 0) (by decide))
      refine lv_aload_n hx hb dX10_readFlag_36 rfl (lv_at hl 0 rfl) ?_
      refine va_get (ci := 10) (v := .ref (z 4)) (C := RX10) (T := TX10) (N := 40) hx hb hg inX10 hown hK hP 1 rfl rfl 4 (by decide) (hg _ q_5_228) (fun _ h9 => h9) rfl dX10_readFlag_37 ?_
      refine lv_bipush (v := 50) hx hb dX10_readFlag_40 (by decide) ?_
      refine lv_dup2_11 hx hb dX10_readFlag_42 rfl rfl ?_
      refine va_iald hx hb hK hP 0 0 rfl rfl (vin (by decide +kernel)) dX10_readFlag_43 ?_
      refine lv_topi (fun x_28 ex_28 => ?_)
      refine lv_iconst (v := 1) hx hb dX10_readFlag_44 (by decide) ?_
      refine lv_iload_n hx hb dX10_readFlag_45 rfl (lv_at hl 1 rfl) ?_
      refine lv_ishl hx hb dX10_readFlag_46 ?_
      refine lv_topi (fun x_29 ex_29 => ?_)
      have bx_29 : iv 1 8 x_29 := by rw [ex_29]; exact iv_shl1 ba1 (by decide)
      refine lv_ior hx hb dX10_readFlag_47 ?_
      refine lv_topi (fun x_30 ex_30 => ?_)
      refine va_iast hx hb hK hP hD hS 0 0 rfl rfl (vin (by decide +kernel)) dX10_readFlag_48 (fun H locs hP hD hS => ?_)
      obtain ⟨f_31, ef_31, tf_31, hP, hD⟩ : ∃ f_31 : Nat → Int32, f_31 = (upd fz4 (50 : Int32).toNatClampNeg x_30) ∧ (ivT tF f_31) ∧ va_P V.1 vwCl [(z 4, aI V 1025 f_31), (z 0, .inr (10, mo z pz0_0 pz0_5 v_14 v_15 pz0_8 v_16 v_17 pz0_11 pz0_12 pz0_13 pz0_14 pz0_18 pz0_19 pz0_22 pz0_23 pz0_29)), (z 3, aI V 900 fz3)] H ∧ va_D A [(z 4, aI V 1025 f_31), (z 0, .inr (10, mo z pz0_0 pz0_5 v_14 v_15 pz0_8 v_16 v_17 pz0_11 pz0_12 pz0_13 pz0_14 pz0_18 pz0_19 pz0_22 pz0_23 pz0_29)), (z 3, aI V 900 fz3)] := ⟨_, rfl, upT (lo := (-2147483648)) (hi := 2147483647) (a := 50) (n := 1) tfz4 (iv_c (50 : Int32) (a := 50) (b := 50) (by decide)) (by decide) (iv_top x_30) (by decide +kernel), hP, hD⟩
      refine lv_goto (tgt := 54) hx hb dX10_readFlag_49 (by decide) ?_
      refine lv_aload_n hx hb dX10_readFlag_54 rfl (lv_at hl 0 rfl) ?_
      refine va_get (ci := 10) (v := .int pz0_11) (C := RX10) (T := TX10) (N := 40) hx hb hg inX10 hown hK hP 1 rfl rfl 11 (by decide) (hg _ q_5_235) (fun _ h9 => h9) rfl dX10_readFlag_55 ?_
      refine lv_if_ne (tgt := 65) hx hb dX10_readFlag_58 (by decide) (fun c_33 => absurd c_26 c_33) (fun _ => ?_)
      refine lv_iconst (v := 1) hx hb dX10_readFlag_61 (by decide) ?_
      refine lv_goto (tgt := 66) hx hb dX10_readFlag_62 (by decide) ?_
      exact fiZ rfl hx hb hr hlk hK hP hD hS dX10_readFlag_66 (Nat.le_of_ble_eq_true rfl) (Nat.le_of_ble_eq_true rfl) (⟨f_31, v_14, v_15, v_16, v_17, pz0_11, pz0_12, tf_31, bv_14, bv_15, bv_17, (iv_w b_27 (by decide)), bpz0_12, (iv_c (1 : Int32) (by decide)), g_18, (PS_up (lo := 0) (hi := 15) (c := 0) (k := 1) (i := 50) (n := 1) (PS_a hf1 (fun q9 => q9) (by have z_0 := g_7; have z_1 := g_19;have y_0 := hf0.1; have y_1 := g_6.1; have y_2 := g_18.1; omega)) ef_31 (show (50 : Int32).toInt = 0 + 1 * (50 : Int32).toInt from (by omega)) (iv_c (50 : Int32) (a := 50) (b := 50) (by decide)) (by decide) (by decide +kernel) (fun q7 => by rw [ex_30]; exact iv_or15 (show iv 0 15 x_28 from (by have q8 := ((PS_a hf1 (fun q9 => q9) (by have z_0 := g_7; have z_1 := g_19;have y_0 := hf0.1; have y_1 := g_6.1; have y_2 := g_18.1; omega)) q7).1 50 (by decide); rw [ex_28]; exact q8)) bx_29 (by decide)) (iv_c (50 : Int32) (a := 50) (b := 50) (by decide)) (by decide)), (by have z_0 := g_7; have z_1 := g_19;have y_0 := hf0.1; have y_1 := g_6.1; have y_2 := g_18.1; omega), (fun q9 => q9), (fun _ => iv_eqp b_27 (iv_c (0 : Int32) (by decide))), (fun _ => by have z_0 := g_7; have z_1 := g_19; have z_2 := (g_21 (iv_eqp b_25 (iv_c (1 : Int32) (by decide)))); omega), (show f_31 (1 : Int32).toNatClampNeg = fz4 (1 : Int32).toNatClampNeg from by rw [ef_31]; exact upd_ne (cl_ne (iv_c (1 : Int32) (a := 1) (b := 1) (by decide)) (iv_c (50 : Int32) (a := 50) (b := 50) (by decide)) (by decide))), (fun q9 h9 => by obtain ⟨b_1, h_1⟩ := (g_10 _ h9).2 (iv_eqp b_12 (iv_c (0 : Int32) (by decide))); obtain ⟨b_2, h_2⟩ := (g_22 _ h_1).1 (iv_eqp b_25 (iv_c (1 : Int32) (by decide))); exact Or.inr (Or.inl ⟨b_2, h_2, (fun z => absurd z (by decide))⟩)), (show f_31 (0 : Int32).toNatClampNeg = fz4 (0 : Int32).toNatClampNeg from by rw [ef_31]; exact upd_ne (cl_ne (iv_c (0 : Int32) (a := 0) (b := 0) (by decide)) (iv_c (50 : Int32) (a := 50) (b := 50) (by decide)) (by decide))), (show f_31 (2 : Int32).toNatClampNeg = fz4 (2 : Int32).toNatClampNeg from by rw [ef_31]; exact upd_ne (cl_ne (iv_c (2 : Int32) (a := 2) (b := 2) (by decide)) (iv_c (50 : Int32) (a := 50) (b := 50) (by decide)) (by decide))), (show f_31 (3 : Int32).toNatClampNeg = fz4 (3 : Int32).toNatClampNeg from by rw [ef_31]; exact upd_ne (cl_ne (iv_c (3 : Int32) (a := 3) (b := 3) (by decide)) (iv_c (50 : Int32) (a := 50) (b := 50) (by decide)) (by decide))), rfl⟩)
  · have b_34 : iv 1 1 r_1 := iv_n0 c_11 br_1 (iv_c (0 : Int32) (a := 0) (b := 0) (by decide)) (by decide)
    have c_35 : pz0_11 = 0 := (g_8 (iv_eqp b_34 (iv_c (1 : Int32) (by decide))))
    have b_36 : iv 0 0 pz0_11 := iv_q c_35 (iv_c (0 : Int32) (a := 0) (b := 0) (by decide))
    refine lv_aload_n hx hb dX10_readFlag_8 rfl (lv_at hl 0 rfl) ?_
    refine va_get (ci := 10) (v := .ref (z 4)) (C := RX10) (T := TX10) (N := 40) hx hb hg inX10 hown hK hP 1 rfl rfl 4 (by decide) (hg _ q_5_228) (fun _ h9 => h9) rfl dX10_readFlag_9 ?_
    refine lv_bipush (v := 14) hx hb dX10_readFlag_12 (by decide) ?_
    refine lv_iload_n hx hb dX10_readFlag_14 rfl (lv_at hl 1 rfl) ?_
    refine lv_iadd hx hb dX10_readFlag_15 ?_
    refine lv_topi (fun x_37 ex_37 => ?_)
    have bx_37 : iv 14 17 x_37 := by rw [ex_37]; exact iv_add (iv_c (14 : Int32) (a := 14) (b := 14) (by decide)) ba1 (by decide)
    refine lv_aload_n hx hb dX10_readFlag_16 rfl (lv_at hl 0 rfl) ?_
    refine lv_iconst (v := 0) hx hb dX10_readFlag_17 (by decide) ?_
    refine lv_bipush (v := 9) hx hb dX10_readFlag_18 (by decide) ?_
    refine jnI (wr := [(z 4, aI V 1025 fz4)]) (rnV (rest := [.int x_37, .ref (z 4)]) ⟨hx, hb, hml, hown, hg⟩ (k_X10_takesOne_0 l V z 0 9 pz0_0 pz0_5 v_2 v_3 pz0_8 v_4 v_5 pz0_11 pz0_12 pz0_13 pz0_14 pz0_18 pz0_19 pz0_22 pz0_23 pz0_29 fz3 bpz0_5 bv_2 bv_3 bpz0_8 bv_5 (iv_w b_36 (by decide)) bpz0_12 bpz0_13 bpz0_14 bpz0_18 bpz0_22 bpz0_29 tfz3 g_6) mt_X10_takesOne q_6_155 ⟨Nat.le_of_ble_eq_true rfl, Nat.le_of_ble_eq_true rfl⟩ hK hP hD hS hA hE [1, 2] rfl rfl 1 rfl rfl rfl rfl hl.1 rfl (Nat.le_of_ble_eq_true rfl) dX10_readFlag_20 ⟨Nat.le_of_ble_eq_true rfl, Nat.le_of_ble_eq_true rfl⟩) hP hD hS hA [1, 2] [0] rfl rfl rfl (by decide) (fun r_38 w H locs hw hP hD hS => ?_)
    obtain ⟨v_39, v_40, v_41, v_42, v_43, v_44, bv_39, bv_40, bv_42, bv_43, bv_44, br_38, g_45, g_46, g_47, g_48, g_49, rfl⟩ := hw
    have hP : va_P V.1 vwCl [(z 4, aI V 1025 fz4), (z 0, .inr (10, mo z pz0_0 pz0_5 v_39 v_40 pz0_8 v_41 v_42 v_43 v_44 pz0_13 pz0_14 pz0_18 pz0_19 pz0_22 pz0_23 pz0_29)), (z 3, aI V 900 fz3)] H := hP
    have hD : va_D A [(z 4, aI V 1025 fz4), (z 0, .inr (10, mo z pz0_0 pz0_5 v_39 v_40 pz0_8 v_41 v_42 v_43 v_44 pz0_13 pz0_14 pz0_18 pz0_19 pz0_22 pz0_23 pz0_29)), (z 3, aI V 900 fz3)] := hD
    refine va_iast hx hb hK hP hD hS 0 0 rfl rfl (iv_in bx_37 (by decide)) dX10_readFlag_23 (fun H locs hP hD hS => ?_)
    obtain ⟨f_50, ef_50, tf_50, hP, hD⟩ : ∃ f_50 : Nat → Int32, f_50 = (upd fz4 (x_37 : Int32).toNatClampNeg r_38) ∧ (ivT tF f_50) ∧ va_P V.1 vwCl [(z 4, aI V 1025 f_50), (z 0, .inr (10, mo z pz0_0 pz0_5 v_39 v_40 pz0_8 v_41 v_42 v_43 v_44 pz0_13 pz0_14 pz0_18 pz0_19 pz0_22 pz0_23 pz0_29)), (z 3, aI V 900 fz3)] H ∧ va_D A [(z 4, aI V 1025 f_50), (z 0, .inr (10, mo z pz0_0 pz0_5 v_39 v_40 pz0_8 v_41 v_42 v_43 v_44 pz0_13 pz0_14 pz0_18 pz0_19 pz0_22 pz0_23 pz0_29)), (z 3, aI V 900 fz3)] := ⟨_, rfl, upT (lo := (-2147483648)) (hi := 2147483647) (a := 14) (n := 4) tfz4 bx_37 (by decide) (iv_w br_38 (by decide)) (by decide +kernel), hP, hD⟩
    refine lv_goto (tgt := 54) hx hb dX10_readFlag_24 (by decide) ?_
    refine lv_aload_n hx hb dX10_readFlag_54 rfl (lv_at hl 0 rfl) ?_
    refine va_get (ci := 10) (v := .int v_43) (C := RX10) (T := TX10) (N := 40) hx hb hg inX10 hown hK hP 1 rfl rfl 11 (by decide) (hg _ q_5_235) (fun _ h9 => h9) rfl dX10_readFlag_55 ?_
    refine lv_if_ne (tgt := 65) hx hb dX10_readFlag_58 (by decide) (fun c_51 => ?_) (fun c_51 => ?_)
    · have b_52 : iv 1 4 v_43 := iv_n0 c_51 bv_43 (iv_c (0 : Int32) (a := 0) (b := 0) (by decide)) (by decide)
      refine lv_iconst (v := 0) hx hb dX10_readFlag_65 (by decide) ?_
      exact fiZ rfl hx hb hr hlk hK hP hD hS dX10_readFlag_66 (Nat.le_of_ble_eq_true rfl) (Nat.le_of_ble_eq_true rfl) (⟨f_50, v_39, v_40, v_41, v_42, v_43, v_44, tf_50, bv_39, bv_40, bv_42, (iv_w b_52 (by decide)), bv_44, (iv_c (0 : Int32) (by decide)), g_45, (PS_f b_52 (by decide)), (by have z_0 := g_7; have z_1 := g_46;have y_0 := hf0.1; have y_1 := g_6.1; have y_2 := g_45.1; omega), (fun q9 => ((fun q8 => absurd q8 (iv_nz b_52 (by decide))) q9)), (fun q9 => absurd q9 (by decide)), (fun q9 => absurd q9 (by decide)), (show f_50 (1 : Int32).toNatClampNeg = fz4 (1 : Int32).toNatClampNeg from by rw [ef_50]; exact upd_ne (cl_ne (iv_c (1 : Int32) (a := 1) (b := 1) (by decide)) bx_37 (by decide))), (fun q9 h9 => by obtain ⟨b_1, h_1⟩ := (g_10 _ h9).1 (iv_eqp b_34 (iv_c (1 : Int32) (by decide))); have h_2 := g_49 rfl _ h_1; exact Or.inl ⟨b_1, h_2, (fun _ => iv_nz b_52 (by decide))⟩), (show f_50 (0 : Int32).toNatClampNeg = fz4 (0 : Int32).toNatClampNeg from by rw [ef_50]; exact upd_ne (cl_ne (iv_c (0 : Int32) (a := 0) (b := 0) (by decide)) bx_37 (by decide))), (show f_50 (2 : Int32).toNatClampNeg = fz4 (2 : Int32).toNatClampNeg from by rw [ef_50]; exact upd_ne (cl_ne (iv_c (2 : Int32) (a := 2) (b := 2) (by decide)) bx_37 (by decide))), (show f_50 (3 : Int32).toNatClampNeg = fz4 (3 : Int32).toNatClampNeg from by rw [ef_50]; exact upd_ne (cl_ne (iv_c (3 : Int32) (a := 3) (b := 3) (by decide)) bx_37 (by decide))), rfl⟩)
    · have b_53 : iv 0 0 v_43 := iv_q c_51 (iv_c (0 : Int32) (a := 0) (b := 0) (by decide))
      refine lv_iconst (v := 1) hx hb dX10_readFlag_61 (by decide) ?_
      refine lv_goto (tgt := 66) hx hb dX10_readFlag_62 (by decide) ?_
      exact fiZ rfl hx hb hr hlk hK hP hD hS dX10_readFlag_66 (Nat.le_of_ble_eq_true rfl) (Nat.le_of_ble_eq_true rfl) (⟨f_50, v_39, v_40, v_41, v_42, v_43, v_44, tf_50, bv_39, bv_40, bv_42, (iv_w b_53 (by decide)), bv_44, (iv_c (1 : Int32) (by decide)), g_45, (PS_up (lo := 0) (hi := 9) (c := 14) (k := 1) (i := 0) (n := 4) (PS_a hf1 (fun q9 => ((g_47) q9)) (by have z_0 := g_7; have z_1 := g_46;have y_0 := hf0.1; have y_1 := g_6.1; have y_2 := g_45.1; omega)) ef_50 (show (x_37 : Int32).toInt = 14 + 1 * (a1 : Int32).toInt from (by have q_x_37 := toInt_add ex_37 (iv_c (14 : Int32) (a := 14) (b := 14) (by decide)) ba1 (by decide); have k_x_37 : (14 : Int32).toInt = 14 := (by decide); omega)) ba1 (by decide) (by decide +kernel) (fun q7 => by have q8 := g_48 ((fun q9 => q9) q7); have z_0 : (0 : Int32).toInt = 0 := (by decide); have z_9 : (9 : Int32).toInt = 9 := (by decide); exact ⟨by omega, by omega⟩) bx_37 (by decide)), (by have z_0 := g_7; have z_1 := g_46;have y_0 := hf0.1; have y_1 := g_6.1; have y_2 := g_45.1; omega), (fun q9 => ((g_47) q9)), (fun _ => iv_eqp b_53 (iv_c (0 : Int32) (by decide))), (fun _ => by have z_0 := g_7; have z_1 := g_46; have z_2 := (g_9 (iv_eqp b_34 (iv_c (1 : Int32) (by decide)))); omega), (show f_50 (1 : Int32).toNatClampNeg = fz4 (1 : Int32).toNatClampNeg from by rw [ef_50]; exact upd_ne (cl_ne (iv_c (1 : Int32) (a := 1) (b := 1) (by decide)) bx_37 (by decide))), (fun q9 h9 => by obtain ⟨b_1, h_1⟩ := (g_10 _ h9).1 (iv_eqp b_34 (iv_c (1 : Int32) (by decide))); have h_2 := g_49 rfl _ h_1; exact Or.inl ⟨b_1, h_2, (fun z => absurd z (by decide))⟩), (show f_50 (0 : Int32).toNatClampNeg = fz4 (0 : Int32).toNatClampNeg from by rw [ef_50]; exact upd_ne (cl_ne (iv_c (0 : Int32) (a := 0) (b := 0) (by decide)) bx_37 (by decide))), (show f_50 (2 : Int32).toNatClampNeg = fz4 (2 : Int32).toNatClampNeg from by rw [ef_50]; exact upd_ne (cl_ne (iv_c (2 : Int32) (a := 2) (b := 2) (by decide)) bx_37 (by decide))), (show f_50 (3 : Int32).toNatClampNeg = fz4 (3 : Int32).toNatClampNeg from by rw [ef_50]; exact upd_ne (cl_ne (iv_c (3 : Int32) (a := 3) (b := 3) (by decide)) bx_37 (by decide))), rfl⟩)
theorem dX10_readHill_0 : decode cX10_readHill 0 = .ok (.aload_n 0, 1) := by decide +kernel
theorem dX10_readHill_1 : decode cX10_readHill 1 = .ok (.getfield 24, 3) := by decide +kernel
theorem dX10_readHill_4 : decode cX10_readHill 4 = .ok (.iconst 1, 1) := by decide +kernel
theorem dX10_readHill_5 : decode cX10_readHill 5 = .ok (.iaload, 1) := by decide +kernel
theorem dX10_readHill_6 : decode cX10_readHill 6 = .ok (.istore_n 1, 1) := by decide +kernel
theorem dX10_readHill_7 : decode cX10_readHill 7 = .ok (.iload_n 1, 1) := by decide +kernel
theorem dX10_readHill_8 : decode cX10_readHill 8 = .ok (.iconst 4, 1) := by decide +kernel
theorem dX10_readHill_9 : decode cX10_readHill 9 = .ok (.if_icmp .ne 8, 3) := by decide +kernel
theorem dX10_readHill_17 : decode cX10_readHill 17 = .ok (.aload_n 0, 1) := by decide +kernel
theorem dX10_readHill_18 : decode cX10_readHill 18 = .ok (.getfield 143, 3) := by decide +kernel
theorem dX10_readHill_21 : decode cX10_readHill 21 = .ok (.ifCond .eq 4, 3) := by decide +kernel
theorem dX10_readHill_25 : decode cX10_readHill 25 = .ok (.aload_n 0, 1) := by decide +kernel
theorem dX10_readHill_26 : decode cX10_readHill 26 = .ok (.invokevirtual 152, 3) := by decide +kernel
theorem dX10_readHill_29 : decode cX10_readHill 29 = .ok (.aload_n 0, 1) := by decide +kernel
theorem dX10_readHill_30 : decode cX10_readHill 30 = .ok (.getfield 24, 3) := by decide +kernel
theorem dX10_readHill_33 : decode cX10_readHill 33 = .ok (.bipush 46, 2) := by decide +kernel
theorem dX10_readHill_35 : decode cX10_readHill 35 = .ok (.iload_n 1, 1) := by decide +kernel
theorem dX10_readHill_36 : decode cX10_readHill 36 = .ok (.iadd, 1) := by decide +kernel
theorem dX10_readHill_37 : decode cX10_readHill 37 = .ok (.aload_n 0, 1) := by decide +kernel
theorem dX10_readHill_38 : decode cX10_readHill 38 = .ok (.iconst 3, 1) := by decide +kernel
theorem dX10_readHill_39 : decode cX10_readHill 39 = .ok (.iconst 0, 1) := by decide +kernel
theorem dX10_readHill_40 : decode cX10_readHill 40 = .ok (.iconst 4, 1) := by decide +kernel
theorem dX10_readHill_41 : decode cX10_readHill 41 = .ok (.invokevirtual 200, 3) := by decide +kernel
theorem dX10_readHill_44 : decode cX10_readHill 44 = .ok (.iastore, 1) := by decide +kernel
theorem dX10_readHill_45 : decode cX10_readHill 45 = .ok (.aload_n 0, 1) := by decide +kernel
theorem dX10_readHill_46 : decode cX10_readHill 46 = .ok (.getfield 24, 3) := by decide +kernel
theorem dX10_readHill_49 : decode cX10_readHill 49 = .ok (.bipush 10, 2) := by decide +kernel
theorem dX10_readHill_51 : decode cX10_readHill 51 = .ok (.iload_n 1, 1) := by decide +kernel
theorem dX10_readHill_52 : decode cX10_readHill 52 = .ok (.iadd, 1) := by decide +kernel
theorem dX10_readHill_53 : decode cX10_readHill 53 = .ok (.aload_n 0, 1) := by decide +kernel
theorem dX10_readHill_54 : decode cX10_readHill 54 = .ok (.iconst 4, 1) := by decide +kernel
theorem dX10_readHill_55 : decode cX10_readHill 55 = .ok (.iconst 0, 1) := by decide +kernel
theorem dX10_readHill_56 : decode cX10_readHill 56 = .ok (.bipush 9, 2) := by decide +kernel
theorem dX10_readHill_58 : decode cX10_readHill 58 = .ok (.invokevirtual 200, 3) := by decide +kernel
theorem dX10_readHill_61 : decode cX10_readHill 61 = .ok (.iastore, 1) := by decide +kernel
theorem dX10_readHill_62 : decode cX10_readHill 62 = .ok (.aload_n 0, 1) := by decide +kernel
theorem dX10_readHill_63 : decode cX10_readHill 63 = .ok (.getfield 24, 3) := by decide +kernel
theorem dX10_readHill_66 : decode cX10_readHill 66 = .ok (.bipush 14, 2) := by decide +kernel
theorem dX10_readHill_68 : decode cX10_readHill 68 = .ok (.iload_n 1, 1) := by decide +kernel
theorem dX10_readHill_69 : decode cX10_readHill 69 = .ok (.iadd, 1) := by decide +kernel
theorem dX10_readHill_70 : decode cX10_readHill 70 = .ok (.iconst 1, 1) := by decide +kernel
theorem dX10_readHill_71 : decode cX10_readHill 71 = .ok (.iastore, 1) := by decide +kernel
theorem dX10_readHill_72 : decode cX10_readHill 72 = .ok (.aload_n 0, 1) := by decide +kernel
theorem dX10_readHill_73 : decode cX10_readHill 73 = .ok (.getfield 143, 3) := by decide +kernel
theorem dX10_readHill_76 : decode cX10_readHill 76 = .ok (.ifCond .ne 14, 3) := by decide +kernel
theorem dX10_readHill_90 : decode cX10_readHill 90 = .ok (.aload_n 0, 1) := by decide +kernel
theorem dX10_readHill_91 : decode cX10_readHill 91 = .ok (.getfield 143, 3) := by decide +kernel
theorem dX10_readHill_94 : decode cX10_readHill 94 = .ok (.ifCond .ne 13, 3) := by decide +kernel
theorem dX10_readHill_107 : decode cX10_readHill 107 = .ok (.return_, 1) := by decide +kernel
theorem dX10_readHill_79 : decode cX10_readHill 79 = .ok (.aload_n 0, 1) := by decide +kernel
theorem dX10_readHill_80 : decode cX10_readHill 80 = .ok (.iload_n 1, 1) := by decide +kernel
theorem q_6_174 : Cond.code yX10_readFlag prog_12_method_26_code 2 (some FieldType.boolean) ∈ gw := gw_6 (i := 174) (rfl) rfl
theorem q_6_173 : Cond.instanceMethod yX10_readFlag ∈ gw := gw_6 (i := 173) (by decide +kernel) rfl
theorem q_s_65 : Cond.selects "BeaconDelayModel" yX10_readFlag yX10_readFlag ∈ gw := gw_s (i := 65) (by decide +kernel) rfl
theorem mt_X10_readFlag : MtV yX10_readFlag cX10_readFlag 2 (some .boolean) 1 := ⟨⟨q_6_174, q_1_9, by decide +kernel, by decide +kernel, by decide +kernel⟩, q_6_173, q_s_65⟩
theorem q_6_171 : Cond.methodLink "BeaconDelayModel" 204 yX10_readFlag ∈ gw := gw_6 (i := 171) (by decide +kernel) rfl
theorem dX10_readHill_81 : decode cX10_readHill 81 = .ok (.invokevirtual 204, 3) := by decide +kernel
theorem dX10_readHill_84 : decode cX10_readHill 84 = .ok (.ifCond .eq 6, 3) := by decide +kernel
theorem dX10_readHill_97 : decode cX10_readHill 97 = .ok (.aload_n 0, 1) := by decide +kernel
theorem dX10_readHill_98 : decode cX10_readHill 98 = .ok (.getfield 24, 3) := by decide +kernel
theorem dX10_readHill_101 : decode cX10_readHill 101 = .ok (.iconst 1, 1) := by decide +kernel
theorem dX10_readHill_102 : decode cX10_readHill 102 = .ok (.dup2, 1) := by decide +kernel
theorem dX10_readHill_103 : decode cX10_readHill 103 = .ok (.iaload, 1) := by decide +kernel
theorem dX10_readHill_104 : decode cX10_readHill 104 = .ok (.iconst 1, 1) := by decide +kernel
theorem dX10_readHill_105 : decode cX10_readHill 105 = .ok (.iadd, 1) := by decide +kernel
theorem dX10_readHill_106 : decode cX10_readHill 106 = .ok (.iastore, 1) := by decide +kernel
theorem dX10_readHill_87 : decode cX10_readHill 87 = .ok (.goto (-15), 3) := by decide +kernel
theorem dX10_readHill_24 : decode cX10_readHill 24 = .ok (.return_, 1) := by decide +kernel
theorem dX10_readHill_12 : decode cX10_readHill 12 = .ok (.aload_n 0, 1) := by decide +kernel
theorem dX10_readHill_13 : decode cX10_readHill 13 = .ok (.iconst 4, 1) := by decide +kernel
theorem dX10_readHill_14 : decode cX10_readHill 14 = .ok (.invokevirtual 155, 3) := by decide +kernel
set_option maxHeartbeats 4000000 in
set_option maxRecDepth 100000 in
theorem k_X10_readHill_0 (l : Launch) (V : GV) (z : Nat → Nat) (fz4 : Nat → Int32) (fz3 : Nat → Int32) (pz0_0 : Int32) (pz0_5 : Int32) (pz0_6 : Int32) (pz0_7 : Int32) (pz0_8 : Int32) (pz0_9 : Int32) (pz0_10 : Int32) (pz0_11 : Int32) (pz0_12 : Int32) (pz0_13 : Int32) (pz0_14 : Int32) (pz0_18 : Int32) (pz0_19 : Int32) (pz0_22 : Int32) (pz0_23 : Int32) (pz0_29 : Int32) (tfz4 : ivT tF fz4) (tfz3 : ∀ j, iv 0 255 (fz3 j)) (bpz0_5 : iv 0 900 pz0_5) (bpz0_6 : iv 0 900 pz0_6) (bpz0_7 : iv 0 900 pz0_7) (bpz0_8 : iv 0 900 pz0_8) (bpz0_10 : iv 0 999 pz0_10) (bpz0_11 : iv 0 4 pz0_11) (bpz0_12 : iv 0 900 pz0_12) (bpz0_13 : iv 0 4 pz0_13) (bpz0_14 : iv (-1) 900 pz0_14) (bpz0_18 : iv 0 2 pz0_18) (bpz0_22 : iv 0 9999 pz0_22) (bpz0_29 : iv 0 10000 pz0_29) (hf0 : PT pz0_6 pz0_7 pz0_8 pz0_9) (hf1 : PS pz0_11 pz0_6 fz4) : Ct l V yX10_readHill (.code yX10_readHill cX10_readHill 2 none) 9 [.ref (z 0)] [(z 4, aI V 1025 fz4), (z 3, aI V 900 fz3), (z 0, .inr (10, mo z pz0_0 pz0_5 pz0_6 pz0_7 pz0_8 pz0_9 pz0_10 pz0_11 pz0_12 pz0_13 pz0_14 pz0_18 pz0_19 pz0_22 pz0_23 pz0_29))] 0 0 (QV V (fun (w : va_W) => ∃ (g0 : Nat → Int32) (v1 : Int32) (v2 : Int32) (v3 : Int32) (v4 : Int32) (v5 : Int32) (v6 : Int32), (ivT tF g0) ∧ iv 0 900 v1 ∧ iv 0 900 v2 ∧ iv 0 999 v4 ∧ iv 0 4 v5 ∧ iv 0 900 v6 ∧ (PT v1 v2 pz0_8 v3) ∧ (PS v5 v1 g0) ∧ ((pz0_6 : Int32).toInt ≤ (v1 : Int32).toInt) ∧ (v5 = 0 → pz0_11 = 0) ∧ (∀ (q9 : Sg) (d9 : Nat → Int32), q9.1 = 0 → RZ fz3 pz0_8 q9 pz0_11 pz0_12 pz0_9 pz0_6 pz0_7 pz0_10 → RD q9.1 d9 (fz4 (0 : Int32).toNatClampNeg) (fz4 (1 : Int32).toNatClampNeg) (fz4 (2 : Int32).toNatClampNeg) (fz4 (3 : Int32).toNatClampNeg) → RZ fz3 pz0_8 (hlP (tkX fz3 pz0_8) (q9, d9)).1 v5 v6 v3 v1 v2 v4 ∧ RD (hlP (tkX fz3 pz0_8) (q9, d9)).1.1 (hlP (tkX fz3 pz0_8) (q9, d9)).2 (g0 (0 : Int32).toNatClampNeg) (g0 (1 : Int32).toNatClampNeg) (g0 (2 : Int32).toNatClampNeg) (g0 (3 : Int32).toNatClampNeg)) ∧ w = [(z 4, aI V 1025 g0), (z 3, aI V 900 fz3), (z 0, .inr (10, mo z pz0_0 pz0_5 v1 v2 pz0_8 v3 v4 v5 v6 pz0_13 pz0_14 pz0_18 pz0_19 pz0_22 pz0_23 pz0_29))])) := by
  refine Ct.of (by decide) (Nat.le_of_ble_eq_true rfl) (fun p e s m below meth c A ls hx hb hr hml hown hlk hnm hg hP hK hD hE hA hS hl => ?_)
  have hl : lv_has ls 2 [(0, .ref (z 0))] := hl
  refine lv_aload_n hx hb dX10_readHill_0 rfl (lv_at hl 0 rfl) ?_
  refine va_get (ci := 10) (v := .ref (z 4)) (C := RX10) (T := TX10) (N := 40) hx hb hg inX10 hown hK hP 2 rfl rfl 4 (by decide) (hg _ q_5_228) (fun _ h9 => h9) rfl dX10_readHill_1 ?_
  refine lv_iconst (v := 1) hx hb dX10_readHill_4 (by decide) ?_
  refine va_iald hx hb hK hP 0 0 rfl rfl (vin (by decide +kernel)) dX10_readHill_5 ?_
  refine lv_topi (fun x_1 ex_1 => ?_)
  have bx_1 : iv 0 4 x_1 := by rw [ex_1]; exact rdT (a := 1) (n := 1) tfz4 (iv_c (1 : Int32) (a := 1) (b := 1) (by decide)) (by decide) (by decide +kernel)
  refine lv_istore_n (lv' := [(1, .int x_1), (0, .ref (z 0))]) hx hb dX10_readHill_6 rfl hl (by decide) rfl (fun ls hl => ?_)
  refine lv_iload_n hx hb dX10_readHill_7 rfl (lv_at hl 0 rfl) ?_
  refine lv_iconst (v := 4) hx hb dX10_readHill_8 (by decide) ?_
  refine lv_icmp_ne (tgt := 17) hx hb dX10_readHill_9 (by decide) (fun c_2 => ?_) (fun c_2 => ?_)
  · have b_3 : iv 0 3 x_1 := iv_n1 c_2 bx_1 (iv_c (4 : Int32) (a := 4) (b := 4) (by decide)) (by decide)
    refine lv_aload_n hx hb dX10_readHill_17 rfl (lv_at hl 1 rfl) ?_
    refine va_get (ci := 10) (v := .int pz0_11) (C := RX10) (T := TX10) (N := 40) hx hb hg inX10 hown hK hP 2 rfl rfl 11 (by decide) (hg _ q_5_235) (fun _ h9 => h9) rfl dX10_readHill_18 ?_
    refine lv_if_eq (tgt := 25) hx hb dX10_readHill_21 (by decide) (fun c_4 => ?_) (fun c_4 => ?_)
    · have b_5 : iv 0 0 pz0_11 := iv_q c_4 (iv_c (0 : Int32) (a := 0) (b := 0) (by decide))
      refine lv_aload_n hx hb dX10_readHill_25 rfl (lv_at hl 1 rfl) ?_
      refine jnV (wr := [(z 4, aI V 1025 fz4)]) (rnV (rest := []) ⟨hx, hb, hml, hown, hg⟩ (k_X10_next_0 l V z pz0_0 pz0_5 pz0_6 pz0_7 pz0_8 pz0_9 pz0_10 pz0_11 pz0_12 pz0_13 pz0_14 pz0_18 pz0_19 pz0_22 pz0_23 pz0_29 fz3 bpz0_5 bpz0_6 bpz0_7 bpz0_8 bpz0_10 (iv_w b_5 (by decide)) bpz0_12 bpz0_13 bpz0_14 bpz0_18 bpz0_22 bpz0_29 tfz3 hf0.2.1) mt_X10_next q_6_117 ⟨Nat.le_of_ble_eq_true rfl, Nat.le_of_ble_eq_true rfl⟩ hK hP hD hS hA hE [2, 1] rfl rfl 2 rfl rfl rfl rfl hl.1 rfl (Nat.le_of_ble_eq_true rfl) dX10_readHill_26 ⟨Nat.le_of_ble_eq_true rfl, Nat.le_of_ble_eq_true rfl⟩) hP hD hS hA [2, 1] [0] rfl rfl rfl (by decide) (fun  w H locs hw hP hD hS => ?_)
      obtain ⟨v_6, v_7, v_8, v_9, bv_6, bv_7, bv_9, g_10, g_11, g_12, rfl⟩ := hw
      have hP : va_P V.1 vwCl [(z 4, aI V 1025 fz4), (z 0, .inr (10, mo z pz0_0 pz0_5 v_6 v_7 pz0_8 v_8 v_9 pz0_11 pz0_12 pz0_13 pz0_14 pz0_18 pz0_19 pz0_22 pz0_23 pz0_29)), (z 3, aI V 900 fz3)] H := hP
      have hD : va_D A [(z 4, aI V 1025 fz4), (z 0, .inr (10, mo z pz0_0 pz0_5 v_6 v_7 pz0_8 v_8 v_9 pz0_11 pz0_12 pz0_13 pz0_14 pz0_18 pz0_19 pz0_22 pz0_23 pz0_29)), (z 3, aI V 900 fz3)] := hD
      refine lv_aload_n hx hb dX10_readHill_29 rfl (lv_at hl 1 rfl) ?_
      refine va_get (ci := 10) (v := .ref (z 4)) (C := RX10) (T := TX10) (N := 40) hx hb hg inX10 hown hK hP 1 rfl rfl 4 (by decide) (hg _ q_5_228) (fun _ h9 => h9) rfl dX10_readHill_30 ?_
      refine lv_bipush (v := 46) hx hb dX10_readHill_33 (by decide) ?_
      refine lv_iload_n hx hb dX10_readHill_35 rfl (lv_at hl 0 rfl) ?_
      refine lv_iadd hx hb dX10_readHill_36 ?_
      refine lv_topi (fun x_13 ex_13 => ?_)
      have bx_13 : iv 46 49 x_13 := by rw [ex_13]; exact iv_add (iv_c (46 : Int32) (a := 46) (b := 46) (by decide)) b_3 (by decide)
      refine lv_aload_n hx hb dX10_readHill_37 rfl (lv_at hl 1 rfl) ?_
      refine lv_iconst (v := 3) hx hb dX10_readHill_38 (by decide) ?_
      refine lv_iconst (v := 0) hx hb dX10_readHill_39 (by decide) ?_
      refine lv_iconst (v := 4) hx hb dX10_readHill_40 (by decide) ?_
      refine jnI (wr := [(z 4, aI V 1025 fz4)]) (rnV (rest := [.int x_13, .ref (z 4)]) ⟨hx, hb, hml, hown, hg⟩ (k_X10_named_3 l V z 0 4 pz0_0 pz0_5 v_6 v_7 pz0_8 v_8 v_9 pz0_11 pz0_12 pz0_13 pz0_14 pz0_18 pz0_19 pz0_22 pz0_23 pz0_29 fz3 bpz0_5 bv_6 bv_7 bpz0_8 bv_9 (iv_w b_5 (by decide)) bpz0_12 bpz0_13 bpz0_14 bpz0_18 bpz0_22 bpz0_29 tfz3 g_10) mt_X10_named q_6_151 ⟨Nat.le_of_ble_eq_true rfl, Nat.le_of_ble_eq_true rfl⟩ hK hP hD hS hA hE [1, 2] rfl rfl 1 rfl rfl rfl rfl hl.1 rfl (Nat.le_of_ble_eq_true rfl) dX10_readHill_41 ⟨Nat.le_of_ble_eq_true rfl, Nat.le_of_ble_eq_true rfl⟩) hP hD hS hA [1, 2] [0] rfl rfl rfl (by decide) (fun r_14 w H locs hw hP hD hS => ?_)
      obtain ⟨v_15, v_16, v_17, v_18, v_19, v_20, bv_15, bv_16, bv_18, bv_19, bv_20, br_14, g_21, g_22, g_23, g_24, g_25, rfl⟩ := hw
      have hP : va_P V.1 vwCl [(z 4, aI V 1025 fz4), (z 0, .inr (10, mo z pz0_0 pz0_5 v_15 v_16 pz0_8 v_17 v_18 v_19 v_20 pz0_13 pz0_14 pz0_18 pz0_19 pz0_22 pz0_23 pz0_29)), (z 3, aI V 900 fz3)] H := hP
      have hD : va_D A [(z 4, aI V 1025 fz4), (z 0, .inr (10, mo z pz0_0 pz0_5 v_15 v_16 pz0_8 v_17 v_18 v_19 v_20 pz0_13 pz0_14 pz0_18 pz0_19 pz0_22 pz0_23 pz0_29)), (z 3, aI V 900 fz3)] := hD
      refine va_iast hx hb hK hP hD hS 0 0 rfl rfl (iv_in bx_13 (by decide)) dX10_readHill_44 (fun H locs hP hD hS => ?_)
      obtain ⟨f_26, ef_26, tf_26, hP, hD⟩ : ∃ f_26 : Nat → Int32, f_26 = (upd fz4 (x_13 : Int32).toNatClampNeg r_14) ∧ (ivT tF f_26) ∧ va_P V.1 vwCl [(z 4, aI V 1025 f_26), (z 0, .inr (10, mo z pz0_0 pz0_5 v_15 v_16 pz0_8 v_17 v_18 v_19 v_20 pz0_13 pz0_14 pz0_18 pz0_19 pz0_22 pz0_23 pz0_29)), (z 3, aI V 900 fz3)] H ∧ va_D A [(z 4, aI V 1025 f_26), (z 0, .inr (10, mo z pz0_0 pz0_5 v_15 v_16 pz0_8 v_17 v_18 v_19 v_20 pz0_13 pz0_14 pz0_18 pz0_19 pz0_22 pz0_23 pz0_29)), (z 3, aI V 900 fz3)] := ⟨_, rfl, upT (lo := (-2147483648)) (hi := 2147483647) (a := 46) (n := 4) tfz4 bx_13 (by decide) (iv_w br_14 (by decide)) (by decide +kernel), hP, hD⟩
      refine lv_aload_n hx hb dX10_readHill_45 rfl (lv_at hl 1 rfl) ?_
      refine va_get (ci := 10) (v := .ref (z 4)) (C := RX10) (T := TX10) (N := 40) hx hb hg inX10 hown hK hP 1 rfl rfl 4 (by decide) (hg _ q_5_228) (fun _ h9 => h9) rfl dX10_readHill_46 ?_
      refine lv_bipush (v := 10) hx hb dX10_readHill_49 (by decide) ?_
      refine lv_iload_n hx hb dX10_readHill_51 rfl (lv_at hl 0 rfl) ?_
      refine lv_iadd hx hb dX10_readHill_52 ?_
      refine lv_topi (fun x_27 ex_27 => ?_)
      have bx_27 : iv 10 13 x_27 := by rw [ex_27]; exact iv_add (iv_c (10 : Int32) (a := 10) (b := 10) (by decide)) b_3 (by decide)
      refine lv_aload_n hx hb dX10_readHill_53 rfl (lv_at hl 1 rfl) ?_
      refine lv_iconst (v := 4) hx hb dX10_readHill_54 (by decide) ?_
      refine lv_iconst (v := 0) hx hb dX10_readHill_55 (by decide) ?_
      refine lv_bipush (v := 9) hx hb dX10_readHill_56 (by decide) ?_
      refine jnI (wr := [(z 4, aI V 1025 f_26)]) (rnV (rest := [.int x_27, .ref (z 4)]) ⟨hx, hb, hml, hown, hg⟩ (k_X10_named_4 l V z 0 9 pz0_0 pz0_5 v_15 v_16 pz0_8 v_17 v_18 v_19 v_20 pz0_13 pz0_14 pz0_18 pz0_19 pz0_22 pz0_23 pz0_29 fz3 bpz0_5 bv_15 bv_16 bpz0_8 bv_18 bv_19 bv_20 bpz0_13 bpz0_14 bpz0_18 bpz0_22 bpz0_29 tfz3 g_21) mt_X10_named q_6_151 ⟨Nat.le_of_ble_eq_true rfl, Nat.le_of_ble_eq_true rfl⟩ hK hP hD hS hA hE [1, 2] rfl rfl 1 rfl rfl rfl rfl hl.1 rfl (Nat.le_of_ble_eq_true rfl) dX10_readHill_58 ⟨Nat.le_of_ble_eq_true rfl, Nat.le_of_ble_eq_true rfl⟩) hP hD hS hA [1, 2] [0] rfl rfl rfl (by decide) (fun r_28 w H locs hw hP hD hS => ?_)
      obtain ⟨v_29, v_30, v_31, v_32, v_33, v_34, bv_29, bv_30, bv_32, bv_33, bv_34, br_28, g_35, g_36, g_37, g_38, g_39, rfl⟩ := hw
      have hP : va_P V.1 vwCl [(z 4, aI V 1025 f_26), (z 0, .inr (10, mo z pz0_0 pz0_5 v_29 v_30 pz0_8 v_31 v_32 v_33 v_34 pz0_13 pz0_14 pz0_18 pz0_19 pz0_22 pz0_23 pz0_29)), (z 3, aI V 900 fz3)] H := hP
      have hD : va_D A [(z 4, aI V 1025 f_26), (z 0, .inr (10, mo z pz0_0 pz0_5 v_29 v_30 pz0_8 v_31 v_32 v_33 v_34 pz0_13 pz0_14 pz0_18 pz0_19 pz0_22 pz0_23 pz0_29)), (z 3, aI V 900 fz3)] := hD
      refine va_iast hx hb hK hP hD hS 0 0 rfl rfl (iv_in bx_27 (by decide)) dX10_readHill_61 (fun H locs hP hD hS => ?_)
      obtain ⟨f_40, ef_40, tf_40, hP, hD⟩ : ∃ f_40 : Nat → Int32, f_40 = (upd f_26 (x_27 : Int32).toNatClampNeg r_28) ∧ (ivT tF f_40) ∧ va_P V.1 vwCl [(z 4, aI V 1025 f_40), (z 0, .inr (10, mo z pz0_0 pz0_5 v_29 v_30 pz0_8 v_31 v_32 v_33 v_34 pz0_13 pz0_14 pz0_18 pz0_19 pz0_22 pz0_23 pz0_29)), (z 3, aI V 900 fz3)] H ∧ va_D A [(z 4, aI V 1025 f_40), (z 0, .inr (10, mo z pz0_0 pz0_5 v_29 v_30 pz0_8 v_31 v_32 v_33 v_34 pz0_13 pz0_14 pz0_18 pz0_19 pz0_22 pz0_23 pz0_29)), (z 3, aI V 900 fz3)] := ⟨_, rfl, upT (lo := (-2147483648)) (hi := 2147483647) (a := 10) (n := 4) tf_26 bx_27 (by decide) (iv_w br_28 (by decide)) (by decide +kernel), hP, hD⟩
      refine lv_aload_n hx hb dX10_readHill_62 rfl (lv_at hl 1 rfl) ?_
      refine va_get (ci := 10) (v := .ref (z 4)) (C := RX10) (T := TX10) (N := 40) hx hb hg inX10 hown hK hP 1 rfl rfl 4 (by decide) (hg _ q_5_228) (fun _ h9 => h9) rfl dX10_readHill_63 ?_
      refine lv_bipush (v := 14) hx hb dX10_readHill_66 (by decide) ?_
      refine lv_iload_n hx hb dX10_readHill_68 rfl (lv_at hl 0 rfl) ?_
      refine lv_iadd hx hb dX10_readHill_69 ?_
      refine lv_topi (fun x_41 ex_41 => ?_)
      have bx_41 : iv 14 17 x_41 := by rw [ex_41]; exact iv_add (iv_c (14 : Int32) (a := 14) (b := 14) (by decide)) b_3 (by decide)
      refine lv_iconst (v := 1) hx hb dX10_readHill_70 (by decide) ?_
      refine va_iast hx hb hK hP hD hS 0 0 rfl rfl (iv_in bx_41 (by decide)) dX10_readHill_71 (fun H locs hP hD hS => ?_)
      obtain ⟨f_42, ef_42, tf_42, hP, hD⟩ : ∃ f_42 : Nat → Int32, f_42 = (upd f_40 (x_41 : Int32).toNatClampNeg 1) ∧ (ivT tF f_42) ∧ va_P V.1 vwCl [(z 4, aI V 1025 f_42), (z 0, .inr (10, mo z pz0_0 pz0_5 v_29 v_30 pz0_8 v_31 v_32 v_33 v_34 pz0_13 pz0_14 pz0_18 pz0_19 pz0_22 pz0_23 pz0_29)), (z 3, aI V 900 fz3)] H ∧ va_D A [(z 4, aI V 1025 f_42), (z 0, .inr (10, mo z pz0_0 pz0_5 v_29 v_30 pz0_8 v_31 v_32 v_33 v_34 pz0_13 pz0_14 pz0_18 pz0_19 pz0_22 pz0_23 pz0_29)), (z 3, aI V 900 fz3)] := ⟨_, rfl, upT (lo := (-2147483648)) (hi := 2147483647) (a := 14) (n := 4) tf_40 bx_41 (by decide) (iv_c (1 : Int32) (by decide)) (by decide +kernel), hP, hD⟩
      refine loopF (X := fun (n_50 : Nat) (H : Heap) (locs : List Loc) (ls : Array Slot) => ∃ (f_43 : Nat → Int32) (u_44 : Int32) (u_45 : Int32) (u_46 : Int32) (u_47 : Int32) (u_48 : Int32) (u_49 : Int32), (ivT tF f_43) ∧ (iv 0 900 u_44) ∧ (iv 0 900 u_45) ∧ (iv 0 999 u_47) ∧ (iv 0 4 u_48) ∧ (iv 0 900 u_49) ∧ ((pz0_6 : Int32).toInt ≤ (u_44 : Int32).toInt) ∧ (u_48 = 0 → pz0_11 = 0) ∧ (f_43 (1 : Int32).toNatClampNeg = x_1) ∧ (f_43 (0 : Int32).toNatClampNeg = fz4 (0 : Int32).toNatClampNeg) ∧ (f_43 (2 : Int32).toNatClampNeg = fz4 (2 : Int32).toNatClampNeg) ∧ (f_43 (3 : Int32).toNatClampNeg = fz4 (3 : Int32).toNatClampNeg) ∧ (∀ q9 : Sg, q9.1 = 0 → RZ fz3 pz0_8 q9 pz0_11 pz0_12 pz0_9 pz0_6 pz0_7 pz0_10 → ∃ (q8 : Sg) (m8 : Nat), RZ fz3 pz0_8 q8 u_48 u_49 u_46 u_44 u_45 u_47 ∧ 900 ≤ (m8 : Int) + (u_44 : Int32).toInt ∧ ghP (tkX fz3 pz0_8) m8 q8 = ghP (tkX fz3 pz0_8) 900 (nuP (tkX fz3 pz0_8) 9 (exP (tkX fz3 pz0_8) 4 (nuP (tkX fz3 pz0_8) 4 (exP (tkX fz3 pz0_8) 3 (nxP (tkX fz3 pz0_8) q9)))))) ∧ (PT u_44 u_45 pz0_8 u_46) ∧ (PS u_48 u_44 f_43) ∧ n_50 = (900 - (u_44 : Int32).toInt).toNat ∧ va_P V.1 vwCl [(z 4, aI V 1025 f_43), (z 0, .inr (10, mo z pz0_0 pz0_5 u_44 u_45 pz0_8 u_46 u_47 u_48 u_49 pz0_13 pz0_14 pz0_18 pz0_19 pz0_22 pz0_23 pz0_29)), (z 3, aI V 900 fz3)] H ∧ va_D A [(z 4, aI V 1025 f_43), (z 0, .inr (10, mo z pz0_0 pz0_5 u_44 u_45 pz0_8 u_46 u_47 u_48 u_49 pz0_13 pz0_14 pz0_18 pz0_19 pz0_22 pz0_23 pz0_29)), (z 3, aI V 900 fz3)] ∧ va_S A s.heap H locs ∧ lv_has ls 2 [(1, .int x_1), (0, .ref (z 0))]) (g := fun ls => F0 m 72 ls []) (fun n_50 H locs ls hX ihn_50 => ?_) _ ⟨f_42, v_29, v_30, v_31, v_32, v_33, v_34, tf_42, bv_29, bv_30, bv_32, bv_33, bv_34, (by have z_0 := g_11; have z_1 := g_22; have z_2 := g_36;have y_0 := hf0.1; have y_1 := g_10.1; have y_2 := g_21.1; have y_3 := g_35.1; omega), (fun q9 => ((g_23) ((g_37) q9))), ((((show f_42 (1 : Int32).toNatClampNeg = f_40 (1 : Int32).toNatClampNeg from by rw [ef_42]; exact upd_ne (cl_ne (iv_c (1 : Int32) (a := 1) (b := 1) (by decide)) bx_41 (by decide))).trans (show f_40 (1 : Int32).toNatClampNeg = f_26 (1 : Int32).toNatClampNeg from by rw [ef_40]; exact upd_ne (cl_ne (iv_c (1 : Int32) (a := 1) (b := 1) (by decide)) bx_27 (by decide)))).trans (show f_26 (1 : Int32).toNatClampNeg = fz4 (1 : Int32).toNatClampNeg from by rw [ef_26]; exact upd_ne (cl_ne (iv_c (1 : Int32) (a := 1) (b := 1) (by decide)) bx_13 (by decide)))).trans ex_1.symm), (((show f_42 (0 : Int32).toNatClampNeg = f_40 (0 : Int32).toNatClampNeg from by rw [ef_42]; exact upd_ne (cl_ne (iv_c (0 : Int32) (a := 0) (b := 0) (by decide)) bx_41 (by decide))).trans (show f_40 (0 : Int32).toNatClampNeg = f_26 (0 : Int32).toNatClampNeg from by rw [ef_40]; exact upd_ne (cl_ne (iv_c (0 : Int32) (a := 0) (b := 0) (by decide)) bx_27 (by decide)))).trans (show f_26 (0 : Int32).toNatClampNeg = fz4 (0 : Int32).toNatClampNeg from by rw [ef_26]; exact upd_ne (cl_ne (iv_c (0 : Int32) (a := 0) (b := 0) (by decide)) bx_13 (by decide)))), (((show f_42 (2 : Int32).toNatClampNeg = f_40 (2 : Int32).toNatClampNeg from by rw [ef_42]; exact upd_ne (cl_ne (iv_c (2 : Int32) (a := 2) (b := 2) (by decide)) bx_41 (by decide))).trans (show f_40 (2 : Int32).toNatClampNeg = f_26 (2 : Int32).toNatClampNeg from by rw [ef_40]; exact upd_ne (cl_ne (iv_c (2 : Int32) (a := 2) (b := 2) (by decide)) bx_27 (by decide)))).trans (show f_26 (2 : Int32).toNatClampNeg = fz4 (2 : Int32).toNatClampNeg from by rw [ef_26]; exact upd_ne (cl_ne (iv_c (2 : Int32) (a := 2) (b := 2) (by decide)) bx_13 (by decide)))), (((show f_42 (3 : Int32).toNatClampNeg = f_40 (3 : Int32).toNatClampNeg from by rw [ef_42]; exact upd_ne (cl_ne (iv_c (3 : Int32) (a := 3) (b := 3) (by decide)) bx_41 (by decide))).trans (show f_40 (3 : Int32).toNatClampNeg = f_26 (3 : Int32).toNatClampNeg from by rw [ef_40]; exact upd_ne (cl_ne (iv_c (3 : Int32) (a := 3) (b := 3) (by decide)) bx_27 (by decide)))).trans (show f_26 (3 : Int32).toNatClampNeg = fz4 (3 : Int32).toNatClampNeg from by rw [ef_26]; exact upd_ne (cl_ne (iv_c (3 : Int32) (a := 3) (b := 3) (by decide)) bx_13 (by decide)))), (fun q9 w9 h9 => by have h_1 := RZ_nx bpz0_8.2 h9 w9 g_12; have h_2 := g_25 rfl _ h_1; have h_3 := g_39 rfl _ h_2; exact ⟨_, 900, h_3, by have z9 := bv_29; unfold iv at z9; omega, rfl⟩), g_35, (PS_up (lo := 0) (hi := 9) (c := 14) (k := 1) (i := 0) (n := 4) (PS_up (lo := 0) (hi := 9) (c := 10) (k := 1) (i := 0) (n := 4) (PS_up (lo := 0) (hi := 4) (c := 46) (k := 1) (i := 0) (n := 4) (PS_a hf1 (fun q9 => ((g_23) ((g_37) q9))) (by have z_0 := g_11; have z_1 := g_22; have z_2 := g_36;have y_0 := hf0.1; have y_1 := g_10.1; have y_2 := g_21.1; have y_3 := g_35.1; omega)) ef_26 (show (x_13 : Int32).toInt = 46 + 1 * (x_1 : Int32).toInt from (by have q_x_13 := toInt_add ex_13 (iv_c (46 : Int32) (a := 46) (b := 46) (by decide)) b_3 (by decide); have k_x_13 : (46 : Int32).toInt = 46 := (by decide); omega)) b_3 (by decide) (by decide +kernel) (fun q7 => by have q8 := g_24 ((fun q9 => ((g_37) q9)) q7); have z_0 : (0 : Int32).toInt = 0 := (by decide); have z_4 : (4 : Int32).toInt = 4 := (by decide); exact ⟨by omega, by omega⟩) bx_13 (by decide)) ef_40 (show (x_27 : Int32).toInt = 10 + 1 * (x_1 : Int32).toInt from (by have q_x_27 := toInt_add ex_27 (iv_c (10 : Int32) (a := 10) (b := 10) (by decide)) b_3 (by decide); have k_x_27 : (10 : Int32).toInt = 10 := (by decide); omega)) b_3 (by decide) (by decide +kernel) (fun q7 => by have q8 := g_38 ((fun q9 => q9) q7); have z_0 : (0 : Int32).toInt = 0 := (by decide); have z_9 : (9 : Int32).toInt = 9 := (by decide); exact ⟨by omega, by omega⟩) bx_27 (by decide)) ef_42 (show (x_41 : Int32).toInt = 14 + 1 * (x_1 : Int32).toInt from (by have q_x_41 := toInt_add ex_41 (iv_c (14 : Int32) (a := 14) (b := 14) (by decide)) b_3 (by decide); have k_x_41 : (14 : Int32).toInt = 14 := (by decide); omega)) b_3 (by decide) (by decide +kernel) (fun _ => (iv_c (1 : Int32) (by decide))) bx_41 (by decide)), rfl, hP, hD, hS, lv_sub hl [0, 1] rfl⟩
      obtain ⟨f_43, u_44, u_45, u_46, u_47, u_48, u_49, tf_43, bu_44, bu_45, bu_47, bu_48, bu_49, inn_50_0, inn_50_1, inn_50_2, inn_50_3, inn_50_4, inn_50_5, inn_50_6, inn_50_7, inn_50_8, en_50, hP, hD, hS, hl⟩ := hX
      refine lv_aload_n hx hb dX10_readHill_72 rfl (lv_at hl 1 rfl) ?_
      refine va_get (ci := 10) (v := .int u_48) (C := RX10) (T := TX10) (N := 40) hx hb hg inX10 hown hK hP 1 rfl rfl 11 (by decide) (hg _ q_5_235) (fun _ h9 => h9) rfl dX10_readHill_73 ?_
      refine lv_if_ne (tgt := 90) hx hb dX10_readHill_76 (by decide) (fun c_51 => ?_) (fun c_51 => ?_)
      · have b_52 : iv 1 4 u_48 := iv_n0 c_51 bu_48 (iv_c (0 : Int32) (a := 0) (b := 0) (by decide)) (by decide)
        refine lv_aload_n hx hb dX10_readHill_90 rfl (lv_at hl 1 rfl) ?_
        refine va_get (ci := 10) (v := .int u_48) (C := RX10) (T := TX10) (N := 40) hx hb hg inX10 hown hK hP 1 rfl rfl 11 (by decide) (hg _ q_5_235) (fun _ h9 => h9) rfl dX10_readHill_91 ?_
        refine lv_if_ne (tgt := 107) hx hb dX10_readHill_94 (by decide) (fun _ => ?_) (fun c_54 => absurd c_54 c_51)
        have hP := subP (ws' := [(z 4, aI V 1025 f_43), (z 3, aI V 900 fz3), (z 0, .inr (10, mo z pz0_0 pz0_5 u_44 u_45 pz0_8 u_46 u_47 u_48 u_49 pz0_13 pz0_14 pz0_18 pz0_19 pz0_22 pz0_23 pz0_29))]) hP [0, 2, 1] rfl
        have hD := hD.sub (ws' := [(z 4, aI V 1025 f_43), (z 3, aI V 900 fz3), (z 0, .inr (10, mo z pz0_0 pz0_5 u_44 u_45 pz0_8 u_46 u_47 u_48 u_49 pz0_13 pz0_14 pz0_18 pz0_19 pz0_22 pz0_23 pz0_29))]) [0, 2, 1] rfl rfl
        exact fiV hx hb hr hlk hK hP hD hS dX10_readHill_107 (Nat.le_of_ble_eq_true rfl) (Nat.le_of_ble_eq_true rfl) (⟨f_43, u_44, u_45, u_46, u_47, u_48, u_49, tf_43, bu_44, bu_45, bu_47, (iv_w b_52 (by decide)), bu_49, inn_50_7, inn_50_8, (by have z_0 := g_11; have z_1 := g_22; have z_2 := g_36; have z_3 := inn_50_0;have y_0 := hf0.1; have y_1 := g_10.1; have y_2 := g_21.1; have y_3 := g_35.1; have y_4 := inn_50_7.1; omega), (fun q9 => ((fun q8 => absurd q8 (iv_nz b_52 (by decide))) q9)), (fun q9 d9 w9 h9 g9 => by have x9 : x_1 = d9 1 := ex_1.trans (g9 w9).2.1; have c9 : d9 1 < 4 := (by rw [← x9]; exact iv_lt b_3 (iv_c (4 : Int32) (a := 4) (b := 4) (by decide)) (by decide)); obtain ⟨q8, m8, h8, f8, e8⟩ := inn_50_6 q9 w9 h9; obtain ⟨j1, j2⟩ := hl_fin c9 (e8.symm.trans (gh_w (fun z => c_51 ((RZ_w h8 c_51).1.trans z)) _)); rw [j1, j2]; exact ⟨h8, RD_z h8 (iv_nz b_52 (by decide))⟩), rfl⟩)
      · have b_55 : iv 0 0 u_48 := iv_q c_51 (iv_c (0 : Int32) (a := 0) (b := 0) (by decide))
        refine lv_aload_n hx hb dX10_readHill_79 rfl (lv_at hl 1 rfl) ?_
        refine lv_iload_n hx hb dX10_readHill_80 rfl (lv_at hl 0 rfl) ?_
        refine jnI (wr := []) (rnV (rest := []) ⟨hx, hb, hml, hown, hg⟩ (k_X10_readFlag_0 l V z x_1 f_43 pz0_0 pz0_5 u_44 u_45 pz0_8 u_46 u_47 u_48 u_49 pz0_13 pz0_14 pz0_18 pz0_19 pz0_22 pz0_23 pz0_29 fz3 b_3 tf_43 bpz0_5 bu_44 bu_45 bpz0_8 bu_47 (iv_w b_55 (by decide)) bu_49 bpz0_13 bpz0_14 bpz0_18 bpz0_22 bpz0_29 tfz3 inn_50_7 inn_50_8) mt_X10_readFlag q_6_171 ⟨Nat.le_of_ble_eq_true rfl, Nat.le_of_ble_eq_true rfl⟩ hK hP hD hS hA hE [0, 1, 2] rfl rfl 1 rfl rfl rfl rfl hl.1 rfl (Nat.le_of_ble_eq_true rfl) dX10_readHill_81 ⟨Nat.le_of_ble_eq_true rfl, Nat.le_of_ble_eq_true rfl⟩) hP hD hS hA [0, 1, 2] [] rfl rfl rfl (by decide) (fun r_56 w H locs hw hP hD hS => ?_)
        obtain ⟨f_57, v_58, v_59, v_60, v_61, v_62, v_63, tf_57, bv_58, bv_59, bv_61, bv_62, bv_63, br_56, g_64, g_65, g_66, g_67, g_68, g_69, g_70, g_71, g_72, g_73, g_74, rfl⟩ := hw
        have hP : va_P V.1 vwCl [(z 4, aI V 1025 f_57), (z 0, .inr (10, mo z pz0_0 pz0_5 v_58 v_59 pz0_8 v_60 v_61 v_62 v_63 pz0_13 pz0_14 pz0_18 pz0_19 pz0_22 pz0_23 pz0_29)), (z 3, aI V 900 fz3)] H := hP
        have hD : va_D A [(z 4, aI V 1025 f_57), (z 0, .inr (10, mo z pz0_0 pz0_5 v_58 v_59 pz0_8 v_60 v_61 v_62 v_63 pz0_13 pz0_14 pz0_18 pz0_19 pz0_22 pz0_23 pz0_29)), (z 3, aI V 900 fz3)] := hD
        refine lv_if_eq (tgt := 90) hx hb dX10_readHill_84 (by decide) (fun c_75 => ?_) (fun c_75 => ?_)
        · have b_76 : iv 0 0 r_56 := iv_q c_75 (iv_c (0 : Int32) (a := 0) (b := 0) (by decide))
          refine lv_aload_n hx hb dX10_readHill_90 rfl (lv_at hl 1 rfl) ?_
          refine va_get (ci := 10) (v := .int v_62) (C := RX10) (T := TX10) (N := 40) hx hb hg inX10 hown hK hP 1 rfl rfl 11 (by decide) (hg _ q_5_235) (fun _ h9 => h9) rfl dX10_readHill_91 ?_
          refine lv_if_ne (tgt := 107) hx hb dX10_readHill_94 (by decide) (fun c_77 => ?_) (fun c_77 => ?_)
          · have b_78 : iv 1 4 v_62 := iv_n0 c_77 bv_62 (iv_c (0 : Int32) (a := 0) (b := 0) (by decide)) (by decide)
            have hP := subP (ws' := [(z 4, aI V 1025 f_57), (z 3, aI V 900 fz3), (z 0, .inr (10, mo z pz0_0 pz0_5 v_58 v_59 pz0_8 v_60 v_61 v_62 v_63 pz0_13 pz0_14 pz0_18 pz0_19 pz0_22 pz0_23 pz0_29))]) hP [0, 2, 1] rfl
            have hD := hD.sub (ws' := [(z 4, aI V 1025 f_57), (z 3, aI V 900 fz3), (z 0, .inr (10, mo z pz0_0 pz0_5 v_58 v_59 pz0_8 v_60 v_61 v_62 v_63 pz0_13 pz0_14 pz0_18 pz0_19 pz0_22 pz0_23 pz0_29))]) [0, 2, 1] rfl rfl
            exact fiV hx hb hr hlk hK hP hD hS dX10_readHill_107 (Nat.le_of_ble_eq_true rfl) (Nat.le_of_ble_eq_true rfl) (⟨f_57, v_58, v_59, v_60, v_61, v_62, v_63, tf_57, bv_58, bv_59, bv_61, (iv_w b_78 (by decide)), bv_63, g_64, g_65, (by have z_0 := g_11; have z_1 := g_22; have z_2 := g_36; have z_3 := inn_50_0; have z_4 := g_66;have y_0 := hf0.1; have y_1 := g_10.1; have y_2 := g_21.1; have y_3 := g_35.1; have y_4 := inn_50_7.1; have y_5 := g_64.1; omega), (fun q9 => ((fun q8 => absurd q8 (iv_nz b_78 (by decide))) q9)), (fun q9 d9 w9 h9 g9 => by have x9 : x_1 = d9 1 := ex_1.trans (g9 w9).2.1; have c9 : d9 1 < 4 := (by rw [← x9]; exact iv_lt b_3 (iv_c (4 : Int32) (a := 4) (b := 4) (by decide)) (by decide)); obtain ⟨q8, m8, h8, f8, e8⟩ := inn_50_6 q9 w9 h9; exact Or.elim (g_71 q8 h8) (fun ⟨k8, h7, n7⟩ => by have i8 := inn_50_7.2.2 (by rw [((RZ_is (k := 5) h8 (by decide)).mpr k8).2]; decide); have j8 := inn_50_7.2.1; have l8 := bpz0_8; unfold iv at l8; obtain ⟨m7, e7⟩ : ∃ m7 : Nat, m8 = m7 + 1 := ⟨m8 - 1, by omega⟩; subst e7; have n8 := n7 (iv_eqp b_76 (iv_c (0 : Int32) (by decide))); obtain ⟨j1, j2⟩ := hl_fin c9 (e8.symm.trans ((ghP_5 k8 m7).trans (gh_w (fun z => n8 ((RZ_w h7 n8).1.trans z)) _))); rw [j1, j2]; exact ⟨h7, RD_z h7 (iv_nz b_78 (by decide))⟩) (fun z8 => Or.elim z8 (fun ⟨k8, h7, n7⟩ => by have i8 := inn_50_7.2.2 (by rw [((RZ_is (k := 6) h8 (by decide)).mpr k8).2]; decide); have j8 := inn_50_7.2.1; have l8 := bpz0_8; unfold iv at l8; obtain ⟨m7, e7⟩ : ∃ m7 : Nat, m8 = m7 + 1 := ⟨m8 - 1, by omega⟩; subst e7; have n8 := n7 (iv_eqp b_76 (iv_c (0 : Int32) (by decide))); obtain ⟨j1, j2⟩ := hl_fin c9 (e8.symm.trans ((ghP_6 k8 m7).trans (gh_w (fun z => n8 ((RZ_w h7 n8).1.trans z)) _))); rw [j1, j2]; exact ⟨h7, RD_z h7 (iv_nz b_78 (by decide))⟩) (fun ⟨k5, k6, h7, _⟩ => by obtain ⟨j1, j2⟩ := hl_fin c9 (e8.symm.trans (ghP_0 k5 k6 _)); rw [j1, j2]; exact ⟨h7, RD_z h7 (iv_nz b_78 (by decide))⟩))), rfl⟩)
          · have b_79 : iv 0 0 v_62 := iv_q c_77 (iv_c (0 : Int32) (a := 0) (b := 0) (by decide))
            refine lv_aload_n hx hb dX10_readHill_97 rfl (lv_at hl 1 rfl) ?_
            refine va_get (ci := 10) (v := .ref (z 4)) (C := RX10) (T := TX10) (N := 40) hx hb hg inX10 hown hK hP 1 rfl rfl 4 (by decide) (hg _ q_5_228) (fun _ h9 => h9) rfl dX10_readHill_98 ?_
            refine lv_iconst (v := 1) hx hb dX10_readHill_101 (by decide) ?_
            refine lv_dup2_11 hx hb dX10_readHill_102 rfl rfl ?_
            refine va_iald hx hb hK hP 0 0 rfl rfl (vin (by decide +kernel)) dX10_readHill_103 ?_
            refine lv_topi (fun x_80 ex_80 => ?_)
            have bx_80 : iv 0 4 x_80 := by rw [ex_80]; exact rdT (a := 1) (n := 1) tf_57 (iv_c (1 : Int32) (a := 1) (b := 1) (by decide)) (by decide) (by decide +kernel)
            have b_81 : iv 0 3 x_80 := by rw [ex_80, g_70, inn_50_2]; exact b_3
            refine lv_iconst (v := 1) hx hb dX10_readHill_104 (by decide) ?_
            refine lv_iadd hx hb dX10_readHill_105 ?_
            refine lv_topi (fun x_82 ex_82 => ?_)
            have bx_82 : iv 1 4 x_82 := by rw [ex_82]; exact iv_add b_81 (iv_c (1 : Int32) (a := 1) (b := 1) (by decide)) (by decide)
            refine va_iast hx hb hK hP hD hS 0 0 rfl rfl (vin (by decide +kernel)) dX10_readHill_106 (fun H locs hP hD hS => ?_)
            obtain ⟨f_83, ef_83, tf_83, hP, hD⟩ : ∃ f_83 : Nat → Int32, f_83 = (upd f_57 (1 : Int32).toNatClampNeg x_82) ∧ (ivT tF f_83) ∧ va_P V.1 vwCl [(z 4, aI V 1025 f_83), (z 0, .inr (10, mo z pz0_0 pz0_5 v_58 v_59 pz0_8 v_60 v_61 v_62 v_63 pz0_13 pz0_14 pz0_18 pz0_19 pz0_22 pz0_23 pz0_29)), (z 3, aI V 900 fz3)] H ∧ va_D A [(z 4, aI V 1025 f_83), (z 0, .inr (10, mo z pz0_0 pz0_5 v_58 v_59 pz0_8 v_60 v_61 v_62 v_63 pz0_13 pz0_14 pz0_18 pz0_19 pz0_22 pz0_23 pz0_29)), (z 3, aI V 900 fz3)] := ⟨_, rfl, upT (lo := 0) (hi := 4) (a := 1) (n := 1) tf_57 (iv_c (1 : Int32) (a := 1) (b := 1) (by decide)) (by decide) (iv_w bx_82 (by decide)) (by decide +kernel), hP, hD⟩
            have hP := subP (ws' := [(z 4, aI V 1025 f_83), (z 3, aI V 900 fz3), (z 0, .inr (10, mo z pz0_0 pz0_5 v_58 v_59 pz0_8 v_60 v_61 v_62 v_63 pz0_13 pz0_14 pz0_18 pz0_19 pz0_22 pz0_23 pz0_29))]) hP [0, 2, 1] rfl
            have hD := hD.sub (ws' := [(z 4, aI V 1025 f_83), (z 3, aI V 900 fz3), (z 0, .inr (10, mo z pz0_0 pz0_5 v_58 v_59 pz0_8 v_60 v_61 v_62 v_63 pz0_13 pz0_14 pz0_18 pz0_19 pz0_22 pz0_23 pz0_29))]) [0, 2, 1] rfl rfl
            exact fiV hx hb hr hlk hK hP hD hS dX10_readHill_107 (Nat.le_of_ble_eq_true rfl) (Nat.le_of_ble_eq_true rfl) (⟨f_83, v_58, v_59, v_60, v_61, v_62, v_63, tf_83, bv_58, bv_59, bv_61, (iv_w b_79 (by decide)), bv_63, g_64, (PS_up (lo := 0) (hi := 4) (c := 0) (k := 1) (i := 1) (n := 1) g_65 ef_83 (show (1 : Int32).toInt = 0 + 1 * (1 : Int32).toInt from (by omega)) (iv_c (1 : Int32) (a := 1) (b := 1) (by decide)) (by decide) (by decide +kernel) (fun _ => (iv_w bx_82 (by decide))) (iv_c (1 : Int32) (a := 1) (b := 1) (by decide)) (by decide)), (by have z_0 := g_11; have z_1 := g_22; have z_2 := g_36; have z_3 := inn_50_0; have z_4 := g_66;have y_0 := hf0.1; have y_1 := g_10.1; have y_2 := g_21.1; have y_3 := g_35.1; have y_4 := inn_50_7.1; have y_5 := g_64.1; omega), (fun q9 => ((inn_50_1) ((g_67) q9))), (fun q9 d9 w9 h9 g9 => by have x9 : x_1 = d9 1 := ex_1.trans (g9 w9).2.1; have c9 : d9 1 < 4 := (by rw [← x9]; exact iv_lt b_3 (iv_c (4 : Int32) (a := 4) (b := 4) (by decide)) (by decide)); obtain ⟨q8, m8, h8, f8, e8⟩ := inn_50_6 q9 w9 h9; exact Or.elim (g_71 q8 h8) (fun ⟨k8, h7, n7⟩ => by exact absurd (iv_eqp b_79 (iv_c (0 : Int32) (by decide))) (n7 (iv_eqp b_76 (iv_c (0 : Int32) (by decide))))) (fun z8 => Or.elim z8 (fun ⟨k8, h7, n7⟩ => by exact absurd (iv_eqp b_79 (iv_c (0 : Int32) (by decide))) (n7 (iv_eqp b_76 (iv_c (0 : Int32) (by decide))))) (fun ⟨k5, k6, h7, _⟩ => by obtain ⟨j1, j2⟩ := hl_fin c9 (e8.symm.trans (ghP_0 k5 k6 _)); rw [j1, j2]; have y0 : (f_83 (0 : Int32).toNatClampNeg) = (fz4 (0 : Int32).toNatClampNeg) := (((show f_83 (0 : Int32).toNatClampNeg = f_57 (0 : Int32).toNatClampNeg from by rw [ef_83]; exact upd_ne (cl_ne (iv_c (0 : Int32) (a := 0) (b := 0) (by decide)) (iv_c (1 : Int32) (a := 1) (b := 1) (by decide)) (by decide))).trans g_72).trans inn_50_3); have y2 : (f_83 (2 : Int32).toNatClampNeg) = (fz4 (2 : Int32).toNatClampNeg) := (((show f_83 (2 : Int32).toNatClampNeg = f_57 (2 : Int32).toNatClampNeg from by rw [ef_83]; exact upd_ne (cl_ne (iv_c (2 : Int32) (a := 2) (b := 2) (by decide)) (iv_c (1 : Int32) (a := 1) (b := 1) (by decide)) (by decide))).trans g_73).trans inn_50_4); have y3 : (f_83 (3 : Int32).toNatClampNeg) = (fz4 (3 : Int32).toNatClampNeg) := (((show f_83 (3 : Int32).toNatClampNeg = f_57 (3 : Int32).toNatClampNeg from by rw [ef_83]; exact upd_ne (cl_ne (iv_c (3 : Int32) (a := 3) (b := 3) (by decide)) (iv_c (1 : Int32) (a := 1) (b := 1) (by decide)) (by decide))).trans g_74).trans inn_50_5); have y1 : (f_83 (1 : Int32).toNatClampNeg) = (fz4 (1 : Int32).toNatClampNeg) + 1 := (by rw [show (f_83 (1 : Int32).toNatClampNeg) = x_82 from (show f_83 (1 : Int32).toNatClampNeg = x_82 from by rw [ef_83]; exact upd_at), ex_82, ex_80, show f_57 (1 : Int32).toNatClampNeg = (fz4 (1 : Int32).toNatClampNeg) from ((g_70.trans inn_50_2).trans ex_1)]); exact ⟨h7, by rw [y0, y2, y3]; exact RD_h g9 w9 y1⟩))), rfl⟩)
        · have b_84 : iv 1 1 r_56 := iv_n0 c_75 br_56 (iv_c (0 : Int32) (a := 0) (b := 0) (by decide)) (by decide)
          have c_85 : v_62 = 0 := (g_68 (iv_eqp b_84 (iv_c (1 : Int32) (by decide))))
          have b_86 : iv 0 0 v_62 := iv_q c_85 (iv_c (0 : Int32) (a := 0) (b := 0) (by decide))
          refine lv_goto (tgt := 72) hx hb dX10_readHill_87 (by decide) ?_
          exact ihn_50 _ _ _ _ (by rw [en_50]; have q9 := (g_69 (iv_eqp b_84 (iv_c (1 : Int32) (by decide)))); have q8 := bv_58; unfold iv at q8; omega) ⟨f_57, v_58, v_59, v_60, v_61, v_62, v_63, tf_57, bv_58, bv_59, bv_61, (iv_w b_86 (by decide)), bv_63, (by have z_0 := g_11; have z_1 := g_22; have z_2 := g_36; have z_3 := inn_50_0; have z_4 := g_66;have y_0 := hf0.1; have y_1 := g_10.1; have y_2 := g_21.1; have y_3 := g_35.1; have y_4 := inn_50_7.1; have y_5 := g_64.1; omega), (fun q9 => ((inn_50_1) ((g_67) q9))), (g_70.trans inn_50_2), (g_72.trans inn_50_3), (g_73.trans inn_50_4), (g_74.trans inn_50_5), (fun q9 w9 h9 => by obtain ⟨q8, m8, h8, f8, e8⟩ := inn_50_6 q9 w9 h9; have s8 := g_69 (iv_eqp b_84 (iv_c (1 : Int32) (by decide))); exact Or.elim (g_71 q8 h8) (fun ⟨k8, h7, n7⟩ => by have i8 := inn_50_7.2.2 (by rw [((RZ_is (k := 5) h8 (by decide)).mpr k8).2]; decide); have j8 := inn_50_7.2.1; have l8 := bpz0_8; unfold iv at l8; obtain ⟨m7, e7⟩ : ∃ m7 : Nat, m8 = m7 + 1 := ⟨m8 - 1, by omega⟩; subst e7; exact ⟨_, m7, h7, by omega, by rw [← e8, ghP_5 k8]⟩) (fun z8 => Or.elim z8 (fun ⟨k8, h7, n7⟩ => by have i8 := inn_50_7.2.2 (by rw [((RZ_is (k := 6) h8 (by decide)).mpr k8).2]; decide); have j8 := inn_50_7.2.1; have l8 := bpz0_8; unfold iv at l8; obtain ⟨m7, e7⟩ : ∃ m7 : Nat, m8 = m7 + 1 := ⟨m8 - 1, by omega⟩; subst e7; exact ⟨_, m7, h7, by omega, by rw [← e8, ghP_6 k8]⟩) (fun ⟨k5, k6, h7, n7⟩ => by exact absurd (n7.symm.trans (iv_eqp b_84 (iv_c (1 : Int32) (by decide)))) (by decide)))), g_64, g_65, rfl, hP, hD, hS, lv_sub hl [0, 1] rfl⟩
    · have b_87 : iv 1 4 pz0_11 := iv_n0 c_4 bpz0_11 (iv_c (0 : Int32) (a := 0) (b := 0) (by decide)) (by decide)
      exact fiV hx hb hr hlk hK hP hD hS dX10_readHill_24 (Nat.le_of_ble_eq_true rfl) (Nat.le_of_ble_eq_true rfl) (⟨fz4, pz0_6, pz0_7, pz0_9, pz0_10, pz0_11, pz0_12, tfz4, bpz0_6, bpz0_7, bpz0_10, (iv_w b_87 (by decide)), bpz0_12, hf0, hf1, (Int.le_refl _), (fun q9 => q9), (fun q9 d9 w9 h9 g9 => absurd (RZ_q h9 w9).1 c_4), rfl⟩)
  · have b_88 : iv 4 4 x_1 := iv_q c_2 (iv_c (4 : Int32) (a := 4) (b := 4) (by decide))
    refine lv_aload_n hx hb dX10_readHill_12 rfl (lv_at hl 1 rfl) ?_
    refine lv_iconst (v := 4) hx hb dX10_readHill_13 (by decide) ?_
    refine jnV (wr := [(z 4, aI V 1025 fz4), (z 3, aI V 900 fz3)]) (rnV (rest := []) ⟨hx, hb, hml, hown, hg⟩ (k_X10_fails_0 l V z 4 pz0_0 pz0_5 pz0_6 pz0_7 pz0_8 pz0_9 pz0_10 pz0_11 pz0_12 pz0_13 pz0_14 pz0_18 pz0_19 pz0_22 pz0_23 pz0_29 (iv_c (4 : Int32) (by decide)) bpz0_5 bpz0_6 bpz0_7 bpz0_8 bpz0_10 bpz0_11 bpz0_12 bpz0_13 bpz0_14 bpz0_18 bpz0_22 bpz0_29) mt_X10_fails q_6_147 ⟨Nat.le_of_ble_eq_true rfl, Nat.le_of_ble_eq_true rfl⟩ hK hP hD hS hA hE [2] rfl rfl 2 rfl rfl rfl rfl hl.1 rfl (Nat.le_of_ble_eq_true rfl) dX10_readHill_14 ⟨Nat.le_of_ble_eq_true rfl, Nat.le_of_ble_eq_true rfl⟩) hP hD hS hA [2] [0, 1] rfl rfl rfl (by decide) (fun  w H locs hw hP hD hS => ?_)
    obtain ⟨v_89, v_90, bv_89, bv_90, g_91, rfl⟩ := hw
    have hP : va_P V.1 vwCl [(z 4, aI V 1025 fz4), (z 3, aI V 900 fz3), (z 0, .inr (10, mo z pz0_0 pz0_5 pz0_6 pz0_7 pz0_8 pz0_9 pz0_10 v_89 v_90 pz0_13 pz0_14 pz0_18 pz0_19 pz0_22 pz0_23 pz0_29))] H := hP
    have hD : va_D A [(z 4, aI V 1025 fz4), (z 3, aI V 900 fz3), (z 0, .inr (10, mo z pz0_0 pz0_5 pz0_6 pz0_7 pz0_8 pz0_9 pz0_10 v_89 v_90 pz0_13 pz0_14 pz0_18 pz0_19 pz0_22 pz0_23 pz0_29))] := hD
    refine lv_aload_n hx hb dX10_readHill_17 rfl (lv_at hl 1 rfl) ?_
    refine va_get (ci := 10) (v := .int v_89) (C := RX10) (T := TX10) (N := 40) hx hb hg inX10 hown hK hP 2 rfl rfl 11 (by decide) (hg _ q_5_235) (fun _ h9 => h9) rfl dX10_readHill_18 ?_
    refine lv_if_eq (tgt := 25) hx hb dX10_readHill_21 (by decide) (fun c_92 => absurd c_92 (iv_ne bv_89 (iv_c (0 : Int32) (a := 0) (b := 0) (by decide)) (by decide))) (fun _ => ?_)
    exact fiV hx hb hr hlk hK hP hD hS dX10_readHill_24 (Nat.le_of_ble_eq_true rfl) (Nat.le_of_ble_eq_true rfl) (⟨fz4, pz0_6, pz0_7, pz0_9, pz0_10, v_89, v_90, tfz4, bpz0_6, bpz0_7, bpz0_10, (iv_w bv_89 (by decide)), bv_90, hf0, (PS_f bv_89 (by decide)), (Int.le_refl _), (fun q9 => ((fun q8 => absurd q8 (iv_nz bv_89 (by decide))) q9)), (fun q9 d9 w9 h9 g9 => by have x9 : x_1 = d9 1 := ex_1.trans (g9 w9).2.1; have c9 : ¬ d9 1 < 4 := (by rw [← x9, c_2]; decide); have h_1 := RZ_fl h9 g_91 (by decide); rw [hlP_4 c9]; exact ⟨h_1, RD_f (by decide)⟩), rfl⟩)
theorem dX10_readLine_0 : decode cX10_readLine 0 = .ok (.aload_n 0, 1) := by decide +kernel
theorem dX10_readLine_1 : decode cX10_readLine 1 = .ok (.getfield 143, 3) := by decide +kernel
theorem dX10_readLine_4 : decode cX10_readLine 4 = .ok (.ifCond .eq 4, 3) := by decide +kernel
theorem dX10_readLine_8 : decode cX10_readLine 8 = .ok (.aload_n 0, 1) := by decide +kernel
theorem dX10_readLine_9 : decode cX10_readLine 9 = .ok (.iconst 2, 1) := by decide +kernel
theorem dX10_readLine_10 : decode cX10_readLine 10 = .ok (.invokevirtual 149, 3) := by decide +kernel
theorem dX10_readLine_13 : decode cX10_readLine 13 = .ok (.ifCond .eq 10, 3) := by decide +kernel
theorem dX10_readLine_23 : decode cX10_readLine 23 = .ok (.aload_n 0, 1) := by decide +kernel
theorem dX10_readLine_24 : decode cX10_readLine 24 = .ok (.bipush 7, 2) := by decide +kernel
theorem dX10_readLine_26 : decode cX10_readLine 26 = .ok (.invokevirtual 149, 3) := by decide +kernel
theorem dX10_readLine_29 : decode cX10_readLine 29 = .ok (.ifCond .eq 10, 3) := by decide +kernel
theorem dX10_readLine_39 : decode cX10_readLine 39 = .ok (.aload_n 0, 1) := by decide +kernel
theorem dX10_readLine_40 : decode cX10_readLine 40 = .ok (.bipush 9, 2) := by decide +kernel
theorem dX10_readLine_42 : decode cX10_readLine 42 = .ok (.invokevirtual 149, 3) := by decide +kernel
theorem dX10_readLine_45 : decode cX10_readLine 45 = .ok (.ifCond .eq 10, 3) := by decide +kernel
theorem dX10_readLine_55 : decode cX10_readLine 55 = .ok (.aload_n 0, 1) := by decide +kernel
theorem dX10_readLine_56 : decode cX10_readLine 56 = .ok (.bipush 11, 2) := by decide +kernel
theorem dX10_readLine_58 : decode cX10_readLine 58 = .ok (.invokevirtual 149, 3) := by decide +kernel
theorem dX10_readLine_61 : decode cX10_readLine 61 = .ok (.ifCond .ne 12, 3) := by decide +kernel
theorem dX10_readLine_73 : decode cX10_readLine 73 = .ok (.aload_n 0, 1) := by decide +kernel
theorem dX10_readLine_74 : decode cX10_readLine 74 = .ok (.aload_n 0, 1) := by decide +kernel
theorem dX10_readLine_75 : decode cX10_readLine 75 = .ok (.getfield 125, 3) := by decide +kernel
theorem dX10_readLine_78 : decode cX10_readLine 78 = .ok (.bipush 11, 2) := by decide +kernel
theorem dX10_readLine_80 : decode cX10_readLine 80 = .ok (.isub, 1) := by decide +kernel
theorem q_6_186 : Cond.code yX10_readLaw prog_12_method_31_code 3 none ∈ gw := gw_6 (i := 186) (rfl) rfl
theorem q_6_185 : Cond.instanceMethod yX10_readLaw ∈ gw := gw_6 (i := 185) (by decide +kernel) rfl
theorem q_s_68 : Cond.selects "BeaconDelayModel" yX10_readLaw yX10_readLaw ∈ gw := gw_s (i := 68) (by decide +kernel) rfl
theorem mt_X10_readLaw : MtV yX10_readLaw cX10_readLaw 3 none 1 := ⟨⟨q_6_186, q_1_9, by decide +kernel, by decide +kernel, by decide +kernel⟩, q_6_185, q_s_68⟩
theorem q_6_183 : Cond.methodLink "BeaconDelayModel" 216 yX10_readLaw ∈ gw := gw_6 (i := 183) (by decide +kernel) rfl
theorem dX10_readLine_81 : decode cX10_readLine 81 = .ok (.invokevirtual 216, 3) := by decide +kernel
theorem dX10_readLine_84 : decode cX10_readLine 84 = .ok (.goto 8, 3) := by decide +kernel
theorem dX10_readLine_92 : decode cX10_readLine 92 = .ok (.return_, 1) := by decide +kernel
theorem dX10_readLine_64 : decode cX10_readLine 64 = .ok (.aload_n 0, 1) := by decide +kernel
theorem dX10_readLine_65 : decode cX10_readLine 65 = .ok (.bipush 12, 2) := by decide +kernel
theorem dX10_readLine_67 : decode cX10_readLine 67 = .ok (.invokevirtual 149, 3) := by decide +kernel
theorem dX10_readLine_70 : decode cX10_readLine 70 = .ok (.ifCond .eq 17, 3) := by decide +kernel
theorem dX10_readLine_87 : decode cX10_readLine 87 = .ok (.aload_n 0, 1) := by decide +kernel
theorem dX10_readLine_88 : decode cX10_readLine 88 = .ok (.iconst 2, 1) := by decide +kernel
theorem dX10_readLine_89 : decode cX10_readLine 89 = .ok (.invokevirtual 155, 3) := by decide +kernel
theorem dX10_readLine_48 : decode cX10_readLine 48 = .ok (.aload_n 0, 1) := by decide +kernel
theorem q_6_182 : Cond.code yX10_readRoad prog_12_method_30_code 2 none ∈ gw := gw_6 (i := 182) (rfl) rfl
theorem q_6_181 : Cond.instanceMethod yX10_readRoad ∈ gw := gw_6 (i := 181) (by decide +kernel) rfl
theorem q_s_67 : Cond.selects "BeaconDelayModel" yX10_readRoad yX10_readRoad ∈ gw := gw_s (i := 67) (by decide +kernel) rfl
theorem mt_X10_readRoad : MtV yX10_readRoad cX10_readRoad 2 none 0 := ⟨⟨q_6_182, q_1_9, by decide +kernel, by decide +kernel, by decide +kernel⟩, q_6_181, q_s_67⟩
theorem q_6_179 : Cond.methodLink "BeaconDelayModel" 213 yX10_readRoad ∈ gw := gw_6 (i := 179) (by decide +kernel) rfl
theorem dX10_readLine_49 : decode cX10_readLine 49 = .ok (.invokevirtual 213, 3) := by decide +kernel
theorem dX10_readLine_52 : decode cX10_readLine 52 = .ok (.goto 40, 3) := by decide +kernel
theorem dX10_readLine_32 : decode cX10_readLine 32 = .ok (.aload_n 0, 1) := by decide +kernel
theorem q_6_178 : Cond.code yX10_readVillage prog_12_method_29_code 1 none ∈ gw := gw_6 (i := 178) (rfl) rfl
theorem q_6_177 : Cond.instanceMethod yX10_readVillage ∈ gw := gw_6 (i := 177) (by decide +kernel) rfl
theorem q_s_66 : Cond.selects "BeaconDelayModel" yX10_readVillage yX10_readVillage ∈ gw := gw_s (i := 66) (by decide +kernel) rfl
theorem mt_X10_readVillage : MtV yX10_readVillage cX10_readVillage 1 none 0 := ⟨⟨q_6_178, q_1_9, by decide +kernel, by decide +kernel, by decide +kernel⟩, q_6_177, q_s_66⟩
theorem q_6_175 : Cond.methodLink "BeaconDelayModel" 210 yX10_readVillage ∈ gw := gw_6 (i := 175) (by decide +kernel) rfl
theorem dX10_readLine_33 : decode cX10_readLine 33 = .ok (.invokevirtual 210, 3) := by decide +kernel
theorem dX10_readLine_36 : decode cX10_readLine 36 = .ok (.goto 56, 3) := by decide +kernel
theorem dX10_readLine_16 : decode cX10_readLine 16 = .ok (.aload_n 0, 1) := by decide +kernel
theorem q_6_170 : Cond.code yX10_readHill prog_12_method_28_code 2 none ∈ gw := gw_6 (i := 170) (rfl) rfl
theorem q_6_169 : Cond.instanceMethod yX10_readHill ∈ gw := gw_6 (i := 169) (by decide +kernel) rfl
theorem q_s_64 : Cond.selects "BeaconDelayModel" yX10_readHill yX10_readHill ∈ gw := gw_s (i := 64) (by decide +kernel) rfl
theorem mt_X10_readHill : MtV yX10_readHill cX10_readHill 2 none 0 := ⟨⟨q_6_170, q_1_9, by decide +kernel, by decide +kernel, by decide +kernel⟩, q_6_169, q_s_64⟩
theorem q_6_167 : Cond.methodLink "BeaconDelayModel" 207 yX10_readHill ∈ gw := gw_6 (i := 167) (by decide +kernel) rfl
theorem dX10_readLine_17 : decode cX10_readLine 17 = .ok (.invokevirtual 207, 3) := by decide +kernel
theorem dX10_readLine_20 : decode cX10_readLine 20 = .ok (.goto 72, 3) := by decide +kernel
theorem dX10_readLine_7 : decode cX10_readLine 7 = .ok (.return_, 1) := by decide +kernel
set_option maxHeartbeats 4000000 in
set_option maxRecDepth 100000 in
theorem k_X10_readLine_0 (l : Launch) (V : GV) (z : Nat → Nat) (fz4 : Nat → Int32) (pz0_0 : Int32) (pz0_5 : Int32) (pz0_6 : Int32) (pz0_7 : Int32) (pz0_8 : Int32) (pz0_9 : Int32) (pz0_10 : Int32) (pz0_11 : Int32) (pz0_12 : Int32) (pz0_13 : Int32) (pz0_14 : Int32) (pz0_18 : Int32) (pz0_19 : Int32) (pz0_22 : Int32) (pz0_23 : Int32) (pz0_29 : Int32) (fz3 : Nat → Int32) (tfz4 : ivT tF fz4) (bpz0_5 : iv 0 900 pz0_5) (bpz0_6 : iv 0 900 pz0_6) (bpz0_7 : iv 0 900 pz0_7) (bpz0_8 : iv 0 900 pz0_8) (bpz0_10 : iv 0 999 pz0_10) (bpz0_11 : iv 0 4 pz0_11) (bpz0_12 : iv 0 900 pz0_12) (bpz0_13 : iv 0 4 pz0_13) (bpz0_14 : iv (-1) 900 pz0_14) (bpz0_18 : iv 0 2 pz0_18) (bpz0_22 : iv 0 9999 pz0_22) (bpz0_29 : iv 0 10000 pz0_29) (tfz3 : ∀ j, iv 0 255 (fz3 j)) (hf0 : PT pz0_6 pz0_7 pz0_8 pz0_9) (hf1 : PS pz0_11 pz0_6 fz4) : Ct l V yX10_readLine (.code yX10_readLine cX10_readLine 1 none) 56 [.ref (z 0)] [(z 4, aI V 1025 fz4), (z 0, .inr (10, mo z pz0_0 pz0_5 pz0_6 pz0_7 pz0_8 pz0_9 pz0_10 pz0_11 pz0_12 pz0_13 pz0_14 pz0_18 pz0_19 pz0_22 pz0_23 pz0_29)), (z 3, aI V 900 fz3)] 0 0 (QV V (fun (w : va_W) => ∃ (g0 : Nat → Int32) (v1 : Int32) (v2 : Int32) (v3 : Int32) (v4 : Int32) (v5 : Int32) (v6 : Int32), (ivT tF g0) ∧ iv 0 900 v1 ∧ iv 0 900 v2 ∧ iv 0 999 v4 ∧ iv 0 4 v5 ∧ iv 0 900 v6 ∧ (PT v1 v2 pz0_8 v3) ∧ (PS v5 v1 g0) ∧ ((pz0_6 : Int32).toInt ≤ (v1 : Int32).toInt) ∧ (v5 = 0 → pz0_11 = 0) ∧ (∀ (q9 : Sg) (d9 : Nat → Int32), q9.1 = 0 → RZ fz3 pz0_8 q9 pz0_11 pz0_12 pz0_9 pz0_6 pz0_7 pz0_10 → RD q9.1 d9 (fz4 (0 : Int32).toNatClampNeg) (fz4 (1 : Int32).toNatClampNeg) (fz4 (2 : Int32).toNatClampNeg) (fz4 (3 : Int32).toNatClampNeg) → RZ fz3 pz0_8 (lnP (tkX fz3 pz0_8) (q9, d9)).1 v5 v6 v3 v1 v2 v4 ∧ RD (lnP (tkX fz3 pz0_8) (q9, d9)).1.1 (lnP (tkX fz3 pz0_8) (q9, d9)).2 (g0 (0 : Int32).toNatClampNeg) (g0 (1 : Int32).toNatClampNeg) (g0 (2 : Int32).toNatClampNeg) (g0 (3 : Int32).toNatClampNeg)) ∧ (∀ q9 : Sg, ¬ q9.1 = 0 → RZ fz3 pz0_8 q9 pz0_11 pz0_12 pz0_9 pz0_6 pz0_7 pz0_10 → RZ fz3 pz0_8 q9 v5 v6 v3 v1 v2 v4) ∧ w = [(z 4, aI V 1025 g0), (z 0, .inr (10, mo z pz0_0 pz0_5 v1 v2 pz0_8 v3 v4 v5 v6 pz0_13 pz0_14 pz0_18 pz0_19 pz0_22 pz0_23 pz0_29)), (z 3, aI V 900 fz3)])) := by
  refine Ct.of (by decide) (Nat.le_of_ble_eq_true rfl) (fun p e s m below meth c A ls hx hb hr hml hown hlk hnm hg hP hK hD hE hA hS hl => ?_)
  have hl : lv_has ls 1 [(0, .ref (z 0))] := hl
  refine lv_aload_n hx hb dX10_readLine_0 rfl (lv_at hl 0 rfl) ?_
  refine va_get (ci := 10) (v := .int pz0_11) (C := RX10) (T := TX10) (N := 40) hx hb hg inX10 hown hK hP 1 rfl rfl 11 (by decide) (hg _ q_5_235) (fun _ h9 => h9) rfl dX10_readLine_1 ?_
  refine lv_if_eq (tgt := 8) hx hb dX10_readLine_4 (by decide) (fun c_1 => ?_) (fun c_1 => ?_)
  · have b_2 : iv 0 0 pz0_11 := iv_q c_1 (iv_c (0 : Int32) (a := 0) (b := 0) (by decide))
    refine lv_aload_n hx hb dX10_readLine_8 rfl (lv_at hl 0 rfl) ?_
    refine lv_iconst (v := 2) hx hb dX10_readLine_9 (by decide) ?_
    refine jnI (wr := [(z 4, aI V 1025 fz4), (z 3, aI V 900 fz3)]) (rnV (rest := []) ⟨hx, hb, hml, hown, hg⟩ (k_X10_is_4 l V z pz0_0 pz0_5 pz0_6 pz0_7 pz0_8 pz0_9 pz0_10 pz0_11 pz0_12 pz0_13 pz0_14 pz0_18 pz0_19 pz0_22 pz0_23 pz0_29 bpz0_5 bpz0_6 bpz0_7 bpz0_8 bpz0_10 (iv_w b_2 (by decide)) bpz0_12 bpz0_13 bpz0_14 bpz0_18 bpz0_22 bpz0_29) mt_X10_is q_6_143 ⟨Nat.le_of_ble_eq_true rfl, Nat.le_of_ble_eq_true rfl⟩ hK hP hD hS hA hE [1] rfl rfl 1 rfl rfl rfl rfl hl.1 rfl (Nat.le_of_ble_eq_true rfl) dX10_readLine_10 ⟨Nat.le_of_ble_eq_true rfl, Nat.le_of_ble_eq_true rfl⟩) hP hD hS hA [1] [0, 2] rfl rfl rfl (by decide) (fun r_3 w H locs hw hP hD hS => ?_)
    obtain ⟨br_3, g_4, g_5, g_6, rfl⟩ := hw
    have hP : va_P V.1 vwCl [(z 4, aI V 1025 fz4), (z 3, aI V 900 fz3), (z 0, .inr (10, mo z pz0_0 pz0_5 pz0_6 pz0_7 pz0_8 pz0_9 pz0_10 pz0_11 pz0_12 pz0_13 pz0_14 pz0_18 pz0_19 pz0_22 pz0_23 pz0_29))] H := hP
    have hD : va_D A [(z 4, aI V 1025 fz4), (z 3, aI V 900 fz3), (z 0, .inr (10, mo z pz0_0 pz0_5 pz0_6 pz0_7 pz0_8 pz0_9 pz0_10 pz0_11 pz0_12 pz0_13 pz0_14 pz0_18 pz0_19 pz0_22 pz0_23 pz0_29))] := hD
    refine lv_if_eq (tgt := 23) hx hb dX10_readLine_13 (by decide) (fun c_7 => ?_) (fun c_7 => ?_)
    · have b_8 : iv 0 0 r_3 := iv_q c_7 (iv_c (0 : Int32) (a := 0) (b := 0) (by decide))
      refine lv_aload_n hx hb dX10_readLine_23 rfl (lv_at hl 0 rfl) ?_
      refine lv_bipush (v := 7) hx hb dX10_readLine_24 (by decide) ?_
      refine jnI (wr := [(z 4, aI V 1025 fz4), (z 3, aI V 900 fz3)]) (rnV (rest := []) ⟨hx, hb, hml, hown, hg⟩ (k_X10_is_5 l V z pz0_0 pz0_5 pz0_6 pz0_7 pz0_8 pz0_9 pz0_10 pz0_11 pz0_12 pz0_13 pz0_14 pz0_18 pz0_19 pz0_22 pz0_23 pz0_29 bpz0_5 bpz0_6 bpz0_7 bpz0_8 bpz0_10 (iv_w b_2 (by decide)) bpz0_12 bpz0_13 bpz0_14 bpz0_18 bpz0_22 bpz0_29) mt_X10_is q_6_143 ⟨Nat.le_of_ble_eq_true rfl, Nat.le_of_ble_eq_true rfl⟩ hK hP hD hS hA hE [2] rfl rfl 2 rfl rfl rfl rfl hl.1 rfl (Nat.le_of_ble_eq_true rfl) dX10_readLine_26 ⟨Nat.le_of_ble_eq_true rfl, Nat.le_of_ble_eq_true rfl⟩) hP hD hS hA [2] [0, 1] rfl rfl rfl (by decide) (fun r_9 w H locs hw hP hD hS => ?_)
      obtain ⟨br_9, g_10, g_11, g_12, rfl⟩ := hw
      have hP : va_P V.1 vwCl [(z 4, aI V 1025 fz4), (z 3, aI V 900 fz3), (z 0, .inr (10, mo z pz0_0 pz0_5 pz0_6 pz0_7 pz0_8 pz0_9 pz0_10 pz0_11 pz0_12 pz0_13 pz0_14 pz0_18 pz0_19 pz0_22 pz0_23 pz0_29))] H := hP
      have hD : va_D A [(z 4, aI V 1025 fz4), (z 3, aI V 900 fz3), (z 0, .inr (10, mo z pz0_0 pz0_5 pz0_6 pz0_7 pz0_8 pz0_9 pz0_10 pz0_11 pz0_12 pz0_13 pz0_14 pz0_18 pz0_19 pz0_22 pz0_23 pz0_29))] := hD
      refine lv_if_eq (tgt := 39) hx hb dX10_readLine_29 (by decide) (fun c_13 => ?_) (fun c_13 => ?_)
      · have b_14 : iv 0 0 r_9 := iv_q c_13 (iv_c (0 : Int32) (a := 0) (b := 0) (by decide))
        refine lv_aload_n hx hb dX10_readLine_39 rfl (lv_at hl 0 rfl) ?_
        refine lv_bipush (v := 9) hx hb dX10_readLine_40 (by decide) ?_
        refine jnI (wr := [(z 4, aI V 1025 fz4), (z 3, aI V 900 fz3)]) (rnV (rest := []) ⟨hx, hb, hml, hown, hg⟩ (k_X10_is_6 l V z pz0_0 pz0_5 pz0_6 pz0_7 pz0_8 pz0_9 pz0_10 pz0_11 pz0_12 pz0_13 pz0_14 pz0_18 pz0_19 pz0_22 pz0_23 pz0_29 bpz0_5 bpz0_6 bpz0_7 bpz0_8 bpz0_10 (iv_w b_2 (by decide)) bpz0_12 bpz0_13 bpz0_14 bpz0_18 bpz0_22 bpz0_29) mt_X10_is q_6_143 ⟨Nat.le_of_ble_eq_true rfl, Nat.le_of_ble_eq_true rfl⟩ hK hP hD hS hA hE [2] rfl rfl 2 rfl rfl rfl rfl hl.1 rfl (Nat.le_of_ble_eq_true rfl) dX10_readLine_42 ⟨Nat.le_of_ble_eq_true rfl, Nat.le_of_ble_eq_true rfl⟩) hP hD hS hA [2] [0, 1] rfl rfl rfl (by decide) (fun r_15 w H locs hw hP hD hS => ?_)
        obtain ⟨br_15, g_16, g_17, g_18, rfl⟩ := hw
        have hP : va_P V.1 vwCl [(z 4, aI V 1025 fz4), (z 3, aI V 900 fz3), (z 0, .inr (10, mo z pz0_0 pz0_5 pz0_6 pz0_7 pz0_8 pz0_9 pz0_10 pz0_11 pz0_12 pz0_13 pz0_14 pz0_18 pz0_19 pz0_22 pz0_23 pz0_29))] H := hP
        have hD : va_D A [(z 4, aI V 1025 fz4), (z 3, aI V 900 fz3), (z 0, .inr (10, mo z pz0_0 pz0_5 pz0_6 pz0_7 pz0_8 pz0_9 pz0_10 pz0_11 pz0_12 pz0_13 pz0_14 pz0_18 pz0_19 pz0_22 pz0_23 pz0_29))] := hD
        refine lv_if_eq (tgt := 55) hx hb dX10_readLine_45 (by decide) (fun c_19 => ?_) (fun c_19 => ?_)
        · have b_20 : iv 0 0 r_15 := iv_q c_19 (iv_c (0 : Int32) (a := 0) (b := 0) (by decide))
          refine lv_aload_n hx hb dX10_readLine_55 rfl (lv_at hl 0 rfl) ?_
          refine lv_bipush (v := 11) hx hb dX10_readLine_56 (by decide) ?_
          refine jnI (wr := [(z 4, aI V 1025 fz4), (z 3, aI V 900 fz3)]) (rnV (rest := []) ⟨hx, hb, hml, hown, hg⟩ (k_X10_is_7 l V z pz0_0 pz0_5 pz0_6 pz0_7 pz0_8 pz0_9 pz0_10 pz0_11 pz0_12 pz0_13 pz0_14 pz0_18 pz0_19 pz0_22 pz0_23 pz0_29 bpz0_5 bpz0_6 bpz0_7 bpz0_8 bpz0_10 (iv_w b_2 (by decide)) bpz0_12 bpz0_13 bpz0_14 bpz0_18 bpz0_22 bpz0_29) mt_X10_is q_6_143 ⟨Nat.le_of_ble_eq_true rfl, Nat.le_of_ble_eq_true rfl⟩ hK hP hD hS hA hE [2] rfl rfl 2 rfl rfl rfl rfl hl.1 rfl (Nat.le_of_ble_eq_true rfl) dX10_readLine_58 ⟨Nat.le_of_ble_eq_true rfl, Nat.le_of_ble_eq_true rfl⟩) hP hD hS hA [2] [0, 1] rfl rfl rfl (by decide) (fun r_21 w H locs hw hP hD hS => ?_)
          obtain ⟨br_21, g_22, g_23, g_24, rfl⟩ := hw
          have hP : va_P V.1 vwCl [(z 4, aI V 1025 fz4), (z 3, aI V 900 fz3), (z 0, .inr (10, mo z pz0_0 pz0_5 pz0_6 pz0_7 pz0_8 pz0_9 pz0_10 pz0_11 pz0_12 pz0_13 pz0_14 pz0_18 pz0_19 pz0_22 pz0_23 pz0_29))] H := hP
          have hD : va_D A [(z 4, aI V 1025 fz4), (z 3, aI V 900 fz3), (z 0, .inr (10, mo z pz0_0 pz0_5 pz0_6 pz0_7 pz0_8 pz0_9 pz0_10 pz0_11 pz0_12 pz0_13 pz0_14 pz0_18 pz0_19 pz0_22 pz0_23 pz0_29))] := hD
          refine lv_if_ne (tgt := 73) hx hb dX10_readLine_61 (by decide) (fun c_25 => ?_) (fun c_25 => ?_)
          · have b_26 : iv 1 1 r_21 := iv_n0 c_25 br_21 (iv_c (0 : Int32) (a := 0) (b := 0) (by decide)) (by decide)
            have c_27 : pz0_11 = 0 := (g_22 (iv_eqp b_26 (iv_c (1 : Int32) (by decide))))
            have c_28 : pz0_9 = 11 := (g_23 (iv_eqp b_26 (iv_c (1 : Int32) (by decide))))
            have b_29 : iv 11 11 pz0_9 := iv_q c_28 (iv_c (11 : Int32) (a := 11) (b := 11) (by decide))
            refine lv_aload_n hx hb dX10_readLine_73 rfl (lv_at hl 0 rfl) ?_
            refine lv_aload_n hx hb dX10_readLine_74 rfl (lv_at hl 0 rfl) ?_
            refine va_get (ci := 10) (v := .int pz0_9) (C := RX10) (T := TX10) (N := 40) hx hb hg inX10 hown hK hP 2 rfl rfl 9 (by decide) (hg _ q_5_233) (fun _ h9 => h9) rfl dX10_readLine_75 ?_
            refine lv_bipush (v := 11) hx hb dX10_readLine_78 (by decide) ?_
            refine lv_isub hx hb dX10_readLine_80 ?_
            refine lv_topi (fun x_30 ex_30 => ?_)
            have bx_30 : iv 0 0 x_30 := by rw [ex_30]; exact iv_sub b_29 (iv_c (11 : Int32) (a := 11) (b := 11) (by decide)) (by decide)
            refine tpi (y := 0) (iv_eqp bx_30 (iv_c (0 : Int32) (by decide))) ?_
            refine jnV (wr := []) (rnV (rest := []) ⟨hx, hb, hml, hown, hg⟩ (k_X10_readLaw_0 l V z fz4 fz3 pz0_0 pz0_5 pz0_6 pz0_7 pz0_8 pz0_9 pz0_10 pz0_11 pz0_12 pz0_13 pz0_14 pz0_18 pz0_19 pz0_22 pz0_23 pz0_29 tfz4 tfz3 bpz0_5 bpz0_6 bpz0_7 bpz0_8 bpz0_10 (iv_w b_2 (by decide)) bpz0_12 bpz0_13 bpz0_14 bpz0_18 bpz0_22 bpz0_29 hf0 hf1) mt_X10_readLaw q_6_183 ⟨Nat.le_of_ble_eq_true rfl, Nat.le_of_ble_eq_true rfl⟩ hK hP hD hS hA hE [0, 1, 2] rfl rfl 2 rfl rfl rfl rfl hl.1 rfl (Nat.le_of_ble_eq_true rfl) dX10_readLine_81 ⟨Nat.le_of_ble_eq_true rfl, Nat.le_of_ble_eq_true rfl⟩) hP hD hS hA [0, 1, 2] [] rfl rfl rfl (by decide) (fun  w H locs hw hP hD hS => ?_)
            obtain ⟨f_31, v_32, v_33, v_34, v_35, v_36, v_37, tf_31, bv_32, bv_33, bv_35, bv_36, bv_37, g_38, g_39, g_40, g_41, g_42, rfl⟩ := hw
            have hP : va_P V.1 vwCl [(z 4, aI V 1025 f_31), (z 3, aI V 900 fz3), (z 0, .inr (10, mo z pz0_0 pz0_5 v_32 v_33 pz0_8 v_34 v_35 v_36 v_37 pz0_13 pz0_14 pz0_18 pz0_19 pz0_22 pz0_23 pz0_29))] H := hP
            have hD : va_D A [(z 4, aI V 1025 f_31), (z 3, aI V 900 fz3), (z 0, .inr (10, mo z pz0_0 pz0_5 v_32 v_33 pz0_8 v_34 v_35 v_36 v_37 pz0_13 pz0_14 pz0_18 pz0_19 pz0_22 pz0_23 pz0_29))] := hD
            refine lv_goto (tgt := 92) hx hb dX10_readLine_84 (by decide) ?_
            have hP := subP (ws' := [(z 4, aI V 1025 f_31), (z 0, .inr (10, mo z pz0_0 pz0_5 v_32 v_33 pz0_8 v_34 v_35 v_36 v_37 pz0_13 pz0_14 pz0_18 pz0_19 pz0_22 pz0_23 pz0_29)), (z 3, aI V 900 fz3)]) hP [0, 2, 1] rfl
            have hD := hD.sub (ws' := [(z 4, aI V 1025 f_31), (z 0, .inr (10, mo z pz0_0 pz0_5 v_32 v_33 pz0_8 v_34 v_35 v_36 v_37 pz0_13 pz0_14 pz0_18 pz0_19 pz0_22 pz0_23 pz0_29)), (z 3, aI V 900 fz3)]) [0, 2, 1] rfl rfl
            exact fiV hx hb hr hlk hK hP hD hS dX10_readLine_92 (Nat.le_of_ble_eq_true rfl) (Nat.le_of_ble_eq_true rfl) (⟨f_31, v_32, v_33, v_34, v_35, v_36, v_37, tf_31, bv_32, bv_33, bv_35, bv_36, bv_37, g_38, g_39, (by have z_0 := g_40;have y_0 := hf0.1; have y_1 := g_38.1; omega), (fun q9 => ((g_41) q9)), (fun q9 d9 w9 h9 g9 => by have b_1 := RZ_i0 (k := 2) h9 (by decide) g_6 b_8; have b_2 := RZ_i0 (k := 7) h9 (by decide) g_12 b_14; have b_3 := RZ_i0 (k := 9) h9 (by decide) g_18 b_20; have b_4 := RZ_i1 (k := 11) h9 (by decide) g_22 g_23 b_26; rw [(show lnP (tkX fz3 pz0_8) (q9, d9) = _ from by unfold lnP; rw [if_neg (ntB _ b_1), if_neg (ntB _ b_2), if_neg (ntB _ b_3), if_pos b_4])]; exact g_42 q9 d9 w9 h9 g9), (fun q9 w9 h9 => by have b_1 := RZ_i0 (k := 2) h9 (by decide) g_6 b_8; have b_2 := RZ_i0 (k := 7) h9 (by decide) g_12 b_14; have b_3 := RZ_i0 (k := 9) h9 (by decide) g_18 b_20; have b_4 := RZ_i1 (k := 11) h9 (by decide) g_22 g_23 b_26; exact absurd (isQ_iff.mp b_4).1 w9), rfl⟩)
          · have b_43 : iv 0 0 r_21 := iv_q c_25 (iv_c (0 : Int32) (a := 0) (b := 0) (by decide))
            refine lv_aload_n hx hb dX10_readLine_64 rfl (lv_at hl 0 rfl) ?_
            refine lv_bipush (v := 12) hx hb dX10_readLine_65 (by decide) ?_
            refine jnI (wr := [(z 4, aI V 1025 fz4), (z 3, aI V 900 fz3)]) (rnV (rest := []) ⟨hx, hb, hml, hown, hg⟩ (k_X10_is_26 l V z pz0_0 pz0_5 pz0_6 pz0_7 pz0_8 pz0_9 pz0_10 pz0_11 pz0_12 pz0_13 pz0_14 pz0_18 pz0_19 pz0_22 pz0_23 pz0_29 bpz0_5 bpz0_6 bpz0_7 bpz0_8 bpz0_10 (iv_w b_2 (by decide)) bpz0_12 bpz0_13 bpz0_14 bpz0_18 bpz0_22 bpz0_29) mt_X10_is q_6_143 ⟨Nat.le_of_ble_eq_true rfl, Nat.le_of_ble_eq_true rfl⟩ hK hP hD hS hA hE [2] rfl rfl 2 rfl rfl rfl rfl hl.1 rfl (Nat.le_of_ble_eq_true rfl) dX10_readLine_67 ⟨Nat.le_of_ble_eq_true rfl, Nat.le_of_ble_eq_true rfl⟩) hP hD hS hA [2] [0, 1] rfl rfl rfl (by decide) (fun r_44 w H locs hw hP hD hS => ?_)
            obtain ⟨br_44, g_45, g_46, g_47, rfl⟩ := hw
            have hP : va_P V.1 vwCl [(z 4, aI V 1025 fz4), (z 3, aI V 900 fz3), (z 0, .inr (10, mo z pz0_0 pz0_5 pz0_6 pz0_7 pz0_8 pz0_9 pz0_10 pz0_11 pz0_12 pz0_13 pz0_14 pz0_18 pz0_19 pz0_22 pz0_23 pz0_29))] H := hP
            have hD : va_D A [(z 4, aI V 1025 fz4), (z 3, aI V 900 fz3), (z 0, .inr (10, mo z pz0_0 pz0_5 pz0_6 pz0_7 pz0_8 pz0_9 pz0_10 pz0_11 pz0_12 pz0_13 pz0_14 pz0_18 pz0_19 pz0_22 pz0_23 pz0_29))] := hD
            refine lv_if_eq (tgt := 87) hx hb dX10_readLine_70 (by decide) (fun c_48 => ?_) (fun c_48 => ?_)
            · have b_49 : iv 0 0 r_44 := iv_q c_48 (iv_c (0 : Int32) (a := 0) (b := 0) (by decide))
              refine lv_aload_n hx hb dX10_readLine_87 rfl (lv_at hl 0 rfl) ?_
              refine lv_iconst (v := 2) hx hb dX10_readLine_88 (by decide) ?_
              refine jnV (wr := [(z 4, aI V 1025 fz4), (z 3, aI V 900 fz3)]) (rnV (rest := []) ⟨hx, hb, hml, hown, hg⟩ (k_X10_fails_0 l V z 2 pz0_0 pz0_5 pz0_6 pz0_7 pz0_8 pz0_9 pz0_10 pz0_11 pz0_12 pz0_13 pz0_14 pz0_18 pz0_19 pz0_22 pz0_23 pz0_29 (iv_c (2 : Int32) (by decide)) bpz0_5 bpz0_6 bpz0_7 bpz0_8 bpz0_10 (iv_w b_2 (by decide)) bpz0_12 bpz0_13 bpz0_14 bpz0_18 bpz0_22 bpz0_29) mt_X10_fails q_6_147 ⟨Nat.le_of_ble_eq_true rfl, Nat.le_of_ble_eq_true rfl⟩ hK hP hD hS hA hE [2] rfl rfl 2 rfl rfl rfl rfl hl.1 rfl (Nat.le_of_ble_eq_true rfl) dX10_readLine_89 ⟨Nat.le_of_ble_eq_true rfl, Nat.le_of_ble_eq_true rfl⟩) hP hD hS hA [2] [0, 1] rfl rfl rfl (by decide) (fun  w H locs hw hP hD hS => ?_)
              obtain ⟨v_50, v_51, bv_50, bv_51, g_52, rfl⟩ := hw
              have hP : va_P V.1 vwCl [(z 4, aI V 1025 fz4), (z 3, aI V 900 fz3), (z 0, .inr (10, mo z pz0_0 pz0_5 pz0_6 pz0_7 pz0_8 pz0_9 pz0_10 v_50 v_51 pz0_13 pz0_14 pz0_18 pz0_19 pz0_22 pz0_23 pz0_29))] H := hP
              have hD : va_D A [(z 4, aI V 1025 fz4), (z 3, aI V 900 fz3), (z 0, .inr (10, mo z pz0_0 pz0_5 pz0_6 pz0_7 pz0_8 pz0_9 pz0_10 v_50 v_51 pz0_13 pz0_14 pz0_18 pz0_19 pz0_22 pz0_23 pz0_29))] := hD
              have hP := subP (ws' := [(z 4, aI V 1025 fz4), (z 0, .inr (10, mo z pz0_0 pz0_5 pz0_6 pz0_7 pz0_8 pz0_9 pz0_10 v_50 v_51 pz0_13 pz0_14 pz0_18 pz0_19 pz0_22 pz0_23 pz0_29)), (z 3, aI V 900 fz3)]) hP [0, 2, 1] rfl
              have hD := hD.sub (ws' := [(z 4, aI V 1025 fz4), (z 0, .inr (10, mo z pz0_0 pz0_5 pz0_6 pz0_7 pz0_8 pz0_9 pz0_10 v_50 v_51 pz0_13 pz0_14 pz0_18 pz0_19 pz0_22 pz0_23 pz0_29)), (z 3, aI V 900 fz3)]) [0, 2, 1] rfl rfl
              exact fiV hx hb hr hlk hK hP hD hS dX10_readLine_92 (Nat.le_of_ble_eq_true rfl) (Nat.le_of_ble_eq_true rfl) (⟨fz4, pz0_6, pz0_7, pz0_9, pz0_10, v_50, v_51, tfz4, bpz0_6, bpz0_7, bpz0_10, (iv_w bv_50 (by decide)), bv_51, hf0, (PS_f bv_50 (by decide)), (Int.le_refl _), (fun q9 => ((fun q8 => absurd q8 (iv_nz bv_50 (by decide))) q9)), (fun q9 d9 w9 h9 g9 => by have b_1 := RZ_i0 (k := 2) h9 (by decide) g_6 b_8; have b_2 := RZ_i0 (k := 7) h9 (by decide) g_12 b_14; have b_3 := RZ_i0 (k := 9) h9 (by decide) g_18 b_20; have b_4 := RZ_i0 (k := 11) h9 (by decide) g_24 b_43; have b_5 := RZ_i0 (k := 12) h9 (by decide) g_47 b_49; have h_6 := RZ_fl h9 g_52 (by decide); rw [(show lnP (tkX fz3 pz0_8) (q9, d9) = _ from by unfold lnP; rw [if_neg (ntB _ b_1), if_neg (ntB _ b_2), if_neg (ntB _ b_3), if_neg (ntB _ b_4), if_neg (ntB _ b_5)])]; exact ⟨h_6, RD_f (by decide)⟩), (fun q9 w9 h9 => by have b_1 := RZ_i0 (k := 2) h9 (by decide) g_6 b_8; have b_2 := RZ_i0 (k := 7) h9 (by decide) g_12 b_14; have b_3 := RZ_i0 (k := 9) h9 (by decide) g_18 b_20; have b_4 := RZ_i0 (k := 11) h9 (by decide) g_24 b_43; have b_5 := RZ_i0 (k := 12) h9 (by decide) g_47 b_49; have h_6 := RZ_fl h9 g_52 (by decide); rw [flP_w w9] at h_6; exact h_6), rfl⟩)
            · have b_53 : iv 1 1 r_44 := iv_n0 c_48 br_44 (iv_c (0 : Int32) (a := 0) (b := 0) (by decide)) (by decide)
              have c_54 : pz0_11 = 0 := (g_45 (iv_eqp b_53 (iv_c (1 : Int32) (by decide))))
              have c_55 : pz0_9 = 12 := (g_46 (iv_eqp b_53 (iv_c (1 : Int32) (by decide))))
              have b_56 : iv 12 12 pz0_9 := iv_q c_55 (iv_c (12 : Int32) (a := 12) (b := 12) (by decide))
              refine lv_aload_n hx hb dX10_readLine_73 rfl (lv_at hl 0 rfl) ?_
              refine lv_aload_n hx hb dX10_readLine_74 rfl (lv_at hl 0 rfl) ?_
              refine va_get (ci := 10) (v := .int pz0_9) (C := RX10) (T := TX10) (N := 40) hx hb hg inX10 hown hK hP 2 rfl rfl 9 (by decide) (hg _ q_5_233) (fun _ h9 => h9) rfl dX10_readLine_75 ?_
              refine lv_bipush (v := 11) hx hb dX10_readLine_78 (by decide) ?_
              refine lv_isub hx hb dX10_readLine_80 ?_
              refine lv_topi (fun x_57 ex_57 => ?_)
              have bx_57 : iv 1 1 x_57 := by rw [ex_57]; exact iv_sub b_56 (iv_c (11 : Int32) (a := 11) (b := 11) (by decide)) (by decide)
              refine tpi (y := 1) (iv_eqp bx_57 (iv_c (1 : Int32) (by decide))) ?_
              refine jnV (wr := []) (rnV (rest := []) ⟨hx, hb, hml, hown, hg⟩ (k_X10_readLaw_1 l V z fz4 fz3 pz0_0 pz0_5 pz0_6 pz0_7 pz0_8 pz0_9 pz0_10 pz0_11 pz0_12 pz0_13 pz0_14 pz0_18 pz0_19 pz0_22 pz0_23 pz0_29 tfz4 tfz3 bpz0_5 bpz0_6 bpz0_7 bpz0_8 bpz0_10 (iv_w b_2 (by decide)) bpz0_12 bpz0_13 bpz0_14 bpz0_18 bpz0_22 bpz0_29 hf0 hf1) mt_X10_readLaw q_6_183 ⟨Nat.le_of_ble_eq_true rfl, Nat.le_of_ble_eq_true rfl⟩ hK hP hD hS hA hE [0, 1, 2] rfl rfl 2 rfl rfl rfl rfl hl.1 rfl (Nat.le_of_ble_eq_true rfl) dX10_readLine_81 ⟨Nat.le_of_ble_eq_true rfl, Nat.le_of_ble_eq_true rfl⟩) hP hD hS hA [0, 1, 2] [] rfl rfl rfl (by decide) (fun  w H locs hw hP hD hS => ?_)
              obtain ⟨f_58, v_59, v_60, v_61, v_62, v_63, v_64, tf_58, bv_59, bv_60, bv_62, bv_63, bv_64, g_65, g_66, g_67, g_68, g_69, rfl⟩ := hw
              have hP : va_P V.1 vwCl [(z 4, aI V 1025 f_58), (z 3, aI V 900 fz3), (z 0, .inr (10, mo z pz0_0 pz0_5 v_59 v_60 pz0_8 v_61 v_62 v_63 v_64 pz0_13 pz0_14 pz0_18 pz0_19 pz0_22 pz0_23 pz0_29))] H := hP
              have hD : va_D A [(z 4, aI V 1025 f_58), (z 3, aI V 900 fz3), (z 0, .inr (10, mo z pz0_0 pz0_5 v_59 v_60 pz0_8 v_61 v_62 v_63 v_64 pz0_13 pz0_14 pz0_18 pz0_19 pz0_22 pz0_23 pz0_29))] := hD
              refine lv_goto (tgt := 92) hx hb dX10_readLine_84 (by decide) ?_
              have hP := subP (ws' := [(z 4, aI V 1025 f_58), (z 0, .inr (10, mo z pz0_0 pz0_5 v_59 v_60 pz0_8 v_61 v_62 v_63 v_64 pz0_13 pz0_14 pz0_18 pz0_19 pz0_22 pz0_23 pz0_29)), (z 3, aI V 900 fz3)]) hP [0, 2, 1] rfl
              have hD := hD.sub (ws' := [(z 4, aI V 1025 f_58), (z 0, .inr (10, mo z pz0_0 pz0_5 v_59 v_60 pz0_8 v_61 v_62 v_63 v_64 pz0_13 pz0_14 pz0_18 pz0_19 pz0_22 pz0_23 pz0_29)), (z 3, aI V 900 fz3)]) [0, 2, 1] rfl rfl
              exact fiV hx hb hr hlk hK hP hD hS dX10_readLine_92 (Nat.le_of_ble_eq_true rfl) (Nat.le_of_ble_eq_true rfl) (⟨f_58, v_59, v_60, v_61, v_62, v_63, v_64, tf_58, bv_59, bv_60, bv_62, bv_63, bv_64, g_65, g_66, (by have z_0 := g_67;have y_0 := hf0.1; have y_1 := g_65.1; omega), (fun q9 => ((g_68) q9)), (fun q9 d9 w9 h9 g9 => by have b_1 := RZ_i0 (k := 2) h9 (by decide) g_6 b_8; have b_2 := RZ_i0 (k := 7) h9 (by decide) g_12 b_14; have b_3 := RZ_i0 (k := 9) h9 (by decide) g_18 b_20; have b_4 := RZ_i0 (k := 11) h9 (by decide) g_24 b_43; have b_5 := RZ_i1 (k := 12) h9 (by decide) g_45 g_46 b_53; rw [(show lnP (tkX fz3 pz0_8) (q9, d9) = _ from by unfold lnP; rw [if_neg (ntB _ b_1), if_neg (ntB _ b_2), if_neg (ntB _ b_3), if_neg (ntB _ b_4), if_pos b_5])]; exact g_69 q9 d9 w9 h9 g9), (fun q9 w9 h9 => by have b_1 := RZ_i0 (k := 2) h9 (by decide) g_6 b_8; have b_2 := RZ_i0 (k := 7) h9 (by decide) g_12 b_14; have b_3 := RZ_i0 (k := 9) h9 (by decide) g_18 b_20; have b_4 := RZ_i0 (k := 11) h9 (by decide) g_24 b_43; have b_5 := RZ_i1 (k := 12) h9 (by decide) g_45 g_46 b_53; exact absurd (isQ_iff.mp b_5).1 w9), rfl⟩)
        · have b_70 : iv 1 1 r_15 := iv_n0 c_19 br_15 (iv_c (0 : Int32) (a := 0) (b := 0) (by decide)) (by decide)
          have c_71 : pz0_11 = 0 := (g_16 (iv_eqp b_70 (iv_c (1 : Int32) (by decide))))
          have c_72 : pz0_9 = 9 := (g_17 (iv_eqp b_70 (iv_c (1 : Int32) (by decide))))
          have b_73 : iv 9 9 pz0_9 := iv_q c_72 (iv_c (9 : Int32) (a := 9) (b := 9) (by decide))
          refine lv_aload_n hx hb dX10_readLine_48 rfl (lv_at hl 0 rfl) ?_
          refine jnV (wr := []) (rnV (rest := []) ⟨hx, hb, hml, hown, hg⟩ (k_X10_readRoad_0 l V z fz4 fz3 pz0_0 pz0_5 pz0_6 pz0_7 pz0_8 pz0_9 pz0_10 pz0_11 pz0_12 pz0_13 pz0_14 pz0_18 pz0_19 pz0_22 pz0_23 pz0_29 tfz4 tfz3 bpz0_5 bpz0_6 bpz0_7 bpz0_8 bpz0_10 (iv_w b_2 (by decide)) bpz0_12 bpz0_13 bpz0_14 bpz0_18 bpz0_22 bpz0_29 hf0 hf1) mt_X10_readRoad q_6_179 ⟨Nat.le_of_ble_eq_true rfl, Nat.le_of_ble_eq_true rfl⟩ hK hP hD hS hA hE [0, 1, 2] rfl rfl 2 rfl rfl rfl rfl hl.1 rfl (Nat.le_of_ble_eq_true rfl) dX10_readLine_49 ⟨Nat.le_of_ble_eq_true rfl, Nat.le_of_ble_eq_true rfl⟩) hP hD hS hA [0, 1, 2] [] rfl rfl rfl (by decide) (fun  w H locs hw hP hD hS => ?_)
          obtain ⟨f_74, v_75, v_76, v_77, v_78, v_79, v_80, tf_74, bv_75, bv_76, bv_78, bv_79, bv_80, g_81, g_82, g_83, g_84, g_85, rfl⟩ := hw
          have hP : va_P V.1 vwCl [(z 4, aI V 1025 f_74), (z 3, aI V 900 fz3), (z 0, .inr (10, mo z pz0_0 pz0_5 v_75 v_76 pz0_8 v_77 v_78 v_79 v_80 pz0_13 pz0_14 pz0_18 pz0_19 pz0_22 pz0_23 pz0_29))] H := hP
          have hD : va_D A [(z 4, aI V 1025 f_74), (z 3, aI V 900 fz3), (z 0, .inr (10, mo z pz0_0 pz0_5 v_75 v_76 pz0_8 v_77 v_78 v_79 v_80 pz0_13 pz0_14 pz0_18 pz0_19 pz0_22 pz0_23 pz0_29))] := hD
          refine lv_goto (tgt := 92) hx hb dX10_readLine_52 (by decide) ?_
          have hP := subP (ws' := [(z 4, aI V 1025 f_74), (z 0, .inr (10, mo z pz0_0 pz0_5 v_75 v_76 pz0_8 v_77 v_78 v_79 v_80 pz0_13 pz0_14 pz0_18 pz0_19 pz0_22 pz0_23 pz0_29)), (z 3, aI V 900 fz3)]) hP [0, 2, 1] rfl
          have hD := hD.sub (ws' := [(z 4, aI V 1025 f_74), (z 0, .inr (10, mo z pz0_0 pz0_5 v_75 v_76 pz0_8 v_77 v_78 v_79 v_80 pz0_13 pz0_14 pz0_18 pz0_19 pz0_22 pz0_23 pz0_29)), (z 3, aI V 900 fz3)]) [0, 2, 1] rfl rfl
          exact fiV hx hb hr hlk hK hP hD hS dX10_readLine_92 (Nat.le_of_ble_eq_true rfl) (Nat.le_of_ble_eq_true rfl) (⟨f_74, v_75, v_76, v_77, v_78, v_79, v_80, tf_74, bv_75, bv_76, bv_78, bv_79, bv_80, g_81, g_82, (by have z_0 := g_83;have y_0 := hf0.1; have y_1 := g_81.1; omega), (fun q9 => ((g_84) q9)), (fun q9 d9 w9 h9 g9 => by have b_1 := RZ_i0 (k := 2) h9 (by decide) g_6 b_8; have b_2 := RZ_i0 (k := 7) h9 (by decide) g_12 b_14; have b_3 := RZ_i1 (k := 9) h9 (by decide) g_16 g_17 b_70; rw [(show lnP (tkX fz3 pz0_8) (q9, d9) = _ from by unfold lnP; rw [if_neg (ntB _ b_1), if_neg (ntB _ b_2), if_pos b_3])]; exact g_85 q9 d9 w9 h9 g9), (fun q9 w9 h9 => by have b_1 := RZ_i0 (k := 2) h9 (by decide) g_6 b_8; have b_2 := RZ_i0 (k := 7) h9 (by decide) g_12 b_14; have b_3 := RZ_i1 (k := 9) h9 (by decide) g_16 g_17 b_70; exact absurd (isQ_iff.mp b_3).1 w9), rfl⟩)
      · have b_86 : iv 1 1 r_9 := iv_n0 c_13 br_9 (iv_c (0 : Int32) (a := 0) (b := 0) (by decide)) (by decide)
        have c_87 : pz0_11 = 0 := (g_10 (iv_eqp b_86 (iv_c (1 : Int32) (by decide))))
        have c_88 : pz0_9 = 7 := (g_11 (iv_eqp b_86 (iv_c (1 : Int32) (by decide))))
        have b_89 : iv 7 7 pz0_9 := iv_q c_88 (iv_c (7 : Int32) (a := 7) (b := 7) (by decide))
        refine lv_aload_n hx hb dX10_readLine_32 rfl (lv_at hl 0 rfl) ?_
        refine jnV (wr := []) (rnV (rest := []) ⟨hx, hb, hml, hown, hg⟩ (k_X10_readVillage_0 l V z fz4 fz3 pz0_0 pz0_5 pz0_6 pz0_7 pz0_8 pz0_9 pz0_10 pz0_11 pz0_12 pz0_13 pz0_14 pz0_18 pz0_19 pz0_22 pz0_23 pz0_29 tfz4 tfz3 bpz0_5 bpz0_6 bpz0_7 bpz0_8 bpz0_10 (iv_w b_2 (by decide)) bpz0_12 bpz0_13 bpz0_14 bpz0_18 bpz0_22 bpz0_29 hf0 hf1) mt_X10_readVillage q_6_175 ⟨Nat.le_of_ble_eq_true rfl, Nat.le_of_ble_eq_true rfl⟩ hK hP hD hS hA hE [0, 1, 2] rfl rfl 2 rfl rfl rfl rfl hl.1 rfl (Nat.le_of_ble_eq_true rfl) dX10_readLine_33 ⟨Nat.le_of_ble_eq_true rfl, Nat.le_of_ble_eq_true rfl⟩) hP hD hS hA [0, 1, 2] [] rfl rfl rfl (by decide) (fun  w H locs hw hP hD hS => ?_)
        obtain ⟨f_90, v_91, v_92, v_93, v_94, v_95, v_96, tf_90, bv_91, bv_92, bv_94, bv_95, bv_96, g_97, g_98, g_99, g_100, g_101, rfl⟩ := hw
        have hP : va_P V.1 vwCl [(z 4, aI V 1025 f_90), (z 3, aI V 900 fz3), (z 0, .inr (10, mo z pz0_0 pz0_5 v_91 v_92 pz0_8 v_93 v_94 v_95 v_96 pz0_13 pz0_14 pz0_18 pz0_19 pz0_22 pz0_23 pz0_29))] H := hP
        have hD : va_D A [(z 4, aI V 1025 f_90), (z 3, aI V 900 fz3), (z 0, .inr (10, mo z pz0_0 pz0_5 v_91 v_92 pz0_8 v_93 v_94 v_95 v_96 pz0_13 pz0_14 pz0_18 pz0_19 pz0_22 pz0_23 pz0_29))] := hD
        refine lv_goto (tgt := 92) hx hb dX10_readLine_36 (by decide) ?_
        have hP := subP (ws' := [(z 4, aI V 1025 f_90), (z 0, .inr (10, mo z pz0_0 pz0_5 v_91 v_92 pz0_8 v_93 v_94 v_95 v_96 pz0_13 pz0_14 pz0_18 pz0_19 pz0_22 pz0_23 pz0_29)), (z 3, aI V 900 fz3)]) hP [0, 2, 1] rfl
        have hD := hD.sub (ws' := [(z 4, aI V 1025 f_90), (z 0, .inr (10, mo z pz0_0 pz0_5 v_91 v_92 pz0_8 v_93 v_94 v_95 v_96 pz0_13 pz0_14 pz0_18 pz0_19 pz0_22 pz0_23 pz0_29)), (z 3, aI V 900 fz3)]) [0, 2, 1] rfl rfl
        exact fiV hx hb hr hlk hK hP hD hS dX10_readLine_92 (Nat.le_of_ble_eq_true rfl) (Nat.le_of_ble_eq_true rfl) (⟨f_90, v_91, v_92, v_93, v_94, v_95, v_96, tf_90, bv_91, bv_92, bv_94, bv_95, bv_96, g_97, g_98, (by have z_0 := g_99;have y_0 := hf0.1; have y_1 := g_97.1; omega), (fun q9 => ((g_100) q9)), (fun q9 d9 w9 h9 g9 => by have b_1 := RZ_i0 (k := 2) h9 (by decide) g_6 b_8; have b_2 := RZ_i1 (k := 7) h9 (by decide) g_10 g_11 b_86; rw [(show lnP (tkX fz3 pz0_8) (q9, d9) = _ from by unfold lnP; rw [if_neg (ntB _ b_1), if_pos b_2])]; exact g_101 q9 d9 w9 h9 g9), (fun q9 w9 h9 => by have b_1 := RZ_i0 (k := 2) h9 (by decide) g_6 b_8; have b_2 := RZ_i1 (k := 7) h9 (by decide) g_10 g_11 b_86; exact absurd (isQ_iff.mp b_2).1 w9), rfl⟩)
    · have b_102 : iv 1 1 r_3 := iv_n0 c_7 br_3 (iv_c (0 : Int32) (a := 0) (b := 0) (by decide)) (by decide)
      have c_103 : pz0_11 = 0 := (g_4 (iv_eqp b_102 (iv_c (1 : Int32) (by decide))))
      have c_104 : pz0_9 = 2 := (g_5 (iv_eqp b_102 (iv_c (1 : Int32) (by decide))))
      have b_105 : iv 2 2 pz0_9 := iv_q c_104 (iv_c (2 : Int32) (a := 2) (b := 2) (by decide))
      refine lv_aload_n hx hb dX10_readLine_16 rfl (lv_at hl 0 rfl) ?_
      refine jnV (wr := []) (rnV (rest := []) ⟨hx, hb, hml, hown, hg⟩ (k_X10_readHill_0 l V z fz4 fz3 pz0_0 pz0_5 pz0_6 pz0_7 pz0_8 pz0_9 pz0_10 pz0_11 pz0_12 pz0_13 pz0_14 pz0_18 pz0_19 pz0_22 pz0_23 pz0_29 tfz4 tfz3 bpz0_5 bpz0_6 bpz0_7 bpz0_8 bpz0_10 (iv_w b_2 (by decide)) bpz0_12 bpz0_13 bpz0_14 bpz0_18 bpz0_22 bpz0_29 hf0 hf1) mt_X10_readHill q_6_167 ⟨Nat.le_of_ble_eq_true rfl, Nat.le_of_ble_eq_true rfl⟩ hK hP hD hS hA hE [0, 1, 2] rfl rfl 2 rfl rfl rfl rfl hl.1 rfl (Nat.le_of_ble_eq_true rfl) dX10_readLine_17 ⟨Nat.le_of_ble_eq_true rfl, Nat.le_of_ble_eq_true rfl⟩) hP hD hS hA [0, 1, 2] [] rfl rfl rfl (by decide) (fun  w H locs hw hP hD hS => ?_)
      obtain ⟨f_106, v_107, v_108, v_109, v_110, v_111, v_112, tf_106, bv_107, bv_108, bv_110, bv_111, bv_112, g_113, g_114, g_115, g_116, g_117, rfl⟩ := hw
      have hP : va_P V.1 vwCl [(z 4, aI V 1025 f_106), (z 3, aI V 900 fz3), (z 0, .inr (10, mo z pz0_0 pz0_5 v_107 v_108 pz0_8 v_109 v_110 v_111 v_112 pz0_13 pz0_14 pz0_18 pz0_19 pz0_22 pz0_23 pz0_29))] H := hP
      have hD : va_D A [(z 4, aI V 1025 f_106), (z 3, aI V 900 fz3), (z 0, .inr (10, mo z pz0_0 pz0_5 v_107 v_108 pz0_8 v_109 v_110 v_111 v_112 pz0_13 pz0_14 pz0_18 pz0_19 pz0_22 pz0_23 pz0_29))] := hD
      refine lv_goto (tgt := 92) hx hb dX10_readLine_20 (by decide) ?_
      have hP := subP (ws' := [(z 4, aI V 1025 f_106), (z 0, .inr (10, mo z pz0_0 pz0_5 v_107 v_108 pz0_8 v_109 v_110 v_111 v_112 pz0_13 pz0_14 pz0_18 pz0_19 pz0_22 pz0_23 pz0_29)), (z 3, aI V 900 fz3)]) hP [0, 2, 1] rfl
      have hD := hD.sub (ws' := [(z 4, aI V 1025 f_106), (z 0, .inr (10, mo z pz0_0 pz0_5 v_107 v_108 pz0_8 v_109 v_110 v_111 v_112 pz0_13 pz0_14 pz0_18 pz0_19 pz0_22 pz0_23 pz0_29)), (z 3, aI V 900 fz3)]) [0, 2, 1] rfl rfl
      exact fiV hx hb hr hlk hK hP hD hS dX10_readLine_92 (Nat.le_of_ble_eq_true rfl) (Nat.le_of_ble_eq_true rfl) (⟨f_106, v_107, v_108, v_109, v_110, v_111, v_112, tf_106, bv_107, bv_108, bv_110, bv_111, bv_112, g_113, g_114, (by have z_0 := g_115;have y_0 := hf0.1; have y_1 := g_113.1; omega), (fun q9 => ((g_116) q9)), (fun q9 d9 w9 h9 g9 => by have b_1 := RZ_i1 (k := 2) h9 (by decide) g_4 g_5 b_102; rw [(show lnP (tkX fz3 pz0_8) (q9, d9) = _ from by unfold lnP; rw [if_pos b_1])]; exact g_117 q9 d9 w9 h9 g9), (fun q9 w9 h9 => by have b_1 := RZ_i1 (k := 2) h9 (by decide) g_4 g_5 b_102; exact absurd (isQ_iff.mp b_1).1 w9), rfl⟩)
  · have b_118 : iv 1 4 pz0_11 := iv_n0 c_1 bpz0_11 (iv_c (0 : Int32) (a := 0) (b := 0) (by decide)) (by decide)
    exact fiV hx hb hr hlk hK hP hD hS dX10_readLine_7 (Nat.le_of_ble_eq_true rfl) (Nat.le_of_ble_eq_true rfl) (⟨fz4, pz0_6, pz0_7, pz0_9, pz0_10, pz0_11, pz0_12, tfz4, bpz0_6, bpz0_7, bpz0_10, (iv_w b_118 (by decide)), bpz0_12, hf0, hf1, (Int.le_refl _), (fun q9 => q9), (fun q9 d9 w9 h9 g9 => absurd (RZ_q h9 w9).1 c_1), (fun q9 w9 h9 => h9), rfl⟩)
theorem dX10_coast_0 : decode cX10_coast 0 = .ok (.aload_n 0, 1) := by decide +kernel
theorem dX10_coast_1 : decode cX10_coast 1 = .ok (.iconst 0, 1) := by decide +kernel
theorem dX10_coast_2 : decode cX10_coast 2 = .ok (.putfield 1, 3) := by decide +kernel
theorem dX10_coast_5 : decode cX10_coast 5 = .ok (.iload_n 1, 1) := by decide +kernel
theorem dX10_coast_6 : decode cX10_coast 6 = .ok (.i2l, 1) := by decide +kernel
theorem dX10_coast_7 : decode cX10_coast 7 = .ok (.lconst 0, 1) := by decide +kernel
theorem dX10_coast_8 : decode cX10_coast 8 = .ok (.aload_n 0, 1) := by decide +kernel
theorem dX10_coast_9 : decode cX10_coast 9 = .ok (.getfield 97, 3) := by decide +kernel
theorem dX10_coast_12 : decode cX10_coast 12 = .ok (.i2l, 1) := by decide +kernel
theorem dX10_coast_13 : decode cX10_coast 13 = .ok (.invokestatic 159, 3) := by decide +kernel
theorem dX10_coast_16 : decode cX10_coast 16 = .ok (.ifCond .ne 6, 3) := by decide +kernel
theorem dX10_coast_22 : decode cX10_coast 22 = .ok (.aload_n 0, 1) := by decide +kernel
theorem dX10_coast_23 : decode cX10_coast 23 = .ok (.iload_n 1, 1) := by decide +kernel
theorem dX10_coast_24 : decode cX10_coast 24 = .ok (.putfield 100, 3) := by decide +kernel
theorem dX10_coast_27 : decode cX10_coast 27 = .ok (.aload_n 0, 1) := by decide +kernel
theorem dX10_coast_28 : decode cX10_coast 28 = .ok (.iconst 0, 1) := by decide +kernel
theorem dX10_coast_29 : decode cX10_coast 29 = .ok (.putfield 97, 3) := by decide +kernel
theorem dX10_coast_32 : decode cX10_coast 32 = .ok (.aload_n 0, 1) := by decide +kernel
theorem dX10_coast_33 : decode cX10_coast 33 = .ok (.iconst 0, 1) := by decide +kernel
theorem dX10_coast_34 : decode cX10_coast 34 = .ok (.putfield 118, 3) := by decide +kernel
theorem dX10_coast_37 : decode cX10_coast 37 = .ok (.aload_n 0, 1) := by decide +kernel
theorem dX10_coast_38 : decode cX10_coast 38 = .ok (.iconst 0, 1) := by decide +kernel
theorem dX10_coast_39 : decode cX10_coast 39 = .ok (.putfield 143, 3) := by decide +kernel
theorem dX10_coast_42 : decode cX10_coast 42 = .ok (.aload_n 0, 1) := by decide +kernel
theorem dX10_coast_43 : decode cX10_coast 43 = .ok (.getfield 24, 3) := by decide +kernel
theorem q_5_223 : Cond.code yX10_plain prog_12_method_4_code 2 none ∈ gw := gw_5 (i := 223) (rfl) rfl
theorem q_5_222 : Cond.static yX10_plain ∈ gw := gw_5 (i := 222) (by decide +kernel) rfl
theorem mt_X10_plain : MtS yX10_plain cX10_plain 2 none 1 := ⟨⟨q_5_223, q_1_9, by decide +kernel, by decide +kernel, by decide +kernel⟩, q_5_222⟩
theorem q_5_221 : Cond.methodLink "BeaconDelayModel" 93 yX10_plain ∈ gw := gw_5 (i := 221) (by decide +kernel) rfl
theorem dX10_coast_46 : decode cX10_coast 46 = .ok (.invokestatic 93, 3) := by decide +kernel
theorem dX10_coast_49 : decode cX10_coast 49 = .ok (.aload_n 0, 1) := by decide +kernel
theorem dX10_coast_50 : decode cX10_coast 50 = .ok (.invokevirtual 152, 3) := by decide +kernel
theorem dX10_coast_53 : decode cX10_coast 53 = .ok (.aload_n 0, 1) := by decide +kernel
theorem dX10_coast_54 : decode cX10_coast 54 = .ok (.iconst 0, 1) := by decide +kernel
theorem dX10_coast_55 : decode cX10_coast 55 = .ok (.invokevirtual 175, 3) := by decide +kernel
theorem dX10_coast_58 : decode cX10_coast 58 = .ok (.ifCond .ne 8, 3) := by decide +kernel
theorem dX10_coast_66 : decode cX10_coast 66 = .ok (.aload_n 0, 1) := by decide +kernel
theorem dX10_coast_67 : decode cX10_coast 67 = .ok (.getfield 24, 3) := by decide +kernel
theorem dX10_coast_70 : decode cX10_coast 70 = .ok (.bipush 51, 2) := by decide +kernel
theorem dX10_coast_72 : decode cX10_coast 72 = .ok (.aload_n 0, 1) := by decide +kernel
theorem dX10_coast_73 : decode cX10_coast 73 = .ok (.iconst 1, 1) := by decide +kernel
theorem dX10_coast_74 : decode cX10_coast 74 = .ok (.iconst 0, 1) := by decide +kernel
theorem dX10_coast_75 : decode cX10_coast 75 = .ok (.bipush 9, 2) := by decide +kernel
theorem dX10_coast_77 : decode cX10_coast 77 = .ok (.invokevirtual 200, 3) := by decide +kernel
theorem dX10_coast_80 : decode cX10_coast 80 = .ok (.iastore, 1) := by decide +kernel
theorem dX10_coast_81 : decode cX10_coast 81 = .ok (.aload_n 0, 1) := by decide +kernel
theorem q_6_162 : Cond.code yX10_closes prog_12_method_33_code 1 none ∈ gw := gw_6 (i := 162) (rfl) rfl
theorem q_6_161 : Cond.instanceMethod yX10_closes ∈ gw := gw_6 (i := 161) (by decide +kernel) rfl
theorem q_s_62 : Cond.selects "BeaconDelayModel" yX10_closes yX10_closes ∈ gw := gw_s (i := 62) (by decide +kernel) rfl
theorem mt_X10_closes : MtV yX10_closes cX10_closes 1 none 0 := ⟨⟨q_6_162, q_1_9, by decide +kernel, by decide +kernel, by decide +kernel⟩, q_6_161, q_s_62⟩
theorem q_6_159 : Cond.methodLink "BeaconDelayModel" 219 yX10_closes ∈ gw := gw_6 (i := 159) (by decide +kernel) rfl
theorem dX10_coast_82 : decode cX10_coast 82 = .ok (.invokevirtual 219, 3) := by decide +kernel
theorem dX10_coast_85 : decode cX10_coast 85 = .ok (.aload_n 0, 1) := by decide +kernel
theorem dX10_coast_86 : decode cX10_coast 86 = .ok (.getfield 143, 3) := by decide +kernel
theorem dX10_coast_89 : decode cX10_coast 89 = .ok (.ifCond .ne 23, 3) := by decide +kernel
theorem dX10_coast_112 : decode cX10_coast 112 = .ok (.aload_n 0, 1) := by decide +kernel
theorem dX10_coast_113 : decode cX10_coast 113 = .ok (.aload_n 0, 1) := by decide +kernel
theorem dX10_coast_114 : decode cX10_coast 114 = .ok (.getfield 143, 3) := by decide +kernel
theorem q_5_237 : Cond.fieldLink "BeaconDelayModel" 225 "BeaconDelayModel" "faultKind" "I" ∈ gw := gw_5 (i := 237) (by decide +kernel) rfl
theorem dX10_coast_117 : decode cX10_coast 117 = .ok (.putfield 225, 3) := by decide +kernel
theorem dX10_coast_120 : decode cX10_coast 120 = .ok (.aload_n 0, 1) := by decide +kernel
theorem dX10_coast_121 : decode cX10_coast 121 = .ok (.aload_n 0, 1) := by decide +kernel
theorem dX10_coast_122 : decode cX10_coast 122 = .ok (.getfield 143, 3) := by decide +kernel
theorem dX10_coast_125 : decode cX10_coast 125 = .ok (.ifCond .ne 7, 3) := by decide +kernel
theorem dX10_coast_132 : decode cX10_coast 132 = .ok (.aload_n 0, 1) := by decide +kernel
theorem dX10_coast_133 : decode cX10_coast 133 = .ok (.getfield 146, 3) := by decide +kernel
theorem q_5_238 : Cond.fieldLink "BeaconDelayModel" 27 "BeaconDelayModel" "faultPlace" "I" ∈ gw := gw_5 (i := 238) (by decide +kernel) rfl
theorem dX10_coast_136 : decode cX10_coast 136 = .ok (.putfield 27, 3) := by decide +kernel
theorem dX10_coast_139 : decode cX10_coast 139 = .ok (.aload_n 0, 1) := by decide +kernel
theorem dX10_coast_140 : decode cX10_coast 140 = .ok (.getfield 143, 3) := by decide +kernel
theorem dX10_coast_143 : decode cX10_coast 143 = .ok (.ifCond .eq 11, 3) := by decide +kernel
theorem dX10_coast_146 : decode cX10_coast 146 = .ok (.bipush (-30), 2) := by decide +kernel
theorem dX10_coast_148 : decode cX10_coast 148 = .ok (.aload_n 0, 1) := by decide +kernel
theorem dX10_coast_149 : decode cX10_coast 149 = .ok (.getfield 143, 3) := by decide +kernel
theorem dX10_coast_152 : decode cX10_coast 152 = .ok (.isub, 1) := by decide +kernel
theorem dX10_coast_153 : decode cX10_coast 153 = .ok (.ireturn, 1) := by decide +kernel
theorem dX10_coast_92 : decode cX10_coast 92 = .ok (.aload_n 0, 1) := by decide +kernel
theorem dX10_coast_93 : decode cX10_coast 93 = .ok (.getfield 125, 3) := by decide +kernel
theorem dX10_coast_96 : decode cX10_coast 96 = .ok (.bipush 24, 2) := by decide +kernel
theorem dX10_coast_98 : decode cX10_coast 98 = .ok (.if_icmp .eq 14, 3) := by decide +kernel
theorem dX10_coast_128 : decode cX10_coast 128 = .ok (.iconst (-1), 1) := by decide +kernel
theorem dX10_coast_129 : decode cX10_coast 129 = .ok (.goto 7, 3) := by decide +kernel
theorem dX10_coast_154 : decode cX10_coast 154 = .ok (.iconst 0, 1) := by decide +kernel
theorem dX10_coast_155 : decode cX10_coast 155 = .ok (.istore_n 2, 1) := by decide +kernel
theorem dX10_coast_156 : decode cX10_coast 156 = .ok (.iload_n 2, 1) := by decide +kernel
theorem dX10_coast_157 : decode cX10_coast 157 = .ok (.sipush 1025, 3) := by decide +kernel
theorem dX10_coast_160 : decode cX10_coast 160 = .ok (.if_icmp .ge 21, 3) := by decide +kernel
theorem dX10_coast_181 : decode cX10_coast 181 = .ok (.aload_n 0, 1) := by decide +kernel
theorem q_5_225 : Cond.fieldLink "BeaconDelayModel" 13 "BeaconDelayModel" "all" "[I" ∈ gw := gw_5 (i := 225) (by decide +kernel) rfl
theorem dX10_coast_182 : decode cX10_coast 182 = .ok (.getfield 13, 3) := by decide +kernel
theorem dX10_coast_185 : decode cX10_coast 185 = .ok (.iconst 0, 1) := by decide +kernel
theorem dX10_coast_186 : decode cX10_coast 186 = .ok (.iaload, 1) := by decide +kernel
theorem dX10_coast_187 : decode cX10_coast 187 = .ok (.ireturn, 1) := by decide +kernel
theorem dX10_coast_163 : decode cX10_coast 163 = .ok (.aload_n 0, 1) := by decide +kernel
theorem dX10_coast_164 : decode cX10_coast 164 = .ok (.getfield 13, 3) := by decide +kernel
theorem dX10_coast_167 : decode cX10_coast 167 = .ok (.iload_n 2, 1) := by decide +kernel
theorem dX10_coast_168 : decode cX10_coast 168 = .ok (.aload_n 0, 1) := by decide +kernel
theorem dX10_coast_169 : decode cX10_coast 169 = .ok (.getfield 24, 3) := by decide +kernel
theorem dX10_coast_172 : decode cX10_coast 172 = .ok (.iload_n 2, 1) := by decide +kernel
theorem dX10_coast_173 : decode cX10_coast 173 = .ok (.iaload, 1) := by decide +kernel
theorem dX10_coast_174 : decode cX10_coast 174 = .ok (.iastore, 1) := by decide +kernel
theorem dX10_coast_175 : decode cX10_coast 175 = .ok (.iinc 2 1, 3) := by decide +kernel
theorem dX10_coast_178 : decode cX10_coast 178 = .ok (.goto (-22), 3) := by decide +kernel
theorem dX10_coast_101 : decode cX10_coast 101 = .ok (.aload_n 0, 1) := by decide +kernel
theorem q_6_166 : Cond.code yX10_readLine prog_12_method_32_code 1 none ∈ gw := gw_6 (i := 166) (rfl) rfl
theorem q_6_165 : Cond.instanceMethod yX10_readLine ∈ gw := gw_6 (i := 165) (by decide +kernel) rfl
theorem q_s_63 : Cond.selects "BeaconDelayModel" yX10_readLine yX10_readLine ∈ gw := gw_s (i := 63) (by decide +kernel) rfl
theorem mt_X10_readLine : MtV yX10_readLine cX10_readLine 1 none 0 := ⟨⟨q_6_166, q_1_9, by decide +kernel, by decide +kernel, by decide +kernel⟩, q_6_165, q_s_63⟩
theorem q_6_163 : Cond.methodLink "BeaconDelayModel" 222 yX10_readLine ∈ gw := gw_6 (i := 163) (by decide +kernel) rfl
theorem dX10_coast_102 : decode cX10_coast 102 = .ok (.invokevirtual 222, 3) := by decide +kernel
theorem dX10_coast_105 : decode cX10_coast 105 = .ok (.aload_n 0, 1) := by decide +kernel
theorem dX10_coast_106 : decode cX10_coast 106 = .ok (.invokevirtual 219, 3) := by decide +kernel
theorem dX10_coast_109 : decode cX10_coast 109 = .ok (.goto (-24), 3) := by decide +kernel
theorem dX10_coast_61 : decode cX10_coast 61 = .ok (.aload_n 0, 1) := by decide +kernel
theorem dX10_coast_62 : decode cX10_coast 62 = .ok (.iconst 2, 1) := by decide +kernel
theorem dX10_coast_63 : decode cX10_coast 63 = .ok (.invokevirtual 155, 3) := by decide +kernel
theorem dX10_coast_19 : decode cX10_coast 19 = .ok (.bipush (-3), 2) := by decide +kernel
theorem dX10_coast_21 : decode cX10_coast 21 = .ok (.ireturn, 1) := by decide +kernel
set_option maxHeartbeats 4000000 in
set_option maxRecDepth 100000 in
theorem k_X10_coast_0 (l : Launch) (V : GV) (z : Nat → Nat) (a1 : Int32) (pz0_0 : Int32) (pz0_5 : Int32) (pz0_6 : Int32) (pz0_7 : Int32) (pz0_8 : Int32) (pz0_9 : Int32) (pz0_10 : Int32) (pz0_11 : Int32) (pz0_12 : Int32) (pz0_13 : Int32) (pz0_14 : Int32) (pz0_18 : Int32) (pz0_19 : Int32) (pz0_22 : Int32) (pz0_23 : Int32) (pz0_29 : Int32) (fz1 : Nat → Int32) (fz3 : Nat → Int32) (fz4 : Nat → Int32) (bpz0_5 : iv 0 900 pz0_5) (bpz0_6 : iv 0 900 pz0_6) (bpz0_7 : iv 0 900 pz0_7) (bpz0_8 : iv 0 900 pz0_8) (bpz0_10 : iv 0 999 pz0_10) (bpz0_11 : iv 0 4 pz0_11) (bpz0_12 : iv 0 900 pz0_12) (bpz0_13 : iv 0 4 pz0_13) (bpz0_14 : iv (-1) 900 pz0_14) (bpz0_18 : iv 0 2 pz0_18) (bpz0_22 : iv 0 9999 pz0_22) (bpz0_29 : iv 0 10000 pz0_29) (tfz1 : ivT tA fz1) (tfz3 : ∀ j, iv 0 255 (fz3 j)) (tfz4 : ivT tF fz4) (hf0 : RW fz1) : Ct l V yX10_coast (.code yX10_coast cX10_coast 3 (some .int)) 57 [.ref (z 0), .int a1] [(z 0, .inr (10, mo z pz0_0 pz0_5 pz0_6 pz0_7 pz0_8 pz0_9 pz0_10 pz0_11 pz0_12 pz0_13 pz0_14 pz0_18 pz0_19 pz0_22 pz0_23 pz0_29)), (z 1, aI V 3075 fz1), (z 3, aI V 900 fz3), (z 4, aI V 1025 fz4)] 0 0 (QI V (fun (r : Int32) (w : va_W) => ∃ (v0 : Int32) (v1 : Int32) (v2 : Int32) (v3 : Int32) (v4 : Int32) (v5 : Int32) (v6 : Int32) (v7 : Int32) (v8 : Int32) (v9 : Int32) (v10 : Int32) (g11 : Nat → Int32) (g12 : Nat → Int32), iv 0 900 v1 ∧ iv 0 900 v2 ∧ iv 0 900 v3 ∧ iv 0 900 v4 ∧ iv 0 999 v6 ∧ iv 0 4 v7 ∧ iv 0 900 v8 ∧ iv 0 4 v9 ∧ iv (-1) 900 v10 ∧ (ivT tA g11) ∧ (ivT tF g12) ∧ r = coF fz3 pz0_5 a1 ∧ (RW g11) ∧ (v1 = coS a1 pz0_5) ∧ (v9 = coW fz3 pz0_5 a1 pz0_13) ∧ (v10 = coA fz3 pz0_5 a1 pz0_14) ∧ w = [(z 0, .inr (10, mo z v0 v1 v2 v3 v4 v5 v6 v7 v8 v9 v10 pz0_18 pz0_19 pz0_22 pz0_23 pz0_29)), (z 1, aI V 3075 g11), (z 3, aI V 900 fz3), (z 4, aI V 1025 g12)])) := by
  refine Ct.of (by decide) (Nat.le_of_ble_eq_true rfl) (fun p e s m below meth c A ls hx hb hr hml hown hlk hnm hg hP hK hD hE hA hS hl => ?_)
  have hl : lv_has ls 3 [(0, .ref (z 0)), (1, .int a1)] := hl
  refine lv_aload_n hx hb dX10_coast_0 rfl (lv_at hl 0 rfl) ?_
  refine lv_iconst (v := 0) hx hb dX10_coast_1 (by decide) ?_
  refine va_put (ci := 10) (v := .int 0) (ty := .int) (C := RX10) (T := TX10) (N := 40) hx hb hg inX10 tyX10 tyX10_ok nmX10 hown hK hP hD hS 0 rfl rfl 0 (by decide) (hg _ q_5_224) (fun _ h9 => h9) rfl (by decide +kernel) rfl rfl (Nat.le_of_ble_eq_true rfl) dX10_coast_2 (fun H locs hP hD hS => ?_)
  have hP : va_P V.1 vwCl [(z 0, .inr (10, mo z 0 pz0_5 pz0_6 pz0_7 pz0_8 pz0_9 pz0_10 pz0_11 pz0_12 pz0_13 pz0_14 pz0_18 pz0_19 pz0_22 pz0_23 pz0_29)), (z 1, aI V 3075 fz1), (z 3, aI V 900 fz3), (z 4, aI V 1025 fz4)] H := hP
  have hD : va_D A [(z 0, .inr (10, mo z 0 pz0_5 pz0_6 pz0_7 pz0_8 pz0_9 pz0_10 pz0_11 pz0_12 pz0_13 pz0_14 pz0_18 pz0_19 pz0_22 pz0_23 pz0_29)), (z 1, aI V 3075 fz1), (z 3, aI V 900 fz3), (z 4, aI V 1025 fz4)] := hD
  refine lv_iload_n hx hb dX10_coast_5 rfl (lv_at hl 1 rfl) ?_
  refine lv_i2l hx hb dX10_coast_6 rfl ?_
  refine lv_topl (fun j_1 ej_1 => ?_)
  refine lv_lconst (v := 0) hx hb dX10_coast_7 (by decide) ?_
  refine lv_aload_n hx hb dX10_coast_8 rfl (lv_at hl 0 rfl) ?_
  refine va_get (ci := 10) (v := .int pz0_5) (C := RX10) (T := TX10) (N := 40) hx hb hg inX10 hown hK hP 0 rfl rfl 5 (by decide) (hg _ q_5_229) (fun _ h9 => h9) rfl dX10_coast_9 ?_
  refine lv_i2l hx hb dX10_coast_12 rfl ?_
  refine lv_topl (fun j_2 ej_2 => ?_)
  have bj_2 : ivL 0 900 j_2 := by rw [ej_2]; exact ivL_of bpz0_5
  refine jnI (wr := [(z 0, .inr (10, mo z 0 pz0_5 pz0_6 pz0_7 pz0_8 pz0_9 pz0_10 pz0_11 pz0_12 pz0_13 pz0_14 pz0_18 pz0_19 pz0_22 pz0_23 pz0_29)), (z 1, aI V 3075 fz1), (z 3, aI V 900 fz3), (z 4, aI V 1025 fz4)]) (rnS (rest := []) ⟨hx, hb, hml, hown, hg⟩ (k_X10_within_0 l V j_1 0 j_2) mt_X10_within q_6_114 ⟨Nat.le_of_ble_eq_true rfl, Nat.le_of_ble_eq_true rfl⟩ hK hP hD hS hA hE [] rfl rfl rfl hl.1 rfl (Nat.le_of_ble_eq_true rfl) dX10_coast_13 ⟨Nat.le_of_ble_eq_true rfl, Nat.le_of_ble_eq_true rfl⟩) hP hD hS hA [] [0, 1, 2, 3] rfl rfl rfl (by decide) (fun r_3 w H locs hw hP hD hS => ?_)
  obtain ⟨br_3, g_4, g_5, g_6, rfl⟩ := hw
  have hP : va_P V.1 vwCl [(z 0, .inr (10, mo z 0 pz0_5 pz0_6 pz0_7 pz0_8 pz0_9 pz0_10 pz0_11 pz0_12 pz0_13 pz0_14 pz0_18 pz0_19 pz0_22 pz0_23 pz0_29)), (z 1, aI V 3075 fz1), (z 3, aI V 900 fz3), (z 4, aI V 1025 fz4)] H := hP
  have hD : va_D A [(z 0, .inr (10, mo z 0 pz0_5 pz0_6 pz0_7 pz0_8 pz0_9 pz0_10 pz0_11 pz0_12 pz0_13 pz0_14 pz0_18 pz0_19 pz0_22 pz0_23 pz0_29)), (z 1, aI V 3075 fz1), (z 3, aI V 900 fz3), (z 4, aI V 1025 fz4)] := hD
  refine lv_if_ne (tgt := 22) hx hb dX10_coast_16 (by decide) (fun c_7 => ?_) (fun c_7 => ?_)
  · have b_8 : iv 1 1 r_3 := iv_n0 c_7 br_3 (iv_c (0 : Int32) (a := 0) (b := 0) (by decide)) (by decide)
    have c_9 : (0 : Int64) ≤ j_1 := (g_5 (iv_eqp b_8 (iv_c (1 : Int32) (by decide))))
    have b_10 : ivL 0 9223372036854775807 j_1 := ivL_e2 c_9 (ivL_c (0 : Int64) (a := 0) (b := 0) (by decide)) (ivL_top j_1) (by decide)
    have b_11 : iv 0 2147483647 a1 := iv_cap (ivL_i ej_1 b_10) (iv_top a1) (by decide)
    have c_12 : j_1 ≤ j_2 := (g_6 (iv_eqp b_8 (iv_c (1 : Int32) (by decide))))
    have b_13 : ivL 0 900 j_1 := ivL_e1 c_12 b_10 bj_2 (by decide)
    have b_14 : iv 0 900 a1 := iv_cap (ivL_i ej_1 b_13) b_11 (by decide)
    refine lv_aload_n hx hb dX10_coast_22 rfl (lv_at hl 0 rfl) ?_
    refine lv_iload_n hx hb dX10_coast_23 rfl (lv_at hl 1 rfl) ?_
    refine va_put (ci := 10) (v := .int a1) (ty := .int) (C := RX10) (T := TX10) (N := 40) hx hb hg inX10 tyX10 tyX10_ok nmX10 hown hK hP hD hS 0 rfl rfl 8 (by decide) (hg _ q_5_232) (fun _ h9 => h9) rfl (by decide +kernel) rfl rfl (Nat.le_of_ble_eq_true rfl) dX10_coast_24 (fun H locs hP hD hS => ?_)
    have hP : va_P V.1 vwCl [(z 0, .inr (10, mo z 0 pz0_5 pz0_6 pz0_7 a1 pz0_9 pz0_10 pz0_11 pz0_12 pz0_13 pz0_14 pz0_18 pz0_19 pz0_22 pz0_23 pz0_29)), (z 1, aI V 3075 fz1), (z 3, aI V 900 fz3), (z 4, aI V 1025 fz4)] H := hP
    have hD : va_D A [(z 0, .inr (10, mo z 0 pz0_5 pz0_6 pz0_7 a1 pz0_9 pz0_10 pz0_11 pz0_12 pz0_13 pz0_14 pz0_18 pz0_19 pz0_22 pz0_23 pz0_29)), (z 1, aI V 3075 fz1), (z 3, aI V 900 fz3), (z 4, aI V 1025 fz4)] := hD
    refine lv_aload_n hx hb dX10_coast_27 rfl (lv_at hl 0 rfl) ?_
    refine lv_iconst (v := 0) hx hb dX10_coast_28 (by decide) ?_
    refine va_put (ci := 10) (v := .int 0) (ty := .int) (C := RX10) (T := TX10) (N := 40) hx hb hg inX10 tyX10 tyX10_ok nmX10 hown hK hP hD hS 0 rfl rfl 5 (by decide) (hg _ q_5_229) (fun _ h9 => h9) rfl (by decide +kernel) rfl rfl (Nat.le_of_ble_eq_true rfl) dX10_coast_29 (fun H locs hP hD hS => ?_)
    have hP : va_P V.1 vwCl [(z 0, .inr (10, mo z 0 0 pz0_6 pz0_7 a1 pz0_9 pz0_10 pz0_11 pz0_12 pz0_13 pz0_14 pz0_18 pz0_19 pz0_22 pz0_23 pz0_29)), (z 1, aI V 3075 fz1), (z 3, aI V 900 fz3), (z 4, aI V 1025 fz4)] H := hP
    have hD : va_D A [(z 0, .inr (10, mo z 0 0 pz0_6 pz0_7 a1 pz0_9 pz0_10 pz0_11 pz0_12 pz0_13 pz0_14 pz0_18 pz0_19 pz0_22 pz0_23 pz0_29)), (z 1, aI V 3075 fz1), (z 3, aI V 900 fz3), (z 4, aI V 1025 fz4)] := hD
    refine lv_aload_n hx hb dX10_coast_32 rfl (lv_at hl 0 rfl) ?_
    refine lv_iconst (v := 0) hx hb dX10_coast_33 (by decide) ?_
    refine va_put (ci := 10) (v := .int 0) (ty := .int) (C := RX10) (T := TX10) (N := 40) hx hb hg inX10 tyX10 tyX10_ok nmX10 hown hK hP hD hS 0 rfl rfl 7 (by decide) (hg _ q_5_231) (fun _ h9 => h9) rfl (by decide +kernel) rfl rfl (Nat.le_of_ble_eq_true rfl) dX10_coast_34 (fun H locs hP hD hS => ?_)
    have hP : va_P V.1 vwCl [(z 0, .inr (10, mo z 0 0 pz0_6 0 a1 pz0_9 pz0_10 pz0_11 pz0_12 pz0_13 pz0_14 pz0_18 pz0_19 pz0_22 pz0_23 pz0_29)), (z 1, aI V 3075 fz1), (z 3, aI V 900 fz3), (z 4, aI V 1025 fz4)] H := hP
    have hD : va_D A [(z 0, .inr (10, mo z 0 0 pz0_6 0 a1 pz0_9 pz0_10 pz0_11 pz0_12 pz0_13 pz0_14 pz0_18 pz0_19 pz0_22 pz0_23 pz0_29)), (z 1, aI V 3075 fz1), (z 3, aI V 900 fz3), (z 4, aI V 1025 fz4)] := hD
    refine lv_aload_n hx hb dX10_coast_37 rfl (lv_at hl 0 rfl) ?_
    refine lv_iconst (v := 0) hx hb dX10_coast_38 (by decide) ?_
    refine va_put (ci := 10) (v := .int 0) (ty := .int) (C := RX10) (T := TX10) (N := 40) hx hb hg inX10 tyX10 tyX10_ok nmX10 hown hK hP hD hS 0 rfl rfl 11 (by decide) (hg _ q_5_235) (fun _ h9 => h9) rfl (by decide +kernel) rfl rfl (Nat.le_of_ble_eq_true rfl) dX10_coast_39 (fun H locs hP hD hS => ?_)
    have hP : va_P V.1 vwCl [(z 0, .inr (10, mo z 0 0 pz0_6 0 a1 pz0_9 pz0_10 0 pz0_12 pz0_13 pz0_14 pz0_18 pz0_19 pz0_22 pz0_23 pz0_29)), (z 1, aI V 3075 fz1), (z 3, aI V 900 fz3), (z 4, aI V 1025 fz4)] H := hP
    have hD : va_D A [(z 0, .inr (10, mo z 0 0 pz0_6 0 a1 pz0_9 pz0_10 0 pz0_12 pz0_13 pz0_14 pz0_18 pz0_19 pz0_22 pz0_23 pz0_29)), (z 1, aI V 3075 fz1), (z 3, aI V 900 fz3), (z 4, aI V 1025 fz4)] := hD
    refine lv_aload_n hx hb dX10_coast_42 rfl (lv_at hl 0 rfl) ?_
    refine va_get (ci := 10) (v := .ref (z 4)) (C := RX10) (T := TX10) (N := 40) hx hb hg inX10 hown hK hP 0 rfl rfl 4 (by decide) (hg _ q_5_228) (fun _ h9 => h9) rfl dX10_coast_43 ?_
    refine jnV (wr := [(z 0, .inr (10, mo z 0 0 pz0_6 0 a1 pz0_9 pz0_10 0 pz0_12 pz0_13 pz0_14 pz0_18 pz0_19 pz0_22 pz0_23 pz0_29)), (z 1, aI V 3075 fz1), (z 3, aI V 900 fz3)]) (rnS (rest := []) ⟨hx, hb, hml, hown, hg⟩ (k_X10_plain_0 l V z fz4 tfz4) mt_X10_plain q_5_221 ⟨Nat.le_of_ble_eq_true rfl, Nat.le_of_ble_eq_true rfl⟩ hK hP hD hS hA hE [3] rfl rfl rfl hl.1 rfl (Nat.le_of_ble_eq_true rfl) dX10_coast_46 ⟨Nat.le_of_ble_eq_true rfl, Nat.le_of_ble_eq_true rfl⟩) hP hD hS hA [3] [0, 1, 2] rfl rfl rfl (by decide) (fun  w H locs hw hP hD hS => ?_)
    obtain ⟨f_15, tf_15, g_16, rfl⟩ := hw
    have hP : va_P V.1 vwCl [(z 0, .inr (10, mo z 0 0 pz0_6 0 a1 pz0_9 pz0_10 0 pz0_12 pz0_13 pz0_14 pz0_18 pz0_19 pz0_22 pz0_23 pz0_29)), (z 1, aI V 3075 fz1), (z 3, aI V 900 fz3), (z 4, aI V 1025 f_15)] H := hP
    have hD : va_D A [(z 0, .inr (10, mo z 0 0 pz0_6 0 a1 pz0_9 pz0_10 0 pz0_12 pz0_13 pz0_14 pz0_18 pz0_19 pz0_22 pz0_23 pz0_29)), (z 1, aI V 3075 fz1), (z 3, aI V 900 fz3), (z 4, aI V 1025 f_15)] := hD
    refine lv_aload_n hx hb dX10_coast_49 rfl (lv_at hl 0 rfl) ?_
    refine jnV (wr := [(z 1, aI V 3075 fz1), (z 4, aI V 1025 f_15)]) (rnV (rest := []) ⟨hx, hb, hml, hown, hg⟩ (k_X10_next_0 l V z 0 0 pz0_6 0 a1 pz0_9 pz0_10 0 pz0_12 pz0_13 pz0_14 pz0_18 pz0_19 pz0_22 pz0_23 pz0_29 fz3 (iv_c (0 : Int32) (by decide)) bpz0_6 (iv_c (0 : Int32) (by decide)) b_14 bpz0_10 (iv_c (0 : Int32) (by decide)) bpz0_12 bpz0_13 bpz0_14 bpz0_18 bpz0_22 bpz0_29 tfz3 (by have q9 := b_14; have z9 : (0 : Int32).toInt = 0 := (by decide); unfold iv at q9; omega)) mt_X10_next q_6_117 ⟨Nat.le_of_ble_eq_true rfl, Nat.le_of_ble_eq_true rfl⟩ hK hP hD hS hA hE [0, 2] rfl rfl 0 rfl rfl rfl rfl hl.1 rfl (Nat.le_of_ble_eq_true rfl) dX10_coast_50 ⟨Nat.le_of_ble_eq_true rfl, Nat.le_of_ble_eq_true rfl⟩) hP hD hS hA [0, 2] [1, 3] rfl rfl rfl (by decide) (fun  w H locs hw hP hD hS => ?_)
    obtain ⟨v_17, v_18, v_19, v_20, bv_17, bv_18, bv_20, g_21, g_22, g_23, rfl⟩ := hw
    have hP : va_P V.1 vwCl [(z 1, aI V 3075 fz1), (z 4, aI V 1025 f_15), (z 0, .inr (10, mo z 0 0 v_17 v_18 a1 v_19 v_20 0 pz0_12 pz0_13 pz0_14 pz0_18 pz0_19 pz0_22 pz0_23 pz0_29)), (z 3, aI V 900 fz3)] H := hP
    have hD : va_D A [(z 1, aI V 3075 fz1), (z 4, aI V 1025 f_15), (z 0, .inr (10, mo z 0 0 v_17 v_18 a1 v_19 v_20 0 pz0_12 pz0_13 pz0_14 pz0_18 pz0_19 pz0_22 pz0_23 pz0_29)), (z 3, aI V 900 fz3)] := hD
    refine lv_aload_n hx hb dX10_coast_53 rfl (lv_at hl 0 rfl) ?_
    refine lv_iconst (v := 0) hx hb dX10_coast_54 (by decide) ?_
    refine jnI (wr := [(z 1, aI V 3075 fz1), (z 4, aI V 1025 f_15)]) (rnV (rest := []) ⟨hx, hb, hml, hown, hg⟩ (k_X10_eats_0 l V z 0 0 v_17 v_18 a1 v_19 v_20 0 pz0_12 pz0_13 pz0_14 pz0_18 pz0_19 pz0_22 pz0_23 pz0_29 fz3 (iv_c (0 : Int32) (by decide)) bv_17 bv_18 b_14 bv_20 (iv_c (0 : Int32) (by decide)) bpz0_12 bpz0_13 bpz0_14 bpz0_18 bpz0_22 bpz0_29 tfz3 g_21) mt_X10_eats q_6_139 ⟨Nat.le_of_ble_eq_true rfl, Nat.le_of_ble_eq_true rfl⟩ hK hP hD hS hA hE [2, 3] rfl rfl 2 rfl rfl rfl rfl hl.1 rfl (Nat.le_of_ble_eq_true rfl) dX10_coast_55 ⟨Nat.le_of_ble_eq_true rfl, Nat.le_of_ble_eq_true rfl⟩) hP hD hS hA [2, 3] [0, 1] rfl rfl rfl (by decide) (fun r_24 w H locs hw hP hD hS => ?_)
    obtain ⟨v_25, v_26, v_27, v_28, bv_25, bv_26, bv_28, br_24, g_29, g_30, g_31, g_32, g_33, rfl⟩ := hw
    have hP : va_P V.1 vwCl [(z 1, aI V 3075 fz1), (z 4, aI V 1025 f_15), (z 0, .inr (10, mo z 0 0 v_25 v_26 a1 v_27 v_28 0 pz0_12 pz0_13 pz0_14 pz0_18 pz0_19 pz0_22 pz0_23 pz0_29)), (z 3, aI V 900 fz3)] H := hP
    have hD : va_D A [(z 1, aI V 3075 fz1), (z 4, aI V 1025 f_15), (z 0, .inr (10, mo z 0 0 v_25 v_26 a1 v_27 v_28 0 pz0_12 pz0_13 pz0_14 pz0_18 pz0_19 pz0_22 pz0_23 pz0_29)), (z 3, aI V 900 fz3)] := hD
    refine lv_if_ne (tgt := 66) hx hb dX10_coast_58 (by decide) (fun c_34 => ?_) (fun c_34 => ?_)
    · have b_35 : iv 1 1 r_24 := iv_n0 c_34 br_24 (iv_c (0 : Int32) (a := 0) (b := 0) (by decide)) (by decide)
      refine lv_aload_n hx hb dX10_coast_66 rfl (lv_at hl 0 rfl) ?_
      refine va_get (ci := 10) (v := .ref (z 4)) (C := RX10) (T := TX10) (N := 40) hx hb hg inX10 hown hK hP 2 rfl rfl 4 (by decide) (hg _ q_5_228) (fun _ h9 => h9) rfl dX10_coast_67 ?_
      refine lv_bipush (v := 51) hx hb dX10_coast_70 (by decide) ?_
      refine lv_aload_n hx hb dX10_coast_72 rfl (lv_at hl 0 rfl) ?_
      refine lv_iconst (v := 1) hx hb dX10_coast_73 (by decide) ?_
      refine lv_iconst (v := 0) hx hb dX10_coast_74 (by decide) ?_
      refine lv_bipush (v := 9) hx hb dX10_coast_75 (by decide) ?_
      refine jnI (wr := [(z 1, aI V 3075 fz1), (z 4, aI V 1025 f_15)]) (rnV (rest := [.int 51, .ref (z 4)]) ⟨hx, hb, hml, hown, hg⟩ (k_X10_named_0 l V z 0 9 0 0 v_25 v_26 a1 v_27 v_28 0 pz0_12 pz0_13 pz0_14 pz0_18 pz0_19 pz0_22 pz0_23 pz0_29 fz3 (iv_c (0 : Int32) (by decide)) bv_25 bv_26 b_14 bv_28 (iv_c (0 : Int32) (by decide)) bpz0_12 bpz0_13 bpz0_14 bpz0_18 bpz0_22 bpz0_29 tfz3 g_29) mt_X10_named q_6_151 ⟨Nat.le_of_ble_eq_true rfl, Nat.le_of_ble_eq_true rfl⟩ hK hP hD hS hA hE [2, 3] rfl rfl 2 rfl rfl rfl rfl hl.1 rfl (Nat.le_of_ble_eq_true rfl) dX10_coast_77 ⟨Nat.le_of_ble_eq_true rfl, Nat.le_of_ble_eq_true rfl⟩) hP hD hS hA [2, 3] [0, 1] rfl rfl rfl (by decide) (fun r_36 w H locs hw hP hD hS => ?_)
      obtain ⟨v_37, v_38, v_39, v_40, v_41, v_42, bv_37, bv_38, bv_40, bv_41, bv_42, br_36, g_43, g_44, g_45, g_46, g_47, rfl⟩ := hw
      have hP : va_P V.1 vwCl [(z 1, aI V 3075 fz1), (z 4, aI V 1025 f_15), (z 0, .inr (10, mo z 0 0 v_37 v_38 a1 v_39 v_40 v_41 v_42 pz0_13 pz0_14 pz0_18 pz0_19 pz0_22 pz0_23 pz0_29)), (z 3, aI V 900 fz3)] H := hP
      have hD : va_D A [(z 1, aI V 3075 fz1), (z 4, aI V 1025 f_15), (z 0, .inr (10, mo z 0 0 v_37 v_38 a1 v_39 v_40 v_41 v_42 pz0_13 pz0_14 pz0_18 pz0_19 pz0_22 pz0_23 pz0_29)), (z 3, aI V 900 fz3)] := hD
      refine va_iast hx hb hK hP hD hS 1 0 rfl rfl (vin (by decide +kernel)) dX10_coast_80 (fun H locs hP hD hS => ?_)
      obtain ⟨f_48, ef_48, tf_48, hP, hD⟩ : ∃ f_48 : Nat → Int32, f_48 = (upd f_15 (51 : Int32).toNatClampNeg r_36) ∧ (ivT tF f_48) ∧ va_P V.1 vwCl [(z 1, aI V 3075 fz1), (z 4, aI V 1025 f_48), (z 0, .inr (10, mo z 0 0 v_37 v_38 a1 v_39 v_40 v_41 v_42 pz0_13 pz0_14 pz0_18 pz0_19 pz0_22 pz0_23 pz0_29)), (z 3, aI V 900 fz3)] H ∧ va_D A [(z 1, aI V 3075 fz1), (z 4, aI V 1025 f_48), (z 0, .inr (10, mo z 0 0 v_37 v_38 a1 v_39 v_40 v_41 v_42 pz0_13 pz0_14 pz0_18 pz0_19 pz0_22 pz0_23 pz0_29)), (z 3, aI V 900 fz3)] := ⟨_, rfl, upT (lo := (-2147483648)) (hi := 2147483647) (a := 51) (n := 1) tf_15 (iv_c (51 : Int32) (a := 51) (b := 51) (by decide)) (by decide) (iv_w br_36 (by decide)) (by decide +kernel), hP, hD⟩
      refine lv_aload_n hx hb dX10_coast_81 rfl (lv_at hl 0 rfl) ?_
      refine jnV (wr := [(z 1, aI V 3075 fz1)]) (rnV (rest := []) ⟨hx, hb, hml, hown, hg⟩ (k_X10_closes_0 l V z f_48 0 0 v_37 v_38 a1 v_39 v_40 v_41 v_42 pz0_13 pz0_14 pz0_18 pz0_19 pz0_22 pz0_23 pz0_29 fz3 tf_48 (iv_c (0 : Int32) (by decide)) bv_37 bv_38 b_14 bv_40 bv_41 bv_42 bpz0_13 bpz0_14 bpz0_18 bpz0_22 bpz0_29 tfz3 g_43 (PS_up (lo := 0) (hi := 9) (c := 0) (k := 1) (i := 51) (n := 1) (PS_0 g_16 (by decide) (by have q9 := bv_37; unfold iv at q9; omega)) ef_48 (show (51 : Int32).toInt = 0 + 1 * (51 : Int32).toInt from (by omega)) (iv_c (51 : Int32) (a := 51) (b := 51) (by decide)) (by decide) (by decide +kernel) (fun q7 => by have q8 := g_46 ((fun q9 => q9) q7); have z_0 : (0 : Int32).toInt = 0 := (by decide); have z_9 : (9 : Int32).toInt = 9 := (by decide); exact ⟨by omega, by omega⟩) (iv_c (51 : Int32) (a := 51) (b := 51) (by decide)) (by decide))) mt_X10_closes q_6_159 ⟨Nat.le_of_ble_eq_true rfl, Nat.le_of_ble_eq_true rfl⟩ hK hP hD hS hA hE [1, 2, 3] rfl rfl 2 rfl rfl rfl rfl hl.1 rfl (Nat.le_of_ble_eq_true rfl) dX10_coast_82 ⟨Nat.le_of_ble_eq_true rfl, Nat.le_of_ble_eq_true rfl⟩) hP hD hS hA [1, 2, 3] [0] rfl rfl rfl (by decide) (fun  w H locs hw hP hD hS => ?_)
      obtain ⟨f_49, v_50, v_51, v_52, v_53, v_54, v_55, tf_49, bv_50, bv_51, bv_53, bv_54, bv_55, g_56, g_57, g_58, g_59, g_60, g_61, rfl⟩ := hw
      have hP : va_P V.1 vwCl [(z 1, aI V 3075 fz1), (z 4, aI V 1025 f_49), (z 0, .inr (10, mo z 0 0 v_50 v_51 a1 v_52 v_53 v_54 v_55 pz0_13 pz0_14 pz0_18 pz0_19 pz0_22 pz0_23 pz0_29)), (z 3, aI V 900 fz3)] H := hP
      have hD : va_D A [(z 1, aI V 3075 fz1), (z 4, aI V 1025 f_49), (z 0, .inr (10, mo z 0 0 v_50 v_51 a1 v_52 v_53 v_54 v_55 pz0_13 pz0_14 pz0_18 pz0_19 pz0_22 pz0_23 pz0_29)), (z 3, aI V 900 fz3)] := hD
      refine loopF (X := fun (n_69 : Nat) (H : Heap) (locs : List Loc) (ls : Array Slot) => ∃ (f_62 : Nat → Int32) (u_63 : Int32) (u_64 : Int32) (u_65 : Int32) (u_66 : Int32) (u_67 : Int32) (u_68 : Int32), (ivT tF f_62) ∧ (iv 0 900 u_63) ∧ (iv 0 900 u_64) ∧ (iv 0 999 u_66) ∧ (iv 0 4 u_67) ∧ (iv 0 900 u_68) ∧ (∃ (q8 : Sg) (d8 : Nat → Int32) (m8 : Nat), RZ fz3 a1 q8 u_67 u_68 u_65 u_63 u_64 u_66 ∧ RD q8.1 d8 (f_62 (0 : Int32).toNatClampNeg) (f_62 (1 : Int32).toNatClampNeg) (f_62 (2 : Int32).toNatClampNeg) (f_62 (3 : Int32).toNatClampNeg) ∧ (q8.1 = 0 → 900 ≤ (m8 : Int) + (u_63 : Int32).toInt) ∧ lpP (tkX fz3 a1) m8 (q8, d8) = txP (tkX fz3 a1)) ∧ (PT u_63 u_64 a1 u_65) ∧ (PS u_67 u_63 f_62) ∧ (RW fz1) ∧ n_69 = (2 * (900 - (u_63 : Int32).toInt) + wz u_67).toNat ∧ va_P V.1 vwCl [(z 1, aI V 3075 fz1), (z 4, aI V 1025 f_62), (z 0, .inr (10, mo z 0 0 u_63 u_64 a1 u_65 u_66 u_67 u_68 pz0_13 pz0_14 pz0_18 pz0_19 pz0_22 pz0_23 pz0_29)), (z 3, aI V 900 fz3)] H ∧ va_D A [(z 1, aI V 3075 fz1), (z 4, aI V 1025 f_62), (z 0, .inr (10, mo z 0 0 u_63 u_64 a1 u_65 u_66 u_67 u_68 pz0_13 pz0_14 pz0_18 pz0_19 pz0_22 pz0_23 pz0_29)), (z 3, aI V 900 fz3)] ∧ va_S A s.heap H locs ∧ lv_has ls 3 [(0, .ref (z 0)), (1, .int a1)]) (g := fun ls => F0 m 85 ls []) (fun n_69 H locs ls hX ihn_69 => ?_) _ ⟨f_49, v_50, v_51, v_52, v_53, v_54, v_55, tf_49, bv_50, bv_51, bv_53, bv_54, bv_55, (by have h9 := RZ_0 (wa := pz0_12) b_14.1 g_23; obtain ⟨b_1, h_1⟩ := (g_33 _ h9).1 (iv_eqp b_35 (iv_c (1 : Int32) (by decide))); have h_1x := RZ_cg (exP_1 b_1) h_1; have h_2 := g_47 rfl _ h_1x; obtain ⟨h7, g7⟩ := g_61 _ (fun _ => 0) h_2 (fun _ => ⟨((show f_48 (0 : Int32).toNatClampNeg = f_15 (0 : Int32).toNatClampNeg from by rw [ef_48]; exact upd_ne (cl_ne (iv_c (0 : Int32) (a := 0) (b := 0) (by decide)) (iv_c (51 : Int32) (a := 51) (b := 51) (by decide)) (by decide))).trans (g_16 0 (by decide))), ((show f_48 (1 : Int32).toNatClampNeg = f_15 (1 : Int32).toNatClampNeg from by rw [ef_48]; exact upd_ne (cl_ne (iv_c (1 : Int32) (a := 1) (b := 1) (by decide)) (iv_c (51 : Int32) (a := 51) (b := 51) (by decide)) (by decide))).trans (g_16 1 (by decide))), ((show f_48 (2 : Int32).toNatClampNeg = f_15 (2 : Int32).toNatClampNeg from by rw [ef_48]; exact upd_ne (cl_ne (iv_c (2 : Int32) (a := 2) (b := 2) (by decide)) (iv_c (51 : Int32) (a := 51) (b := 51) (by decide)) (by decide))).trans (g_16 2 (by decide))), ((show f_48 (3 : Int32).toNatClampNeg = f_15 (3 : Int32).toNatClampNeg from by rw [ef_48]; exact upd_ne (cl_ne (iv_c (3 : Int32) (a := 3) (b := 3) (by decide)) (iv_c (51 : Int32) (a := 51) (b := 51) (by decide)) (by decide))).trans (g_16 3 (by decide)))⟩); exact ⟨_, _, 900, h7, g7, fun _ => by have z9 := bv_50; unfold iv at z9; omega, rfl⟩), g_56, g_57, hf0, rfl, hP, hD, hS, lv_sub hl [0, 1] rfl⟩
      obtain ⟨f_62, u_63, u_64, u_65, u_66, u_67, u_68, tf_62, bu_63, bu_64, bu_66, bu_67, bu_68, inn_69_0, inn_69_1, inn_69_2, inn_69_3, en_69, hP, hD, hS, hl⟩ := hX
      refine lv_aload_n hx hb dX10_coast_85 rfl (lv_at hl 0 rfl) ?_
      refine va_get (ci := 10) (v := .int u_67) (C := RX10) (T := TX10) (N := 40) hx hb hg inX10 hown hK hP 2 rfl rfl 11 (by decide) (hg _ q_5_235) (fun _ h9 => h9) rfl dX10_coast_86 ?_
      refine lv_if_ne (tgt := 112) hx hb dX10_coast_89 (by decide) (fun c_70 => ?_) (fun c_70 => ?_)
      · have b_71 : iv 1 4 u_67 := iv_n0 c_70 bu_67 (iv_c (0 : Int32) (a := 0) (b := 0) (by decide)) (by decide)
        refine lv_aload_n hx hb dX10_coast_112 rfl (lv_at hl 0 rfl) ?_
        refine lv_aload_n hx hb dX10_coast_113 rfl (lv_at hl 0 rfl) ?_
        refine va_get (ci := 10) (v := .int u_67) (C := RX10) (T := TX10) (N := 40) hx hb hg inX10 hown hK hP 2 rfl rfl 11 (by decide) (hg _ q_5_235) (fun _ h9 => h9) rfl dX10_coast_114 ?_
        refine va_put (ci := 10) (v := .int u_67) (ty := .int) (C := RX10) (T := TX10) (N := 40) hx hb hg inX10 tyX10 tyX10_ok nmX10 hown hK hP hD hS 2 rfl rfl 13 (by decide) (hg _ q_5_237) (fun _ h9 => h9) rfl (by decide +kernel) rfl rfl (Nat.le_of_ble_eq_true rfl) dX10_coast_117 (fun H locs hP hD hS => ?_)
        have hP : va_P V.1 vwCl [(z 1, aI V 3075 fz1), (z 4, aI V 1025 f_62), (z 0, .inr (10, mo z 0 0 u_63 u_64 a1 u_65 u_66 u_67 u_68 u_67 pz0_14 pz0_18 pz0_19 pz0_22 pz0_23 pz0_29)), (z 3, aI V 900 fz3)] H := hP
        have hD : va_D A [(z 1, aI V 3075 fz1), (z 4, aI V 1025 f_62), (z 0, .inr (10, mo z 0 0 u_63 u_64 a1 u_65 u_66 u_67 u_68 u_67 pz0_14 pz0_18 pz0_19 pz0_22 pz0_23 pz0_29)), (z 3, aI V 900 fz3)] := hD
        refine lv_aload_n hx hb dX10_coast_120 rfl (lv_at hl 0 rfl) ?_
        refine lv_aload_n hx hb dX10_coast_121 rfl (lv_at hl 0 rfl) ?_
        refine va_get (ci := 10) (v := .int u_67) (C := RX10) (T := TX10) (N := 40) hx hb hg inX10 hown hK hP 2 rfl rfl 11 (by decide) (hg _ q_5_235) (fun _ h9 => h9) rfl dX10_coast_122 ?_
        refine lv_if_ne (tgt := 132) hx hb dX10_coast_125 (by decide) (fun _ => ?_) (fun c_73 => absurd c_73 c_70)
        refine lv_aload_n hx hb dX10_coast_132 rfl (lv_at hl 0 rfl) ?_
        refine va_get (ci := 10) (v := .int u_68) (C := RX10) (T := TX10) (N := 40) hx hb hg inX10 hown hK hP 2 rfl rfl 12 (by decide) (hg _ q_5_236) (fun _ h9 => h9) rfl dX10_coast_133 ?_
        refine va_put (ci := 10) (v := .int u_68) (ty := .int) (C := RX10) (T := TX10) (N := 40) hx hb hg inX10 tyX10 tyX10_ok nmX10 hown hK hP hD hS 2 rfl rfl 14 (by decide) (hg _ q_5_238) (fun _ h9 => h9) rfl (by decide +kernel) rfl rfl (Nat.le_of_ble_eq_true rfl) dX10_coast_136 (fun H locs hP hD hS => ?_)
        have hP : va_P V.1 vwCl [(z 1, aI V 3075 fz1), (z 4, aI V 1025 f_62), (z 0, .inr (10, mo z 0 0 u_63 u_64 a1 u_65 u_66 u_67 u_68 u_67 u_68 pz0_18 pz0_19 pz0_22 pz0_23 pz0_29)), (z 3, aI V 900 fz3)] H := hP
        have hD : va_D A [(z 1, aI V 3075 fz1), (z 4, aI V 1025 f_62), (z 0, .inr (10, mo z 0 0 u_63 u_64 a1 u_65 u_66 u_67 u_68 u_67 u_68 pz0_18 pz0_19 pz0_22 pz0_23 pz0_29)), (z 3, aI V 900 fz3)] := hD
        refine lv_aload_n hx hb dX10_coast_139 rfl (lv_at hl 0 rfl) ?_
        refine va_get (ci := 10) (v := .int u_67) (C := RX10) (T := TX10) (N := 40) hx hb hg inX10 hown hK hP 2 rfl rfl 11 (by decide) (hg _ q_5_235) (fun _ h9 => h9) rfl dX10_coast_140 ?_
        refine lv_if_eq (tgt := 154) hx hb dX10_coast_143 (by decide) (fun c_75 => absurd c_75 c_70) (fun _ => ?_)
        refine lv_bipush (v := (-30)) hx hb dX10_coast_146 (by decide) ?_
        refine lv_aload_n hx hb dX10_coast_148 rfl (lv_at hl 0 rfl) ?_
        refine va_get (ci := 10) (v := .int u_67) (C := RX10) (T := TX10) (N := 40) hx hb hg inX10 hown hK hP 2 rfl rfl 11 (by decide) (hg _ q_5_235) (fun _ h9 => h9) rfl dX10_coast_149 ?_
        refine lv_isub hx hb dX10_coast_152 ?_
        refine lv_topi (fun x_76 ex_76 => ?_)
        have bx_76 : iv (-34) (-31) x_76 := by rw [ex_76]; exact iv_sub (iv_c ((-30) : Int32) (a := (-30)) (b := (-30)) (by decide)) b_71 (by decide)
        have hP := subP (ws' := [(z 0, .inr (10, mo z 0 0 u_63 u_64 a1 u_65 u_66 u_67 u_68 u_67 u_68 pz0_18 pz0_19 pz0_22 pz0_23 pz0_29)), (z 1, aI V 3075 fz1), (z 3, aI V 900 fz3), (z 4, aI V 1025 f_62)]) hP [2, 0, 3, 1] rfl
        have hD := hD.sub (ws' := [(z 0, .inr (10, mo z 0 0 u_63 u_64 a1 u_65 u_66 u_67 u_68 u_67 u_68 pz0_18 pz0_19 pz0_22 pz0_23 pz0_29)), (z 1, aI V 3075 fz1), (z 3, aI V 900 fz3), (z 4, aI V 1025 f_62)]) [2, 0, 3, 1] rfl rfl
        exact fiI hx hb hr hlk hK hP hD hS dX10_coast_153 (Nat.le_of_ble_eq_true rfl) (Nat.le_of_ble_eq_true rfl) (⟨0, 0, u_63, u_64, a1, u_65, u_66, u_67, u_68, u_67, u_68, fz1, f_62, (iv_c (0 : Int32) (by decide)), bu_63, bu_64, b_14, bu_66, (iv_w b_71 (by decide)), bu_68, (iv_w b_71 (by decide)), (iv_w bu_68 (by decide)), tfz1, tf_62, (co_f (ln := 0) (wt_y ej_1 ej_2 c_9 c_12 (by decide)) (by obtain ⟨q8, d8, m8, h8, g8, f8, e8⟩ := inn_69_0; exact RE_z h8 g8 ((lpP_0 (lp_w h8 (iv_nz b_71 (by decide))) _).symm.trans e8) (fun w9 => absurd w9 (iv_nz b_71 (by decide))) (fun w9 => absurd w9 (iv_nz b_71 (by decide))) (fun _ => rfl) (fun w9 => absurd w9 (iv_nz b_71 (by decide)))) (iv_nz b_71 (by decide)) ex_76), inn_69_3, (co_0 (wt_1 ej_1 ej_2 c_9 c_12 (by decide))), (cw_1 (ln := 0) (wt_y ej_1 ej_2 c_9 c_12 (by decide)) (by obtain ⟨q8, d8, m8, h8, g8, f8, e8⟩ := inn_69_0; exact RE_z h8 g8 ((lpP_0 (lp_w h8 (iv_nz b_71 (by decide))) _).symm.trans e8) (fun w9 => absurd w9 (iv_nz b_71 (by decide))) (fun w9 => absurd w9 (iv_nz b_71 (by decide))) (fun _ => rfl) (fun w9 => absurd w9 (iv_nz b_71 (by decide))))), (ca_1 (ln := 0) (wt_y ej_1 ej_2 c_9 c_12 (by decide)) (by obtain ⟨q8, d8, m8, h8, g8, f8, e8⟩ := inn_69_0; exact RE_z h8 g8 ((lpP_0 (lp_w h8 (iv_nz b_71 (by decide))) _).symm.trans e8) (fun w9 => absurd w9 (iv_nz b_71 (by decide))) (fun w9 => absurd w9 (iv_nz b_71 (by decide))) (fun _ => rfl) (fun w9 => absurd w9 (iv_nz b_71 (by decide))))), rfl⟩)
      · have b_77 : iv 0 0 u_67 := iv_q c_70 (iv_c (0 : Int32) (a := 0) (b := 0) (by decide))
        refine lv_aload_n hx hb dX10_coast_92 rfl (lv_at hl 0 rfl) ?_
        refine va_get (ci := 10) (v := .int u_65) (C := RX10) (T := TX10) (N := 40) hx hb hg inX10 hown hK hP 2 rfl rfl 9 (by decide) (hg _ q_5_233) (fun _ h9 => h9) rfl dX10_coast_93 ?_
        refine lv_bipush (v := 24) hx hb dX10_coast_96 (by decide) ?_
        refine lv_icmp_eq (tgt := 112) hx hb dX10_coast_98 (by decide) (fun c_78 => ?_) (fun c_78 => ?_)
        · have b_79 : iv 24 24 u_65 := iv_q c_78 (iv_c (24 : Int32) (a := 24) (b := 24) (by decide))
          refine lv_aload_n hx hb dX10_coast_112 rfl (lv_at hl 0 rfl) ?_
          refine lv_aload_n hx hb dX10_coast_113 rfl (lv_at hl 0 rfl) ?_
          refine va_get (ci := 10) (v := .int u_67) (C := RX10) (T := TX10) (N := 40) hx hb hg inX10 hown hK hP 2 rfl rfl 11 (by decide) (hg _ q_5_235) (fun _ h9 => h9) rfl dX10_coast_114 ?_
          refine va_put (ci := 10) (v := .int u_67) (ty := .int) (C := RX10) (T := TX10) (N := 40) hx hb hg inX10 tyX10 tyX10_ok nmX10 hown hK hP hD hS 2 rfl rfl 13 (by decide) (hg _ q_5_237) (fun _ h9 => h9) rfl (by decide +kernel) rfl rfl (Nat.le_of_ble_eq_true rfl) dX10_coast_117 (fun H locs hP hD hS => ?_)
          have hP : va_P V.1 vwCl [(z 1, aI V 3075 fz1), (z 4, aI V 1025 f_62), (z 0, .inr (10, mo z 0 0 u_63 u_64 a1 u_65 u_66 u_67 u_68 u_67 pz0_14 pz0_18 pz0_19 pz0_22 pz0_23 pz0_29)), (z 3, aI V 900 fz3)] H := hP
          have hD : va_D A [(z 1, aI V 3075 fz1), (z 4, aI V 1025 f_62), (z 0, .inr (10, mo z 0 0 u_63 u_64 a1 u_65 u_66 u_67 u_68 u_67 pz0_14 pz0_18 pz0_19 pz0_22 pz0_23 pz0_29)), (z 3, aI V 900 fz3)] := hD
          refine lv_aload_n hx hb dX10_coast_120 rfl (lv_at hl 0 rfl) ?_
          refine lv_aload_n hx hb dX10_coast_121 rfl (lv_at hl 0 rfl) ?_
          refine va_get (ci := 10) (v := .int u_67) (C := RX10) (T := TX10) (N := 40) hx hb hg inX10 hown hK hP 2 rfl rfl 11 (by decide) (hg _ q_5_235) (fun _ h9 => h9) rfl dX10_coast_122 ?_
          refine lv_if_ne (tgt := 132) hx hb dX10_coast_125 (by decide) (fun c_81 => absurd c_70 c_81) (fun _ => ?_)
          refine lv_iconst (v := (-1)) hx hb dX10_coast_128 (by decide) ?_
          refine lv_goto (tgt := 136) hx hb dX10_coast_129 (by decide) ?_
          refine va_put (ci := 10) (v := .int (-1)) (ty := .int) (C := RX10) (T := TX10) (N := 40) hx hb hg inX10 tyX10 tyX10_ok nmX10 hown hK hP hD hS 2 rfl rfl 14 (by decide) (hg _ q_5_238) (fun _ h9 => h9) rfl (by decide +kernel) rfl rfl (Nat.le_of_ble_eq_true rfl) dX10_coast_136 (fun H locs hP hD hS => ?_)
          have hP : va_P V.1 vwCl [(z 1, aI V 3075 fz1), (z 4, aI V 1025 f_62), (z 0, .inr (10, mo z 0 0 u_63 u_64 a1 u_65 u_66 u_67 u_68 u_67 (-1) pz0_18 pz0_19 pz0_22 pz0_23 pz0_29)), (z 3, aI V 900 fz3)] H := hP
          have hD : va_D A [(z 1, aI V 3075 fz1), (z 4, aI V 1025 f_62), (z 0, .inr (10, mo z 0 0 u_63 u_64 a1 u_65 u_66 u_67 u_68 u_67 (-1) pz0_18 pz0_19 pz0_22 pz0_23 pz0_29)), (z 3, aI V 900 fz3)] := hD
          refine lv_aload_n hx hb dX10_coast_139 rfl (lv_at hl 0 rfl) ?_
          refine va_get (ci := 10) (v := .int u_67) (C := RX10) (T := TX10) (N := 40) hx hb hg inX10 hown hK hP 2 rfl rfl 11 (by decide) (hg _ q_5_235) (fun _ h9 => h9) rfl dX10_coast_140 ?_
          refine lv_if_eq (tgt := 154) hx hb dX10_coast_143 (by decide) (fun _ => ?_) (fun c_83 => absurd c_70 c_83)
          refine lv_iconst (v := 0) hx hb dX10_coast_154 (by decide) ?_
          refine lv_istore_n (lv' := [(2, .int 0), (0, .ref (z 0)), (1, .int a1)]) hx hb dX10_coast_155 rfl hl (by decide) rfl (fun ls hl => ?_)
          refine loopF (X := fun (n_86 : Nat) (H : Heap) (locs : List Loc) (ls : Array Slot) => ∃ (u_84 : Int32) (f_85 : Nat → Int32), (iv 0 2147483647 u_84) ∧ (ivT tA f_85) ∧ (CPY u_84 f_85 f_62) ∧ n_86 = (2147483647 - (u_84 : Int32).toInt).toNat ∧ va_P V.1 vwCl [(z 1, aI V 3075 f_85), (z 4, aI V 1025 f_62), (z 0, .inr (10, mo z 0 0 u_63 u_64 a1 u_65 u_66 u_67 u_68 u_67 (-1) pz0_18 pz0_19 pz0_22 pz0_23 pz0_29)), (z 3, aI V 900 fz3)] H ∧ va_D A [(z 1, aI V 3075 f_85), (z 4, aI V 1025 f_62), (z 0, .inr (10, mo z 0 0 u_63 u_64 a1 u_65 u_66 u_67 u_68 u_67 (-1) pz0_18 pz0_19 pz0_22 pz0_23 pz0_29)), (z 3, aI V 900 fz3)] ∧ va_S A s.heap H locs ∧ lv_has ls 3 [(2, .int u_84), (0, .ref (z 0)), (1, .int a1)]) (g := fun ls => F0 m 156 ls []) (fun n_86 H locs ls hX ihn_86 => ?_) _ ⟨0, fz1, (iv_c (0 : Int32) (by decide)), tfz1, (CPY_0 inn_69_3 (by decide)), rfl, hP, hD, hS, lv_sub hl [0, 1, 2] rfl⟩
          obtain ⟨u_84, f_85, bu_84, tf_85, inn_86_0, en_86, hP, hD, hS, hl⟩ := hX
          refine lv_iload_n hx hb dX10_coast_156 rfl (lv_at hl 0 rfl) ?_
          refine lv_sipush (v := 1025) hx hb dX10_coast_157 (by decide) ?_
          refine lv_icmp_ge (tgt := 181) hx hb dX10_coast_160 (by decide) (fun c_87 => ?_) (fun c_87 => ?_)
          · have b_88 : iv 1025 2147483647 u_84 := iv_e2 c_87 (iv_c (1025 : Int32) (a := 1025) (b := 1025) (by decide)) bu_84 (by decide)
            have hRW := CPY_e inn_86_0 (Int32.not_lt.mpr c_87) inn_69_2 (iv_eqp b_77 (iv_c (0 : Int32) (by decide))) bu_63 (by decide) tf_62
            refine lv_aload_n hx hb dX10_coast_181 rfl (lv_at hl 1 rfl) ?_
            refine va_get (ci := 10) (v := .ref (z 1)) (C := RX10) (T := TX10) (N := 40) hx hb hg inX10 hown hK hP 2 rfl rfl 1 (by decide) (hg _ q_5_225) (fun _ h9 => h9) rfl dX10_coast_182 ?_
            refine lv_iconst (v := 0) hx hb dX10_coast_185 (by decide) ?_
            refine va_iald hx hb hK hP 0 0 rfl rfl (vin (by decide +kernel)) dX10_coast_186 ?_
            refine lv_topi (fun x_89 ex_89 => ?_)
            have hP := subP (ws' := [(z 0, .inr (10, mo z 0 0 u_63 u_64 a1 u_65 u_66 u_67 u_68 u_67 (-1) pz0_18 pz0_19 pz0_22 pz0_23 pz0_29)), (z 1, aI V 3075 f_85), (z 3, aI V 900 fz3), (z 4, aI V 1025 f_62)]) hP [2, 0, 3, 1] rfl
            have hD := hD.sub (ws' := [(z 0, .inr (10, mo z 0 0 u_63 u_64 a1 u_65 u_66 u_67 u_68 u_67 (-1) pz0_18 pz0_19 pz0_22 pz0_23 pz0_29)), (z 1, aI V 3075 f_85), (z 3, aI V 900 fz3), (z 4, aI V 1025 f_62)]) [2, 0, 3, 1] rfl rfl
            exact fiI hx hb hr hlk hK hP hD hS dX10_coast_187 (Nat.le_of_ble_eq_true rfl) (Nat.le_of_ble_eq_true rfl) (⟨0, 0, u_63, u_64, a1, u_65, u_66, u_67, u_68, u_67, (-1), f_85, f_62, (iv_c (0 : Int32) (by decide)), bu_63, bu_64, b_14, bu_66, (iv_w b_77 (by decide)), bu_68, (iv_w b_77 (by decide)), (iv_c ((-1) : Int32) (by decide)), tf_85, tf_62, (co_1 (wt_y ej_1 ej_2 c_9 c_12 (by decide)) (by obtain ⟨q8, d8, m8, h8, g8, f8, e8⟩ := inn_69_0; exact RE_z h8 g8 ((lpP_0 (lp_k h8 c_78) _).symm.trans e8) (fun w9 => RZ_k h8 w9 (by rw [c_78]; decide)) (fun _ => rfl) (fun w9 => absurd (iv_eqp b_77 (iv_c (0 : Int32) (by decide))) w9) (fun _ => ex_89.trans (CPL inn_86_0 (Int32.not_lt.mpr c_87)))) (iv_eqp b_77 (iv_c (0 : Int32) (by decide))) rfl), hRW, (co_0 (wt_1 ej_1 ej_2 c_9 c_12 (by decide))), (cw_1 (ln := (f_62 (0 : Int32).toNatClampNeg)) (wt_y ej_1 ej_2 c_9 c_12 (by decide)) (by obtain ⟨q8, d8, m8, h8, g8, f8, e8⟩ := inn_69_0; exact RE_z h8 g8 ((lpP_0 (lp_k h8 c_78) _).symm.trans e8) (fun w9 => RZ_k h8 w9 (by rw [c_78]; decide)) (fun _ => rfl) (fun w9 => absurd (iv_eqp b_77 (iv_c (0 : Int32) (by decide))) w9) (fun _ => rfl))), (ca_1 (ln := (f_62 (0 : Int32).toNatClampNeg)) (wt_y ej_1 ej_2 c_9 c_12 (by decide)) (by obtain ⟨q8, d8, m8, h8, g8, f8, e8⟩ := inn_69_0; exact RE_z h8 g8 ((lpP_0 (lp_k h8 c_78) _).symm.trans e8) (fun w9 => RZ_k h8 w9 (by rw [c_78]; decide)) (fun _ => rfl) (fun w9 => absurd (iv_eqp b_77 (iv_c (0 : Int32) (by decide))) w9) (fun _ => rfl))), rfl⟩)
          · have b_90 : iv 0 1024 u_84 := iv_l1 (Int32.not_le.mp c_87) bu_84 (iv_c (1025 : Int32) (a := 1025) (b := 1025) (by decide)) (by decide)
            refine lv_aload_n hx hb dX10_coast_163 rfl (lv_at hl 1 rfl) ?_
            refine va_get (ci := 10) (v := .ref (z 1)) (C := RX10) (T := TX10) (N := 40) hx hb hg inX10 hown hK hP 2 rfl rfl 1 (by decide) (hg _ q_5_225) (fun _ h9 => h9) rfl dX10_coast_164 ?_
            refine lv_iload_n hx hb dX10_coast_167 rfl (lv_at hl 0 rfl) ?_
            refine lv_aload_n hx hb dX10_coast_168 rfl (lv_at hl 1 rfl) ?_
            refine va_get (ci := 10) (v := .ref (z 4)) (C := RX10) (T := TX10) (N := 40) hx hb hg inX10 hown hK hP 2 rfl rfl 4 (by decide) (hg _ q_5_228) (fun _ h9 => h9) rfl dX10_coast_169 ?_
            refine lv_iload_n hx hb dX10_coast_172 rfl (lv_at hl 0 rfl) ?_
            refine va_iald hx hb hK hP 1 0 rfl rfl (iv_in b_90 (by decide)) dX10_coast_173 ?_
            refine lv_topi (fun x_91 ex_91 => ?_)
            refine va_iast hx hb hK hP hD hS 0 0 rfl rfl (iv_in b_90 (by decide)) dX10_coast_174 (fun H locs hP hD hS => ?_)
            obtain ⟨f_92, ef_92, tf_92, hP, hD⟩ : ∃ f_92 : Nat → Int32, f_92 = (upd f_85 (u_84 : Int32).toNatClampNeg x_91) ∧ (ivT tA f_92) ∧ va_P V.1 vwCl [(z 1, aI V 3075 f_92), (z 4, aI V 1025 f_62), (z 0, .inr (10, mo z 0 0 u_63 u_64 a1 u_65 u_66 u_67 u_68 u_67 (-1) pz0_18 pz0_19 pz0_22 pz0_23 pz0_29)), (z 3, aI V 900 fz3)] H ∧ va_D A [(z 1, aI V 3075 f_92), (z 4, aI V 1025 f_62), (z 0, .inr (10, mo z 0 0 u_63 u_64 a1 u_65 u_66 u_67 u_68 u_67 (-1) pz0_18 pz0_19 pz0_22 pz0_23 pz0_29)), (z 3, aI V 900 fz3)] := ⟨_, rfl, cp_T tf_85 (inn_69_2 (iv_eqp b_77 (iv_c (0 : Int32) (by decide)))).1 b_90 (by decide) ex_91, hP, hD⟩
            obtain ⟨x_93, ex_93⟩ : ∃ z9 : Int32, z9 = u_84 + 1 := ⟨_, rfl⟩
            have bx_93 : iv 1 1025 x_93 := by rw [ex_93]; exact iv_add b_90 (iv_c (1 : Int32) (a := 1) (b := 1) (by decide)) (by decide)
            refine lv_iinc (v := x_93) (lv' := [(2, .int x_93), (0, .ref (z 0)), (1, .int a1)]) hx hb dX10_coast_175 hl (k := 0) rfl (by rw [ex_93]; rfl) (by decide) rfl (fun ls hl => ?_)
            refine lv_goto (tgt := 156) hx hb dX10_coast_178 (by decide) ?_
            exact ihn_86 _ _ _ _ (by rw [en_86, ex_93]; exact mu_up b_90 (by decide)) ⟨x_93, f_92, (iv_w bx_93 (by decide)), tf_92, (CPY_s inn_86_0 b_90 (by decide) ex_91 ef_92 ex_93), rfl, hP, hD, hS, lv_sub hl [0, 1, 2] rfl⟩
        · refine lv_aload_n hx hb dX10_coast_101 rfl (lv_at hl 0 rfl) ?_
          refine jnV (wr := [(z 1, aI V 3075 fz1)]) (rnV (rest := []) ⟨hx, hb, hml, hown, hg⟩ (k_X10_readLine_0 l V z f_62 0 0 u_63 u_64 a1 u_65 u_66 u_67 u_68 pz0_13 pz0_14 pz0_18 pz0_19 pz0_22 pz0_23 pz0_29 fz3 tf_62 (iv_c (0 : Int32) (by decide)) bu_63 bu_64 b_14 bu_66 (iv_w b_77 (by decide)) bu_68 bpz0_13 bpz0_14 bpz0_18 bpz0_22 bpz0_29 tfz3 inn_69_1 inn_69_2) mt_X10_readLine q_6_163 ⟨Nat.le_of_ble_eq_true rfl, Nat.le_of_ble_eq_true rfl⟩ hK hP hD hS hA hE [1, 2, 3] rfl rfl 2 rfl rfl rfl rfl hl.1 rfl (Nat.le_of_ble_eq_true rfl) dX10_coast_102 ⟨Nat.le_of_ble_eq_true rfl, Nat.le_of_ble_eq_true rfl⟩) hP hD hS hA [1, 2, 3] [0] rfl rfl rfl (by decide) (fun  w H locs hw hP hD hS => ?_)
          obtain ⟨f_94, v_95, v_96, v_97, v_98, v_99, v_100, tf_94, bv_95, bv_96, bv_98, bv_99, bv_100, g_101, g_102, g_103, g_104, g_105, g_106, rfl⟩ := hw
          have hP : va_P V.1 vwCl [(z 1, aI V 3075 fz1), (z 4, aI V 1025 f_94), (z 0, .inr (10, mo z 0 0 v_95 v_96 a1 v_97 v_98 v_99 v_100 pz0_13 pz0_14 pz0_18 pz0_19 pz0_22 pz0_23 pz0_29)), (z 3, aI V 900 fz3)] H := hP
          have hD : va_D A [(z 1, aI V 3075 fz1), (z 4, aI V 1025 f_94), (z 0, .inr (10, mo z 0 0 v_95 v_96 a1 v_97 v_98 v_99 v_100 pz0_13 pz0_14 pz0_18 pz0_19 pz0_22 pz0_23 pz0_29)), (z 3, aI V 900 fz3)] := hD
          refine lv_aload_n hx hb dX10_coast_105 rfl (lv_at hl 0 rfl) ?_
          refine jnV (wr := [(z 1, aI V 3075 fz1)]) (rnV (rest := []) ⟨hx, hb, hml, hown, hg⟩ (k_X10_closes_0 l V z f_94 0 0 v_95 v_96 a1 v_97 v_98 v_99 v_100 pz0_13 pz0_14 pz0_18 pz0_19 pz0_22 pz0_23 pz0_29 fz3 tf_94 (iv_c (0 : Int32) (by decide)) bv_95 bv_96 b_14 bv_98 bv_99 bv_100 bpz0_13 bpz0_14 bpz0_18 bpz0_22 bpz0_29 tfz3 g_101 g_102) mt_X10_closes q_6_159 ⟨Nat.le_of_ble_eq_true rfl, Nat.le_of_ble_eq_true rfl⟩ hK hP hD hS hA hE [1, 2, 3] rfl rfl 2 rfl rfl rfl rfl hl.1 rfl (Nat.le_of_ble_eq_true rfl) dX10_coast_106 ⟨Nat.le_of_ble_eq_true rfl, Nat.le_of_ble_eq_true rfl⟩) hP hD hS hA [1, 2, 3] [0] rfl rfl rfl (by decide) (fun  w H locs hw hP hD hS => ?_)
          obtain ⟨f_107, v_108, v_109, v_110, v_111, v_112, v_113, tf_107, bv_108, bv_109, bv_111, bv_112, bv_113, g_114, g_115, g_116, g_117, g_118, g_119, rfl⟩ := hw
          have hP : va_P V.1 vwCl [(z 1, aI V 3075 fz1), (z 4, aI V 1025 f_107), (z 0, .inr (10, mo z 0 0 v_108 v_109 a1 v_110 v_111 v_112 v_113 pz0_13 pz0_14 pz0_18 pz0_19 pz0_22 pz0_23 pz0_29)), (z 3, aI V 900 fz3)] H := hP
          have hD : va_D A [(z 1, aI V 3075 fz1), (z 4, aI V 1025 f_107), (z 0, .inr (10, mo z 0 0 v_108 v_109 a1 v_110 v_111 v_112 v_113 pz0_13 pz0_14 pz0_18 pz0_19 pz0_22 pz0_23 pz0_29)), (z 3, aI V 900 fz3)] := hD
          refine lv_goto (tgt := 85) hx hb dX10_coast_109 (by decide) ?_
          exact ihn_69 _ _ _ _ (by rw [en_69]; exact mu_w (iv_eqp b_77 (iv_c (0 : Int32) (by decide))) (by have z_0 := g_22; have z_1 := g_30; have z_2 := g_44; have z_3 := g_58; have z_4 := g_103; have z_5 := g_116;have y_0 := g_21.1; have y_1 := g_29.1; have y_2 := g_43.1; have y_3 := g_56.1; have y_4 := inn_69_1.1; have y_5 := g_101.1; have y_6 := g_114.1; omega) (fun q7 => by have q8 := g_118 q7; have q9 := g_103; omega) bv_108 (by decide)) ⟨f_107, v_108, v_109, v_110, v_111, v_112, v_113, tf_107, bv_108, bv_109, bv_111, bv_112, bv_113, (by obtain ⟨q8, d8, m8, h8, g8, f8, e8⟩ := inn_69_0; exact (Classical.em (q8.1 = 0)).elim (fun w8 => by obtain ⟨h7, g7⟩ := g_105 q8 d8 w8 h8 g8; obtain ⟨h6, g6⟩ := g_119 _ _ h7 g7; have i8 := inn_69_1.2.2 c_78; have j8 := inn_69_1.2.1; have l8 := b_14; unfold iv at l8; have f9 := f8 w8; obtain ⟨m7, e7⟩ : ∃ m7 : Nat, m8 = m7 + 1 := ⟨m8 - 1, by omega⟩; subst e7; exact ⟨_, _, m7, h6, g6, fun z => by have y9 := g_118 (RZ_q h6 z).1; have x9 := g_103; omega, by rw [← e8, lpP_1 ⟨w8, fun z => c_78 ((RZ_q h8 w8).2.1.trans z)⟩]⟩) (fun w8 => by have h7 := g_106 q8 w8 h8; obtain ⟨h6, -⟩ := g_119 q8 d8 h7 (fun z => absurd z w8); rw [exP_w w8] at h6; exact ⟨q8, d8, m8, h6, fun z => absurd z w8, fun z => absurd z w8, e8⟩)), g_114, g_115, inn_69_3, rfl, hP, hD, hS, lv_sub hl [0, 1] rfl⟩
    · have b_120 : iv 0 0 r_24 := iv_q c_34 (iv_c (0 : Int32) (a := 0) (b := 0) (by decide))
      refine lv_aload_n hx hb dX10_coast_61 rfl (lv_at hl 0 rfl) ?_
      refine lv_iconst (v := 2) hx hb dX10_coast_62 (by decide) ?_
      refine jnV (wr := [(z 1, aI V 3075 fz1), (z 4, aI V 1025 f_15), (z 3, aI V 900 fz3)]) (rnV (rest := []) ⟨hx, hb, hml, hown, hg⟩ (k_X10_fails_0 l V z 2 0 0 v_25 v_26 a1 v_27 v_28 0 pz0_12 pz0_13 pz0_14 pz0_18 pz0_19 pz0_22 pz0_23 pz0_29 (iv_c (2 : Int32) (by decide)) (iv_c (0 : Int32) (by decide)) bv_25 bv_26 b_14 bv_28 (iv_c (0 : Int32) (by decide)) bpz0_12 bpz0_13 bpz0_14 bpz0_18 bpz0_22 bpz0_29) mt_X10_fails q_6_147 ⟨Nat.le_of_ble_eq_true rfl, Nat.le_of_ble_eq_true rfl⟩ hK hP hD hS hA hE [2] rfl rfl 2 rfl rfl rfl rfl hl.1 rfl (Nat.le_of_ble_eq_true rfl) dX10_coast_63 ⟨Nat.le_of_ble_eq_true rfl, Nat.le_of_ble_eq_true rfl⟩) hP hD hS hA [2] [0, 1, 3] rfl rfl rfl (by decide) (fun  w H locs hw hP hD hS => ?_)
      obtain ⟨v_121, v_122, bv_121, bv_122, g_123, rfl⟩ := hw
      have hP : va_P V.1 vwCl [(z 1, aI V 3075 fz1), (z 4, aI V 1025 f_15), (z 3, aI V 900 fz3), (z 0, .inr (10, mo z 0 0 v_25 v_26 a1 v_27 v_28 v_121 v_122 pz0_13 pz0_14 pz0_18 pz0_19 pz0_22 pz0_23 pz0_29))] H := hP
      have hD : va_D A [(z 1, aI V 3075 fz1), (z 4, aI V 1025 f_15), (z 3, aI V 900 fz3), (z 0, .inr (10, mo z 0 0 v_25 v_26 a1 v_27 v_28 v_121 v_122 pz0_13 pz0_14 pz0_18 pz0_19 pz0_22 pz0_23 pz0_29))] := hD
      refine lv_aload_n hx hb dX10_coast_66 rfl (lv_at hl 0 rfl) ?_
      refine va_get (ci := 10) (v := .ref (z 4)) (C := RX10) (T := TX10) (N := 40) hx hb hg inX10 hown hK hP 3 rfl rfl 4 (by decide) (hg _ q_5_228) (fun _ h9 => h9) rfl dX10_coast_67 ?_
      refine lv_bipush (v := 51) hx hb dX10_coast_70 (by decide) ?_
      refine lv_aload_n hx hb dX10_coast_72 rfl (lv_at hl 0 rfl) ?_
      refine lv_iconst (v := 1) hx hb dX10_coast_73 (by decide) ?_
      refine lv_iconst (v := 0) hx hb dX10_coast_74 (by decide) ?_
      refine lv_bipush (v := 9) hx hb dX10_coast_75 (by decide) ?_
      refine jnI (wr := [(z 1, aI V 3075 fz1), (z 4, aI V 1025 f_15)]) (rnV (rest := [.int 51, .ref (z 4)]) ⟨hx, hb, hml, hown, hg⟩ (k_X10_named_0 l V z 0 9 0 0 v_25 v_26 a1 v_27 v_28 v_121 v_122 pz0_13 pz0_14 pz0_18 pz0_19 pz0_22 pz0_23 pz0_29 fz3 (iv_c (0 : Int32) (by decide)) bv_25 bv_26 b_14 bv_28 (iv_w bv_121 (by decide)) bv_122 bpz0_13 bpz0_14 bpz0_18 bpz0_22 bpz0_29 tfz3 g_29) mt_X10_named q_6_151 ⟨Nat.le_of_ble_eq_true rfl, Nat.le_of_ble_eq_true rfl⟩ hK hP hD hS hA hE [3, 2] rfl rfl 3 rfl rfl rfl rfl hl.1 rfl (Nat.le_of_ble_eq_true rfl) dX10_coast_77 ⟨Nat.le_of_ble_eq_true rfl, Nat.le_of_ble_eq_true rfl⟩) hP hD hS hA [3, 2] [0, 1] rfl rfl rfl (by decide) (fun r_124 w H locs hw hP hD hS => ?_)
      obtain ⟨v_125, v_126, v_127, v_128, v_129, v_130, bv_125, bv_126, bv_128, bv_129, bv_130, br_124, g_131, g_132, g_133, g_134, g_135, rfl⟩ := hw
      have hP : va_P V.1 vwCl [(z 1, aI V 3075 fz1), (z 4, aI V 1025 f_15), (z 0, .inr (10, mo z 0 0 v_125 v_126 a1 v_127 v_128 v_129 v_130 pz0_13 pz0_14 pz0_18 pz0_19 pz0_22 pz0_23 pz0_29)), (z 3, aI V 900 fz3)] H := hP
      have hD : va_D A [(z 1, aI V 3075 fz1), (z 4, aI V 1025 f_15), (z 0, .inr (10, mo z 0 0 v_125 v_126 a1 v_127 v_128 v_129 v_130 pz0_13 pz0_14 pz0_18 pz0_19 pz0_22 pz0_23 pz0_29)), (z 3, aI V 900 fz3)] := hD
      refine va_iast hx hb hK hP hD hS 1 0 rfl rfl (vin (by decide +kernel)) dX10_coast_80 (fun H locs hP hD hS => ?_)
      obtain ⟨f_136, ef_136, tf_136, hP, hD⟩ : ∃ f_136 : Nat → Int32, f_136 = (upd f_15 (51 : Int32).toNatClampNeg r_124) ∧ (ivT tF f_136) ∧ va_P V.1 vwCl [(z 1, aI V 3075 fz1), (z 4, aI V 1025 f_136), (z 0, .inr (10, mo z 0 0 v_125 v_126 a1 v_127 v_128 v_129 v_130 pz0_13 pz0_14 pz0_18 pz0_19 pz0_22 pz0_23 pz0_29)), (z 3, aI V 900 fz3)] H ∧ va_D A [(z 1, aI V 3075 fz1), (z 4, aI V 1025 f_136), (z 0, .inr (10, mo z 0 0 v_125 v_126 a1 v_127 v_128 v_129 v_130 pz0_13 pz0_14 pz0_18 pz0_19 pz0_22 pz0_23 pz0_29)), (z 3, aI V 900 fz3)] := ⟨_, rfl, upT (lo := (-2147483648)) (hi := 2147483647) (a := 51) (n := 1) tf_15 (iv_c (51 : Int32) (a := 51) (b := 51) (by decide)) (by decide) (iv_w br_124 (by decide)) (by decide +kernel), hP, hD⟩
      refine lv_aload_n hx hb dX10_coast_81 rfl (lv_at hl 0 rfl) ?_
      refine jnV (wr := [(z 1, aI V 3075 fz1)]) (rnV (rest := []) ⟨hx, hb, hml, hown, hg⟩ (k_X10_closes_0 l V z f_136 0 0 v_125 v_126 a1 v_127 v_128 v_129 v_130 pz0_13 pz0_14 pz0_18 pz0_19 pz0_22 pz0_23 pz0_29 fz3 tf_136 (iv_c (0 : Int32) (by decide)) bv_125 bv_126 b_14 bv_128 bv_129 bv_130 bpz0_13 bpz0_14 bpz0_18 bpz0_22 bpz0_29 tfz3 g_131 (PS_up (lo := 0) (hi := 9) (c := 0) (k := 1) (i := 51) (n := 1) (PS_0 g_16 (by decide) (by have q9 := bv_125; unfold iv at q9; omega)) ef_136 (show (51 : Int32).toInt = 0 + 1 * (51 : Int32).toInt from (by omega)) (iv_c (51 : Int32) (a := 51) (b := 51) (by decide)) (by decide) (by decide +kernel) (fun q7 => by have q8 := g_134 ((fun q9 => q9) q7); have z_0 : (0 : Int32).toInt = 0 := (by decide); have z_9 : (9 : Int32).toInt = 9 := (by decide); exact ⟨by omega, by omega⟩) (iv_c (51 : Int32) (a := 51) (b := 51) (by decide)) (by decide))) mt_X10_closes q_6_159 ⟨Nat.le_of_ble_eq_true rfl, Nat.le_of_ble_eq_true rfl⟩ hK hP hD hS hA hE [1, 2, 3] rfl rfl 2 rfl rfl rfl rfl hl.1 rfl (Nat.le_of_ble_eq_true rfl) dX10_coast_82 ⟨Nat.le_of_ble_eq_true rfl, Nat.le_of_ble_eq_true rfl⟩) hP hD hS hA [1, 2, 3] [0] rfl rfl rfl (by decide) (fun  w H locs hw hP hD hS => ?_)
      obtain ⟨f_137, v_138, v_139, v_140, v_141, v_142, v_143, tf_137, bv_138, bv_139, bv_141, bv_142, bv_143, g_144, g_145, g_146, g_147, g_148, g_149, rfl⟩ := hw
      have hP : va_P V.1 vwCl [(z 1, aI V 3075 fz1), (z 4, aI V 1025 f_137), (z 0, .inr (10, mo z 0 0 v_138 v_139 a1 v_140 v_141 v_142 v_143 pz0_13 pz0_14 pz0_18 pz0_19 pz0_22 pz0_23 pz0_29)), (z 3, aI V 900 fz3)] H := hP
      have hD : va_D A [(z 1, aI V 3075 fz1), (z 4, aI V 1025 f_137), (z 0, .inr (10, mo z 0 0 v_138 v_139 a1 v_140 v_141 v_142 v_143 pz0_13 pz0_14 pz0_18 pz0_19 pz0_22 pz0_23 pz0_29)), (z 3, aI V 900 fz3)] := hD
      refine loopF (X := fun (n_157 : Nat) (H : Heap) (locs : List Loc) (ls : Array Slot) => ∃ (f_150 : Nat → Int32) (u_151 : Int32) (u_152 : Int32) (u_153 : Int32) (u_154 : Int32) (u_155 : Int32) (u_156 : Int32), (ivT tF f_150) ∧ (iv 0 900 u_151) ∧ (iv 0 900 u_152) ∧ (iv 0 999 u_154) ∧ (iv 0 4 u_155) ∧ (iv 0 900 u_156) ∧ (∃ (q8 : Sg) (d8 : Nat → Int32) (m8 : Nat), RZ fz3 a1 q8 u_155 u_156 u_153 u_151 u_152 u_154 ∧ RD q8.1 d8 (f_150 (0 : Int32).toNatClampNeg) (f_150 (1 : Int32).toNatClampNeg) (f_150 (2 : Int32).toNatClampNeg) (f_150 (3 : Int32).toNatClampNeg) ∧ (q8.1 = 0 → 900 ≤ (m8 : Int) + (u_151 : Int32).toInt) ∧ lpP (tkX fz3 a1) m8 (q8, d8) = txP (tkX fz3 a1)) ∧ (PT u_151 u_152 a1 u_153) ∧ (PS u_155 u_151 f_150) ∧ (RW fz1) ∧ n_157 = (2 * (900 - (u_151 : Int32).toInt) + wz u_155).toNat ∧ va_P V.1 vwCl [(z 1, aI V 3075 fz1), (z 4, aI V 1025 f_150), (z 0, .inr (10, mo z 0 0 u_151 u_152 a1 u_153 u_154 u_155 u_156 pz0_13 pz0_14 pz0_18 pz0_19 pz0_22 pz0_23 pz0_29)), (z 3, aI V 900 fz3)] H ∧ va_D A [(z 1, aI V 3075 fz1), (z 4, aI V 1025 f_150), (z 0, .inr (10, mo z 0 0 u_151 u_152 a1 u_153 u_154 u_155 u_156 pz0_13 pz0_14 pz0_18 pz0_19 pz0_22 pz0_23 pz0_29)), (z 3, aI V 900 fz3)] ∧ va_S A s.heap H locs ∧ lv_has ls 3 [(0, .ref (z 0)), (1, .int a1)]) (g := fun ls => F0 m 85 ls []) (fun n_157 H locs ls hX ihn_157 => ?_) _ ⟨f_137, v_138, v_139, v_140, v_141, v_142, v_143, tf_137, bv_138, bv_139, bv_141, bv_142, bv_143, (by have h9 := RZ_0 (wa := pz0_12) b_14.1 g_23; obtain ⟨b_1, h_1⟩ := (g_33 _ h9).2 (iv_eqp b_120 (iv_c (0 : Int32) (by decide))); have h_2 := RZ_cg (exP_0 b_1) (RZ_fl h_1 g_123 (by decide)); have h_3 := g_135 rfl _ h_2; obtain ⟨h7, g7⟩ := g_149 _ (fun _ => 0) h_3 (fun _ => ⟨((show f_136 (0 : Int32).toNatClampNeg = f_15 (0 : Int32).toNatClampNeg from by rw [ef_136]; exact upd_ne (cl_ne (iv_c (0 : Int32) (a := 0) (b := 0) (by decide)) (iv_c (51 : Int32) (a := 51) (b := 51) (by decide)) (by decide))).trans (g_16 0 (by decide))), ((show f_136 (1 : Int32).toNatClampNeg = f_15 (1 : Int32).toNatClampNeg from by rw [ef_136]; exact upd_ne (cl_ne (iv_c (1 : Int32) (a := 1) (b := 1) (by decide)) (iv_c (51 : Int32) (a := 51) (b := 51) (by decide)) (by decide))).trans (g_16 1 (by decide))), ((show f_136 (2 : Int32).toNatClampNeg = f_15 (2 : Int32).toNatClampNeg from by rw [ef_136]; exact upd_ne (cl_ne (iv_c (2 : Int32) (a := 2) (b := 2) (by decide)) (iv_c (51 : Int32) (a := 51) (b := 51) (by decide)) (by decide))).trans (g_16 2 (by decide))), ((show f_136 (3 : Int32).toNatClampNeg = f_15 (3 : Int32).toNatClampNeg from by rw [ef_136]; exact upd_ne (cl_ne (iv_c (3 : Int32) (a := 3) (b := 3) (by decide)) (iv_c (51 : Int32) (a := 51) (b := 51) (by decide)) (by decide))).trans (g_16 3 (by decide)))⟩); exact ⟨_, _, 900, h7, g7, fun _ => by have z9 := bv_138; unfold iv at z9; omega, rfl⟩), g_144, g_145, hf0, rfl, hP, hD, hS, lv_sub hl [0, 1] rfl⟩
      obtain ⟨f_150, u_151, u_152, u_153, u_154, u_155, u_156, tf_150, bu_151, bu_152, bu_154, bu_155, bu_156, inn_157_0, inn_157_1, inn_157_2, inn_157_3, en_157, hP, hD, hS, hl⟩ := hX
      refine lv_aload_n hx hb dX10_coast_85 rfl (lv_at hl 0 rfl) ?_
      refine va_get (ci := 10) (v := .int u_155) (C := RX10) (T := TX10) (N := 40) hx hb hg inX10 hown hK hP 2 rfl rfl 11 (by decide) (hg _ q_5_235) (fun _ h9 => h9) rfl dX10_coast_86 ?_
      refine lv_if_ne (tgt := 112) hx hb dX10_coast_89 (by decide) (fun c_158 => ?_) (fun c_158 => ?_)
      · have b_159 : iv 1 4 u_155 := iv_n0 c_158 bu_155 (iv_c (0 : Int32) (a := 0) (b := 0) (by decide)) (by decide)
        refine lv_aload_n hx hb dX10_coast_112 rfl (lv_at hl 0 rfl) ?_
        refine lv_aload_n hx hb dX10_coast_113 rfl (lv_at hl 0 rfl) ?_
        refine va_get (ci := 10) (v := .int u_155) (C := RX10) (T := TX10) (N := 40) hx hb hg inX10 hown hK hP 2 rfl rfl 11 (by decide) (hg _ q_5_235) (fun _ h9 => h9) rfl dX10_coast_114 ?_
        refine va_put (ci := 10) (v := .int u_155) (ty := .int) (C := RX10) (T := TX10) (N := 40) hx hb hg inX10 tyX10 tyX10_ok nmX10 hown hK hP hD hS 2 rfl rfl 13 (by decide) (hg _ q_5_237) (fun _ h9 => h9) rfl (by decide +kernel) rfl rfl (Nat.le_of_ble_eq_true rfl) dX10_coast_117 (fun H locs hP hD hS => ?_)
        have hP : va_P V.1 vwCl [(z 1, aI V 3075 fz1), (z 4, aI V 1025 f_150), (z 0, .inr (10, mo z 0 0 u_151 u_152 a1 u_153 u_154 u_155 u_156 u_155 pz0_14 pz0_18 pz0_19 pz0_22 pz0_23 pz0_29)), (z 3, aI V 900 fz3)] H := hP
        have hD : va_D A [(z 1, aI V 3075 fz1), (z 4, aI V 1025 f_150), (z 0, .inr (10, mo z 0 0 u_151 u_152 a1 u_153 u_154 u_155 u_156 u_155 pz0_14 pz0_18 pz0_19 pz0_22 pz0_23 pz0_29)), (z 3, aI V 900 fz3)] := hD
        refine lv_aload_n hx hb dX10_coast_120 rfl (lv_at hl 0 rfl) ?_
        refine lv_aload_n hx hb dX10_coast_121 rfl (lv_at hl 0 rfl) ?_
        refine va_get (ci := 10) (v := .int u_155) (C := RX10) (T := TX10) (N := 40) hx hb hg inX10 hown hK hP 2 rfl rfl 11 (by decide) (hg _ q_5_235) (fun _ h9 => h9) rfl dX10_coast_122 ?_
        refine lv_if_ne (tgt := 132) hx hb dX10_coast_125 (by decide) (fun _ => ?_) (fun c_161 => absurd c_161 c_158)
        refine lv_aload_n hx hb dX10_coast_132 rfl (lv_at hl 0 rfl) ?_
        refine va_get (ci := 10) (v := .int u_156) (C := RX10) (T := TX10) (N := 40) hx hb hg inX10 hown hK hP 2 rfl rfl 12 (by decide) (hg _ q_5_236) (fun _ h9 => h9) rfl dX10_coast_133 ?_
        refine va_put (ci := 10) (v := .int u_156) (ty := .int) (C := RX10) (T := TX10) (N := 40) hx hb hg inX10 tyX10 tyX10_ok nmX10 hown hK hP hD hS 2 rfl rfl 14 (by decide) (hg _ q_5_238) (fun _ h9 => h9) rfl (by decide +kernel) rfl rfl (Nat.le_of_ble_eq_true rfl) dX10_coast_136 (fun H locs hP hD hS => ?_)
        have hP : va_P V.1 vwCl [(z 1, aI V 3075 fz1), (z 4, aI V 1025 f_150), (z 0, .inr (10, mo z 0 0 u_151 u_152 a1 u_153 u_154 u_155 u_156 u_155 u_156 pz0_18 pz0_19 pz0_22 pz0_23 pz0_29)), (z 3, aI V 900 fz3)] H := hP
        have hD : va_D A [(z 1, aI V 3075 fz1), (z 4, aI V 1025 f_150), (z 0, .inr (10, mo z 0 0 u_151 u_152 a1 u_153 u_154 u_155 u_156 u_155 u_156 pz0_18 pz0_19 pz0_22 pz0_23 pz0_29)), (z 3, aI V 900 fz3)] := hD
        refine lv_aload_n hx hb dX10_coast_139 rfl (lv_at hl 0 rfl) ?_
        refine va_get (ci := 10) (v := .int u_155) (C := RX10) (T := TX10) (N := 40) hx hb hg inX10 hown hK hP 2 rfl rfl 11 (by decide) (hg _ q_5_235) (fun _ h9 => h9) rfl dX10_coast_140 ?_
        refine lv_if_eq (tgt := 154) hx hb dX10_coast_143 (by decide) (fun c_163 => absurd c_163 c_158) (fun _ => ?_)
        refine lv_bipush (v := (-30)) hx hb dX10_coast_146 (by decide) ?_
        refine lv_aload_n hx hb dX10_coast_148 rfl (lv_at hl 0 rfl) ?_
        refine va_get (ci := 10) (v := .int u_155) (C := RX10) (T := TX10) (N := 40) hx hb hg inX10 hown hK hP 2 rfl rfl 11 (by decide) (hg _ q_5_235) (fun _ h9 => h9) rfl dX10_coast_149 ?_
        refine lv_isub hx hb dX10_coast_152 ?_
        refine lv_topi (fun x_164 ex_164 => ?_)
        have bx_164 : iv (-34) (-31) x_164 := by rw [ex_164]; exact iv_sub (iv_c ((-30) : Int32) (a := (-30)) (b := (-30)) (by decide)) b_159 (by decide)
        have hP := subP (ws' := [(z 0, .inr (10, mo z 0 0 u_151 u_152 a1 u_153 u_154 u_155 u_156 u_155 u_156 pz0_18 pz0_19 pz0_22 pz0_23 pz0_29)), (z 1, aI V 3075 fz1), (z 3, aI V 900 fz3), (z 4, aI V 1025 f_150)]) hP [2, 0, 3, 1] rfl
        have hD := hD.sub (ws' := [(z 0, .inr (10, mo z 0 0 u_151 u_152 a1 u_153 u_154 u_155 u_156 u_155 u_156 pz0_18 pz0_19 pz0_22 pz0_23 pz0_29)), (z 1, aI V 3075 fz1), (z 3, aI V 900 fz3), (z 4, aI V 1025 f_150)]) [2, 0, 3, 1] rfl rfl
        exact fiI hx hb hr hlk hK hP hD hS dX10_coast_153 (Nat.le_of_ble_eq_true rfl) (Nat.le_of_ble_eq_true rfl) (⟨0, 0, u_151, u_152, a1, u_153, u_154, u_155, u_156, u_155, u_156, fz1, f_150, (iv_c (0 : Int32) (by decide)), bu_151, bu_152, b_14, bu_154, (iv_w b_159 (by decide)), bu_156, (iv_w b_159 (by decide)), (iv_w bu_156 (by decide)), tfz1, tf_150, (co_f (ln := 0) (wt_y ej_1 ej_2 c_9 c_12 (by decide)) (by obtain ⟨q8, d8, m8, h8, g8, f8, e8⟩ := inn_157_0; exact RE_z h8 g8 ((lpP_0 (lp_w h8 (iv_nz b_159 (by decide))) _).symm.trans e8) (fun w9 => absurd w9 (iv_nz b_159 (by decide))) (fun w9 => absurd w9 (iv_nz b_159 (by decide))) (fun _ => rfl) (fun w9 => absurd w9 (iv_nz b_159 (by decide)))) (iv_nz b_159 (by decide)) ex_164), inn_157_3, (co_0 (wt_1 ej_1 ej_2 c_9 c_12 (by decide))), (cw_1 (ln := 0) (wt_y ej_1 ej_2 c_9 c_12 (by decide)) (by obtain ⟨q8, d8, m8, h8, g8, f8, e8⟩ := inn_157_0; exact RE_z h8 g8 ((lpP_0 (lp_w h8 (iv_nz b_159 (by decide))) _).symm.trans e8) (fun w9 => absurd w9 (iv_nz b_159 (by decide))) (fun w9 => absurd w9 (iv_nz b_159 (by decide))) (fun _ => rfl) (fun w9 => absurd w9 (iv_nz b_159 (by decide))))), (ca_1 (ln := 0) (wt_y ej_1 ej_2 c_9 c_12 (by decide)) (by obtain ⟨q8, d8, m8, h8, g8, f8, e8⟩ := inn_157_0; exact RE_z h8 g8 ((lpP_0 (lp_w h8 (iv_nz b_159 (by decide))) _).symm.trans e8) (fun w9 => absurd w9 (iv_nz b_159 (by decide))) (fun w9 => absurd w9 (iv_nz b_159 (by decide))) (fun _ => rfl) (fun w9 => absurd w9 (iv_nz b_159 (by decide))))), rfl⟩)
      · have b_165 : iv 0 0 u_155 := iv_q c_158 (iv_c (0 : Int32) (a := 0) (b := 0) (by decide))
        refine lv_aload_n hx hb dX10_coast_92 rfl (lv_at hl 0 rfl) ?_
        refine va_get (ci := 10) (v := .int u_153) (C := RX10) (T := TX10) (N := 40) hx hb hg inX10 hown hK hP 2 rfl rfl 9 (by decide) (hg _ q_5_233) (fun _ h9 => h9) rfl dX10_coast_93 ?_
        refine lv_bipush (v := 24) hx hb dX10_coast_96 (by decide) ?_
        refine lv_icmp_eq (tgt := 112) hx hb dX10_coast_98 (by decide) (fun c_166 => ?_) (fun c_166 => ?_)
        · have b_167 : iv 24 24 u_153 := iv_q c_166 (iv_c (24 : Int32) (a := 24) (b := 24) (by decide))
          refine lv_aload_n hx hb dX10_coast_112 rfl (lv_at hl 0 rfl) ?_
          refine lv_aload_n hx hb dX10_coast_113 rfl (lv_at hl 0 rfl) ?_
          refine va_get (ci := 10) (v := .int u_155) (C := RX10) (T := TX10) (N := 40) hx hb hg inX10 hown hK hP 2 rfl rfl 11 (by decide) (hg _ q_5_235) (fun _ h9 => h9) rfl dX10_coast_114 ?_
          refine va_put (ci := 10) (v := .int u_155) (ty := .int) (C := RX10) (T := TX10) (N := 40) hx hb hg inX10 tyX10 tyX10_ok nmX10 hown hK hP hD hS 2 rfl rfl 13 (by decide) (hg _ q_5_237) (fun _ h9 => h9) rfl (by decide +kernel) rfl rfl (Nat.le_of_ble_eq_true rfl) dX10_coast_117 (fun H locs hP hD hS => ?_)
          have hP : va_P V.1 vwCl [(z 1, aI V 3075 fz1), (z 4, aI V 1025 f_150), (z 0, .inr (10, mo z 0 0 u_151 u_152 a1 u_153 u_154 u_155 u_156 u_155 pz0_14 pz0_18 pz0_19 pz0_22 pz0_23 pz0_29)), (z 3, aI V 900 fz3)] H := hP
          have hD : va_D A [(z 1, aI V 3075 fz1), (z 4, aI V 1025 f_150), (z 0, .inr (10, mo z 0 0 u_151 u_152 a1 u_153 u_154 u_155 u_156 u_155 pz0_14 pz0_18 pz0_19 pz0_22 pz0_23 pz0_29)), (z 3, aI V 900 fz3)] := hD
          refine lv_aload_n hx hb dX10_coast_120 rfl (lv_at hl 0 rfl) ?_
          refine lv_aload_n hx hb dX10_coast_121 rfl (lv_at hl 0 rfl) ?_
          refine va_get (ci := 10) (v := .int u_155) (C := RX10) (T := TX10) (N := 40) hx hb hg inX10 hown hK hP 2 rfl rfl 11 (by decide) (hg _ q_5_235) (fun _ h9 => h9) rfl dX10_coast_122 ?_
          refine lv_if_ne (tgt := 132) hx hb dX10_coast_125 (by decide) (fun c_169 => absurd c_158 c_169) (fun _ => ?_)
          refine lv_iconst (v := (-1)) hx hb dX10_coast_128 (by decide) ?_
          refine lv_goto (tgt := 136) hx hb dX10_coast_129 (by decide) ?_
          refine va_put (ci := 10) (v := .int (-1)) (ty := .int) (C := RX10) (T := TX10) (N := 40) hx hb hg inX10 tyX10 tyX10_ok nmX10 hown hK hP hD hS 2 rfl rfl 14 (by decide) (hg _ q_5_238) (fun _ h9 => h9) rfl (by decide +kernel) rfl rfl (Nat.le_of_ble_eq_true rfl) dX10_coast_136 (fun H locs hP hD hS => ?_)
          have hP : va_P V.1 vwCl [(z 1, aI V 3075 fz1), (z 4, aI V 1025 f_150), (z 0, .inr (10, mo z 0 0 u_151 u_152 a1 u_153 u_154 u_155 u_156 u_155 (-1) pz0_18 pz0_19 pz0_22 pz0_23 pz0_29)), (z 3, aI V 900 fz3)] H := hP
          have hD : va_D A [(z 1, aI V 3075 fz1), (z 4, aI V 1025 f_150), (z 0, .inr (10, mo z 0 0 u_151 u_152 a1 u_153 u_154 u_155 u_156 u_155 (-1) pz0_18 pz0_19 pz0_22 pz0_23 pz0_29)), (z 3, aI V 900 fz3)] := hD
          refine lv_aload_n hx hb dX10_coast_139 rfl (lv_at hl 0 rfl) ?_
          refine va_get (ci := 10) (v := .int u_155) (C := RX10) (T := TX10) (N := 40) hx hb hg inX10 hown hK hP 2 rfl rfl 11 (by decide) (hg _ q_5_235) (fun _ h9 => h9) rfl dX10_coast_140 ?_
          refine lv_if_eq (tgt := 154) hx hb dX10_coast_143 (by decide) (fun _ => ?_) (fun c_171 => absurd c_158 c_171)
          refine lv_iconst (v := 0) hx hb dX10_coast_154 (by decide) ?_
          refine lv_istore_n (lv' := [(2, .int 0), (0, .ref (z 0)), (1, .int a1)]) hx hb dX10_coast_155 rfl hl (by decide) rfl (fun ls hl => ?_)
          refine loopF (X := fun (n_174 : Nat) (H : Heap) (locs : List Loc) (ls : Array Slot) => ∃ (u_172 : Int32) (f_173 : Nat → Int32), (iv 0 2147483647 u_172) ∧ (ivT tA f_173) ∧ (CPY u_172 f_173 f_150) ∧ n_174 = (2147483647 - (u_172 : Int32).toInt).toNat ∧ va_P V.1 vwCl [(z 1, aI V 3075 f_173), (z 4, aI V 1025 f_150), (z 0, .inr (10, mo z 0 0 u_151 u_152 a1 u_153 u_154 u_155 u_156 u_155 (-1) pz0_18 pz0_19 pz0_22 pz0_23 pz0_29)), (z 3, aI V 900 fz3)] H ∧ va_D A [(z 1, aI V 3075 f_173), (z 4, aI V 1025 f_150), (z 0, .inr (10, mo z 0 0 u_151 u_152 a1 u_153 u_154 u_155 u_156 u_155 (-1) pz0_18 pz0_19 pz0_22 pz0_23 pz0_29)), (z 3, aI V 900 fz3)] ∧ va_S A s.heap H locs ∧ lv_has ls 3 [(2, .int u_172), (0, .ref (z 0)), (1, .int a1)]) (g := fun ls => F0 m 156 ls []) (fun n_174 H locs ls hX ihn_174 => ?_) _ ⟨0, fz1, (iv_c (0 : Int32) (by decide)), tfz1, (CPY_0 inn_157_3 (by decide)), rfl, hP, hD, hS, lv_sub hl [0, 1, 2] rfl⟩
          obtain ⟨u_172, f_173, bu_172, tf_173, inn_174_0, en_174, hP, hD, hS, hl⟩ := hX
          refine lv_iload_n hx hb dX10_coast_156 rfl (lv_at hl 0 rfl) ?_
          refine lv_sipush (v := 1025) hx hb dX10_coast_157 (by decide) ?_
          refine lv_icmp_ge (tgt := 181) hx hb dX10_coast_160 (by decide) (fun c_175 => ?_) (fun c_175 => ?_)
          · have b_176 : iv 1025 2147483647 u_172 := iv_e2 c_175 (iv_c (1025 : Int32) (a := 1025) (b := 1025) (by decide)) bu_172 (by decide)
            have hRW := CPY_e inn_174_0 (Int32.not_lt.mpr c_175) inn_157_2 (iv_eqp b_165 (iv_c (0 : Int32) (by decide))) bu_151 (by decide) tf_150
            refine lv_aload_n hx hb dX10_coast_181 rfl (lv_at hl 1 rfl) ?_
            refine va_get (ci := 10) (v := .ref (z 1)) (C := RX10) (T := TX10) (N := 40) hx hb hg inX10 hown hK hP 2 rfl rfl 1 (by decide) (hg _ q_5_225) (fun _ h9 => h9) rfl dX10_coast_182 ?_
            refine lv_iconst (v := 0) hx hb dX10_coast_185 (by decide) ?_
            refine va_iald hx hb hK hP 0 0 rfl rfl (vin (by decide +kernel)) dX10_coast_186 ?_
            refine lv_topi (fun x_177 ex_177 => ?_)
            have hP := subP (ws' := [(z 0, .inr (10, mo z 0 0 u_151 u_152 a1 u_153 u_154 u_155 u_156 u_155 (-1) pz0_18 pz0_19 pz0_22 pz0_23 pz0_29)), (z 1, aI V 3075 f_173), (z 3, aI V 900 fz3), (z 4, aI V 1025 f_150)]) hP [2, 0, 3, 1] rfl
            have hD := hD.sub (ws' := [(z 0, .inr (10, mo z 0 0 u_151 u_152 a1 u_153 u_154 u_155 u_156 u_155 (-1) pz0_18 pz0_19 pz0_22 pz0_23 pz0_29)), (z 1, aI V 3075 f_173), (z 3, aI V 900 fz3), (z 4, aI V 1025 f_150)]) [2, 0, 3, 1] rfl rfl
            exact fiI hx hb hr hlk hK hP hD hS dX10_coast_187 (Nat.le_of_ble_eq_true rfl) (Nat.le_of_ble_eq_true rfl) (⟨0, 0, u_151, u_152, a1, u_153, u_154, u_155, u_156, u_155, (-1), f_173, f_150, (iv_c (0 : Int32) (by decide)), bu_151, bu_152, b_14, bu_154, (iv_w b_165 (by decide)), bu_156, (iv_w b_165 (by decide)), (iv_c ((-1) : Int32) (by decide)), tf_173, tf_150, (co_1 (wt_y ej_1 ej_2 c_9 c_12 (by decide)) (by obtain ⟨q8, d8, m8, h8, g8, f8, e8⟩ := inn_157_0; exact RE_z h8 g8 ((lpP_0 (lp_k h8 c_166) _).symm.trans e8) (fun w9 => RZ_k h8 w9 (by rw [c_166]; decide)) (fun _ => rfl) (fun w9 => absurd (iv_eqp b_165 (iv_c (0 : Int32) (by decide))) w9) (fun _ => ex_177.trans (CPL inn_174_0 (Int32.not_lt.mpr c_175)))) (iv_eqp b_165 (iv_c (0 : Int32) (by decide))) rfl), hRW, (co_0 (wt_1 ej_1 ej_2 c_9 c_12 (by decide))), (cw_1 (ln := (f_150 (0 : Int32).toNatClampNeg)) (wt_y ej_1 ej_2 c_9 c_12 (by decide)) (by obtain ⟨q8, d8, m8, h8, g8, f8, e8⟩ := inn_157_0; exact RE_z h8 g8 ((lpP_0 (lp_k h8 c_166) _).symm.trans e8) (fun w9 => RZ_k h8 w9 (by rw [c_166]; decide)) (fun _ => rfl) (fun w9 => absurd (iv_eqp b_165 (iv_c (0 : Int32) (by decide))) w9) (fun _ => rfl))), (ca_1 (ln := (f_150 (0 : Int32).toNatClampNeg)) (wt_y ej_1 ej_2 c_9 c_12 (by decide)) (by obtain ⟨q8, d8, m8, h8, g8, f8, e8⟩ := inn_157_0; exact RE_z h8 g8 ((lpP_0 (lp_k h8 c_166) _).symm.trans e8) (fun w9 => RZ_k h8 w9 (by rw [c_166]; decide)) (fun _ => rfl) (fun w9 => absurd (iv_eqp b_165 (iv_c (0 : Int32) (by decide))) w9) (fun _ => rfl))), rfl⟩)
          · have b_178 : iv 0 1024 u_172 := iv_l1 (Int32.not_le.mp c_175) bu_172 (iv_c (1025 : Int32) (a := 1025) (b := 1025) (by decide)) (by decide)
            refine lv_aload_n hx hb dX10_coast_163 rfl (lv_at hl 1 rfl) ?_
            refine va_get (ci := 10) (v := .ref (z 1)) (C := RX10) (T := TX10) (N := 40) hx hb hg inX10 hown hK hP 2 rfl rfl 1 (by decide) (hg _ q_5_225) (fun _ h9 => h9) rfl dX10_coast_164 ?_
            refine lv_iload_n hx hb dX10_coast_167 rfl (lv_at hl 0 rfl) ?_
            refine lv_aload_n hx hb dX10_coast_168 rfl (lv_at hl 1 rfl) ?_
            refine va_get (ci := 10) (v := .ref (z 4)) (C := RX10) (T := TX10) (N := 40) hx hb hg inX10 hown hK hP 2 rfl rfl 4 (by decide) (hg _ q_5_228) (fun _ h9 => h9) rfl dX10_coast_169 ?_
            refine lv_iload_n hx hb dX10_coast_172 rfl (lv_at hl 0 rfl) ?_
            refine va_iald hx hb hK hP 1 0 rfl rfl (iv_in b_178 (by decide)) dX10_coast_173 ?_
            refine lv_topi (fun x_179 ex_179 => ?_)
            refine va_iast hx hb hK hP hD hS 0 0 rfl rfl (iv_in b_178 (by decide)) dX10_coast_174 (fun H locs hP hD hS => ?_)
            obtain ⟨f_180, ef_180, tf_180, hP, hD⟩ : ∃ f_180 : Nat → Int32, f_180 = (upd f_173 (u_172 : Int32).toNatClampNeg x_179) ∧ (ivT tA f_180) ∧ va_P V.1 vwCl [(z 1, aI V 3075 f_180), (z 4, aI V 1025 f_150), (z 0, .inr (10, mo z 0 0 u_151 u_152 a1 u_153 u_154 u_155 u_156 u_155 (-1) pz0_18 pz0_19 pz0_22 pz0_23 pz0_29)), (z 3, aI V 900 fz3)] H ∧ va_D A [(z 1, aI V 3075 f_180), (z 4, aI V 1025 f_150), (z 0, .inr (10, mo z 0 0 u_151 u_152 a1 u_153 u_154 u_155 u_156 u_155 (-1) pz0_18 pz0_19 pz0_22 pz0_23 pz0_29)), (z 3, aI V 900 fz3)] := ⟨_, rfl, cp_T tf_173 (inn_157_2 (iv_eqp b_165 (iv_c (0 : Int32) (by decide)))).1 b_178 (by decide) ex_179, hP, hD⟩
            obtain ⟨x_181, ex_181⟩ : ∃ z9 : Int32, z9 = u_172 + 1 := ⟨_, rfl⟩
            have bx_181 : iv 1 1025 x_181 := by rw [ex_181]; exact iv_add b_178 (iv_c (1 : Int32) (a := 1) (b := 1) (by decide)) (by decide)
            refine lv_iinc (v := x_181) (lv' := [(2, .int x_181), (0, .ref (z 0)), (1, .int a1)]) hx hb dX10_coast_175 hl (k := 0) rfl (by rw [ex_181]; rfl) (by decide) rfl (fun ls hl => ?_)
            refine lv_goto (tgt := 156) hx hb dX10_coast_178 (by decide) ?_
            exact ihn_174 _ _ _ _ (by rw [en_174, ex_181]; exact mu_up b_178 (by decide)) ⟨x_181, f_180, (iv_w bx_181 (by decide)), tf_180, (CPY_s inn_174_0 b_178 (by decide) ex_179 ef_180 ex_181), rfl, hP, hD, hS, lv_sub hl [0, 1, 2] rfl⟩
        · refine lv_aload_n hx hb dX10_coast_101 rfl (lv_at hl 0 rfl) ?_
          refine jnV (wr := [(z 1, aI V 3075 fz1)]) (rnV (rest := []) ⟨hx, hb, hml, hown, hg⟩ (k_X10_readLine_0 l V z f_150 0 0 u_151 u_152 a1 u_153 u_154 u_155 u_156 pz0_13 pz0_14 pz0_18 pz0_19 pz0_22 pz0_23 pz0_29 fz3 tf_150 (iv_c (0 : Int32) (by decide)) bu_151 bu_152 b_14 bu_154 (iv_w b_165 (by decide)) bu_156 bpz0_13 bpz0_14 bpz0_18 bpz0_22 bpz0_29 tfz3 inn_157_1 inn_157_2) mt_X10_readLine q_6_163 ⟨Nat.le_of_ble_eq_true rfl, Nat.le_of_ble_eq_true rfl⟩ hK hP hD hS hA hE [1, 2, 3] rfl rfl 2 rfl rfl rfl rfl hl.1 rfl (Nat.le_of_ble_eq_true rfl) dX10_coast_102 ⟨Nat.le_of_ble_eq_true rfl, Nat.le_of_ble_eq_true rfl⟩) hP hD hS hA [1, 2, 3] [0] rfl rfl rfl (by decide) (fun  w H locs hw hP hD hS => ?_)
          obtain ⟨f_182, v_183, v_184, v_185, v_186, v_187, v_188, tf_182, bv_183, bv_184, bv_186, bv_187, bv_188, g_189, g_190, g_191, g_192, g_193, g_194, rfl⟩ := hw
          have hP : va_P V.1 vwCl [(z 1, aI V 3075 fz1), (z 4, aI V 1025 f_182), (z 0, .inr (10, mo z 0 0 v_183 v_184 a1 v_185 v_186 v_187 v_188 pz0_13 pz0_14 pz0_18 pz0_19 pz0_22 pz0_23 pz0_29)), (z 3, aI V 900 fz3)] H := hP
          have hD : va_D A [(z 1, aI V 3075 fz1), (z 4, aI V 1025 f_182), (z 0, .inr (10, mo z 0 0 v_183 v_184 a1 v_185 v_186 v_187 v_188 pz0_13 pz0_14 pz0_18 pz0_19 pz0_22 pz0_23 pz0_29)), (z 3, aI V 900 fz3)] := hD
          refine lv_aload_n hx hb dX10_coast_105 rfl (lv_at hl 0 rfl) ?_
          refine jnV (wr := [(z 1, aI V 3075 fz1)]) (rnV (rest := []) ⟨hx, hb, hml, hown, hg⟩ (k_X10_closes_0 l V z f_182 0 0 v_183 v_184 a1 v_185 v_186 v_187 v_188 pz0_13 pz0_14 pz0_18 pz0_19 pz0_22 pz0_23 pz0_29 fz3 tf_182 (iv_c (0 : Int32) (by decide)) bv_183 bv_184 b_14 bv_186 bv_187 bv_188 bpz0_13 bpz0_14 bpz0_18 bpz0_22 bpz0_29 tfz3 g_189 g_190) mt_X10_closes q_6_159 ⟨Nat.le_of_ble_eq_true rfl, Nat.le_of_ble_eq_true rfl⟩ hK hP hD hS hA hE [1, 2, 3] rfl rfl 2 rfl rfl rfl rfl hl.1 rfl (Nat.le_of_ble_eq_true rfl) dX10_coast_106 ⟨Nat.le_of_ble_eq_true rfl, Nat.le_of_ble_eq_true rfl⟩) hP hD hS hA [1, 2, 3] [0] rfl rfl rfl (by decide) (fun  w H locs hw hP hD hS => ?_)
          obtain ⟨f_195, v_196, v_197, v_198, v_199, v_200, v_201, tf_195, bv_196, bv_197, bv_199, bv_200, bv_201, g_202, g_203, g_204, g_205, g_206, g_207, rfl⟩ := hw
          have hP : va_P V.1 vwCl [(z 1, aI V 3075 fz1), (z 4, aI V 1025 f_195), (z 0, .inr (10, mo z 0 0 v_196 v_197 a1 v_198 v_199 v_200 v_201 pz0_13 pz0_14 pz0_18 pz0_19 pz0_22 pz0_23 pz0_29)), (z 3, aI V 900 fz3)] H := hP
          have hD : va_D A [(z 1, aI V 3075 fz1), (z 4, aI V 1025 f_195), (z 0, .inr (10, mo z 0 0 v_196 v_197 a1 v_198 v_199 v_200 v_201 pz0_13 pz0_14 pz0_18 pz0_19 pz0_22 pz0_23 pz0_29)), (z 3, aI V 900 fz3)] := hD
          refine lv_goto (tgt := 85) hx hb dX10_coast_109 (by decide) ?_
          exact ihn_157 _ _ _ _ (by rw [en_157]; exact mu_w (iv_eqp b_165 (iv_c (0 : Int32) (by decide))) (by have z_0 := g_22; have z_1 := g_30; have z_2 := g_132; have z_3 := g_146; have z_4 := g_191; have z_5 := g_204;have y_0 := g_21.1; have y_1 := g_29.1; have y_2 := g_131.1; have y_3 := g_144.1; have y_4 := inn_157_1.1; have y_5 := g_189.1; have y_6 := g_202.1; omega) (fun q7 => by have q8 := g_206 q7; have q9 := g_191; omega) bv_196 (by decide)) ⟨f_195, v_196, v_197, v_198, v_199, v_200, v_201, tf_195, bv_196, bv_197, bv_199, bv_200, bv_201, (by obtain ⟨q8, d8, m8, h8, g8, f8, e8⟩ := inn_157_0; exact (Classical.em (q8.1 = 0)).elim (fun w8 => by obtain ⟨h7, g7⟩ := g_193 q8 d8 w8 h8 g8; obtain ⟨h6, g6⟩ := g_207 _ _ h7 g7; have i8 := inn_157_1.2.2 c_166; have j8 := inn_157_1.2.1; have l8 := b_14; unfold iv at l8; have f9 := f8 w8; obtain ⟨m7, e7⟩ : ∃ m7 : Nat, m8 = m7 + 1 := ⟨m8 - 1, by omega⟩; subst e7; exact ⟨_, _, m7, h6, g6, fun z => by have y9 := g_206 (RZ_q h6 z).1; have x9 := g_191; omega, by rw [← e8, lpP_1 ⟨w8, fun z => c_166 ((RZ_q h8 w8).2.1.trans z)⟩]⟩) (fun w8 => by have h7 := g_194 q8 w8 h8; obtain ⟨h6, -⟩ := g_207 q8 d8 h7 (fun z => absurd z w8); rw [exP_w w8] at h6; exact ⟨q8, d8, m8, h6, fun z => absurd z w8, fun z => absurd z w8, e8⟩)), g_202, g_203, inn_157_3, rfl, hP, hD, hS, lv_sub hl [0, 1] rfl⟩
  · have b_208 : iv 0 0 r_3 := iv_q c_7 (iv_c (0 : Int32) (a := 0) (b := 0) (by decide))
    refine lv_bipush (v := (-3)) hx hb dX10_coast_19 (by decide) ?_
    exact fiI hx hb hr hlk hK hP hD hS dX10_coast_21 (Nat.le_of_ble_eq_true rfl) (Nat.le_of_ble_eq_true rfl) (⟨0, pz0_5, pz0_6, pz0_7, pz0_8, pz0_9, pz0_10, pz0_11, pz0_12, pz0_13, pz0_14, fz1, fz4, bpz0_5, bpz0_6, bpz0_7, bpz0_8, bpz0_10, bpz0_11, bpz0_12, bpz0_13, bpz0_14, tfz1, tfz4, (cq_3 (wt_n ej_1 ej_2 (g_4 (iv_eqp b_208 (iv_c (0 : Int32) (by decide)))) (by decide))), hf0, (co_n (wt_0 ej_1 ej_2 (g_4 (iv_eqp b_208 (iv_c (0 : Int32) (by decide)))) (by decide))), (cw_3 (wt_n ej_1 ej_2 (g_4 (iv_eqp b_208 (iv_c (0 : Int32) (by decide)))) (by decide))), (ca_3 (wt_n ej_1 ej_2 (g_4 (iv_eqp b_208 (iv_c (0 : Int32) (by decide)))) (by decide))), rfl⟩)
theorem dX10_fault_0 : decode cX10_fault 0 = .ok (.aload_n 0, 1) := by decide +kernel
theorem dX10_fault_1 : decode cX10_fault 1 = .ok (.iconst 0, 1) := by decide +kernel
theorem dX10_fault_2 : decode cX10_fault 2 = .ok (.putfield 1, 3) := by decide +kernel
theorem dX10_fault_5 : decode cX10_fault 5 = .ok (.iload_n 1, 1) := by decide +kernel
theorem dX10_fault_6 : decode cX10_fault 6 = .ok (.ifCond .ne 10, 3) := by decide +kernel
theorem dX10_fault_16 : decode cX10_fault 16 = .ok (.iload_n 1, 1) := by decide +kernel
theorem dX10_fault_17 : decode cX10_fault 17 = .ok (.iconst 1, 1) := by decide +kernel
theorem dX10_fault_18 : decode cX10_fault 18 = .ok (.if_icmp .ne 10, 3) := by decide +kernel
theorem dX10_fault_28 : decode cX10_fault 28 = .ok (.iconst (-1), 1) := by decide +kernel
theorem dX10_fault_29 : decode cX10_fault 29 = .ok (.ireturn, 1) := by decide +kernel
theorem dX10_fault_21 : decode cX10_fault 21 = .ok (.aload_n 0, 1) := by decide +kernel
theorem dX10_fault_22 : decode cX10_fault 22 = .ok (.getfield 27, 3) := by decide +kernel
theorem dX10_fault_25 : decode cX10_fault 25 = .ok (.goto 4, 3) := by decide +kernel
theorem dX10_fault_9 : decode cX10_fault 9 = .ok (.aload_n 0, 1) := by decide +kernel
theorem dX10_fault_10 : decode cX10_fault 10 = .ok (.getfield 225, 3) := by decide +kernel
theorem dX10_fault_13 : decode cX10_fault 13 = .ok (.goto 16, 3) := by decide +kernel
set_option maxHeartbeats 4000000 in
set_option maxRecDepth 100000 in
theorem k_X10_fault_0 (l : Launch) (V : GV) (z : Nat → Nat) (a1 : Int32) (pz0_0 : Int32) (pz0_5 : Int32) (pz0_6 : Int32) (pz0_7 : Int32) (pz0_8 : Int32) (pz0_9 : Int32) (pz0_10 : Int32) (pz0_11 : Int32) (pz0_12 : Int32) (pz0_13 : Int32) (pz0_14 : Int32) (pz0_18 : Int32) (pz0_19 : Int32) (pz0_22 : Int32) (pz0_23 : Int32) (pz0_29 : Int32) (bpz0_5 : iv 0 900 pz0_5) (bpz0_6 : iv 0 900 pz0_6) (bpz0_7 : iv 0 900 pz0_7) (bpz0_8 : iv 0 900 pz0_8) (bpz0_10 : iv 0 999 pz0_10) (bpz0_11 : iv 0 4 pz0_11) (bpz0_12 : iv 0 900 pz0_12) (bpz0_13 : iv 0 4 pz0_13) (bpz0_14 : iv (-1) 900 pz0_14) (bpz0_18 : iv 0 2 pz0_18) (bpz0_22 : iv 0 9999 pz0_22) (bpz0_29 : iv 0 10000 pz0_29) : Ct l V yX10_fault (.code yX10_fault cX10_fault 2 (some .int)) 1 [.ref (z 0), .int a1] [(z 0, .inr (10, mo z pz0_0 pz0_5 pz0_6 pz0_7 pz0_8 pz0_9 pz0_10 pz0_11 pz0_12 pz0_13 pz0_14 pz0_18 pz0_19 pz0_22 pz0_23 pz0_29))] 0 0 (QI V (fun (r : Int32) (w : va_W) => ∃ (v0 : Int32), iv (-1) 900 r ∧ r = faF a1 pz0_13 pz0_14 ∧ w = [(z 0, .inr (10, mo z v0 pz0_5 pz0_6 pz0_7 pz0_8 pz0_9 pz0_10 pz0_11 pz0_12 pz0_13 pz0_14 pz0_18 pz0_19 pz0_22 pz0_23 pz0_29))])) := by
  refine Ct.of (by decide) (Nat.le_of_ble_eq_true rfl) (fun p e s m below meth c A ls hx hb hr hml hown hlk hnm hg hP hK hD hE hA hS hl => ?_)
  have hl : lv_has ls 2 [(0, .ref (z 0)), (1, .int a1)] := hl
  refine lv_aload_n hx hb dX10_fault_0 rfl (lv_at hl 0 rfl) ?_
  refine lv_iconst (v := 0) hx hb dX10_fault_1 (by decide) ?_
  refine va_put (ci := 10) (v := .int 0) (ty := .int) (C := RX10) (T := TX10) (N := 40) hx hb hg inX10 tyX10 tyX10_ok nmX10 hown hK hP hD hS 0 rfl rfl 0 (by decide) (hg _ q_5_224) (fun _ h9 => h9) rfl (by decide +kernel) rfl rfl (Nat.le_of_ble_eq_true rfl) dX10_fault_2 (fun H locs hP hD hS => ?_)
  have hP : va_P V.1 vwCl [(z 0, .inr (10, mo z 0 pz0_5 pz0_6 pz0_7 pz0_8 pz0_9 pz0_10 pz0_11 pz0_12 pz0_13 pz0_14 pz0_18 pz0_19 pz0_22 pz0_23 pz0_29))] H := hP
  have hD : va_D A [(z 0, .inr (10, mo z 0 pz0_5 pz0_6 pz0_7 pz0_8 pz0_9 pz0_10 pz0_11 pz0_12 pz0_13 pz0_14 pz0_18 pz0_19 pz0_22 pz0_23 pz0_29))] := hD
  refine lv_iload_n hx hb dX10_fault_5 rfl (lv_at hl 1 rfl) ?_
  refine lv_if_ne (tgt := 16) hx hb dX10_fault_6 (by decide) (fun c_1 => ?_) (fun c_1 => ?_)
  · refine lv_iload_n hx hb dX10_fault_16 rfl (lv_at hl 1 rfl) ?_
    refine lv_iconst (v := 1) hx hb dX10_fault_17 (by decide) ?_
    refine lv_icmp_ne (tgt := 28) hx hb dX10_fault_18 (by decide) (fun c_2 => ?_) (fun c_2 => ?_)
    · refine lv_iconst (v := (-1)) hx hb dX10_fault_28 (by decide) ?_
      exact fiI hx hb hr hlk hK hP hD hS dX10_fault_29 (Nat.le_of_ble_eq_true rfl) (Nat.le_of_ble_eq_true rfl) (⟨0, (iv_c ((-1) : Int32) (by decide)), (fa_n c_1 c_2), rfl⟩)
    · have b_3 : iv 1 1 a1 := iv_q c_2 (iv_c (1 : Int32) (a := 1) (b := 1) (by decide))
      refine lv_aload_n hx hb dX10_fault_21 rfl (lv_at hl 0 rfl) ?_
      refine va_get (ci := 10) (v := .int pz0_14) (C := RX10) (T := TX10) (N := 40) hx hb hg inX10 hown hK hP 0 rfl rfl 14 (by decide) (hg _ q_5_238) (fun _ h9 => h9) rfl dX10_fault_22 ?_
      refine lv_goto (tgt := 29) hx hb dX10_fault_25 (by decide) ?_
      exact fiI hx hb hr hlk hK hP hD hS dX10_fault_29 (Nat.le_of_ble_eq_true rfl) (Nat.le_of_ble_eq_true rfl) (⟨0, bpz0_14, (fa_1 c_2), rfl⟩)
  · have b_4 : iv 0 0 a1 := iv_q c_1 (iv_c (0 : Int32) (a := 0) (b := 0) (by decide))
    refine lv_aload_n hx hb dX10_fault_9 rfl (lv_at hl 0 rfl) ?_
    refine va_get (ci := 10) (v := .int pz0_13) (C := RX10) (T := TX10) (N := 40) hx hb hg inX10 hown hK hP 0 rfl rfl 13 (by decide) (hg _ q_5_237) (fun _ h9 => h9) rfl dX10_fault_10 ?_
    refine lv_goto (tgt := 29) hx hb dX10_fault_13 (by decide) ?_
    exact fiI hx hb hr hlk hK hP hD hS dX10_fault_29 (Nat.le_of_ble_eq_true rfl) (Nat.le_of_ble_eq_true rfl) (⟨0, (iv_w bpz0_13 (by decide)), (fa_0 c_1), rfl⟩)
