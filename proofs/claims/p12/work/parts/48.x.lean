set_option maxHeartbeats 4000000 in
set_option maxRecDepth 100000 in
theorem k_X10_is_30 (l : Launch) (V : GV) (z : Nat → Nat) (pz0_0 : Int32) (pz0_5 : Int32) (pz0_6 : Int32) (pz0_7 : Int32) (pz0_8 : Int32) (pz0_9 : Int32) (pz0_10 : Int32) (pz0_11 : Int32) (pz0_12 : Int32) (pz0_13 : Int32) (pz0_14 : Int32) (pz0_18 : Int32) (pz0_19 : Int32) (pz0_22 : Int32) (pz0_23 : Int32) (pz0_29 : Int32) (bpz0_5 : iv 0 900 pz0_5) (bpz0_6 : iv 0 900 pz0_6) (bpz0_7 : iv 0 900 pz0_7) (bpz0_8 : iv 0 900 pz0_8) (bpz0_10 : iv 0 999 pz0_10) (bpz0_11 : iv 0 4 pz0_11) (bpz0_12 : iv 0 900 pz0_12) (bpz0_13 : iv 0 4 pz0_13) (bpz0_14 : iv (-1) 900 pz0_14) (bpz0_18 : iv 0 2 pz0_18) (bpz0_22 : iv 0 9999 pz0_22) (bpz0_29 : iv 0 10000 pz0_29) : Ct l V yX10_is (.code yX10_is cX10_is 2 (some .boolean)) 1 [.ref (z 0), .int 4] [(z 0, .inr (10, mo z pz0_0 pz0_5 pz0_6 pz0_7 pz0_8 pz0_9 pz0_10 pz0_11 pz0_12 pz0_13 pz0_14 pz0_18 pz0_19 pz0_22 pz0_23 pz0_29))] 0 0 (QI V (fun (r : Int32) (w : va_W) => iv 0 1 r ∧ (r = 1 → pz0_11 = 0) ∧ (r = 1 → pz0_9 = (4 : Int32)) ∧ (r = 0 → ¬ (pz0_11 = 0 ∧ pz0_9 = (4 : Int32))) ∧ w = [(z 0, .inr (10, mo z pz0_0 pz0_5 pz0_6 pz0_7 pz0_8 pz0_9 pz0_10 pz0_11 pz0_12 pz0_13 pz0_14 pz0_18 pz0_19 pz0_22 pz0_23 pz0_29))])) := by
  refine Ct.of (by decide) (Nat.le_of_ble_eq_true rfl) (fun p e s m below meth c A ls hx hb hr hml hown hlk hnm hg hP hK hD hE hA hS hl => ?_)
  have hl : lv_has ls 2 [(0, .ref (z 0)), (1, .int 4)] := hl
  refine lv_aload_n hx hb dX10_is_0 rfl (lv_at hl 0 rfl) ?_
  refine va_get (ci := 10) (v := .int pz0_11) (C := RX10) (T := TX10) (N := 40) hx hb hg inX10 hown hK hP 0 rfl rfl 11 (by decide) (hg _ q_5_235) (fun _ h9 => h9) rfl dX10_is_1 ?_
  refine lv_if_ne (tgt := 19) hx hb dX10_is_4 (by decide) (fun c_1 => ?_) (fun c_1 => ?_)
  · have b_2 : iv 1 4 pz0_11 := iv_n0 c_1 bpz0_11 (iv_c (0 : Int32) (a := 0) (b := 0) (by decide)) (by decide)
    refine lv_iconst (v := 0) hx hb dX10_is_19 (by decide) ?_
    exact fiZ rfl hx hb hr hlk hK hP hD hS dX10_is_20 (Nat.le_of_ble_eq_true rfl) (Nat.le_of_ble_eq_true rfl) (⟨(iv_c (0 : Int32) (by decide)), (fun q9 => absurd q9 (by decide)), (fun q9 => absurd q9 (by decide)), (fun _ q9 => c_1 q9.1), rfl⟩)
  · have b_3 : iv 0 0 pz0_11 := iv_q c_1 (iv_c (0 : Int32) (a := 0) (b := 0) (by decide))
    refine lv_aload_n hx hb dX10_is_7 rfl (lv_at hl 0 rfl) ?_
    refine va_get (ci := 10) (v := .int pz0_9) (C := RX10) (T := TX10) (N := 40) hx hb hg inX10 hown hK hP 0 rfl rfl 9 (by decide) (hg _ q_5_233) (fun _ h9 => h9) rfl dX10_is_8 ?_
    refine lv_iload_n hx hb dX10_is_11 rfl (lv_at hl 1 rfl) ?_
    refine lv_icmp_ne (tgt := 19) hx hb dX10_is_12 (by decide) (fun c_4 => ?_) (fun c_4 => ?_)
    · refine lv_iconst (v := 0) hx hb dX10_is_19 (by decide) ?_
      exact fiZ rfl hx hb hr hlk hK hP hD hS dX10_is_20 (Nat.le_of_ble_eq_true rfl) (Nat.le_of_ble_eq_true rfl) (⟨(iv_c (0 : Int32) (by decide)), (fun q9 => absurd q9 (by decide)), (fun q9 => absurd q9 (by decide)), (fun _ q9 => c_4 q9.2), rfl⟩)
    · have b_5 : iv 4 4 pz0_9 := iv_q c_4 (iv_c (4 : Int32) (a := 4) (b := 4) (by decide))
      refine lv_iconst (v := 1) hx hb dX10_is_15 (by decide) ?_
      refine lv_goto (tgt := 20) hx hb dX10_is_16 (by decide) ?_
      exact fiZ rfl hx hb hr hlk hK hP hD hS dX10_is_20 (Nat.le_of_ble_eq_true rfl) (Nat.le_of_ble_eq_true rfl) (⟨(iv_c (1 : Int32) (by decide)), (fun _ => c_1), (fun _ => c_4), (fun q9 => absurd q9 (by decide)), rfl⟩)
set_option maxHeartbeats 4000000 in
set_option maxRecDepth 100000 in
theorem k_X10_eats_15 (l : Launch) (V : GV) (z : Nat → Nat) (pz0_0 : Int32) (pz0_5 : Int32) (pz0_6 : Int32) (pz0_7 : Int32) (pz0_8 : Int32) (pz0_9 : Int32) (pz0_10 : Int32) (pz0_11 : Int32) (pz0_12 : Int32) (pz0_13 : Int32) (pz0_14 : Int32) (pz0_18 : Int32) (pz0_19 : Int32) (pz0_22 : Int32) (pz0_23 : Int32) (pz0_29 : Int32) (fz3 : Nat → Int32) (bpz0_5 : iv 0 900 pz0_5) (bpz0_6 : iv 0 900 pz0_6) (bpz0_7 : iv 0 900 pz0_7) (bpz0_8 : iv 0 900 pz0_8) (bpz0_10 : iv 0 999 pz0_10) (bpz0_11 : iv 0 4 pz0_11) (bpz0_12 : iv 0 900 pz0_12) (bpz0_13 : iv 0 4 pz0_13) (bpz0_14 : iv (-1) 900 pz0_14) (bpz0_18 : iv 0 2 pz0_18) (bpz0_22 : iv 0 9999 pz0_22) (bpz0_29 : iv 0 10000 pz0_29) (tfz3 : ∀ j, iv 0 255 (fz3 j)) (hf0 : PT pz0_6 pz0_7 pz0_8 pz0_9) : Ct l V yX10_eats (.code yX10_eats cX10_eats 2 (some .boolean)) 7 [.ref (z 0), .int 4] [(z 0, .inr (10, mo z pz0_0 pz0_5 pz0_6 pz0_7 pz0_8 pz0_9 pz0_10 pz0_11 pz0_12 pz0_13 pz0_14 pz0_18 pz0_19 pz0_22 pz0_23 pz0_29)), (z 3, aI V 900 fz3)] 0 0 (QI V (fun (r : Int32) (w : va_W) => ∃ (v0 : Int32) (v1 : Int32) (v2 : Int32) (v3 : Int32), iv 0 900 v0 ∧ iv 0 900 v1 ∧ iv 0 999 v3 ∧ iv 0 1 r ∧ (PT v0 v1 pz0_8 v2) ∧ ((pz0_6 : Int32).toInt ≤ (v0 : Int32).toInt) ∧ (r = 1 → pz0_11 = 0) ∧ (r = 1 → (pz0_6 : Int32).toInt + 1 ≤ (v0 : Int32).toInt) ∧ (∀ q9 : Sg, RZ fz3 pz0_8 q9 pz0_11 pz0_12 pz0_9 pz0_6 pz0_7 pz0_10 → (r = 1 → isQ (tkX fz3 pz0_8) q9 (4 : Int32) = true ∧ RZ fz3 pz0_8 (nxP (tkX fz3 pz0_8) q9) pz0_11 pz0_12 v2 v0 v1 v3) ∧ (r = 0 → isQ (tkX fz3 pz0_8) q9 (4 : Int32) = false ∧ RZ fz3 pz0_8 q9 pz0_11 pz0_12 v2 v0 v1 v3)) ∧ w = [(z 0, .inr (10, mo z pz0_0 pz0_5 v0 v1 pz0_8 v2 v3 pz0_11 pz0_12 pz0_13 pz0_14 pz0_18 pz0_19 pz0_22 pz0_23 pz0_29)), (z 3, aI V 900 fz3)])) := by
  refine Ct.of (by decide) (Nat.le_of_ble_eq_true rfl) (fun p e s m below meth c A ls hx hb hr hml hown hlk hnm hg hP hK hD hE hA hS hl => ?_)
  have hl : lv_has ls 2 [(0, .ref (z 0)), (1, .int 4)] := hl
  refine lv_aload_n hx hb dX10_eats_0 rfl (lv_at hl 0 rfl) ?_
  refine lv_iload_n hx hb dX10_eats_1 rfl (lv_at hl 1 rfl) ?_
  refine jnI (wr := [(z 3, aI V 900 fz3)]) (rnV (rest := []) ⟨hx, hb, hml, hown, hg⟩ (k_X10_is_30 l V z pz0_0 pz0_5 pz0_6 pz0_7 pz0_8 pz0_9 pz0_10 pz0_11 pz0_12 pz0_13 pz0_14 pz0_18 pz0_19 pz0_22 pz0_23 pz0_29 bpz0_5 bpz0_6 bpz0_7 bpz0_8 bpz0_10 bpz0_11 bpz0_12 bpz0_13 bpz0_14 bpz0_18 bpz0_22 bpz0_29) mt_X10_is q_6_143 ⟨Nat.le_of_ble_eq_true rfl, Nat.le_of_ble_eq_true rfl⟩ hK hP hD hS hA hE [0] rfl rfl 0 rfl rfl rfl rfl hl.1 rfl (Nat.le_of_ble_eq_true rfl) dX10_eats_2 ⟨Nat.le_of_ble_eq_true rfl, Nat.le_of_ble_eq_true rfl⟩) hP hD hS hA [0] [1] rfl rfl rfl (by decide) (fun r_1 w H locs hw hP hD hS => ?_)
  obtain ⟨br_1, g_2, g_3, g_4, rfl⟩ := hw
  have hP : va_P V.1 vwCl [(z 3, aI V 900 fz3), (z 0, .inr (10, mo z pz0_0 pz0_5 pz0_6 pz0_7 pz0_8 pz0_9 pz0_10 pz0_11 pz0_12 pz0_13 pz0_14 pz0_18 pz0_19 pz0_22 pz0_23 pz0_29))] H := hP
  have hD := cpD hP hD
  refine lv_if_ne (tgt := 10) hx hb dX10_eats_5 (by decide) (fun c_5 => ?_) (fun c_5 => ?_)
  · have b_6 : iv 1 1 r_1 := iv_n0 c_5 br_1 (iv_c (0 : Int32) (a := 0) (b := 0) (by decide)) (by decide)
    have c_7 : pz0_11 = 0 := (g_2 (iv_eqp b_6 (iv_c (1 : Int32) (by decide))))
    have b_8 : iv 0 0 pz0_11 := iv_q c_7 (iv_c (0 : Int32) (a := 0) (b := 0) (by decide))
    have c_9 : pz0_9 = 4 := (g_3 (iv_eqp b_6 (iv_c (1 : Int32) (by decide))))
    have b_10 : iv 4 4 pz0_9 := iv_q c_9 (iv_c (4 : Int32) (a := 4) (b := 4) (by decide))
    refine lv_aload_n hx hb dX10_eats_10 rfl (lv_at hl 0 rfl) ?_
    refine jnV (wr := []) (rnV (rest := []) ⟨hx, hb, hml, hown, hg⟩ (k_X10_next_0 l V z pz0_0 pz0_5 pz0_6 pz0_7 pz0_8 pz0_9 pz0_10 pz0_11 pz0_12 pz0_13 pz0_14 pz0_18 pz0_19 pz0_22 pz0_23 pz0_29 fz3 bpz0_5 bpz0_6 bpz0_7 bpz0_8 bpz0_10 (iv_w b_8 (by decide)) bpz0_12 bpz0_13 bpz0_14 bpz0_18 bpz0_22 bpz0_29 tfz3 hf0.2.1) mt_X10_next q_6_117 ⟨Nat.le_of_ble_eq_true rfl, Nat.le_of_ble_eq_true rfl⟩ hK hP hD hS hA hE [1, 0] rfl rfl 1 rfl rfl rfl rfl hl.1 rfl (Nat.le_of_ble_eq_true rfl) dX10_eats_11 ⟨Nat.le_of_ble_eq_true rfl, Nat.le_of_ble_eq_true rfl⟩) hP hD hS hA [1, 0] [] rfl rfl rfl (by decide) (fun  w H locs hw hP hD hS => ?_)
    obtain ⟨v_11, v_12, v_13, v_14, bv_11, bv_12, bv_14, g_15, g_16, g_17, rfl⟩ := hw
    have hP : va_P V.1 vwCl [(z 0, .inr (10, mo z pz0_0 pz0_5 v_11 v_12 pz0_8 v_13 v_14 pz0_11 pz0_12 pz0_13 pz0_14 pz0_18 pz0_19 pz0_22 pz0_23 pz0_29)), (z 3, aI V 900 fz3)] H := hP
    have hD := cpD hP hD
    refine lv_iconst (v := 1) hx hb dX10_eats_14 (by decide) ?_
    exact fiZ rfl hx hb hr hlk hK hP hD hS dX10_eats_15 (Nat.le_of_ble_eq_true rfl) (Nat.le_of_ble_eq_true rfl) (⟨v_11, v_12, v_13, v_14, bv_11, bv_12, bv_14, (iv_c (1 : Int32) (by decide)), g_15, (by have q9 := g_16; have q8 := hf0.1; omega), (fun _ => iv_eqp b_8 (iv_c (0 : Int32) (by decide))), (fun _ => by have q9 := g_16; have q8 := hf0.2.2 (by rw [c_9]; decide); omega), (fun q9 h9 => by have b_1 := RZ_i1 (k := 4) h9 (by decide) g_2 g_3 b_6; have h_2 := RZ_nx bpz0_8.2 h9 (isQ_iff.mp b_1).1 g_17; exact ⟨fun _ => ⟨b_1, h_2⟩, fun z => absurd z (by decide)⟩), rfl⟩)
  · have b_18 : iv 0 0 r_1 := iv_q c_5 (iv_c (0 : Int32) (a := 0) (b := 0) (by decide))
    refine lv_iconst (v := 0) hx hb dX10_eats_8 (by decide) ?_
    have hP := subP (ws' := [(z 0, .inr (10, mo z pz0_0 pz0_5 pz0_6 pz0_7 pz0_8 pz0_9 pz0_10 pz0_11 pz0_12 pz0_13 pz0_14 pz0_18 pz0_19 pz0_22 pz0_23 pz0_29)), (z 3, aI V 900 fz3)]) hP [1, 0] rfl
    have hD := subD hP hD [1, 0] rfl rfl
    exact fiZ rfl hx hb hr hlk hK hP hD hS dX10_eats_9 (Nat.le_of_ble_eq_true rfl) (Nat.le_of_ble_eq_true rfl) (⟨pz0_6, pz0_7, pz0_9, pz0_10, bpz0_6, bpz0_7, bpz0_10, (iv_c (0 : Int32) (by decide)), hf0, (Int.le_refl _), (fun q9 => absurd q9 (by decide)), (fun q9 => absurd q9 (by decide)), (fun q9 h9 => by have b_1 := RZ_i0 (k := 4) h9 (by decide) g_4 b_18; exact ⟨fun z => absurd z (by decide), fun _ => ⟨b_1, h9⟩⟩), rfl⟩)
set_option maxHeartbeats 4000000 in
set_option maxRecDepth 100000 in
theorem k_X10_named_4 (l : Launch) (V : GV) (z : Nat → Nat) (a2 : Int32) (a3 : Int32) (pz0_0 : Int32) (pz0_5 : Int32) (pz0_6 : Int32) (pz0_7 : Int32) (pz0_8 : Int32) (pz0_9 : Int32) (pz0_10 : Int32) (pz0_11 : Int32) (pz0_12 : Int32) (pz0_13 : Int32) (pz0_14 : Int32) (pz0_18 : Int32) (pz0_19 : Int32) (pz0_22 : Int32) (pz0_23 : Int32) (pz0_29 : Int32) (fz3 : Nat → Int32) (bpz0_5 : iv 0 900 pz0_5) (bpz0_6 : iv 0 900 pz0_6) (bpz0_7 : iv 0 900 pz0_7) (bpz0_8 : iv 0 900 pz0_8) (bpz0_10 : iv 0 999 pz0_10) (bpz0_11 : iv 0 4 pz0_11) (bpz0_12 : iv 0 900 pz0_12) (bpz0_13 : iv 0 4 pz0_13) (bpz0_14 : iv (-1) 900 pz0_14) (bpz0_18 : iv 0 2 pz0_18) (bpz0_22 : iv 0 9999 pz0_22) (bpz0_29 : iv 0 10000 pz0_29) (tfz3 : ∀ j, iv 0 255 (fz3 j)) (hf0 : PT pz0_6 pz0_7 pz0_8 pz0_9) : Ct l V yX10_named (.code yX10_named cX10_named 4 (some .int)) 8 [.ref (z 0), .int 4, .int a2, .int a3] [(z 0, .inr (10, mo z pz0_0 pz0_5 pz0_6 pz0_7 pz0_8 pz0_9 pz0_10 pz0_11 pz0_12 pz0_13 pz0_14 pz0_18 pz0_19 pz0_22 pz0_23 pz0_29)), (z 3, aI V 900 fz3)] 0 0 (QI V (fun (r : Int32) (w : va_W) => ∃ (v0 : Int32) (v1 : Int32) (v2 : Int32) (v3 : Int32) (v4 : Int32) (v5 : Int32), iv 0 900 v0 ∧ iv 0 900 v1 ∧ iv 0 999 v3 ∧ iv 0 4 v4 ∧ iv 0 900 v5 ∧ iv 0 999 r ∧ (PT v0 v1 pz0_8 v2) ∧ ((pz0_6 : Int32).toInt ≤ (v0 : Int32).toInt) ∧ (v4 = 0 → pz0_11 = 0) ∧ (v4 = 0 → (a2 : Int32).toInt ≤ (r : Int32).toInt ∧ (r : Int32).toInt ≤ (a3 : Int32).toInt) ∧ (a2 = 0 → ∀ q9 : Sg, RZ fz3 pz0_8 q9 pz0_11 pz0_12 pz0_9 pz0_6 pz0_7 pz0_10 → RZ fz3 pz0_8 (nuP (tkX fz3 pz0_8) a3 (exP (tkX fz3 pz0_8) (4 : Int32) q9)) v4 v5 v2 v0 v1 v3) ∧ (a2 = 0 → ∀ q9 : Sg, RZ fz3 pz0_8 q9 pz0_11 pz0_12 pz0_9 pz0_6 pz0_7 pz0_10 → (nuP (tkX fz3 pz0_8) a3 (exP (tkX fz3 pz0_8) (4 : Int32) q9)).1 = 0 → r = ((tkX fz3 pz0_8) (exP (tkX fz3 pz0_8) (4 : Int32) q9).2.2.1).2.2.2) ∧ w = [(z 0, .inr (10, mo z pz0_0 pz0_5 v0 v1 pz0_8 v2 v3 v4 v5 pz0_13 pz0_14 pz0_18 pz0_19 pz0_22 pz0_23 pz0_29)), (z 3, aI V 900 fz3)])) := by
  refine Ct.of (by decide) (Nat.le_of_ble_eq_true rfl) (fun p e s m below meth c A ls hx hb hr hml hown hlk hnm hg hP hK hD hE hA hS hl => ?_)
  have hl : lv_has ls 4 [(0, .ref (z 0)), (1, .int 4), (2, .int a2), (3, .int a3)] := hl
  refine lv_aload_n hx hb dX10_named_0 rfl (lv_at hl 0 rfl) ?_
  refine lv_iload_n hx hb dX10_named_1 rfl (lv_at hl 1 rfl) ?_
  refine jnI (wr := []) (rnV (rest := []) ⟨hx, hb, hml, hown, hg⟩ (k_X10_eats_15 l V z pz0_0 pz0_5 pz0_6 pz0_7 pz0_8 pz0_9 pz0_10 pz0_11 pz0_12 pz0_13 pz0_14 pz0_18 pz0_19 pz0_22 pz0_23 pz0_29 fz3 bpz0_5 bpz0_6 bpz0_7 bpz0_8 bpz0_10 bpz0_11 bpz0_12 bpz0_13 bpz0_14 bpz0_18 bpz0_22 bpz0_29 tfz3 hf0) mt_X10_eats q_6_139 ⟨Nat.le_of_ble_eq_true rfl, Nat.le_of_ble_eq_true rfl⟩ hK hP hD hS hA hE [0, 1] rfl rfl 0 rfl rfl rfl rfl hl.1 rfl (Nat.le_of_ble_eq_true rfl) dX10_named_2 ⟨Nat.le_of_ble_eq_true rfl, Nat.le_of_ble_eq_true rfl⟩) hP hD hS hA [0, 1] [] rfl rfl rfl (by decide) (fun r_1 w H locs hw hP hD hS => ?_)
  obtain ⟨v_2, v_3, v_4, v_5, bv_2, bv_3, bv_5, br_1, g_6, g_7, g_8, g_9, g_10, rfl⟩ := hw
  have hP : va_P V.1 vwCl [(z 0, .inr (10, mo z pz0_0 pz0_5 v_2 v_3 pz0_8 v_4 v_5 pz0_11 pz0_12 pz0_13 pz0_14 pz0_18 pz0_19 pz0_22 pz0_23 pz0_29)), (z 3, aI V 900 fz3)] H := hP
  have hD := cpD hP hD
  refine lv_if_ne (tgt := 13) hx hb dX10_named_5 (by decide) (fun c_11 => ?_) (fun c_11 => ?_)
  · have b_12 : iv 1 1 r_1 := iv_n0 c_11 br_1 (iv_c (0 : Int32) (a := 0) (b := 0) (by decide)) (by decide)
    have c_13 : pz0_11 = 0 := (g_8 (iv_eqp b_12 (iv_c (1 : Int32) (by decide))))
    have b_14 : iv 0 0 pz0_11 := iv_q c_13 (iv_c (0 : Int32) (a := 0) (b := 0) (by decide))
    refine lv_aload_n hx hb dX10_named_13 rfl (lv_at hl 0 rfl) ?_
    refine lv_iload_n hx hb dX10_named_14 rfl (lv_at hl 2 rfl) ?_
    refine lv_iload_n hx hb dX10_named_15 rfl (lv_at hl 3 rfl) ?_
    refine jnI (wr := []) (rnV (rest := []) ⟨hx, hb, hml, hown, hg⟩ (k_X10_takesOne_0 l V z a2 a3 pz0_0 pz0_5 v_2 v_3 pz0_8 v_4 v_5 pz0_11 pz0_12 pz0_13 pz0_14 pz0_18 pz0_19 pz0_22 pz0_23 pz0_29 fz3 bpz0_5 bv_2 bv_3 bpz0_8 bv_5 (iv_w b_14 (by decide)) bpz0_12 bpz0_13 bpz0_14 bpz0_18 bpz0_22 bpz0_29 tfz3 g_6) mt_X10_takesOne q_6_155 ⟨Nat.le_of_ble_eq_true rfl, Nat.le_of_ble_eq_true rfl⟩ hK hP hD hS hA hE [0, 1] rfl rfl 0 rfl rfl rfl rfl hl.1 rfl (Nat.le_of_ble_eq_true rfl) dX10_named_16 ⟨Nat.le_of_ble_eq_true rfl, Nat.le_of_ble_eq_true rfl⟩) hP hD hS hA [0, 1] [] rfl rfl rfl (by decide) (fun r_15 w H locs hw hP hD hS => ?_)
    obtain ⟨v_16, v_17, v_18, v_19, v_20, v_21, bv_16, bv_17, bv_19, bv_20, bv_21, br_15, g_22, g_23, g_24, g_25, g_26, g_27, rfl⟩ := hw
    have hP : va_P V.1 vwCl [(z 0, .inr (10, mo z pz0_0 pz0_5 v_16 v_17 pz0_8 v_18 v_19 v_20 v_21 pz0_13 pz0_14 pz0_18 pz0_19 pz0_22 pz0_23 pz0_29)), (z 3, aI V 900 fz3)] H := hP
    have hD := cpD hP hD
    exact fiI hx hb hr hlk hK hP hD hS dX10_named_19 (Nat.le_of_ble_eq_true rfl) (Nat.le_of_ble_eq_true rfl) (⟨v_16, v_17, v_18, v_19, v_20, v_21, bv_16, bv_17, bv_19, bv_20, bv_21, br_15, g_22, (by have z_0 := g_7; have z_1 := g_23;have y_0 := hf0.1; have y_1 := g_6.1; have y_2 := g_22.1; omega), (fun q9 => ((g_24) q9)), g_25, (fun z9 q9 h9 => by obtain ⟨b_1, h_1⟩ := (g_10 _ h9).1 (iv_eqp b_12 (iv_c (1 : Int32) (by decide))); have h_1x := RZ_cg (exP_1 b_1) h_1; have h_2 := g_26 z9 _ h_1x; exact h_2), (fun z9 q9 h9 w9 => by obtain ⟨b_1, h_1⟩ := (g_10 _ h9).1 (iv_eqp b_12 (iv_c (1 : Int32) (by decide))); have h_1x := RZ_cg (exP_1 b_1) h_1; have h_2 := g_26 z9 _ h_1x; exact g_27 z9 _ h_1x w9), rfl⟩)
  · have b_28 : iv 0 0 r_1 := iv_q c_11 (iv_c (0 : Int32) (a := 0) (b := 0) (by decide))
    refine lv_aload_n hx hb dX10_named_8 rfl (lv_at hl 0 rfl) ?_
    refine lv_iconst (v := 2) hx hb dX10_named_9 (by decide) ?_
    refine jnV (wr := [(z 3, aI V 900 fz3)]) (rnV (rest := []) ⟨hx, hb, hml, hown, hg⟩ (k_X10_fails_0 l V z 2 pz0_0 pz0_5 v_2 v_3 pz0_8 v_4 v_5 pz0_11 pz0_12 pz0_13 pz0_14 pz0_18 pz0_19 pz0_22 pz0_23 pz0_29 (iv_c (2 : Int32) (by decide)) bpz0_5 bv_2 bv_3 bpz0_8 bv_5 bpz0_11 bpz0_12 bpz0_13 bpz0_14 bpz0_18 bpz0_22 bpz0_29) mt_X10_fails q_6_147 ⟨Nat.le_of_ble_eq_true rfl, Nat.le_of_ble_eq_true rfl⟩ hK hP hD hS hA hE [0] rfl rfl 0 rfl rfl rfl rfl hl.1 rfl (Nat.le_of_ble_eq_true rfl) dX10_named_10 ⟨Nat.le_of_ble_eq_true rfl, Nat.le_of_ble_eq_true rfl⟩) hP hD hS hA [0] [1] rfl rfl rfl (by decide) (fun  w H locs hw hP hD hS => ?_)
    obtain ⟨v_29, v_30, bv_29, bv_30, g_31, rfl⟩ := hw
    have hP : va_P V.1 vwCl [(z 3, aI V 900 fz3), (z 0, .inr (10, mo z pz0_0 pz0_5 v_2 v_3 pz0_8 v_4 v_5 v_29 v_30 pz0_13 pz0_14 pz0_18 pz0_19 pz0_22 pz0_23 pz0_29))] H := hP
    have hD := cpD hP hD
    refine lv_aload_n hx hb dX10_named_13 rfl (lv_at hl 0 rfl) ?_
    refine lv_iload_n hx hb dX10_named_14 rfl (lv_at hl 2 rfl) ?_
    refine lv_iload_n hx hb dX10_named_15 rfl (lv_at hl 3 rfl) ?_
    refine jnI (wr := []) (rnV (rest := []) ⟨hx, hb, hml, hown, hg⟩ (k_X10_takesOne_0 l V z a2 a3 pz0_0 pz0_5 v_2 v_3 pz0_8 v_4 v_5 v_29 v_30 pz0_13 pz0_14 pz0_18 pz0_19 pz0_22 pz0_23 pz0_29 fz3 bpz0_5 bv_2 bv_3 bpz0_8 bv_5 (iv_w bv_29 (by decide)) bv_30 bpz0_13 bpz0_14 bpz0_18 bpz0_22 bpz0_29 tfz3 g_6) mt_X10_takesOne q_6_155 ⟨Nat.le_of_ble_eq_true rfl, Nat.le_of_ble_eq_true rfl⟩ hK hP hD hS hA hE [1, 0] rfl rfl 1 rfl rfl rfl rfl hl.1 rfl (Nat.le_of_ble_eq_true rfl) dX10_named_16 ⟨Nat.le_of_ble_eq_true rfl, Nat.le_of_ble_eq_true rfl⟩) hP hD hS hA [1, 0] [] rfl rfl rfl (by decide) (fun r_32 w H locs hw hP hD hS => ?_)
    obtain ⟨v_33, v_34, v_35, v_36, v_37, v_38, bv_33, bv_34, bv_36, bv_37, bv_38, br_32, g_39, g_40, g_41, g_42, g_43, g_44, rfl⟩ := hw
    have hP : va_P V.1 vwCl [(z 0, .inr (10, mo z pz0_0 pz0_5 v_33 v_34 pz0_8 v_35 v_36 v_37 v_38 pz0_13 pz0_14 pz0_18 pz0_19 pz0_22 pz0_23 pz0_29)), (z 3, aI V 900 fz3)] H := hP
    have hD := cpD hP hD
    exact fiI hx hb hr hlk hK hP hD hS dX10_named_19 (Nat.le_of_ble_eq_true rfl) (Nat.le_of_ble_eq_true rfl) (⟨v_33, v_34, v_35, v_36, v_37, v_38, bv_33, bv_34, bv_36, bv_37, bv_38, br_32, g_39, (by have z_0 := g_7; have z_1 := g_40;have y_0 := hf0.1; have y_1 := g_6.1; have y_2 := g_39.1; omega), (fun q9 => ((fun q8 => absurd q8 (iv_nz bv_29 (by decide))) ((g_41) q9))), g_42, (fun z9 q9 h9 => by obtain ⟨b_1, h_1⟩ := (g_10 _ h9).2 (iv_eqp b_28 (iv_c (0 : Int32) (by decide))); have h_2 := RZ_cg (exP_0 b_1) (RZ_fl h_1 g_31 (by decide)); have h_3 := g_43 z9 _ h_2; exact h_3), (fun z9 q9 h9 w9 => by obtain ⟨b_1, h_1⟩ := (g_10 _ h9).2 (iv_eqp b_28 (iv_c (0 : Int32) (by decide))); have h_2 := RZ_cg (exP_0 b_1) (RZ_fl h_1 g_31 (by decide)); have h_3 := g_43 z9 _ h_2; exact g_44 z9 _ h_2 w9), rfl⟩)
set_option maxHeartbeats 4000000 in
set_option maxRecDepth 100000 in
theorem k_X10_is_31 (l : Launch) (V : GV) (z : Nat → Nat) (pz0_0 : Int32) (pz0_5 : Int32) (pz0_6 : Int32) (pz0_7 : Int32) (pz0_8 : Int32) (pz0_9 : Int32) (pz0_10 : Int32) (pz0_11 : Int32) (pz0_12 : Int32) (pz0_13 : Int32) (pz0_14 : Int32) (pz0_18 : Int32) (pz0_19 : Int32) (pz0_22 : Int32) (pz0_23 : Int32) (pz0_29 : Int32) (bpz0_5 : iv 0 900 pz0_5) (bpz0_6 : iv 0 900 pz0_6) (bpz0_7 : iv 0 900 pz0_7) (bpz0_8 : iv 0 900 pz0_8) (bpz0_10 : iv 0 999 pz0_10) (bpz0_11 : iv 0 4 pz0_11) (bpz0_12 : iv 0 900 pz0_12) (bpz0_13 : iv 0 4 pz0_13) (bpz0_14 : iv (-1) 900 pz0_14) (bpz0_18 : iv 0 2 pz0_18) (bpz0_22 : iv 0 9999 pz0_22) (bpz0_29 : iv 0 10000 pz0_29) : Ct l V yX10_is (.code yX10_is cX10_is 2 (some .boolean)) 1 [.ref (z 0), .int 5] [(z 0, .inr (10, mo z pz0_0 pz0_5 pz0_6 pz0_7 pz0_8 pz0_9 pz0_10 pz0_11 pz0_12 pz0_13 pz0_14 pz0_18 pz0_19 pz0_22 pz0_23 pz0_29))] 0 0 (QI V (fun (r : Int32) (w : va_W) => iv 0 1 r ∧ (r = 1 → pz0_11 = 0) ∧ (r = 1 → pz0_9 = (5 : Int32)) ∧ (r = 0 → ¬ (pz0_11 = 0 ∧ pz0_9 = (5 : Int32))) ∧ w = [(z 0, .inr (10, mo z pz0_0 pz0_5 pz0_6 pz0_7 pz0_8 pz0_9 pz0_10 pz0_11 pz0_12 pz0_13 pz0_14 pz0_18 pz0_19 pz0_22 pz0_23 pz0_29))])) := by
  refine Ct.of (by decide) (Nat.le_of_ble_eq_true rfl) (fun p e s m below meth c A ls hx hb hr hml hown hlk hnm hg hP hK hD hE hA hS hl => ?_)
  have hl : lv_has ls 2 [(0, .ref (z 0)), (1, .int 5)] := hl
  refine lv_aload_n hx hb dX10_is_0 rfl (lv_at hl 0 rfl) ?_
  refine va_get (ci := 10) (v := .int pz0_11) (C := RX10) (T := TX10) (N := 40) hx hb hg inX10 hown hK hP 0 rfl rfl 11 (by decide) (hg _ q_5_235) (fun _ h9 => h9) rfl dX10_is_1 ?_
  refine lv_if_ne (tgt := 19) hx hb dX10_is_4 (by decide) (fun c_1 => ?_) (fun c_1 => ?_)
  · have b_2 : iv 1 4 pz0_11 := iv_n0 c_1 bpz0_11 (iv_c (0 : Int32) (a := 0) (b := 0) (by decide)) (by decide)
    refine lv_iconst (v := 0) hx hb dX10_is_19 (by decide) ?_
    exact fiZ rfl hx hb hr hlk hK hP hD hS dX10_is_20 (Nat.le_of_ble_eq_true rfl) (Nat.le_of_ble_eq_true rfl) (⟨(iv_c (0 : Int32) (by decide)), (fun q9 => absurd q9 (by decide)), (fun q9 => absurd q9 (by decide)), (fun _ q9 => c_1 q9.1), rfl⟩)
  · have b_3 : iv 0 0 pz0_11 := iv_q c_1 (iv_c (0 : Int32) (a := 0) (b := 0) (by decide))
    refine lv_aload_n hx hb dX10_is_7 rfl (lv_at hl 0 rfl) ?_
    refine va_get (ci := 10) (v := .int pz0_9) (C := RX10) (T := TX10) (N := 40) hx hb hg inX10 hown hK hP 0 rfl rfl 9 (by decide) (hg _ q_5_233) (fun _ h9 => h9) rfl dX10_is_8 ?_
    refine lv_iload_n hx hb dX10_is_11 rfl (lv_at hl 1 rfl) ?_
    refine lv_icmp_ne (tgt := 19) hx hb dX10_is_12 (by decide) (fun c_4 => ?_) (fun c_4 => ?_)
    · refine lv_iconst (v := 0) hx hb dX10_is_19 (by decide) ?_
      exact fiZ rfl hx hb hr hlk hK hP hD hS dX10_is_20 (Nat.le_of_ble_eq_true rfl) (Nat.le_of_ble_eq_true rfl) (⟨(iv_c (0 : Int32) (by decide)), (fun q9 => absurd q9 (by decide)), (fun q9 => absurd q9 (by decide)), (fun _ q9 => c_4 q9.2), rfl⟩)
    · have b_5 : iv 5 5 pz0_9 := iv_q c_4 (iv_c (5 : Int32) (a := 5) (b := 5) (by decide))
      refine lv_iconst (v := 1) hx hb dX10_is_15 (by decide) ?_
      refine lv_goto (tgt := 20) hx hb dX10_is_16 (by decide) ?_
      exact fiZ rfl hx hb hr hlk hK hP hD hS dX10_is_20 (Nat.le_of_ble_eq_true rfl) (Nat.le_of_ble_eq_true rfl) (⟨(iv_c (1 : Int32) (by decide)), (fun _ => c_1), (fun _ => c_4), (fun q9 => absurd q9 (by decide)), rfl⟩)
set_option maxHeartbeats 4000000 in
set_option maxRecDepth 100000 in
theorem k_X10_eats_16 (l : Launch) (V : GV) (z : Nat → Nat) (pz0_0 : Int32) (pz0_5 : Int32) (pz0_6 : Int32) (pz0_7 : Int32) (pz0_8 : Int32) (pz0_9 : Int32) (pz0_10 : Int32) (pz0_11 : Int32) (pz0_12 : Int32) (pz0_13 : Int32) (pz0_14 : Int32) (pz0_18 : Int32) (pz0_19 : Int32) (pz0_22 : Int32) (pz0_23 : Int32) (pz0_29 : Int32) (fz3 : Nat → Int32) (bpz0_5 : iv 0 900 pz0_5) (bpz0_6 : iv 0 900 pz0_6) (bpz0_7 : iv 0 900 pz0_7) (bpz0_8 : iv 0 900 pz0_8) (bpz0_10 : iv 0 999 pz0_10) (bpz0_11 : iv 0 4 pz0_11) (bpz0_12 : iv 0 900 pz0_12) (bpz0_13 : iv 0 4 pz0_13) (bpz0_14 : iv (-1) 900 pz0_14) (bpz0_18 : iv 0 2 pz0_18) (bpz0_22 : iv 0 9999 pz0_22) (bpz0_29 : iv 0 10000 pz0_29) (tfz3 : ∀ j, iv 0 255 (fz3 j)) (hf0 : PT pz0_6 pz0_7 pz0_8 pz0_9) : Ct l V yX10_eats (.code yX10_eats cX10_eats 2 (some .boolean)) 7 [.ref (z 0), .int 5] [(z 0, .inr (10, mo z pz0_0 pz0_5 pz0_6 pz0_7 pz0_8 pz0_9 pz0_10 pz0_11 pz0_12 pz0_13 pz0_14 pz0_18 pz0_19 pz0_22 pz0_23 pz0_29)), (z 3, aI V 900 fz3)] 0 0 (QI V (fun (r : Int32) (w : va_W) => ∃ (v0 : Int32) (v1 : Int32) (v2 : Int32) (v3 : Int32), iv 0 900 v0 ∧ iv 0 900 v1 ∧ iv 0 999 v3 ∧ iv 0 1 r ∧ (PT v0 v1 pz0_8 v2) ∧ ((pz0_6 : Int32).toInt ≤ (v0 : Int32).toInt) ∧ (r = 1 → pz0_11 = 0) ∧ (r = 1 → (pz0_6 : Int32).toInt + 1 ≤ (v0 : Int32).toInt) ∧ (∀ q9 : Sg, RZ fz3 pz0_8 q9 pz0_11 pz0_12 pz0_9 pz0_6 pz0_7 pz0_10 → (r = 1 → isQ (tkX fz3 pz0_8) q9 (5 : Int32) = true ∧ RZ fz3 pz0_8 (nxP (tkX fz3 pz0_8) q9) pz0_11 pz0_12 v2 v0 v1 v3) ∧ (r = 0 → isQ (tkX fz3 pz0_8) q9 (5 : Int32) = false ∧ RZ fz3 pz0_8 q9 pz0_11 pz0_12 v2 v0 v1 v3)) ∧ w = [(z 0, .inr (10, mo z pz0_0 pz0_5 v0 v1 pz0_8 v2 v3 pz0_11 pz0_12 pz0_13 pz0_14 pz0_18 pz0_19 pz0_22 pz0_23 pz0_29)), (z 3, aI V 900 fz3)])) := by
  refine Ct.of (by decide) (Nat.le_of_ble_eq_true rfl) (fun p e s m below meth c A ls hx hb hr hml hown hlk hnm hg hP hK hD hE hA hS hl => ?_)
  have hl : lv_has ls 2 [(0, .ref (z 0)), (1, .int 5)] := hl
  refine lv_aload_n hx hb dX10_eats_0 rfl (lv_at hl 0 rfl) ?_
  refine lv_iload_n hx hb dX10_eats_1 rfl (lv_at hl 1 rfl) ?_
  refine jnI (wr := [(z 3, aI V 900 fz3)]) (rnV (rest := []) ⟨hx, hb, hml, hown, hg⟩ (k_X10_is_31 l V z pz0_0 pz0_5 pz0_6 pz0_7 pz0_8 pz0_9 pz0_10 pz0_11 pz0_12 pz0_13 pz0_14 pz0_18 pz0_19 pz0_22 pz0_23 pz0_29 bpz0_5 bpz0_6 bpz0_7 bpz0_8 bpz0_10 bpz0_11 bpz0_12 bpz0_13 bpz0_14 bpz0_18 bpz0_22 bpz0_29) mt_X10_is q_6_143 ⟨Nat.le_of_ble_eq_true rfl, Nat.le_of_ble_eq_true rfl⟩ hK hP hD hS hA hE [0] rfl rfl 0 rfl rfl rfl rfl hl.1 rfl (Nat.le_of_ble_eq_true rfl) dX10_eats_2 ⟨Nat.le_of_ble_eq_true rfl, Nat.le_of_ble_eq_true rfl⟩) hP hD hS hA [0] [1] rfl rfl rfl (by decide) (fun r_1 w H locs hw hP hD hS => ?_)
  obtain ⟨br_1, g_2, g_3, g_4, rfl⟩ := hw
  have hP : va_P V.1 vwCl [(z 3, aI V 900 fz3), (z 0, .inr (10, mo z pz0_0 pz0_5 pz0_6 pz0_7 pz0_8 pz0_9 pz0_10 pz0_11 pz0_12 pz0_13 pz0_14 pz0_18 pz0_19 pz0_22 pz0_23 pz0_29))] H := hP
  have hD := cpD hP hD
  refine lv_if_ne (tgt := 10) hx hb dX10_eats_5 (by decide) (fun c_5 => ?_) (fun c_5 => ?_)
  · have b_6 : iv 1 1 r_1 := iv_n0 c_5 br_1 (iv_c (0 : Int32) (a := 0) (b := 0) (by decide)) (by decide)
    have c_7 : pz0_11 = 0 := (g_2 (iv_eqp b_6 (iv_c (1 : Int32) (by decide))))
    have b_8 : iv 0 0 pz0_11 := iv_q c_7 (iv_c (0 : Int32) (a := 0) (b := 0) (by decide))
    have c_9 : pz0_9 = 5 := (g_3 (iv_eqp b_6 (iv_c (1 : Int32) (by decide))))
    have b_10 : iv 5 5 pz0_9 := iv_q c_9 (iv_c (5 : Int32) (a := 5) (b := 5) (by decide))
    refine lv_aload_n hx hb dX10_eats_10 rfl (lv_at hl 0 rfl) ?_
    refine jnV (wr := []) (rnV (rest := []) ⟨hx, hb, hml, hown, hg⟩ (k_X10_next_0 l V z pz0_0 pz0_5 pz0_6 pz0_7 pz0_8 pz0_9 pz0_10 pz0_11 pz0_12 pz0_13 pz0_14 pz0_18 pz0_19 pz0_22 pz0_23 pz0_29 fz3 bpz0_5 bpz0_6 bpz0_7 bpz0_8 bpz0_10 (iv_w b_8 (by decide)) bpz0_12 bpz0_13 bpz0_14 bpz0_18 bpz0_22 bpz0_29 tfz3 hf0.2.1) mt_X10_next q_6_117 ⟨Nat.le_of_ble_eq_true rfl, Nat.le_of_ble_eq_true rfl⟩ hK hP hD hS hA hE [1, 0] rfl rfl 1 rfl rfl rfl rfl hl.1 rfl (Nat.le_of_ble_eq_true rfl) dX10_eats_11 ⟨Nat.le_of_ble_eq_true rfl, Nat.le_of_ble_eq_true rfl⟩) hP hD hS hA [1, 0] [] rfl rfl rfl (by decide) (fun  w H locs hw hP hD hS => ?_)
    obtain ⟨v_11, v_12, v_13, v_14, bv_11, bv_12, bv_14, g_15, g_16, g_17, rfl⟩ := hw
    have hP : va_P V.1 vwCl [(z 0, .inr (10, mo z pz0_0 pz0_5 v_11 v_12 pz0_8 v_13 v_14 pz0_11 pz0_12 pz0_13 pz0_14 pz0_18 pz0_19 pz0_22 pz0_23 pz0_29)), (z 3, aI V 900 fz3)] H := hP
    have hD := cpD hP hD
    refine lv_iconst (v := 1) hx hb dX10_eats_14 (by decide) ?_
    exact fiZ rfl hx hb hr hlk hK hP hD hS dX10_eats_15 (Nat.le_of_ble_eq_true rfl) (Nat.le_of_ble_eq_true rfl) (⟨v_11, v_12, v_13, v_14, bv_11, bv_12, bv_14, (iv_c (1 : Int32) (by decide)), g_15, (by have q9 := g_16; have q8 := hf0.1; omega), (fun _ => iv_eqp b_8 (iv_c (0 : Int32) (by decide))), (fun _ => by have q9 := g_16; have q8 := hf0.2.2 (by rw [c_9]; decide); omega), (fun q9 h9 => by have b_1 := RZ_i1 (k := 5) h9 (by decide) g_2 g_3 b_6; have h_2 := RZ_nx bpz0_8.2 h9 (isQ_iff.mp b_1).1 g_17; exact ⟨fun _ => ⟨b_1, h_2⟩, fun z => absurd z (by decide)⟩), rfl⟩)
  · have b_18 : iv 0 0 r_1 := iv_q c_5 (iv_c (0 : Int32) (a := 0) (b := 0) (by decide))
    refine lv_iconst (v := 0) hx hb dX10_eats_8 (by decide) ?_
    have hP := subP (ws' := [(z 0, .inr (10, mo z pz0_0 pz0_5 pz0_6 pz0_7 pz0_8 pz0_9 pz0_10 pz0_11 pz0_12 pz0_13 pz0_14 pz0_18 pz0_19 pz0_22 pz0_23 pz0_29)), (z 3, aI V 900 fz3)]) hP [1, 0] rfl
    have hD := subD hP hD [1, 0] rfl rfl
    exact fiZ rfl hx hb hr hlk hK hP hD hS dX10_eats_9 (Nat.le_of_ble_eq_true rfl) (Nat.le_of_ble_eq_true rfl) (⟨pz0_6, pz0_7, pz0_9, pz0_10, bpz0_6, bpz0_7, bpz0_10, (iv_c (0 : Int32) (by decide)), hf0, (Int.le_refl _), (fun q9 => absurd q9 (by decide)), (fun q9 => absurd q9 (by decide)), (fun q9 h9 => by have b_1 := RZ_i0 (k := 5) h9 (by decide) g_4 b_18; exact ⟨fun z => absurd z (by decide), fun _ => ⟨b_1, h9⟩⟩), rfl⟩)
set_option maxHeartbeats 4000000 in
set_option maxRecDepth 100000 in
theorem k_X10_is_32 (l : Launch) (V : GV) (z : Nat → Nat) (pz0_0 : Int32) (pz0_5 : Int32) (pz0_6 : Int32) (pz0_7 : Int32) (pz0_8 : Int32) (pz0_9 : Int32) (pz0_10 : Int32) (pz0_11 : Int32) (pz0_12 : Int32) (pz0_13 : Int32) (pz0_14 : Int32) (pz0_18 : Int32) (pz0_19 : Int32) (pz0_22 : Int32) (pz0_23 : Int32) (pz0_29 : Int32) (bpz0_5 : iv 0 900 pz0_5) (bpz0_6 : iv 0 900 pz0_6) (bpz0_7 : iv 0 900 pz0_7) (bpz0_8 : iv 0 900 pz0_8) (bpz0_10 : iv 0 999 pz0_10) (bpz0_11 : iv 0 4 pz0_11) (bpz0_12 : iv 0 900 pz0_12) (bpz0_13 : iv 0 4 pz0_13) (bpz0_14 : iv (-1) 900 pz0_14) (bpz0_18 : iv 0 2 pz0_18) (bpz0_22 : iv 0 9999 pz0_22) (bpz0_29 : iv 0 10000 pz0_29) : Ct l V yX10_is (.code yX10_is cX10_is 2 (some .boolean)) 1 [.ref (z 0), .int 6] [(z 0, .inr (10, mo z pz0_0 pz0_5 pz0_6 pz0_7 pz0_8 pz0_9 pz0_10 pz0_11 pz0_12 pz0_13 pz0_14 pz0_18 pz0_19 pz0_22 pz0_23 pz0_29))] 0 0 (QI V (fun (r : Int32) (w : va_W) => iv 0 1 r ∧ (r = 1 → pz0_11 = 0) ∧ (r = 1 → pz0_9 = (6 : Int32)) ∧ (r = 0 → ¬ (pz0_11 = 0 ∧ pz0_9 = (6 : Int32))) ∧ w = [(z 0, .inr (10, mo z pz0_0 pz0_5 pz0_6 pz0_7 pz0_8 pz0_9 pz0_10 pz0_11 pz0_12 pz0_13 pz0_14 pz0_18 pz0_19 pz0_22 pz0_23 pz0_29))])) := by
  refine Ct.of (by decide) (Nat.le_of_ble_eq_true rfl) (fun p e s m below meth c A ls hx hb hr hml hown hlk hnm hg hP hK hD hE hA hS hl => ?_)
  have hl : lv_has ls 2 [(0, .ref (z 0)), (1, .int 6)] := hl
  refine lv_aload_n hx hb dX10_is_0 rfl (lv_at hl 0 rfl) ?_
  refine va_get (ci := 10) (v := .int pz0_11) (C := RX10) (T := TX10) (N := 40) hx hb hg inX10 hown hK hP 0 rfl rfl 11 (by decide) (hg _ q_5_235) (fun _ h9 => h9) rfl dX10_is_1 ?_
  refine lv_if_ne (tgt := 19) hx hb dX10_is_4 (by decide) (fun c_1 => ?_) (fun c_1 => ?_)
  · have b_2 : iv 1 4 pz0_11 := iv_n0 c_1 bpz0_11 (iv_c (0 : Int32) (a := 0) (b := 0) (by decide)) (by decide)
    refine lv_iconst (v := 0) hx hb dX10_is_19 (by decide) ?_
    exact fiZ rfl hx hb hr hlk hK hP hD hS dX10_is_20 (Nat.le_of_ble_eq_true rfl) (Nat.le_of_ble_eq_true rfl) (⟨(iv_c (0 : Int32) (by decide)), (fun q9 => absurd q9 (by decide)), (fun q9 => absurd q9 (by decide)), (fun _ q9 => c_1 q9.1), rfl⟩)
  · have b_3 : iv 0 0 pz0_11 := iv_q c_1 (iv_c (0 : Int32) (a := 0) (b := 0) (by decide))
    refine lv_aload_n hx hb dX10_is_7 rfl (lv_at hl 0 rfl) ?_
    refine va_get (ci := 10) (v := .int pz0_9) (C := RX10) (T := TX10) (N := 40) hx hb hg inX10 hown hK hP 0 rfl rfl 9 (by decide) (hg _ q_5_233) (fun _ h9 => h9) rfl dX10_is_8 ?_
    refine lv_iload_n hx hb dX10_is_11 rfl (lv_at hl 1 rfl) ?_
    refine lv_icmp_ne (tgt := 19) hx hb dX10_is_12 (by decide) (fun c_4 => ?_) (fun c_4 => ?_)
    · refine lv_iconst (v := 0) hx hb dX10_is_19 (by decide) ?_
      exact fiZ rfl hx hb hr hlk hK hP hD hS dX10_is_20 (Nat.le_of_ble_eq_true rfl) (Nat.le_of_ble_eq_true rfl) (⟨(iv_c (0 : Int32) (by decide)), (fun q9 => absurd q9 (by decide)), (fun q9 => absurd q9 (by decide)), (fun _ q9 => c_4 q9.2), rfl⟩)
    · have b_5 : iv 6 6 pz0_9 := iv_q c_4 (iv_c (6 : Int32) (a := 6) (b := 6) (by decide))
      refine lv_iconst (v := 1) hx hb dX10_is_15 (by decide) ?_
      refine lv_goto (tgt := 20) hx hb dX10_is_16 (by decide) ?_
      exact fiZ rfl hx hb hr hlk hK hP hD hS dX10_is_20 (Nat.le_of_ble_eq_true rfl) (Nat.le_of_ble_eq_true rfl) (⟨(iv_c (1 : Int32) (by decide)), (fun _ => c_1), (fun _ => c_4), (fun q9 => absurd q9 (by decide)), rfl⟩)
set_option maxHeartbeats 4000000 in
set_option maxRecDepth 100000 in
theorem k_X10_eats_17 (l : Launch) (V : GV) (z : Nat → Nat) (pz0_0 : Int32) (pz0_5 : Int32) (pz0_6 : Int32) (pz0_7 : Int32) (pz0_8 : Int32) (pz0_9 : Int32) (pz0_10 : Int32) (pz0_11 : Int32) (pz0_12 : Int32) (pz0_13 : Int32) (pz0_14 : Int32) (pz0_18 : Int32) (pz0_19 : Int32) (pz0_22 : Int32) (pz0_23 : Int32) (pz0_29 : Int32) (fz3 : Nat → Int32) (bpz0_5 : iv 0 900 pz0_5) (bpz0_6 : iv 0 900 pz0_6) (bpz0_7 : iv 0 900 pz0_7) (bpz0_8 : iv 0 900 pz0_8) (bpz0_10 : iv 0 999 pz0_10) (bpz0_11 : iv 0 4 pz0_11) (bpz0_12 : iv 0 900 pz0_12) (bpz0_13 : iv 0 4 pz0_13) (bpz0_14 : iv (-1) 900 pz0_14) (bpz0_18 : iv 0 2 pz0_18) (bpz0_22 : iv 0 9999 pz0_22) (bpz0_29 : iv 0 10000 pz0_29) (tfz3 : ∀ j, iv 0 255 (fz3 j)) (hf0 : PT pz0_6 pz0_7 pz0_8 pz0_9) : Ct l V yX10_eats (.code yX10_eats cX10_eats 2 (some .boolean)) 7 [.ref (z 0), .int 6] [(z 0, .inr (10, mo z pz0_0 pz0_5 pz0_6 pz0_7 pz0_8 pz0_9 pz0_10 pz0_11 pz0_12 pz0_13 pz0_14 pz0_18 pz0_19 pz0_22 pz0_23 pz0_29)), (z 3, aI V 900 fz3)] 0 0 (QI V (fun (r : Int32) (w : va_W) => ∃ (v0 : Int32) (v1 : Int32) (v2 : Int32) (v3 : Int32), iv 0 900 v0 ∧ iv 0 900 v1 ∧ iv 0 999 v3 ∧ iv 0 1 r ∧ (PT v0 v1 pz0_8 v2) ∧ ((pz0_6 : Int32).toInt ≤ (v0 : Int32).toInt) ∧ (r = 1 → pz0_11 = 0) ∧ (r = 1 → (pz0_6 : Int32).toInt + 1 ≤ (v0 : Int32).toInt) ∧ (∀ q9 : Sg, RZ fz3 pz0_8 q9 pz0_11 pz0_12 pz0_9 pz0_6 pz0_7 pz0_10 → (r = 1 → isQ (tkX fz3 pz0_8) q9 (6 : Int32) = true ∧ RZ fz3 pz0_8 (nxP (tkX fz3 pz0_8) q9) pz0_11 pz0_12 v2 v0 v1 v3) ∧ (r = 0 → isQ (tkX fz3 pz0_8) q9 (6 : Int32) = false ∧ RZ fz3 pz0_8 q9 pz0_11 pz0_12 v2 v0 v1 v3)) ∧ w = [(z 0, .inr (10, mo z pz0_0 pz0_5 v0 v1 pz0_8 v2 v3 pz0_11 pz0_12 pz0_13 pz0_14 pz0_18 pz0_19 pz0_22 pz0_23 pz0_29)), (z 3, aI V 900 fz3)])) := by
  refine Ct.of (by decide) (Nat.le_of_ble_eq_true rfl) (fun p e s m below meth c A ls hx hb hr hml hown hlk hnm hg hP hK hD hE hA hS hl => ?_)
  have hl : lv_has ls 2 [(0, .ref (z 0)), (1, .int 6)] := hl
  refine lv_aload_n hx hb dX10_eats_0 rfl (lv_at hl 0 rfl) ?_
  refine lv_iload_n hx hb dX10_eats_1 rfl (lv_at hl 1 rfl) ?_
  refine jnI (wr := [(z 3, aI V 900 fz3)]) (rnV (rest := []) ⟨hx, hb, hml, hown, hg⟩ (k_X10_is_32 l V z pz0_0 pz0_5 pz0_6 pz0_7 pz0_8 pz0_9 pz0_10 pz0_11 pz0_12 pz0_13 pz0_14 pz0_18 pz0_19 pz0_22 pz0_23 pz0_29 bpz0_5 bpz0_6 bpz0_7 bpz0_8 bpz0_10 bpz0_11 bpz0_12 bpz0_13 bpz0_14 bpz0_18 bpz0_22 bpz0_29) mt_X10_is q_6_143 ⟨Nat.le_of_ble_eq_true rfl, Nat.le_of_ble_eq_true rfl⟩ hK hP hD hS hA hE [0] rfl rfl 0 rfl rfl rfl rfl hl.1 rfl (Nat.le_of_ble_eq_true rfl) dX10_eats_2 ⟨Nat.le_of_ble_eq_true rfl, Nat.le_of_ble_eq_true rfl⟩) hP hD hS hA [0] [1] rfl rfl rfl (by decide) (fun r_1 w H locs hw hP hD hS => ?_)
  obtain ⟨br_1, g_2, g_3, g_4, rfl⟩ := hw
  have hP : va_P V.1 vwCl [(z 3, aI V 900 fz3), (z 0, .inr (10, mo z pz0_0 pz0_5 pz0_6 pz0_7 pz0_8 pz0_9 pz0_10 pz0_11 pz0_12 pz0_13 pz0_14 pz0_18 pz0_19 pz0_22 pz0_23 pz0_29))] H := hP
  have hD := cpD hP hD
  refine lv_if_ne (tgt := 10) hx hb dX10_eats_5 (by decide) (fun c_5 => ?_) (fun c_5 => ?_)
  · have b_6 : iv 1 1 r_1 := iv_n0 c_5 br_1 (iv_c (0 : Int32) (a := 0) (b := 0) (by decide)) (by decide)
    have c_7 : pz0_11 = 0 := (g_2 (iv_eqp b_6 (iv_c (1 : Int32) (by decide))))
    have b_8 : iv 0 0 pz0_11 := iv_q c_7 (iv_c (0 : Int32) (a := 0) (b := 0) (by decide))
    have c_9 : pz0_9 = 6 := (g_3 (iv_eqp b_6 (iv_c (1 : Int32) (by decide))))
    have b_10 : iv 6 6 pz0_9 := iv_q c_9 (iv_c (6 : Int32) (a := 6) (b := 6) (by decide))
    refine lv_aload_n hx hb dX10_eats_10 rfl (lv_at hl 0 rfl) ?_
    refine jnV (wr := []) (rnV (rest := []) ⟨hx, hb, hml, hown, hg⟩ (k_X10_next_0 l V z pz0_0 pz0_5 pz0_6 pz0_7 pz0_8 pz0_9 pz0_10 pz0_11 pz0_12 pz0_13 pz0_14 pz0_18 pz0_19 pz0_22 pz0_23 pz0_29 fz3 bpz0_5 bpz0_6 bpz0_7 bpz0_8 bpz0_10 (iv_w b_8 (by decide)) bpz0_12 bpz0_13 bpz0_14 bpz0_18 bpz0_22 bpz0_29 tfz3 hf0.2.1) mt_X10_next q_6_117 ⟨Nat.le_of_ble_eq_true rfl, Nat.le_of_ble_eq_true rfl⟩ hK hP hD hS hA hE [1, 0] rfl rfl 1 rfl rfl rfl rfl hl.1 rfl (Nat.le_of_ble_eq_true rfl) dX10_eats_11 ⟨Nat.le_of_ble_eq_true rfl, Nat.le_of_ble_eq_true rfl⟩) hP hD hS hA [1, 0] [] rfl rfl rfl (by decide) (fun  w H locs hw hP hD hS => ?_)
    obtain ⟨v_11, v_12, v_13, v_14, bv_11, bv_12, bv_14, g_15, g_16, g_17, rfl⟩ := hw
    have hP : va_P V.1 vwCl [(z 0, .inr (10, mo z pz0_0 pz0_5 v_11 v_12 pz0_8 v_13 v_14 pz0_11 pz0_12 pz0_13 pz0_14 pz0_18 pz0_19 pz0_22 pz0_23 pz0_29)), (z 3, aI V 900 fz3)] H := hP
    have hD := cpD hP hD
    refine lv_iconst (v := 1) hx hb dX10_eats_14 (by decide) ?_
    exact fiZ rfl hx hb hr hlk hK hP hD hS dX10_eats_15 (Nat.le_of_ble_eq_true rfl) (Nat.le_of_ble_eq_true rfl) (⟨v_11, v_12, v_13, v_14, bv_11, bv_12, bv_14, (iv_c (1 : Int32) (by decide)), g_15, (by have q9 := g_16; have q8 := hf0.1; omega), (fun _ => iv_eqp b_8 (iv_c (0 : Int32) (by decide))), (fun _ => by have q9 := g_16; have q8 := hf0.2.2 (by rw [c_9]; decide); omega), (fun q9 h9 => by have b_1 := RZ_i1 (k := 6) h9 (by decide) g_2 g_3 b_6; have h_2 := RZ_nx bpz0_8.2 h9 (isQ_iff.mp b_1).1 g_17; exact ⟨fun _ => ⟨b_1, h_2⟩, fun z => absurd z (by decide)⟩), rfl⟩)
  · have b_18 : iv 0 0 r_1 := iv_q c_5 (iv_c (0 : Int32) (a := 0) (b := 0) (by decide))
    refine lv_iconst (v := 0) hx hb dX10_eats_8 (by decide) ?_
    have hP := subP (ws' := [(z 0, .inr (10, mo z pz0_0 pz0_5 pz0_6 pz0_7 pz0_8 pz0_9 pz0_10 pz0_11 pz0_12 pz0_13 pz0_14 pz0_18 pz0_19 pz0_22 pz0_23 pz0_29)), (z 3, aI V 900 fz3)]) hP [1, 0] rfl
    have hD := subD hP hD [1, 0] rfl rfl
    exact fiZ rfl hx hb hr hlk hK hP hD hS dX10_eats_9 (Nat.le_of_ble_eq_true rfl) (Nat.le_of_ble_eq_true rfl) (⟨pz0_6, pz0_7, pz0_9, pz0_10, bpz0_6, bpz0_7, bpz0_10, (iv_c (0 : Int32) (by decide)), hf0, (Int.le_refl _), (fun q9 => absurd q9 (by decide)), (fun q9 => absurd q9 (by decide)), (fun q9 h9 => by have b_1 := RZ_i0 (k := 6) h9 (by decide) g_4 b_18; exact ⟨fun z => absurd z (by decide), fun _ => ⟨b_1, h9⟩⟩), rfl⟩)
theorem dX10_fault_0 : decode cX10_fault 0 = .ok (.aload_n 0, 1) := by decide +kernel
theorem dX10_fault_1 : decode cX10_fault 1 = .ok (.iconst 0, 1) := by decide +kernel
theorem dX10_fault_2 : decode cX10_fault 2 = .ok (.putfield 1, 3) := by decide +kernel
theorem dX10_fault_5 : decode cX10_fault 5 = .ok (.iload_n 1, 1) := by decide +kernel
theorem dX10_fault_6 : decode cX10_fault 6 = .ok (.ifCond .ne 10, 3) := by decide +kernel
theorem dX10_fault_16 : decode cX10_fault 16 = .ok (.iload_n 1, 1) := by decide +kernel
theorem dX10_fault_17 : decode cX10_fault 17 = .ok (.iconst 1, 1) := by decide +kernel
theorem dX10_fault_18 : decode cX10_fault 18 = .ok (.if_icmp .ne 10, 3) := by decide +kernel
theorem dX10_fault_28 : decode cX10_fault 28 = .ok (.iconst (-1), 1) := by decide +kernel
theorem dX10_fault_29 : decode cX10_fault 29 = .ok (.ireturn, 1) := by decide +kernel
theorem dX10_fault_21 : decode cX10_fault 21 = .ok (.aload_n 0, 1) := by decide +kernel
theorem q_5_238 : Cond.fieldLink "BeaconDelayModel" 27 "BeaconDelayModel" "faultPlace" "I" ∈ gw := gw_5 (i := 238) (by decide +kernel) rfl
theorem dX10_fault_22 : decode cX10_fault 22 = .ok (.getfield 27, 3) := by decide +kernel
theorem dX10_fault_25 : decode cX10_fault 25 = .ok (.goto 4, 3) := by decide +kernel
theorem dX10_fault_9 : decode cX10_fault 9 = .ok (.aload_n 0, 1) := by decide +kernel
theorem q_5_237 : Cond.fieldLink "BeaconDelayModel" 225 "BeaconDelayModel" "faultKind" "I" ∈ gw := gw_5 (i := 237) (by decide +kernel) rfl
theorem dX10_fault_10 : decode cX10_fault 10 = .ok (.getfield 225, 3) := by decide +kernel
theorem dX10_fault_13 : decode cX10_fault 13 = .ok (.goto 16, 3) := by decide +kernel
set_option maxHeartbeats 4000000 in
set_option maxRecDepth 100000 in
theorem k_X10_fault_0 (l : Launch) (V : GV) (z : Nat → Nat) (a1 : Int32) (pz0_0 : Int32) (pz0_5 : Int32) (pz0_6 : Int32) (pz0_7 : Int32) (pz0_8 : Int32) (pz0_9 : Int32) (pz0_10 : Int32) (pz0_11 : Int32) (pz0_12 : Int32) (pz0_13 : Int32) (pz0_14 : Int32) (pz0_18 : Int32) (pz0_19 : Int32) (pz0_22 : Int32) (pz0_23 : Int32) (pz0_29 : Int32) (bpz0_5 : iv 0 900 pz0_5) (bpz0_6 : iv 0 900 pz0_6) (bpz0_7 : iv 0 900 pz0_7) (bpz0_8 : iv 0 900 pz0_8) (bpz0_10 : iv 0 999 pz0_10) (bpz0_11 : iv 0 4 pz0_11) (bpz0_12 : iv 0 900 pz0_12) (bpz0_13 : iv 0 4 pz0_13) (bpz0_14 : iv (-1) 900 pz0_14) (bpz0_18 : iv 0 2 pz0_18) (bpz0_22 : iv 0 9999 pz0_22) (bpz0_29 : iv 0 10000 pz0_29) : Ct l V yX10_fault (.code yX10_fault cX10_fault 2 (some .int)) 1 [.ref (z 0), .int a1] [(z 0, .inr (10, mo z pz0_0 pz0_5 pz0_6 pz0_7 pz0_8 pz0_9 pz0_10 pz0_11 pz0_12 pz0_13 pz0_14 pz0_18 pz0_19 pz0_22 pz0_23 pz0_29))] 0 0 (QI V (fun (r : Int32) (w : va_W) => ∃ (v0 : Int32), iv (-1) 900 r ∧ r = faF a1 pz0_13 pz0_14 ∧ w = [(z 0, .inr (10, mo z v0 pz0_5 pz0_6 pz0_7 pz0_8 pz0_9 pz0_10 pz0_11 pz0_12 pz0_13 pz0_14 pz0_18 pz0_19 pz0_22 pz0_23 pz0_29))])) := by
  refine Ct.of (by decide) (Nat.le_of_ble_eq_true rfl) (fun p e s m below meth c A ls hx hb hr hml hown hlk hnm hg hP hK hD hE hA hS hl => ?_)
  have hl : lv_has ls 2 [(0, .ref (z 0)), (1, .int a1)] := hl
  refine lv_aload_n hx hb dX10_fault_0 rfl (lv_at hl 0 rfl) ?_
  refine lv_iconst (v := 0) hx hb dX10_fault_1 (by decide) ?_
  refine va_put (ci := 10) (v := .int 0) (ty := .int) (C := RX10) (T := TX10) (N := 40) hx hb hg inX10 tyX10 tyX10_ok nmX10 hown hK hP hD hS 0 rfl rfl 0 (by decide) (hg _ q_5_224) (fun _ h9 => h9) rfl (by decide +kernel) rfl rfl (Nat.le_of_ble_eq_true rfl) dX10_fault_2 (fun H locs hP hD hS => ?_)
  have hP : va_P V.1 vwCl [(z 0, .inr (10, mo z 0 pz0_5 pz0_6 pz0_7 pz0_8 pz0_9 pz0_10 pz0_11 pz0_12 pz0_13 pz0_14 pz0_18 pz0_19 pz0_22 pz0_23 pz0_29))] H := hP
  have hD := cpD hP hD
  refine lv_iload_n hx hb dX10_fault_5 rfl (lv_at hl 1 rfl) ?_
  refine lv_if_ne (tgt := 16) hx hb dX10_fault_6 (by decide) (fun c_1 => ?_) (fun c_1 => ?_)
  · refine lv_iload_n hx hb dX10_fault_16 rfl (lv_at hl 1 rfl) ?_
    refine lv_iconst (v := 1) hx hb dX10_fault_17 (by decide) ?_
    refine lv_icmp_ne (tgt := 28) hx hb dX10_fault_18 (by decide) (fun c_2 => ?_) (fun c_2 => ?_)
    · refine lv_iconst (v := (-1)) hx hb dX10_fault_28 (by decide) ?_
      exact fiI hx hb hr hlk hK hP hD hS dX10_fault_29 (Nat.le_of_ble_eq_true rfl) (Nat.le_of_ble_eq_true rfl) (⟨0, (iv_c ((-1) : Int32) (by decide)), (fa_n c_1 c_2), rfl⟩)
    · have b_3 : iv 1 1 a1 := iv_q c_2 (iv_c (1 : Int32) (a := 1) (b := 1) (by decide))
      refine lv_aload_n hx hb dX10_fault_21 rfl (lv_at hl 0 rfl) ?_
      refine va_get (ci := 10) (v := .int pz0_14) (C := RX10) (T := TX10) (N := 40) hx hb hg inX10 hown hK hP 0 rfl rfl 14 (by decide) (hg _ q_5_238) (fun _ h9 => h9) rfl dX10_fault_22 ?_
      refine lv_goto (tgt := 29) hx hb dX10_fault_25 (by decide) ?_
      exact fiI hx hb hr hlk hK hP hD hS dX10_fault_29 (Nat.le_of_ble_eq_true rfl) (Nat.le_of_ble_eq_true rfl) (⟨0, bpz0_14, (fa_1 c_2), rfl⟩)
  · have b_4 : iv 0 0 a1 := iv_q c_1 (iv_c (0 : Int32) (a := 0) (b := 0) (by decide))
    refine lv_aload_n hx hb dX10_fault_9 rfl (lv_at hl 0 rfl) ?_
    refine va_get (ci := 10) (v := .int pz0_13) (C := RX10) (T := TX10) (N := 40) hx hb hg inX10 hown hK hP 0 rfl rfl 13 (by decide) (hg _ q_5_237) (fun _ h9 => h9) rfl dX10_fault_10 ?_
    refine lv_goto (tgt := 29) hx hb dX10_fault_13 (by decide) ?_
    exact fiI hx hb hr hlk hK hP hD hS dX10_fault_29 (Nat.le_of_ble_eq_true rfl) (Nat.le_of_ble_eq_true rfl) (⟨0, (iv_w bpz0_13 (by decide)), (fa_0 c_1), rfl⟩)
theorem dX10_isHill_0 : decode cX10_isHill 0 = .ok (.lload_n 1, 1) := by decide +kernel
theorem dX10_isHill_1 : decode cX10_isHill 1 = .ok (.lconst 0, 1) := by decide +kernel
theorem dX10_isHill_2 : decode cX10_isHill 2 = .ok (.aload_n 0, 1) := by decide +kernel
theorem q_5_225 : Cond.fieldLink "BeaconDelayModel" 13 "BeaconDelayModel" "all" "[I" ∈ gw := gw_5 (i := 225) (by decide +kernel) rfl
theorem dX10_isHill_3 : decode cX10_isHill 3 = .ok (.getfield 13, 3) := by decide +kernel
theorem dX10_isHill_6 : decode cX10_isHill 6 = .ok (.iconst 1, 1) := by decide +kernel
theorem dX10_isHill_7 : decode cX10_isHill 7 = .ok (.iaload, 1) := by decide +kernel
theorem dX10_isHill_8 : decode cX10_isHill 8 = .ok (.iconst 1, 1) := by decide +kernel
theorem dX10_isHill_9 : decode cX10_isHill 9 = .ok (.isub, 1) := by decide +kernel
theorem dX10_isHill_10 : decode cX10_isHill 10 = .ok (.i2l, 1) := by decide +kernel
theorem dX10_isHill_11 : decode cX10_isHill 11 = .ok (.invokestatic 159, 3) := by decide +kernel
theorem dX10_isHill_14 : decode cX10_isHill 14 = .ok (.ireturn, 1) := by decide +kernel
set_option maxRecDepth 100000 in
noncomputable def F_k_X10_isHill_0 (k1 : Int64) (fz1 : Nat → Int32) : Int32 := bnd (fz1 (1 : Int32).toNatClampNeg : Int32) fun (x_1 : Int32) => bnd (x_1 - (1 : Int32) : Int32) fun (x_2 : Int32) => bnd (x_2.toInt64 : Int64) fun (j_3 : Int64) => bnd (F_k_X10_within_0 k1 (0 : Int64) j_3 : Int32) fun (r_4 : Int32) => if r_4 = 0 then (((0 : Int32))) else (((1 : Int32)))
set_option maxHeartbeats 4000000 in
set_option maxRecDepth 100000 in
theorem k_X10_isHill_0 (l : Launch) (V : GV) (z : Nat → Nat) (k1 : Int64) (pz0_0 : Int32) (pz0_5 : Int32) (pz0_6 : Int32) (pz0_7 : Int32) (pz0_8 : Int32) (pz0_9 : Int32) (pz0_10 : Int32) (pz0_11 : Int32) (pz0_12 : Int32) (pz0_13 : Int32) (pz0_14 : Int32) (pz0_18 : Int32) (pz0_19 : Int32) (pz0_22 : Int32) (pz0_23 : Int32) (pz0_29 : Int32) (fz1 : Nat → Int32) (bpz0_5 : iv 0 900 pz0_5) (bpz0_6 : iv 0 900 pz0_6) (bpz0_7 : iv 0 900 pz0_7) (bpz0_8 : iv 0 900 pz0_8) (bpz0_10 : iv 0 999 pz0_10) (bpz0_11 : iv 0 4 pz0_11) (bpz0_12 : iv 0 900 pz0_12) (bpz0_13 : iv 0 4 pz0_13) (bpz0_14 : iv (-1) 900 pz0_14) (bpz0_18 : iv 0 2 pz0_18) (bpz0_22 : iv 0 9999 pz0_22) (bpz0_29 : iv 0 10000 pz0_29) (tfz1 : ivT tA fz1) : Ct l V yX10_isHill (.code yX10_isHill cX10_isHill 3 (some .boolean)) 2 [.ref (z 0), .long k1] [(z 0, .inr (10, mo z pz0_0 pz0_5 pz0_6 pz0_7 pz0_8 pz0_9 pz0_10 pz0_11 pz0_12 pz0_13 pz0_14 pz0_18 pz0_19 pz0_22 pz0_23 pz0_29)), (z 1, aI V 3075 fz1)] 0 0 (QI V (fun (r : Int32) (w : va_W) => iv 0 1 r ∧ (r = 1 → ivL 0 3 k1) ∧ r = (F_k_X10_isHill_0 k1 fz1) ∧ w = [(z 0, .inr (10, mo z pz0_0 pz0_5 pz0_6 pz0_7 pz0_8 pz0_9 pz0_10 pz0_11 pz0_12 pz0_13 pz0_14 pz0_18 pz0_19 pz0_22 pz0_23 pz0_29)), (z 1, aI V 3075 fz1)])) := by
  refine Ct.of (by decide) (Nat.le_of_ble_eq_true rfl) (fun p e s m below meth c A ls hx hb hr hml hown hlk hnm hg hP hK hD hE hA hS hl => ?_)
  have hl : lv_has ls 3 [(0, .ref (z 0)), (1, .long k1)] := hl
  obtain ⟨T0, hT0⟩ : ∃ T9, T9 = F_k_X10_isHill_0 k1 fz1 := ⟨_, rfl⟩
  have hR := hT0.trans (F_k_X10_isHill_0.eq_1 ..)
  refine lv_lload_n hx hb dX10_isHill_0 rfl (lv_at hl 1 rfl) ?_
  refine lv_lconst (v := 0) hx hb dX10_isHill_1 (by decide) ?_
  refine lv_aload_n hx hb dX10_isHill_2 rfl (lv_at hl 0 rfl) ?_
  refine va_get (ci := 10) (v := .ref (z 1)) (C := RX10) (T := TX10) (N := 40) hx hb hg inX10 hown hK hP 0 rfl rfl 1 (by decide) (hg _ q_5_225) (fun _ h9 => h9) rfl dX10_isHill_3 ?_
  refine lv_iconst (v := 1) hx hb dX10_isHill_6 (by decide) ?_
  refine va_iald hx hb hK hP 1 0 rfl rfl (vin (by decide +kernel)) dX10_isHill_7 ?_
  refine lv_topi (fun x_1 ex_1 => ?_)
  have bx_1 : iv 0 4 x_1 := by rw [ex_1]; exact rdT (a := 1) (n := 1) tfz1 (iv_c (1 : Int32) (a := 1) (b := 1) (by decide)) (by decide) (by decide +kernel)
  replace hR := tb hR ex_1
  refine lv_iconst (v := 1) hx hb dX10_isHill_8 (by decide) ?_
  refine lv_isub hx hb dX10_isHill_9 ?_
  refine lv_topi (fun x_2 ex_2 => ?_)
  have bx_2 : iv (-1) 3 x_2 := by rw [ex_2]; exact iv_sub bx_1 (iv_c (1 : Int32) (a := 1) (b := 1) (by decide)) (by decide)
  replace hR := tb hR ex_2
  refine lv_i2l hx hb dX10_isHill_10 rfl ?_
  refine lv_topl (fun j_3 ej_3 => ?_)
  have bj_3 : ivL (-1) 3 j_3 := by rw [ej_3]; exact ivL_of bx_2
  replace hR := tb hR ej_3
  refine jnI (wr := [(z 0, .inr (10, mo z pz0_0 pz0_5 pz0_6 pz0_7 pz0_8 pz0_9 pz0_10 pz0_11 pz0_12 pz0_13 pz0_14 pz0_18 pz0_19 pz0_22 pz0_23 pz0_29)), (z 1, aI V 3075 fz1)]) (rnS (rest := []) ⟨hx, hb, hml, hown, hg⟩ (k_X10_within_0 l V k1 0 j_3) mt_X10_within q_6_114 ⟨Nat.le_of_ble_eq_true rfl, Nat.le_of_ble_eq_true rfl⟩ hK hP hD hS hA hE [] rfl rfl rfl hl.1 rfl (Nat.le_of_ble_eq_true rfl) dX10_isHill_11 ⟨Nat.le_of_ble_eq_true rfl, Nat.le_of_ble_eq_true rfl⟩) hP hD hS hA [] [0, 1] rfl rfl rfl (by decide) (fun r_4 w H locs hw hP hD hS => ?_)
  obtain ⟨br_4, g_5, g_6, g_7, et_8, rfl⟩ := hw
  replace hR := tb hR et_8
  have hP : va_P V.1 vwCl [(z 0, .inr (10, mo z pz0_0 pz0_5 pz0_6 pz0_7 pz0_8 pz0_9 pz0_10 pz0_11 pz0_12 pz0_13 pz0_14 pz0_18 pz0_19 pz0_22 pz0_23 pz0_29)), (z 1, aI V 3075 fz1)] H := hP
  have hD := cpD hP hD
  have c_10 : r_4 = 0 ∨ r_4 = 1 := by have q9 := br_4; unfold iv at q9; simp only [tI_eq, (by decide : (0 : Int32).toInt = 0), (by decide : (1 : Int32).toInt = 1)]; omega
  rcases c_10 with rfl | rfl
  · replace hR := ti hR rfl
    exact fiZ rfl hx hb hr hlk hK hP hD hS dX10_isHill_14 (Nat.le_of_ble_eq_true rfl) (Nat.le_of_ble_eq_true rfl) (⟨(iv_c (0 : Int32) (by decide)), (fun q9 => absurd q9 (by decide)), (hR.symm.trans hT0), rfl⟩)
  · replace hR := te hR (by decide)
    have c_11 : (0 : Int64) ≤ k1 := (g_6 rfl)
    have b_12 : ivL 0 9223372036854775807 k1 := ivL_e2 c_11 (ivL_c (0 : Int64) (a := 0) (b := 0) (by decide)) (ivL_top k1) (by decide)
    have c_13 : k1 ≤ j_3 := (g_7 rfl)
    have b_14 : ivL 0 3 k1 := ivL_e1 c_13 b_12 bj_3 (by decide)
    have b_15 : ivL 0 3 j_3 := ivL_e2 c_13 b_12 bj_3 (by decide)
    have b_16 : iv 0 3 x_2 := iv_cap (ivL_i ej_3 b_15) bx_2 (by decide)
    exact fiZ rfl hx hb hr hlk hK hP hD hS dX10_isHill_14 (Nat.le_of_ble_eq_true rfl) (Nat.le_of_ble_eq_true rfl) (⟨(iv_c (1 : Int32) (by decide)), (fun _ => b_14), (hR.symm.trans hT0), rfl⟩)
theorem dX10_hill_0 : decode cX10_hill 0 = .ok (.aload_n 0, 1) := by decide +kernel
theorem dX10_hill_1 : decode cX10_hill 1 = .ok (.iconst 0, 1) := by decide +kernel
theorem dX10_hill_2 : decode cX10_hill 2 = .ok (.putfield 1, 3) := by decide +kernel
theorem dX10_hill_5 : decode cX10_hill 5 = .ok (.aload_n 0, 1) := by decide +kernel
theorem dX10_hill_6 : decode cX10_hill 6 = .ok (.iload_n 1, 1) := by decide +kernel
theorem dX10_hill_7 : decode cX10_hill 7 = .ok (.i2l, 1) := by decide +kernel
theorem q_6_238 : Cond.code yX10_isHill prog_12_method_36_code 3 (some FieldType.boolean) ∈ gw := gw_6 (i := 238) (rfl) rfl
theorem q_6_237 : Cond.instanceMethod yX10_isHill ∈ gw := gw_6 (i := 237) (by decide +kernel) rfl
theorem q_s_79 : Cond.selects "BeaconDelayModel" yX10_isHill yX10_isHill ∈ gw := gw_s (i := 79) (by decide +kernel) rfl
theorem mt_X10_isHill : MtV yX10_isHill cX10_isHill 3 (some .boolean) 1 := ⟨⟨q_6_238, q_1_9, by decide +kernel, by decide +kernel, by decide +kernel⟩, q_6_237, q_s_79⟩
theorem q_6_235 : Cond.methodLink "BeaconDelayModel" 262 yX10_isHill ∈ gw := gw_6 (i := 235) (by decide +kernel) rfl
theorem dX10_hill_8 : decode cX10_hill 8 = .ok (.invokevirtual 262, 3) := by decide +kernel
theorem dX10_hill_11 : decode cX10_hill 11 = .ok (.ifCond .ne 6, 3) := by decide +kernel
theorem dX10_hill_17 : decode cX10_hill 17 = .ok (.iload_n 2, 1) := by decide +kernel
theorem dX10_hill_18 : decode cX10_hill 18 = .ok (.tableswitch 72 0 3 #[30, 40, 50, 62], 30) := by decide +kernel
theorem dX10_hill_48 : decode cX10_hill 48 = .ok (.aload_n 0, 1) := by decide +kernel
theorem dX10_hill_49 : decode cX10_hill 49 = .ok (.getfield 13, 3) := by decide +kernel
theorem dX10_hill_52 : decode cX10_hill 52 = .ok (.bipush 46, 2) := by decide +kernel
theorem dX10_hill_54 : decode cX10_hill 54 = .ok (.iload_n 1, 1) := by decide +kernel
theorem dX10_hill_55 : decode cX10_hill 55 = .ok (.iadd, 1) := by decide +kernel
theorem dX10_hill_56 : decode cX10_hill 56 = .ok (.iaload, 1) := by decide +kernel
theorem dX10_hill_57 : decode cX10_hill 57 = .ok (.ireturn, 1) := by decide +kernel
theorem dX10_hill_58 : decode cX10_hill 58 = .ok (.aload_n 0, 1) := by decide +kernel
theorem dX10_hill_59 : decode cX10_hill 59 = .ok (.getfield 13, 3) := by decide +kernel
theorem dX10_hill_62 : decode cX10_hill 62 = .ok (.bipush 10, 2) := by decide +kernel
theorem dX10_hill_64 : decode cX10_hill 64 = .ok (.iload_n 1, 1) := by decide +kernel
theorem dX10_hill_65 : decode cX10_hill 65 = .ok (.iadd, 1) := by decide +kernel
theorem dX10_hill_66 : decode cX10_hill 66 = .ok (.iaload, 1) := by decide +kernel
theorem dX10_hill_67 : decode cX10_hill 67 = .ok (.ireturn, 1) := by decide +kernel
theorem dX10_hill_68 : decode cX10_hill 68 = .ok (.aload_n 0, 1) := by decide +kernel
theorem dX10_hill_69 : decode cX10_hill 69 = .ok (.getfield 13, 3) := by decide +kernel
theorem dX10_hill_72 : decode cX10_hill 72 = .ok (.bipush 50, 2) := by decide +kernel
theorem dX10_hill_74 : decode cX10_hill 74 = .ok (.iaload, 1) := by decide +kernel
theorem dX10_hill_75 : decode cX10_hill 75 = .ok (.iload_n 1, 1) := by decide +kernel
theorem dX10_hill_76 : decode cX10_hill 76 = .ok (.ishr, 1) := by decide +kernel
theorem dX10_hill_77 : decode cX10_hill 77 = .ok (.iconst 1, 1) := by decide +kernel
theorem dX10_hill_78 : decode cX10_hill 78 = .ok (.iand, 1) := by decide +kernel
theorem dX10_hill_79 : decode cX10_hill 79 = .ok (.ireturn, 1) := by decide +kernel
theorem dX10_hill_80 : decode cX10_hill 80 = .ok (.aload_n 0, 1) := by decide +kernel
theorem dX10_hill_81 : decode cX10_hill 81 = .ok (.getfield 13, 3) := by decide +kernel
theorem dX10_hill_84 : decode cX10_hill 84 = .ok (.bipush 14, 2) := by decide +kernel
theorem dX10_hill_86 : decode cX10_hill 86 = .ok (.iload_n 1, 1) := by decide +kernel
theorem dX10_hill_87 : decode cX10_hill 87 = .ok (.iadd, 1) := by decide +kernel
theorem dX10_hill_88 : decode cX10_hill 88 = .ok (.iaload, 1) := by decide +kernel
theorem dX10_hill_89 : decode cX10_hill 89 = .ok (.ireturn, 1) := by decide +kernel
theorem dX10_hill_90 : decode cX10_hill 90 = .ok (.bipush (-2), 2) := by decide +kernel
theorem dX10_hill_92 : decode cX10_hill 92 = .ok (.ireturn, 1) := by decide +kernel
theorem dX10_hill_14 : decode cX10_hill 14 = .ok (.bipush (-2), 2) := by decide +kernel
theorem dX10_hill_16 : decode cX10_hill 16 = .ok (.ireturn, 1) := by decide +kernel
set_option maxRecDepth 100000 in
noncomputable def F_k_X10_hill_0 (a1 : Int32) (a2 : Int32) (fz1 : Nat → Int32) : Int32 × Int32 := bnd (a1.toInt64 : Int64) fun (j_1 : Int64) => bnd (F_k_X10_isHill_0 j_1 fz1 : Int32) fun (r_2 : Int32) => if r_2 = (0 : Int32) then ((((-2) : Int32), (0 : Int32))) else (if a2 = 0 then (bnd ((46 : Int32) + a1 : Int32) fun (x_11 : Int32) => bnd (fz1 (x_11 : Int32).toNatClampNeg : Int32) fun (x_12 : Int32) => (x_12, (0 : Int32))) else (if a2 = 1 then (bnd ((10 : Int32) + a1 : Int32) fun (x_14 : Int32) => bnd (fz1 (x_14 : Int32).toNatClampNeg : Int32) fun (x_15 : Int32) => (x_15, (0 : Int32))) else (if a2 = 2 then (bnd (fz1 (50 : Int32).toNatClampNeg : Int32) fun (x_17 : Int32) => bnd (x_17 >>> (a1 &&& 31) : Int32) fun (x_18 : Int32) => bnd (x_18 &&& (1 : Int32) : Int32) fun (x_19 : Int32) => (x_19, (0 : Int32))) else (if a2 = 3 then (bnd ((14 : Int32) + a1 : Int32) fun (x_21 : Int32) => bnd (fz1 (x_21 : Int32).toNatClampNeg : Int32) fun (x_22 : Int32) => (x_22, (0 : Int32))) else ((((-2) : Int32), (0 : Int32)))))))
set_option maxHeartbeats 4000000 in
set_option maxRecDepth 100000 in
theorem k_X10_hill_0 (l : Launch) (V : GV) (z : Nat → Nat) (a1 : Int32) (a2 : Int32) (pz0_0 : Int32) (pz0_5 : Int32) (pz0_6 : Int32) (pz0_7 : Int32) (pz0_8 : Int32) (pz0_9 : Int32) (pz0_10 : Int32) (pz0_11 : Int32) (pz0_12 : Int32) (pz0_13 : Int32) (pz0_14 : Int32) (pz0_18 : Int32) (pz0_19 : Int32) (pz0_22 : Int32) (pz0_23 : Int32) (pz0_29 : Int32) (fz1 : Nat → Int32) (bpz0_5 : iv 0 900 pz0_5) (bpz0_6 : iv 0 900 pz0_6) (bpz0_7 : iv 0 900 pz0_7) (bpz0_8 : iv 0 900 pz0_8) (bpz0_10 : iv 0 999 pz0_10) (bpz0_11 : iv 0 4 pz0_11) (bpz0_12 : iv 0 900 pz0_12) (bpz0_13 : iv 0 4 pz0_13) (bpz0_14 : iv (-1) 900 pz0_14) (bpz0_18 : iv 0 2 pz0_18) (bpz0_22 : iv 0 9999 pz0_22) (bpz0_29 : iv 0 10000 pz0_29) (tfz1 : ivT tA fz1) : Ct l V yX10_hill (.code yX10_hill cX10_hill 3 (some .int)) 3 [.ref (z 0), .int a1, .int a2] [(z 0, .inr (10, mo z pz0_0 pz0_5 pz0_6 pz0_7 pz0_8 pz0_9 pz0_10 pz0_11 pz0_12 pz0_13 pz0_14 pz0_18 pz0_19 pz0_22 pz0_23 pz0_29)), (z 1, aI V 3075 fz1)] 0 0 (QI V (fun (r : Int32) (w : va_W) => ∃ (v0 : Int32), iv (-2) 9 r ∧ r = (F_k_X10_hill_0 a1 a2 fz1).1 ∧ v0 = (F_k_X10_hill_0 a1 a2 fz1).2 ∧ w = [(z 0, .inr (10, mo z v0 pz0_5 pz0_6 pz0_7 pz0_8 pz0_9 pz0_10 pz0_11 pz0_12 pz0_13 pz0_14 pz0_18 pz0_19 pz0_22 pz0_23 pz0_29)), (z 1, aI V 3075 fz1)])) := by
  refine Ct.of (by decide) (Nat.le_of_ble_eq_true rfl) (fun p e s m below meth c A ls hx hb hr hml hown hlk hnm hg hP hK hD hE hA hS hl => ?_)
  have hl : lv_has ls 3 [(0, .ref (z 0)), (1, .int a1), (2, .int a2)] := hl
  obtain ⟨T0, hT0⟩ : ∃ T9, T9 = F_k_X10_hill_0 a1 a2 fz1 := ⟨_, rfl⟩
  have hR := hT0.trans (F_k_X10_hill_0.eq_1 ..)
  refine lv_aload_n hx hb dX10_hill_0 rfl (lv_at hl 0 rfl) ?_
  refine lv_iconst (v := 0) hx hb dX10_hill_1 (by decide) ?_
  refine va_put (ci := 10) (v := .int 0) (ty := .int) (C := RX10) (T := TX10) (N := 40) hx hb hg inX10 tyX10 tyX10_ok nmX10 hown hK hP hD hS 0 rfl rfl 0 (by decide) (hg _ q_5_224) (fun _ h9 => h9) rfl (by decide +kernel) rfl rfl (Nat.le_of_ble_eq_true rfl) dX10_hill_2 (fun H locs hP hD hS => ?_)
  have hP : va_P V.1 vwCl [(z 0, .inr (10, mo z 0 pz0_5 pz0_6 pz0_7 pz0_8 pz0_9 pz0_10 pz0_11 pz0_12 pz0_13 pz0_14 pz0_18 pz0_19 pz0_22 pz0_23 pz0_29)), (z 1, aI V 3075 fz1)] H := hP
  have hD := cpD hP hD
  refine lv_aload_n hx hb dX10_hill_5 rfl (lv_at hl 0 rfl) ?_
  refine lv_iload_n hx hb dX10_hill_6 rfl (lv_at hl 1 rfl) ?_
  refine lv_i2l hx hb dX10_hill_7 rfl ?_
  refine lv_topl (fun j_1 ej_1 => ?_)
  replace hR := tb hR ej_1
  refine jnI (wr := []) (rnV (rest := []) ⟨hx, hb, hml, hown, hg⟩ (k_X10_isHill_0 l V z j_1 0 pz0_5 pz0_6 pz0_7 pz0_8 pz0_9 pz0_10 pz0_11 pz0_12 pz0_13 pz0_14 pz0_18 pz0_19 pz0_22 pz0_23 pz0_29 fz1 bpz0_5 bpz0_6 bpz0_7 bpz0_8 bpz0_10 bpz0_11 bpz0_12 bpz0_13 bpz0_14 bpz0_18 bpz0_22 bpz0_29 tfz1) mt_X10_isHill q_6_235 ⟨Nat.le_of_ble_eq_true rfl, Nat.le_of_ble_eq_true rfl⟩ hK hP hD hS hA hE [0, 1] rfl rfl 0 rfl rfl rfl rfl hl.1 rfl (Nat.le_of_ble_eq_true rfl) dX10_hill_8 ⟨Nat.le_of_ble_eq_true rfl, Nat.le_of_ble_eq_true rfl⟩) hP hD hS hA [0, 1] [] rfl rfl rfl (by decide) (fun r_2 w H locs hw hP hD hS => ?_)
  obtain ⟨br_2, g_3, et_4, rfl⟩ := hw
  replace hR := tb hR et_4
  have hP : va_P V.1 vwCl [(z 0, .inr (10, mo z 0 pz0_5 pz0_6 pz0_7 pz0_8 pz0_9 pz0_10 pz0_11 pz0_12 pz0_13 pz0_14 pz0_18 pz0_19 pz0_22 pz0_23 pz0_29)), (z 1, aI V 3075 fz1)] H := hP
  have hD := cpD hP hD
  refine lv_if_ne (tgt := 17) hx hb dX10_hill_11 (by decide) (fun c_6 => ?_) (fun c_6 => ?_)
  · replace hR := te hR c_6
    have b_7 : iv 1 1 r_2 := iv_n0 c_6 br_2 (iv_c (0 : Int32) (a := 0) (b := 0) (by decide)) (by decide)
    have b_8 : ivL 0 3 j_1 := ivL_cap (g_3 (iv_eqp b_7 (iv_c (1 : Int32) (by decide)))) (ivL_top j_1) (by decide)
    have b_9 : iv 0 3 a1 := iv_cap (ivL_i ej_1 b_8) (iv_top a1) (by decide)
    refine lv_iload_n hx hb dX10_hill_17 rfl (lv_at hl 2 rfl) ?_
    by_cases c_10 : a2 = 0
    · refine lv_tableIn (off := 30) (tgt := 48) hx hb dX10_hill_18 (by rw [c_10]; decide) (by rw [c_10]; decide) (by rw [c_10]; rfl) (by decide) ?_
      replace hR := ti hR c_10
      refine lv_aload_n hx hb dX10_hill_48 rfl (lv_at hl 0 rfl) ?_
      refine va_get (ci := 10) (v := .ref (z 1)) (C := RX10) (T := TX10) (N := 40) hx hb hg inX10 hown hK hP 0 rfl rfl 1 (by decide) (hg _ q_5_225) (fun _ h9 => h9) rfl dX10_hill_49 ?_
      refine lv_bipush (v := 46) hx hb dX10_hill_52 (by decide) ?_
      refine lv_iload_n hx hb dX10_hill_54 rfl (lv_at hl 1 rfl) ?_
      refine lv_iadd hx hb dX10_hill_55 ?_
      refine lv_topi (fun x_11 ex_11 => ?_)
      have bx_11 : iv 46 49 x_11 := by rw [ex_11]; exact iv_add (iv_c (46 : Int32) (a := 46) (b := 46) (by decide)) b_9 (by decide)
      replace hR := tb hR ex_11
      refine va_iald hx hb hK hP 1 0 rfl rfl (iv_in bx_11 (by decide)) dX10_hill_56 ?_
      refine lv_topi (fun x_12 ex_12 => ?_)
      have bx_12 : iv 0 4 x_12 := by rw [ex_12]; exact rdT (a := 46) (n := 4) tfz1 bx_11 (by decide) (by decide +kernel)
      replace hR := tb hR ex_12
      exact fiI hx hb hr hlk hK hP hD hS dX10_hill_57 (Nat.le_of_ble_eq_true rfl) (Nat.le_of_ble_eq_true rfl) (⟨0, (iv_w bx_12 (by decide)), (congrArg Prod.fst (hR.symm.trans hT0)), (congrArg Prod.snd (hR.symm.trans hT0)), rfl⟩)
    · replace hR := te hR c_10
      by_cases c_13 : a2 = 1
      · refine lv_tableIn (off := 40) (tgt := 58) hx hb dX10_hill_18 (by rw [c_13]; decide) (by rw [c_13]; decide) (by rw [c_13]; rfl) (by decide) ?_
        replace hR := ti hR c_13
        refine lv_aload_n hx hb dX10_hill_58 rfl (lv_at hl 0 rfl) ?_
        refine va_get (ci := 10) (v := .ref (z 1)) (C := RX10) (T := TX10) (N := 40) hx hb hg inX10 hown hK hP 0 rfl rfl 1 (by decide) (hg _ q_5_225) (fun _ h9 => h9) rfl dX10_hill_59 ?_
        refine lv_bipush (v := 10) hx hb dX10_hill_62 (by decide) ?_
        refine lv_iload_n hx hb dX10_hill_64 rfl (lv_at hl 1 rfl) ?_
        refine lv_iadd hx hb dX10_hill_65 ?_
        refine lv_topi (fun x_14 ex_14 => ?_)
        have bx_14 : iv 10 13 x_14 := by rw [ex_14]; exact iv_add (iv_c (10 : Int32) (a := 10) (b := 10) (by decide)) b_9 (by decide)
        replace hR := tb hR ex_14
        refine va_iald hx hb hK hP 1 0 rfl rfl (iv_in bx_14 (by decide)) dX10_hill_66 ?_
        refine lv_topi (fun x_15 ex_15 => ?_)
        have bx_15 : iv 0 9 x_15 := by rw [ex_15]; exact rdT (a := 10) (n := 4) tfz1 bx_14 (by decide) (by decide +kernel)
        replace hR := tb hR ex_15
        exact fiI hx hb hr hlk hK hP hD hS dX10_hill_67 (Nat.le_of_ble_eq_true rfl) (Nat.le_of_ble_eq_true rfl) (⟨0, (iv_w bx_15 (by decide)), (congrArg Prod.fst (hR.symm.trans hT0)), (congrArg Prod.snd (hR.symm.trans hT0)), rfl⟩)
      · replace hR := te hR c_13
        by_cases c_16 : a2 = 2
        · refine lv_tableIn (off := 50) (tgt := 68) hx hb dX10_hill_18 (by rw [c_16]; decide) (by rw [c_16]; decide) (by rw [c_16]; rfl) (by decide) ?_
          replace hR := ti hR c_16
          refine lv_aload_n hx hb dX10_hill_68 rfl (lv_at hl 0 rfl) ?_
          refine va_get (ci := 10) (v := .ref (z 1)) (C := RX10) (T := TX10) (N := 40) hx hb hg inX10 hown hK hP 0 rfl rfl 1 (by decide) (hg _ q_5_225) (fun _ h9 => h9) rfl dX10_hill_69 ?_
          refine lv_bipush (v := 50) hx hb dX10_hill_72 (by decide) ?_
          refine va_iald hx hb hK hP 1 0 rfl rfl (vin (by decide +kernel)) dX10_hill_74 ?_
          refine lv_topi (fun x_17 ex_17 => ?_)
          have bx_17 : iv 0 15 x_17 := by rw [ex_17]; exact rdT (a := 50) (n := 1) tfz1 (iv_c (50 : Int32) (a := 50) (b := 50) (by decide)) (by decide) (by decide +kernel)
          replace hR := tb hR ex_17
          refine lv_iload_n hx hb dX10_hill_75 rfl (lv_at hl 1 rfl) ?_
          refine lv_ishr hx hb dX10_hill_76 ?_
          refine lv_topi (fun x_18 ex_18 => ?_)
          replace hR := tb hR ex_18
          refine lv_iconst (v := 1) hx hb dX10_hill_77 (by decide) ?_
          refine lv_iand hx hb dX10_hill_78 ?_
          refine lv_topi (fun x_19 ex_19 => ?_)
          have bx_19 : iv 0 1 x_19 := by rw [ex_19]; exact iv_and1 _
          replace hR := tb hR ex_19
          exact fiI hx hb hr hlk hK hP hD hS dX10_hill_79 (Nat.le_of_ble_eq_true rfl) (Nat.le_of_ble_eq_true rfl) (⟨0, (iv_w bx_19 (by decide)), (congrArg Prod.fst (hR.symm.trans hT0)), (congrArg Prod.snd (hR.symm.trans hT0)), rfl⟩)
        · replace hR := te hR c_16
          by_cases c_20 : a2 = 3
          · refine lv_tableIn (off := 62) (tgt := 80) hx hb dX10_hill_18 (by rw [c_20]; decide) (by rw [c_20]; decide) (by rw [c_20]; rfl) (by decide) ?_
            replace hR := ti hR c_20
            refine lv_aload_n hx hb dX10_hill_80 rfl (lv_at hl 0 rfl) ?_
            refine va_get (ci := 10) (v := .ref (z 1)) (C := RX10) (T := TX10) (N := 40) hx hb hg inX10 hown hK hP 0 rfl rfl 1 (by decide) (hg _ q_5_225) (fun _ h9 => h9) rfl dX10_hill_81 ?_
            refine lv_bipush (v := 14) hx hb dX10_hill_84 (by decide) ?_
            refine lv_iload_n hx hb dX10_hill_86 rfl (lv_at hl 1 rfl) ?_
            refine lv_iadd hx hb dX10_hill_87 ?_
            refine lv_topi (fun x_21 ex_21 => ?_)
            have bx_21 : iv 14 17 x_21 := by rw [ex_21]; exact iv_add (iv_c (14 : Int32) (a := 14) (b := 14) (by decide)) b_9 (by decide)
            replace hR := tb hR ex_21
            refine va_iald hx hb hK hP 1 0 rfl rfl (iv_in bx_21 (by decide)) dX10_hill_88 ?_
            refine lv_topi (fun x_22 ex_22 => ?_)
            have bx_22 : iv 0 9 x_22 := by rw [ex_22]; exact rdT (a := 14) (n := 4) tfz1 bx_21 (by decide) (by decide +kernel)
            replace hR := tb hR ex_22
            exact fiI hx hb hr hlk hK hP hD hS dX10_hill_89 (Nat.le_of_ble_eq_true rfl) (Nat.le_of_ble_eq_true rfl) (⟨0, (iv_w bx_22 (by decide)), (congrArg Prod.fst (hR.symm.trans hT0)), (congrArg Prod.snd (hR.symm.trans hT0)), rfl⟩)
          · replace hR := te hR c_20
            refine lv_tableOut (tgt := 90) hx hb dX10_hill_18 ((Int.lt_or_le a2.toInt 0).elim Or.inl (fun c_23 => Or.inr (by simp only [tI_eq, (by decide : (0 : Int32).toInt = 0), (by decide : (1 : Int32).toInt = 1), (by decide : (2 : Int32).toInt = 2), (by decide : (3 : Int32).toInt = 3)] at c_10 c_13 c_16 c_20; omega))) (by decide) ?_
            refine lv_bipush (v := (-2)) hx hb dX10_hill_90 (by decide) ?_
            exact fiI hx hb hr hlk hK hP hD hS dX10_hill_92 (Nat.le_of_ble_eq_true rfl) (Nat.le_of_ble_eq_true rfl) (⟨0, (iv_c ((-2) : Int32) (by decide)), (congrArg Prod.fst (hR.symm.trans hT0)), (congrArg Prod.snd (hR.symm.trans hT0)), rfl⟩)
  · replace hR := ti hR c_6
    have b_24 : iv 0 0 r_2 := iv_q c_6 (iv_c (0 : Int32) (a := 0) (b := 0) (by decide))
    refine lv_bipush (v := (-2)) hx hb dX10_hill_14 (by decide) ?_
    exact fiI hx hb hr hlk hK hP hD hS dX10_hill_16 (Nat.le_of_ble_eq_true rfl) (Nat.le_of_ble_eq_true rfl) (⟨0, (iv_c ((-2) : Int32) (by decide)), (congrArg Prod.fst (hR.symm.trans hT0)), (congrArg Prod.snd (hR.symm.trans hT0)), rfl⟩)
theorem dX10_village_0 : decode cX10_village 0 = .ok (.aload_n 0, 1) := by decide +kernel
theorem dX10_village_1 : decode cX10_village 1 = .ok (.iconst 0, 1) := by decide +kernel
theorem dX10_village_2 : decode cX10_village 2 = .ok (.putfield 1, 3) := by decide +kernel
theorem dX10_village_5 : decode cX10_village 5 = .ok (.iload_n 1, 1) := by decide +kernel
theorem dX10_village_6 : decode cX10_village 6 = .ok (.i2l, 1) := by decide +kernel
theorem dX10_village_7 : decode cX10_village 7 = .ok (.lconst 0, 1) := by decide +kernel
theorem dX10_village_8 : decode cX10_village 8 = .ok (.aload_n 0, 1) := by decide +kernel
theorem dX10_village_9 : decode cX10_village 9 = .ok (.getfield 13, 3) := by decide +kernel
theorem dX10_village_12 : decode cX10_village 12 = .ok (.iconst 2, 1) := by decide +kernel
theorem dX10_village_13 : decode cX10_village 13 = .ok (.iaload, 1) := by decide +kernel
theorem dX10_village_14 : decode cX10_village 14 = .ok (.iconst 1, 1) := by decide +kernel
theorem dX10_village_15 : decode cX10_village 15 = .ok (.isub, 1) := by decide +kernel
theorem dX10_village_16 : decode cX10_village 16 = .ok (.i2l, 1) := by decide +kernel
theorem dX10_village_17 : decode cX10_village 17 = .ok (.invokestatic 159, 3) := by decide +kernel
theorem dX10_village_20 : decode cX10_village 20 = .ok (.ifCond .eq 15, 3) := by decide +kernel
theorem dX10_village_35 : decode cX10_village 35 = .ok (.bipush (-2), 2) := by decide +kernel
theorem dX10_village_37 : decode cX10_village 37 = .ok (.ireturn, 1) := by decide +kernel
theorem dX10_village_23 : decode cX10_village 23 = .ok (.aload_n 0, 1) := by decide +kernel
theorem dX10_village_24 : decode cX10_village 24 = .ok (.getfield 13, 3) := by decide +kernel
theorem dX10_village_27 : decode cX10_village 27 = .ok (.bipush 18, 2) := by decide +kernel
theorem dX10_village_29 : decode cX10_village 29 = .ok (.iload_n 1, 1) := by decide +kernel
theorem dX10_village_30 : decode cX10_village 30 = .ok (.iadd, 1) := by decide +kernel
theorem dX10_village_31 : decode cX10_village 31 = .ok (.iaload, 1) := by decide +kernel
theorem dX10_village_32 : decode cX10_village 32 = .ok (.goto 5, 3) := by decide +kernel
set_option maxRecDepth 100000 in
noncomputable def F_k_X10_village_0 (a1 : Int32) (fz1 : Nat → Int32) : Int32 × Int32 := bnd (a1.toInt64 : Int64) fun (j_1 : Int64) => bnd (fz1 (2 : Int32).toNatClampNeg : Int32) fun (x_2 : Int32) => bnd (x_2 - (1 : Int32) : Int32) fun (x_3 : Int32) => bnd (x_3.toInt64 : Int64) fun (j_4 : Int64) => bnd (F_k_X10_within_0 j_1 (0 : Int64) j_4 : Int32) fun (r_5 : Int32) => if r_5 = (0 : Int32) then ((((-2) : Int32), (0 : Int32))) else (bnd ((18 : Int32) + a1 : Int32) fun (x_22 : Int32) => bnd (fz1 (x_22 : Int32).toNatClampNeg : Int32) fun (x_23 : Int32) => (x_23, (0 : Int32)))
set_option maxHeartbeats 4000000 in
set_option maxRecDepth 100000 in
theorem k_X10_village_0 (l : Launch) (V : GV) (z : Nat → Nat) (a1 : Int32) (pz0_0 : Int32) (pz0_5 : Int32) (pz0_6 : Int32) (pz0_7 : Int32) (pz0_8 : Int32) (pz0_9 : Int32) (pz0_10 : Int32) (pz0_11 : Int32) (pz0_12 : Int32) (pz0_13 : Int32) (pz0_14 : Int32) (pz0_18 : Int32) (pz0_19 : Int32) (pz0_22 : Int32) (pz0_23 : Int32) (pz0_29 : Int32) (fz1 : Nat → Int32) (bpz0_5 : iv 0 900 pz0_5) (bpz0_6 : iv 0 900 pz0_6) (bpz0_7 : iv 0 900 pz0_7) (bpz0_8 : iv 0 900 pz0_8) (bpz0_10 : iv 0 999 pz0_10) (bpz0_11 : iv 0 4 pz0_11) (bpz0_12 : iv 0 900 pz0_12) (bpz0_13 : iv 0 4 pz0_13) (bpz0_14 : iv (-1) 900 pz0_14) (bpz0_18 : iv 0 2 pz0_18) (bpz0_22 : iv 0 9999 pz0_22) (bpz0_29 : iv 0 10000 pz0_29) (tfz1 : ivT tA fz1) : Ct l V yX10_village (.code yX10_village cX10_village 2 (some .int)) 2 [.ref (z 0), .int a1] [(z 0, .inr (10, mo z pz0_0 pz0_5 pz0_6 pz0_7 pz0_8 pz0_9 pz0_10 pz0_11 pz0_12 pz0_13 pz0_14 pz0_18 pz0_19 pz0_22 pz0_23 pz0_29)), (z 1, aI V 3075 fz1)] 0 0 (QI V (fun (r : Int32) (w : va_W) => ∃ (v0 : Int32), iv (-2) 9 r ∧ r = (F_k_X10_village_0 a1 fz1).1 ∧ v0 = (F_k_X10_village_0 a1 fz1).2 ∧ w = [(z 0, .inr (10, mo z v0 pz0_5 pz0_6 pz0_7 pz0_8 pz0_9 pz0_10 pz0_11 pz0_12 pz0_13 pz0_14 pz0_18 pz0_19 pz0_22 pz0_23 pz0_29)), (z 1, aI V 3075 fz1)])) := by
  refine Ct.of (by decide) (Nat.le_of_ble_eq_true rfl) (fun p e s m below meth c A ls hx hb hr hml hown hlk hnm hg hP hK hD hE hA hS hl => ?_)
  have hl : lv_has ls 2 [(0, .ref (z 0)), (1, .int a1)] := hl
  obtain ⟨T0, hT0⟩ : ∃ T9, T9 = F_k_X10_village_0 a1 fz1 := ⟨_, rfl⟩
  have hR := hT0.trans (F_k_X10_village_0.eq_1 ..)
  refine lv_aload_n hx hb dX10_village_0 rfl (lv_at hl 0 rfl) ?_
  refine lv_iconst (v := 0) hx hb dX10_village_1 (by decide) ?_
  refine va_put (ci := 10) (v := .int 0) (ty := .int) (C := RX10) (T := TX10) (N := 40) hx hb hg inX10 tyX10 tyX10_ok nmX10 hown hK hP hD hS 0 rfl rfl 0 (by decide) (hg _ q_5_224) (fun _ h9 => h9) rfl (by decide +kernel) rfl rfl (Nat.le_of_ble_eq_true rfl) dX10_village_2 (fun H locs hP hD hS => ?_)
  have hP : va_P V.1 vwCl [(z 0, .inr (10, mo z 0 pz0_5 pz0_6 pz0_7 pz0_8 pz0_9 pz0_10 pz0_11 pz0_12 pz0_13 pz0_14 pz0_18 pz0_19 pz0_22 pz0_23 pz0_29)), (z 1, aI V 3075 fz1)] H := hP
  have hD := cpD hP hD
  refine lv_iload_n hx hb dX10_village_5 rfl (lv_at hl 1 rfl) ?_
  refine lv_i2l hx hb dX10_village_6 rfl ?_
  refine lv_topl (fun j_1 ej_1 => ?_)
  replace hR := tb hR ej_1
  refine lv_lconst (v := 0) hx hb dX10_village_7 (by decide) ?_
  refine lv_aload_n hx hb dX10_village_8 rfl (lv_at hl 0 rfl) ?_
  refine va_get (ci := 10) (v := .ref (z 1)) (C := RX10) (T := TX10) (N := 40) hx hb hg inX10 hown hK hP 0 rfl rfl 1 (by decide) (hg _ q_5_225) (fun _ h9 => h9) rfl dX10_village_9 ?_
  refine lv_iconst (v := 2) hx hb dX10_village_12 (by decide) ?_
  refine va_iald hx hb hK hP 1 0 rfl rfl (vin (by decide +kernel)) dX10_village_13 ?_
  refine lv_topi (fun x_2 ex_2 => ?_)
  have bx_2 : iv 0 4 x_2 := by rw [ex_2]; exact rdT (a := 2) (n := 1) tfz1 (iv_c (2 : Int32) (a := 2) (b := 2) (by decide)) (by decide) (by decide +kernel)
  replace hR := tb hR ex_2
  refine lv_iconst (v := 1) hx hb dX10_village_14 (by decide) ?_
  refine lv_isub hx hb dX10_village_15 ?_
  refine lv_topi (fun x_3 ex_3 => ?_)
  have bx_3 : iv (-1) 3 x_3 := by rw [ex_3]; exact iv_sub bx_2 (iv_c (1 : Int32) (a := 1) (b := 1) (by decide)) (by decide)
  replace hR := tb hR ex_3
  refine lv_i2l hx hb dX10_village_16 rfl ?_
  refine lv_topl (fun j_4 ej_4 => ?_)
  have bj_4 : ivL (-1) 3 j_4 := by rw [ej_4]; exact ivL_of bx_3
  replace hR := tb hR ej_4
  refine jnI (wr := [(z 0, .inr (10, mo z 0 pz0_5 pz0_6 pz0_7 pz0_8 pz0_9 pz0_10 pz0_11 pz0_12 pz0_13 pz0_14 pz0_18 pz0_19 pz0_22 pz0_23 pz0_29)), (z 1, aI V 3075 fz1)]) (rnS (rest := []) ⟨hx, hb, hml, hown, hg⟩ (k_X10_within_0 l V j_1 0 j_4) mt_X10_within q_6_114 ⟨Nat.le_of_ble_eq_true rfl, Nat.le_of_ble_eq_true rfl⟩ hK hP hD hS hA hE [] rfl rfl rfl hl.1 rfl (Nat.le_of_ble_eq_true rfl) dX10_village_17 ⟨Nat.le_of_ble_eq_true rfl, Nat.le_of_ble_eq_true rfl⟩) hP hD hS hA [] [0, 1] rfl rfl rfl (by decide) (fun r_5 w H locs hw hP hD hS => ?_)
  obtain ⟨br_5, g_6, g_7, g_8, et_9, rfl⟩ := hw
  replace hR := tb hR et_9
  have hP : va_P V.1 vwCl [(z 0, .inr (10, mo z 0 pz0_5 pz0_6 pz0_7 pz0_8 pz0_9 pz0_10 pz0_11 pz0_12 pz0_13 pz0_14 pz0_18 pz0_19 pz0_22 pz0_23 pz0_29)), (z 1, aI V 3075 fz1)] H := hP
  have hD := cpD hP hD
  refine lv_if_eq (tgt := 35) hx hb dX10_village_20 (by decide) (fun c_11 => ?_) (fun c_11 => ?_)
  · replace hR := ti hR c_11
    have b_12 : iv 0 0 r_5 := iv_q c_11 (iv_c (0 : Int32) (a := 0) (b := 0) (by decide))
    refine lv_bipush (v := (-2)) hx hb dX10_village_35 (by decide) ?_
    exact fiI hx hb hr hlk hK hP hD hS dX10_village_37 (Nat.le_of_ble_eq_true rfl) (Nat.le_of_ble_eq_true rfl) (⟨0, (iv_c ((-2) : Int32) (by decide)), (congrArg Prod.fst (hR.symm.trans hT0)), (congrArg Prod.snd (hR.symm.trans hT0)), rfl⟩)
  · replace hR := te hR c_11
    have b_13 : iv 1 1 r_5 := iv_n0 c_11 br_5 (iv_c (0 : Int32) (a := 0) (b := 0) (by decide)) (by decide)
    have c_14 : (0 : Int64) ≤ j_1 := (g_7 (iv_eqp b_13 (iv_c (1 : Int32) (by decide))))
    have b_15 : ivL 0 9223372036854775807 j_1 := ivL_e2 c_14 (ivL_c (0 : Int64) (a := 0) (b := 0) (by decide)) (ivL_top j_1) (by decide)
    have b_16 : iv 0 2147483647 a1 := iv_cap (ivL_i ej_1 b_15) (iv_top a1) (by decide)
    have c_17 : j_1 ≤ j_4 := (g_8 (iv_eqp b_13 (iv_c (1 : Int32) (by decide))))
    have b_18 : ivL 0 3 j_1 := ivL_e1 c_17 b_15 bj_4 (by decide)
    have b_19 : iv 0 3 a1 := iv_cap (ivL_i ej_1 b_18) b_16 (by decide)
    have b_20 : ivL 0 3 j_4 := ivL_e2 c_17 b_15 bj_4 (by decide)
    have b_21 : iv 0 3 x_3 := iv_cap (ivL_i ej_4 b_20) bx_3 (by decide)
    refine lv_aload_n hx hb dX10_village_23 rfl (lv_at hl 0 rfl) ?_
    refine va_get (ci := 10) (v := .ref (z 1)) (C := RX10) (T := TX10) (N := 40) hx hb hg inX10 hown hK hP 0 rfl rfl 1 (by decide) (hg _ q_5_225) (fun _ h9 => h9) rfl dX10_village_24 ?_
    refine lv_bipush (v := 18) hx hb dX10_village_27 (by decide) ?_
    refine lv_iload_n hx hb dX10_village_29 rfl (lv_at hl 1 rfl) ?_
    refine lv_iadd hx hb dX10_village_30 ?_
    refine lv_topi (fun x_22 ex_22 => ?_)
    have bx_22 : iv 18 21 x_22 := by rw [ex_22]; exact iv_add (iv_c (18 : Int32) (a := 18) (b := 18) (by decide)) b_19 (by decide)
    replace hR := tb hR ex_22
    refine va_iald hx hb hK hP 1 0 rfl rfl (iv_in bx_22 (by decide)) dX10_village_31 ?_
    refine lv_topi (fun x_23 ex_23 => ?_)
    have bx_23 : iv 0 9 x_23 := by rw [ex_23]; exact rdT (a := 18) (n := 4) tfz1 bx_22 (by decide) (by decide +kernel)
    replace hR := tb hR ex_23
    refine lv_goto (tgt := 37) hx hb dX10_village_32 (by decide) ?_
    exact fiI hx hb hr hlk hK hP hD hS dX10_village_37 (Nat.le_of_ble_eq_true rfl) (Nat.le_of_ble_eq_true rfl) (⟨0, (iv_w bx_23 (by decide)), (congrArg Prod.fst (hR.symm.trans hT0)), (congrArg Prod.snd (hR.symm.trans hT0)), rfl⟩)
theorem dX10_isNight_0 : decode cX10_isNight 0 = .ok (.lload_n 1, 1) := by decide +kernel
theorem dX10_isNight_1 : decode cX10_isNight 1 = .ok (.lconst 0, 1) := by decide +kernel
theorem dX10_isNight_2 : decode cX10_isNight 2 = .ok (.lcmp, 1) := by decide +kernel
theorem dX10_isNight_3 : decode cX10_isNight 3 = .ok (.ifCond .eq 20, 3) := by decide +kernel
theorem dX10_isNight_23 : decode cX10_isNight 23 = .ok (.iconst 1, 1) := by decide +kernel
theorem dX10_isNight_24 : decode cX10_isNight 24 = .ok (.goto 4, 3) := by decide +kernel
theorem dX10_isNight_28 : decode cX10_isNight 28 = .ok (.ireturn, 1) := by decide +kernel
theorem dX10_isNight_6 : decode cX10_isNight 6 = .ok (.lload_n 1, 1) := by decide +kernel
theorem dX10_isNight_7 : decode cX10_isNight 7 = .ok (.lconst 1, 1) := by decide +kernel
theorem dX10_isNight_8 : decode cX10_isNight 8 = .ok (.aload_n 0, 1) := by decide +kernel
theorem dX10_isNight_9 : decode cX10_isNight 9 = .ok (.getfield 13, 3) := by decide +kernel
theorem dX10_isNight_12 : decode cX10_isNight 12 = .ok (.iconst 1, 1) := by decide +kernel
theorem dX10_isNight_13 : decode cX10_isNight 13 = .ok (.iaload, 1) := by decide +kernel
theorem dX10_isNight_14 : decode cX10_isNight 14 = .ok (.iconst 1, 1) := by decide +kernel
theorem dX10_isNight_15 : decode cX10_isNight 15 = .ok (.isub, 1) := by decide +kernel
theorem dX10_isNight_16 : decode cX10_isNight 16 = .ok (.i2l, 1) := by decide +kernel
theorem dX10_isNight_17 : decode cX10_isNight 17 = .ok (.invokestatic 159, 3) := by decide +kernel
theorem dX10_isNight_20 : decode cX10_isNight 20 = .ok (.ifCond .eq 7, 3) := by decide +kernel
theorem dX10_isNight_27 : decode cX10_isNight 27 = .ok (.iconst 0, 1) := by decide +kernel
set_option maxRecDepth 100000 in
noncomputable def F_k_X10_isNight_0 (k1 : Int64) (fz1 : Nat → Int32) : Int32 := if k1 = (0 : Int64) then (((1 : Int32))) else (bnd (fz1 (1 : Int32).toNatClampNeg : Int32) fun (x_3 : Int32) => bnd (x_3 - (1 : Int32) : Int32) fun (x_4 : Int32) => bnd (x_4.toInt64 : Int64) fun (j_5 : Int64) => bnd (F_k_X10_within_0 k1 (1 : Int64) j_5 : Int32) fun (r_6 : Int32) => if r_6 = (0 : Int32) then (((0 : Int32))) else (((1 : Int32))))
set_option maxHeartbeats 4000000 in
set_option maxRecDepth 100000 in
theorem k_X10_isNight_0 (l : Launch) (V : GV) (z : Nat → Nat) (k1 : Int64) (pz0_0 : Int32) (pz0_5 : Int32) (pz0_6 : Int32) (pz0_7 : Int32) (pz0_8 : Int32) (pz0_9 : Int32) (pz0_10 : Int32) (pz0_11 : Int32) (pz0_12 : Int32) (pz0_13 : Int32) (pz0_14 : Int32) (pz0_18 : Int32) (pz0_19 : Int32) (pz0_22 : Int32) (pz0_23 : Int32) (pz0_29 : Int32) (fz1 : Nat → Int32) (bpz0_5 : iv 0 900 pz0_5) (bpz0_6 : iv 0 900 pz0_6) (bpz0_7 : iv 0 900 pz0_7) (bpz0_8 : iv 0 900 pz0_8) (bpz0_10 : iv 0 999 pz0_10) (bpz0_11 : iv 0 4 pz0_11) (bpz0_12 : iv 0 900 pz0_12) (bpz0_13 : iv 0 4 pz0_13) (bpz0_14 : iv (-1) 900 pz0_14) (bpz0_18 : iv 0 2 pz0_18) (bpz0_22 : iv 0 9999 pz0_22) (bpz0_29 : iv 0 10000 pz0_29) (tfz1 : ivT tA fz1) : Ct l V yX10_isNight (.code yX10_isNight cX10_isNight 3 (some .boolean)) 2 [.ref (z 0), .long k1] [(z 0, .inr (10, mo z pz0_0 pz0_5 pz0_6 pz0_7 pz0_8 pz0_9 pz0_10 pz0_11 pz0_12 pz0_13 pz0_14 pz0_18 pz0_19 pz0_22 pz0_23 pz0_29)), (z 1, aI V 3075 fz1)] 0 0 (QI V (fun (r : Int32) (w : va_W) => iv 0 1 r ∧ (r = 1 → ivL 0 3 k1) ∧ r = (F_k_X10_isNight_0 k1 fz1) ∧ w = [(z 0, .inr (10, mo z pz0_0 pz0_5 pz0_6 pz0_7 pz0_8 pz0_9 pz0_10 pz0_11 pz0_12 pz0_13 pz0_14 pz0_18 pz0_19 pz0_22 pz0_23 pz0_29)), (z 1, aI V 3075 fz1)])) := by
  refine Ct.of (by decide) (Nat.le_of_ble_eq_true rfl) (fun p e s m below meth c A ls hx hb hr hml hown hlk hnm hg hP hK hD hE hA hS hl => ?_)
  have hl : lv_has ls 3 [(0, .ref (z 0)), (1, .long k1)] := hl
  obtain ⟨T0, hT0⟩ : ∃ T9, T9 = F_k_X10_isNight_0 k1 fz1 := ⟨_, rfl⟩
  have hR := hT0.trans (F_k_X10_isNight_0.eq_1 ..)
  refine lv_lload_n hx hb dX10_isNight_0 rfl (lv_at hl 1 rfl) ?_
  refine lv_lconst (v := 0) hx hb dX10_isNight_1 (by decide) ?_
  refine W.lcmp hx hb dX10_isNight_2 ?_
  refine lv_if_eq (tgt := 23) hx hb dX10_isNight_3 (by decide) (fun c_1 => ?_) (fun c_1 => ?_)
  · replace c_1 : k1 = (0 : Int64) := (lg_cmp_eq _ _).mp c_1
    replace hR := ti hR c_1
    have b_2 : ivL 0 0 k1 := ivL_q c_1 (ivL_c (0 : Int64) (a := 0) (b := 0) (by decide))
    refine lv_iconst (v := 1) hx hb dX10_isNight_23 (by decide) ?_
    refine lv_goto (tgt := 28) hx hb dX10_isNight_24 (by decide) ?_
    exact fiZ rfl hx hb hr hlk hK hP hD hS dX10_isNight_28 (Nat.le_of_ble_eq_true rfl) (Nat.le_of_ble_eq_true rfl) (⟨(iv_c (1 : Int32) (by decide)), (fun _ => (ivL_w b_2 (by decide))), (hR.symm.trans hT0), rfl⟩)
  · replace c_1 : ¬ k1 = (0 : Int64) := fun z => c_1 ((lg_cmp_eq _ _).mpr z)
    replace hR := te hR c_1
    refine lv_lload_n hx hb dX10_isNight_6 rfl (lv_at hl 1 rfl) ?_
    refine lv_lconst (v := 1) hx hb dX10_isNight_7 (by decide) ?_
    refine lv_aload_n hx hb dX10_isNight_8 rfl (lv_at hl 0 rfl) ?_
    refine va_get (ci := 10) (v := .ref (z 1)) (C := RX10) (T := TX10) (N := 40) hx hb hg inX10 hown hK hP 0 rfl rfl 1 (by decide) (hg _ q_5_225) (fun _ h9 => h9) rfl dX10_isNight_9 ?_
    refine lv_iconst (v := 1) hx hb dX10_isNight_12 (by decide) ?_
    refine va_iald hx hb hK hP 1 0 rfl rfl (vin (by decide +kernel)) dX10_isNight_13 ?_
    refine lv_topi (fun x_3 ex_3 => ?_)
    have bx_3 : iv 0 4 x_3 := by rw [ex_3]; exact rdT (a := 1) (n := 1) tfz1 (iv_c (1 : Int32) (a := 1) (b := 1) (by decide)) (by decide) (by decide +kernel)
    replace hR := tb hR ex_3
    refine lv_iconst (v := 1) hx hb dX10_isNight_14 (by decide) ?_
    refine lv_isub hx hb dX10_isNight_15 ?_
    refine lv_topi (fun x_4 ex_4 => ?_)
    have bx_4 : iv (-1) 3 x_4 := by rw [ex_4]; exact iv_sub bx_3 (iv_c (1 : Int32) (a := 1) (b := 1) (by decide)) (by decide)
    replace hR := tb hR ex_4
    refine lv_i2l hx hb dX10_isNight_16 rfl ?_
    refine lv_topl (fun j_5 ej_5 => ?_)
    have bj_5 : ivL (-1) 3 j_5 := by rw [ej_5]; exact ivL_of bx_4
    replace hR := tb hR ej_5
    refine jnI (wr := [(z 0, .inr (10, mo z pz0_0 pz0_5 pz0_6 pz0_7 pz0_8 pz0_9 pz0_10 pz0_11 pz0_12 pz0_13 pz0_14 pz0_18 pz0_19 pz0_22 pz0_23 pz0_29)), (z 1, aI V 3075 fz1)]) (rnS (rest := []) ⟨hx, hb, hml, hown, hg⟩ (k_X10_within_0 l V k1 1 j_5) mt_X10_within q_6_114 ⟨Nat.le_of_ble_eq_true rfl, Nat.le_of_ble_eq_true rfl⟩ hK hP hD hS hA hE [] rfl rfl rfl hl.1 rfl (Nat.le_of_ble_eq_true rfl) dX10_isNight_17 ⟨Nat.le_of_ble_eq_true rfl, Nat.le_of_ble_eq_true rfl⟩) hP hD hS hA [] [0, 1] rfl rfl rfl (by decide) (fun r_6 w H locs hw hP hD hS => ?_)
    obtain ⟨br_6, g_7, g_8, g_9, et_10, rfl⟩ := hw
    replace hR := tb hR et_10
    have hP : va_P V.1 vwCl [(z 0, .inr (10, mo z pz0_0 pz0_5 pz0_6 pz0_7 pz0_8 pz0_9 pz0_10 pz0_11 pz0_12 pz0_13 pz0_14 pz0_18 pz0_19 pz0_22 pz0_23 pz0_29)), (z 1, aI V 3075 fz1)] H := hP
    have hD := cpD hP hD
    refine lv_if_eq (tgt := 27) hx hb dX10_isNight_20 (by decide) (fun c_12 => ?_) (fun c_12 => ?_)
    · replace hR := ti hR c_12
      have b_13 : iv 0 0 r_6 := iv_q c_12 (iv_c (0 : Int32) (a := 0) (b := 0) (by decide))
      refine lv_iconst (v := 0) hx hb dX10_isNight_27 (by decide) ?_
      exact fiZ rfl hx hb hr hlk hK hP hD hS dX10_isNight_28 (Nat.le_of_ble_eq_true rfl) (Nat.le_of_ble_eq_true rfl) (⟨(iv_c (0 : Int32) (by decide)), (fun q9 => absurd q9 (by decide)), (hR.symm.trans hT0), rfl⟩)
    · replace hR := te hR c_12
      have b_14 : iv 1 1 r_6 := iv_n0 c_12 br_6 (iv_c (0 : Int32) (a := 0) (b := 0) (by decide)) (by decide)
      have c_15 : (1 : Int64) ≤ k1 := (g_8 (iv_eqp b_14 (iv_c (1 : Int32) (by decide))))
      have b_16 : ivL 1 9223372036854775807 k1 := ivL_e2 c_15 (ivL_c (1 : Int64) (a := 1) (b := 1) (by decide)) (ivL_top k1) (by decide)
      have c_17 : k1 ≤ j_5 := (g_9 (iv_eqp b_14 (iv_c (1 : Int32) (by decide))))
      have b_18 : ivL 1 3 k1 := ivL_e1 c_17 b_16 bj_5 (by decide)
      have b_19 : ivL 1 3 j_5 := ivL_e2 c_17 b_16 bj_5 (by decide)
      have b_20 : iv 1 3 x_4 := iv_cap (ivL_i ej_5 b_19) bx_4 (by decide)
      refine lv_iconst (v := 1) hx hb dX10_isNight_23 (by decide) ?_
      refine lv_goto (tgt := 28) hx hb dX10_isNight_24 (by decide) ?_
      exact fiZ rfl hx hb hr hlk hK hP hD hS dX10_isNight_28 (Nat.le_of_ble_eq_true rfl) (Nat.le_of_ble_eq_true rfl) (⟨(iv_c (1 : Int32) (by decide)), (fun _ => (ivL_w b_18 (by decide))), (hR.symm.trans hT0), rfl⟩)
theorem dX10_digitOf_0 : decode cX10_digitOf 0 = .ok (.iload_n 0, 1) := by decide +kernel
theorem dX10_digitOf_1 : decode cX10_digitOf 1 = .ok (.ifCond .ne 7, 3) := by decide +kernel
theorem dX10_digitOf_8 : decode cX10_digitOf 8 = .ok (.iload_n 0, 1) := by decide +kernel
theorem dX10_digitOf_9 : decode cX10_digitOf 9 = .ok (.iconst 1, 1) := by decide +kernel
theorem dX10_digitOf_10 : decode cX10_digitOf 10 = .ok (.if_icmp .ne 7, 3) := by decide +kernel
theorem dX10_digitOf_17 : decode cX10_digitOf 17 = .ok (.iload_n 0, 1) := by decide +kernel
theorem dX10_digitOf_18 : decode cX10_digitOf 18 = .ok (.iconst 2, 1) := by decide +kernel
theorem dX10_digitOf_19 : decode cX10_digitOf 19 = .ok (.if_icmp .ne 8, 3) := by decide +kernel
theorem dX10_digitOf_27 : decode cX10_digitOf 27 = .ok (.bipush 125, 2) := by decide +kernel
theorem dX10_digitOf_29 : decode cX10_digitOf 29 = .ok (.ireturn, 1) := by decide +kernel
theorem dX10_digitOf_22 : decode cX10_digitOf 22 = .ok (.bipush 25, 2) := by decide +kernel
theorem dX10_digitOf_24 : decode cX10_digitOf 24 = .ok (.goto 5, 3) := by decide +kernel
theorem dX10_digitOf_13 : decode cX10_digitOf 13 = .ok (.iconst 5, 1) := by decide +kernel
theorem dX10_digitOf_14 : decode cX10_digitOf 14 = .ok (.goto 15, 3) := by decide +kernel
theorem dX10_digitOf_4 : decode cX10_digitOf 4 = .ok (.iconst 1, 1) := by decide +kernel
theorem dX10_digitOf_5 : decode cX10_digitOf 5 = .ok (.goto 24, 3) := by decide +kernel
set_option maxRecDepth 100000 in
noncomputable def F_k_X10_digitOf_0 (a0 : Int32) : Int32 := if a0 = (0 : Int32) then ((3)) else (if a0 = (1 : Int32) then ((2)) else (if a0 = (2 : Int32) then ((1)) else ((0))))
set_option maxHeartbeats 4000000 in
set_option maxRecDepth 100000 in
theorem k_X10_digitOf_0 (l : Launch) (V : GV) (a0 : Int32) (ba0 : iv 0 3 a0) : Ct l V yX10_digitOf (.code yX10_digitOf cX10_digitOf 1 (some .int)) 1 [.int a0] [] 0 0 (QI V (fun (r : Int32) (w : va_W) => ((¬ a0 = 0) ∧ (¬ a0 = 1) ∧ (¬ a0 = 2) ∧ r = 125 ∧ (0 : Int32) = F_k_X10_digitOf_0 a0 ∧ w = []) ∨ ((¬ a0 = 0) ∧ (¬ a0 = 1) ∧ (a0 = 2) ∧ r = 25 ∧ (1 : Int32) = F_k_X10_digitOf_0 a0 ∧ w = []) ∨ ((¬ a0 = 0) ∧ (a0 = 1) ∧ r = 5 ∧ (2 : Int32) = F_k_X10_digitOf_0 a0 ∧ w = []) ∨ ((a0 = 0) ∧ r = 1 ∧ (3 : Int32) = F_k_X10_digitOf_0 a0 ∧ w = []))) := by
  refine Ct.of (by decide) (Nat.le_of_ble_eq_true rfl) (fun p e s m below meth c A ls hx hb hr hml hown hlk hnm hg hP hK hD hE hA hS hl => ?_)
  have hl : lv_has ls 1 [(0, .int a0)] := hl
  obtain ⟨T0, hT0⟩ : ∃ T9, T9 = F_k_X10_digitOf_0 a0 := ⟨_, rfl⟩
  have hR := hT0.trans (F_k_X10_digitOf_0.eq_1 ..)
  refine lv_iload_n hx hb dX10_digitOf_0 rfl (lv_at hl 0 rfl) ?_
  refine lv_if_ne (tgt := 8) hx hb dX10_digitOf_1 (by decide) (fun c_1 => ?_) (fun c_1 => ?_)
  · replace hR := te hR c_1
    have b_2 : iv 1 3 a0 := iv_n0 c_1 ba0 (iv_c (0 : Int32) (a := 0) (b := 0) (by decide)) (by decide)
    refine lv_iload_n hx hb dX10_digitOf_8 rfl (lv_at hl 0 rfl) ?_
    refine lv_iconst (v := 1) hx hb dX10_digitOf_9 (by decide) ?_
    refine lv_icmp_ne (tgt := 17) hx hb dX10_digitOf_10 (by decide) (fun c_3 => ?_) (fun c_3 => ?_)
    · replace hR := te hR c_3
      have b_4 : iv 2 3 a0 := iv_n0 c_3 b_2 (iv_c (1 : Int32) (a := 1) (b := 1) (by decide)) (by decide)
      refine lv_iload_n hx hb dX10_digitOf_17 rfl (lv_at hl 0 rfl) ?_
      refine lv_iconst (v := 2) hx hb dX10_digitOf_18 (by decide) ?_
      refine lv_icmp_ne (tgt := 27) hx hb dX10_digitOf_19 (by decide) (fun c_5 => ?_) (fun c_5 => ?_)
      · replace hR := te hR c_5
        have b_6 : iv 3 3 a0 := iv_n0 c_5 b_4 (iv_c (2 : Int32) (a := 2) (b := 2) (by decide)) (by decide)
        refine lv_bipush (v := 125) hx hb dX10_digitOf_27 (by decide) ?_
        exact fiI hx hb hr hlk hK hP hD hS dX10_digitOf_29 (Nat.le_of_ble_eq_true rfl) (Nat.le_of_ble_eq_true rfl) (Or.inl ⟨c_1, c_3, c_5, rfl, (hR.symm.trans hT0), rfl⟩)
      · replace hR := ti hR c_5
        have b_7 : iv 2 2 a0 := iv_q c_5 (iv_c (2 : Int32) (a := 2) (b := 2) (by decide))
        refine lv_bipush (v := 25) hx hb dX10_digitOf_22 (by decide) ?_
        refine lv_goto (tgt := 29) hx hb dX10_digitOf_24 (by decide) ?_
        exact fiI hx hb hr hlk hK hP hD hS dX10_digitOf_29 (Nat.le_of_ble_eq_true rfl) (Nat.le_of_ble_eq_true rfl) (Or.inr (Or.inl ⟨c_1, c_3, c_5, rfl, (hR.symm.trans hT0), rfl⟩))
    · replace hR := ti hR c_3
      have b_8 : iv 1 1 a0 := iv_q c_3 (iv_c (1 : Int32) (a := 1) (b := 1) (by decide))
      refine lv_iconst (v := 5) hx hb dX10_digitOf_13 (by decide) ?_
      refine lv_goto (tgt := 29) hx hb dX10_digitOf_14 (by decide) ?_
      exact fiI hx hb hr hlk hK hP hD hS dX10_digitOf_29 (Nat.le_of_ble_eq_true rfl) (Nat.le_of_ble_eq_true rfl) (Or.inr (Or.inr (Or.inl ⟨c_1, c_3, rfl, (hR.symm.trans hT0), rfl⟩)))
  · replace hR := ti hR c_1
    have b_9 : iv 0 0 a0 := iv_q c_1 (iv_c (0 : Int32) (a := 0) (b := 0) (by decide))
    refine lv_iconst (v := 1) hx hb dX10_digitOf_4 (by decide) ?_
    refine lv_goto (tgt := 29) hx hb dX10_digitOf_5 (by decide) ?_
    exact fiI hx hb hr hlk hK hP hD hS dX10_digitOf_29 (Nat.le_of_ble_eq_true rfl) (Nat.le_of_ble_eq_true rfl) (Or.inr (Or.inr (Or.inr (⟨c_1, rfl, (hR.symm.trans hT0), rfl⟩))))
theorem dX10_standNow_0 : decode cX10_standNow 0 = .ok (.sipush 625, 3) := by decide +kernel
theorem dX10_standNow_3 : decode cX10_standNow 3 = .ok (.aload_n 0, 1) := by decide +kernel
theorem dX10_standNow_4 : decode cX10_standNow 4 = .ok (.getfield 13, 3) := by decide +kernel
theorem dX10_standNow_7 : decode cX10_standNow 7 = .ok (.bipush 50, 2) := by decide +kernel
theorem dX10_standNow_9 : decode cX10_standNow 9 = .ok (.iaload, 1) := by decide +kernel
theorem dX10_standNow_10 : decode cX10_standNow 10 = .ok (.imul, 1) := by decide +kernel
theorem dX10_standNow_11 : decode cX10_standNow 11 = .ok (.istore_n 1, 1) := by decide +kernel
theorem dX10_standNow_12 : decode cX10_standNow 12 = .ok (.iconst 0, 1) := by decide +kernel
theorem dX10_standNow_13 : decode cX10_standNow 13 = .ok (.istore_n 2, 1) := by decide +kernel
theorem dX10_standNow_14 : decode cX10_standNow 14 = .ok (.iload_n 2, 1) := by decide +kernel
theorem dX10_standNow_15 : decode cX10_standNow 15 = .ok (.aload_n 0, 1) := by decide +kernel
theorem dX10_standNow_16 : decode cX10_standNow 16 = .ok (.getfield 13, 3) := by decide +kernel
theorem dX10_standNow_19 : decode cX10_standNow 19 = .ok (.iconst 1, 1) := by decide +kernel
theorem dX10_standNow_20 : decode cX10_standNow 20 = .ok (.iaload, 1) := by decide +kernel
theorem dX10_standNow_21 : decode cX10_standNow 21 = .ok (.if_icmp .ge 26, 3) := by decide +kernel
theorem dX10_standNow_47 : decode cX10_standNow 47 = .ok (.iload_n 1, 1) := by decide +kernel
theorem dX10_standNow_48 : decode cX10_standNow 48 = .ok (.ireturn, 1) := by decide +kernel
theorem dX10_standNow_24 : decode cX10_standNow 24 = .ok (.iload_n 1, 1) := by decide +kernel
theorem dX10_standNow_25 : decode cX10_standNow 25 = .ok (.iload_n 2, 1) := by decide +kernel
theorem q_7_17 : Cond.code yX10_digitOf prog_12_method_37_code 1 (some FieldType.int) ∈ gw := gw_7 (i := 17) (rfl) rfl
theorem q_7_16 : Cond.static yX10_digitOf ∈ gw := gw_7 (i := 16) (by decide +kernel) rfl
theorem mt_X10_digitOf : MtS yX10_digitOf cX10_digitOf 1 (some .int) 1 := ⟨⟨q_7_17, q_1_9, by decide +kernel, by decide +kernel, by decide +kernel⟩, q_7_16⟩
theorem q_7_15 : Cond.methodLink "BeaconDelayModel" 228 yX10_digitOf ∈ gw := gw_7 (i := 15) (by decide +kernel) rfl
theorem dX10_standNow_26 : decode cX10_standNow 26 = .ok (.invokestatic 228, 3) := by decide +kernel
theorem dX10_standNow_29 : decode cX10_standNow 29 = .ok (.aload_n 0, 1) := by decide +kernel
theorem dX10_standNow_30 : decode cX10_standNow 30 = .ok (.getfield 13, 3) := by decide +kernel
theorem dX10_standNow_33 : decode cX10_standNow 33 = .ok (.bipush 46, 2) := by decide +kernel
theorem dX10_standNow_35 : decode cX10_standNow 35 = .ok (.iload_n 2, 1) := by decide +kernel
theorem dX10_standNow_36 : decode cX10_standNow 36 = .ok (.iadd, 1) := by decide +kernel
theorem dX10_standNow_37 : decode cX10_standNow 37 = .ok (.iaload, 1) := by decide +kernel
theorem dX10_standNow_38 : decode cX10_standNow 38 = .ok (.imul, 1) := by decide +kernel
theorem dX10_standNow_39 : decode cX10_standNow 39 = .ok (.iadd, 1) := by decide +kernel
theorem dX10_standNow_40 : decode cX10_standNow 40 = .ok (.istore_n 1, 1) := by decide +kernel
theorem dX10_standNow_41 : decode cX10_standNow 41 = .ok (.iinc 2 1, 3) := by decide +kernel
theorem dX10_standNow_44 : decode cX10_standNow 44 = .ok (.goto (-30), 3) := by decide +kernel
set_option maxRecDepth 100000 in
noncomputable def F_k_X10_standNow_0 (fz1 : Nat → Int32) : Int32 := bnd (fz1 (50 : Int32).toNatClampNeg : Int32) fun (x_1 : Int32) => bnd ((625 : Int32) * x_1 : Int32) fun (x_2 : Int32) => bnd (fz1 (1 : Int32).toNatClampNeg : Int32) fun (x_3 : Int32) => if x_3 ≤ (0 : Int32) then ((x_2)) else (if F_k_X10_digitOf_0 (0 : Int32) = 0 then (default) else (if F_k_X10_digitOf_0 (0 : Int32) = 1 then (default) else (if F_k_X10_digitOf_0 (0 : Int32) = 2 then (default) else (bnd (fz1 (46 : Int32).toNatClampNeg : Int32) fun (x_21 : Int32) => bnd ((1 : Int32) * x_21 : Int32) fun (x_22 : Int32) => bnd (x_2 + x_22 : Int32) fun (x_23 : Int32) => if x_3 ≤ (1 : Int32) then ((x_23)) else (if F_k_X10_digitOf_0 (1 : Int32) = 0 then (default) else (if F_k_X10_digitOf_0 (1 : Int32) = 1 then (default) else (if F_k_X10_digitOf_0 (1 : Int32) = 2 then (bnd (fz1 (47 : Int32).toNatClampNeg : Int32) fun (x_41 : Int32) => bnd ((5 : Int32) * x_41 : Int32) fun (x_42 : Int32) => bnd (x_23 + x_42 : Int32) fun (x_43 : Int32) => if x_3 ≤ (2 : Int32) then ((x_43)) else (if F_k_X10_digitOf_0 (2 : Int32) = 0 then (default) else (if F_k_X10_digitOf_0 (2 : Int32) = 1 then (bnd (fz1 (48 : Int32).toNatClampNeg : Int32) fun (x_61 : Int32) => bnd ((25 : Int32) * x_61 : Int32) fun (x_62 : Int32) => bnd (x_43 + x_62 : Int32) fun (x_63 : Int32) => if x_3 ≤ (3 : Int32) then ((x_63)) else (if F_k_X10_digitOf_0 (3 : Int32) = 0 then (bnd (fz1 (49 : Int32).toNatClampNeg : Int32) fun (x_81 : Int32) => bnd ((125 : Int32) * x_81 : Int32) fun (x_82 : Int32) => bnd (x_63 + x_82 : Int32) fun (x_83 : Int32) => (x_83)) else (if F_k_X10_digitOf_0 (3 : Int32) = 1 then (default) else (if F_k_X10_digitOf_0 (3 : Int32) = 2 then (default) else (default))))) else (if F_k_X10_digitOf_0 (2 : Int32) = 2 then (default) else (default))))) else (default))))))))
set_option maxHeartbeats 4000000 in
set_option maxRecDepth 100000 in
theorem k_X10_standNow_0 (l : Launch) (V : GV) (z : Nat → Nat) (pz0_0 : Int32) (pz0_5 : Int32) (pz0_6 : Int32) (pz0_7 : Int32) (pz0_8 : Int32) (pz0_9 : Int32) (pz0_10 : Int32) (pz0_11 : Int32) (pz0_12 : Int32) (pz0_13 : Int32) (pz0_14 : Int32) (pz0_18 : Int32) (pz0_19 : Int32) (pz0_22 : Int32) (pz0_23 : Int32) (pz0_29 : Int32) (fz1 : Nat → Int32) (bpz0_5 : iv 0 900 pz0_5) (bpz0_6 : iv 0 900 pz0_6) (bpz0_7 : iv 0 900 pz0_7) (bpz0_8 : iv 0 900 pz0_8) (bpz0_10 : iv 0 999 pz0_10) (bpz0_11 : iv 0 4 pz0_11) (bpz0_12 : iv 0 900 pz0_12) (bpz0_13 : iv 0 4 pz0_13) (bpz0_14 : iv (-1) 900 pz0_14) (bpz0_18 : iv 0 2 pz0_18) (bpz0_22 : iv 0 9999 pz0_22) (bpz0_29 : iv 0 10000 pz0_29) (tfz1 : ivT tA fz1) : Ct l V yX10_standNow (.code yX10_standNow cX10_standNow 3 (some .int)) 2 [.ref (z 0)] [(z 0, .inr (10, mo z pz0_0 pz0_5 pz0_6 pz0_7 pz0_8 pz0_9 pz0_10 pz0_11 pz0_12 pz0_13 pz0_14 pz0_18 pz0_19 pz0_22 pz0_23 pz0_29)), (z 1, aI V 3075 fz1)] 0 0 (QI V (fun (r : Int32) (w : va_W) => iv 0 9999 r ∧ r = snF fz1 ∧ r = (F_k_X10_standNow_0 fz1) ∧ w = [(z 0, .inr (10, mo z pz0_0 pz0_5 pz0_6 pz0_7 pz0_8 pz0_9 pz0_10 pz0_11 pz0_12 pz0_13 pz0_14 pz0_18 pz0_19 pz0_22 pz0_23 pz0_29)), (z 1, aI V 3075 fz1)])) := by
  refine Ct.of (by decide) (Nat.le_of_ble_eq_true rfl) (fun p e s m below meth c A ls hx hb hr hml hown hlk hnm hg hP hK hD hE hA hS hl => ?_)
  have hl : lv_has ls 3 [(0, .ref (z 0))] := hl
  obtain ⟨T0, hT0⟩ : ∃ T9, T9 = F_k_X10_standNow_0 fz1 := ⟨_, rfl⟩
  have hR := hT0.trans (F_k_X10_standNow_0.eq_1 ..)
  refine lv_sipush (v := 625) hx hb dX10_standNow_0 (by decide) ?_
  refine lv_aload_n hx hb dX10_standNow_3 rfl (lv_at hl 0 rfl) ?_
  refine va_get (ci := 10) (v := .ref (z 1)) (C := RX10) (T := TX10) (N := 40) hx hb hg inX10 hown hK hP 0 rfl rfl 1 (by decide) (hg _ q_5_225) (fun _ h9 => h9) rfl dX10_standNow_4 ?_
  refine lv_bipush (v := 50) hx hb dX10_standNow_7 (by decide) ?_
  refine va_iald hx hb hK hP 1 0 rfl rfl (vin (by decide +kernel)) dX10_standNow_9 ?_
  refine lv_topi (fun x_1 ex_1 => ?_)
  have bx_1 : iv 0 15 x_1 := by rw [ex_1]; exact rdT (a := 50) (n := 1) tfz1 (iv_c (50 : Int32) (a := 50) (b := 50) (by decide)) (by decide) (by decide +kernel)
  replace hR := tb hR ex_1
  refine lv_imul hx hb dX10_standNow_10 ?_
  refine lv_topi (fun x_2 ex_2 => ?_)
  have bx_2 : iv 0 9375 x_2 := by rw [ex_2]; exact iv_cmul (iv_c (625 : Int32) (a := 625) (b := 625) (by decide)) bx_1 (by decide)
  replace hR := tb hR ex_2
  refine lv_istore_n (lv' := [(1, .int x_2), (0, .ref (z 0))]) hx hb dX10_standNow_11 rfl hl (by decide) rfl (fun ls hl => ?_)
  refine lv_iconst (v := 0) hx hb dX10_standNow_12 (by decide) ?_
  refine lv_istore_n (lv' := [(2, .int 0), (1, .int x_2), (0, .ref (z 0))]) hx hb dX10_standNow_13 rfl hl (by decide) rfl (fun ls hl => ?_)
  refine lv_iload_n hx hb dX10_standNow_14 rfl (lv_at hl 0 rfl) ?_
  refine lv_aload_n hx hb dX10_standNow_15 rfl (lv_at hl 2 rfl) ?_
  refine va_get (ci := 10) (v := .ref (z 1)) (C := RX10) (T := TX10) (N := 40) hx hb hg inX10 hown hK hP 0 rfl rfl 1 (by decide) (hg _ q_5_225) (fun _ h9 => h9) rfl dX10_standNow_16 ?_
  refine lv_iconst (v := 1) hx hb dX10_standNow_19 (by decide) ?_
  refine va_iald hx hb hK hP 1 0 rfl rfl (vin (by decide +kernel)) dX10_standNow_20 ?_
  refine lv_topi (fun x_3 ex_3 => ?_)
  have bx_3 : iv 0 4 x_3 := by rw [ex_3]; exact rdT (a := 1) (n := 1) tfz1 (iv_c (1 : Int32) (a := 1) (b := 1) (by decide)) (by decide) (by decide +kernel)
  replace hR := tb hR ex_3
  refine lv_icmp_ge (tgt := 47) hx hb dX10_standNow_21 (by decide) (fun c_4 => ?_) (fun c_4 => ?_)
  · replace hR := ti hR c_4
    have b_5 : iv 0 0 x_3 := iv_e1 c_4 bx_3 (iv_c (0 : Int32) (a := 0) (b := 0) (by decide)) (by decide)
    refine lv_iload_n hx hb dX10_standNow_47 rfl (lv_at hl 1 rfl) ?_
    exact fiI hx hb hr hlk hK hP hD hS dX10_standNow_48 (Nat.le_of_ble_eq_true rfl) (Nat.le_of_ble_eq_true rfl) (⟨(iv_w bx_2 (by decide)), (by rw [snF_0 (show fz1 1 = 0 from (ex_3.symm.trans (iv_eqp b_5 (iv_c (0 : Int32) (by decide))))), ex_2, ex_1]; rfl), (hR.symm.trans hT0), rfl⟩)
  · replace hR := te hR c_4
    have b_6 : iv 1 4 x_3 := iv_l2 (Int32.not_le.mp c_4) (iv_c (0 : Int32) (a := 0) (b := 0) (by decide)) bx_3 (by decide)
    refine lv_iload_n hx hb dX10_standNow_24 rfl (lv_at hl 1 rfl) ?_
    refine lv_iload_n hx hb dX10_standNow_25 rfl (lv_at hl 0 rfl) ?_
    refine jnI (wr := [(z 0, .inr (10, mo z pz0_0 pz0_5 pz0_6 pz0_7 pz0_8 pz0_9 pz0_10 pz0_11 pz0_12 pz0_13 pz0_14 pz0_18 pz0_19 pz0_22 pz0_23 pz0_29)), (z 1, aI V 3075 fz1)]) (rnS (rest := [.int x_2]) ⟨hx, hb, hml, hown, hg⟩ (k_X10_digitOf_0 l V 0 (iv_c (0 : Int32) (by decide))) mt_X10_digitOf q_7_15 ⟨Nat.le_of_ble_eq_true rfl, Nat.le_of_ble_eq_true rfl⟩ hK hP hD hS hA hE [] rfl rfl rfl hl.1 rfl (Nat.le_of_ble_eq_true rfl) dX10_standNow_26 ⟨Nat.le_of_ble_eq_true rfl, Nat.le_of_ble_eq_true rfl⟩) hP hD hS hA [] [0, 1] rfl rfl rfl (by decide) (fun r_7 w H locs hw hP hD hS => ?_)
    rcases hw with ⟨c_8, c_9, c_10, rfl, et_11, rfl⟩ | ⟨c_12, c_13, c_14, rfl, et_15, rfl⟩ | ⟨c_16, c_17, rfl, et_18, rfl⟩ | ⟨c_19, rfl, et_20, rfl⟩
    · have hP : va_P V.1 vwCl [(z 0, .inr (10, mo z pz0_0 pz0_5 pz0_6 pz0_7 pz0_8 pz0_9 pz0_10 pz0_11 pz0_12 pz0_13 pz0_14 pz0_18 pz0_19 pz0_22 pz0_23 pz0_29)), (z 1, aI V 3075 fz1)] H := hP
      have hD := cpD hP hD
      replace hR := ti hR et_11.symm
      exact absurd c_8 (by decide)
    · have hP : va_P V.1 vwCl [(z 0, .inr (10, mo z pz0_0 pz0_5 pz0_6 pz0_7 pz0_8 pz0_9 pz0_10 pz0_11 pz0_12 pz0_13 pz0_14 pz0_18 pz0_19 pz0_22 pz0_23 pz0_29)), (z 1, aI V 3075 fz1)] H := hP
      have hD := cpD hP hD
      replace hR := te hR (by rw [← et_15]; decide)
      replace hR := ti hR et_15.symm
      exact absurd c_12 (by decide)
    · have hP : va_P V.1 vwCl [(z 0, .inr (10, mo z pz0_0 pz0_5 pz0_6 pz0_7 pz0_8 pz0_9 pz0_10 pz0_11 pz0_12 pz0_13 pz0_14 pz0_18 pz0_19 pz0_22 pz0_23 pz0_29)), (z 1, aI V 3075 fz1)] H := hP
      have hD := cpD hP hD
      replace hR := te hR (by rw [← et_18]; decide)
      replace hR := te hR (by rw [← et_18]; decide)
      replace hR := ti hR et_18.symm
      exact absurd c_16 (by decide)
    · have hP : va_P V.1 vwCl [(z 0, .inr (10, mo z pz0_0 pz0_5 pz0_6 pz0_7 pz0_8 pz0_9 pz0_10 pz0_11 pz0_12 pz0_13 pz0_14 pz0_18 pz0_19 pz0_22 pz0_23 pz0_29)), (z 1, aI V 3075 fz1)] H := hP
      have hD := cpD hP hD
      replace hR := te hR (by rw [← et_20]; decide)
      replace hR := te hR (by rw [← et_20]; decide)
      replace hR := te hR (by rw [← et_20]; decide)
      refine lv_aload_n hx hb dX10_standNow_29 rfl (lv_at hl 2 rfl) ?_
      refine va_get (ci := 10) (v := .ref (z 1)) (C := RX10) (T := TX10) (N := 40) hx hb hg inX10 hown hK hP 0 rfl rfl 1 (by decide) (hg _ q_5_225) (fun _ h9 => h9) rfl dX10_standNow_30 ?_
      refine lv_bipush (v := 46) hx hb dX10_standNow_33 (by decide) ?_
      refine lv_iload_n hx hb dX10_standNow_35 rfl (lv_at hl 0 rfl) ?_
      refine lv_iadd hx hb dX10_standNow_36 ?_
      refine tpi (y := 46) (by decide +kernel) ?_
      refine va_iald hx hb hK hP 1 0 rfl rfl (vin (by decide +kernel)) dX10_standNow_37 ?_
      refine lv_topi (fun x_21 ex_21 => ?_)
      have bx_21 : iv 0 4 x_21 := by rw [ex_21]; exact rdT (a := 46) (n := 1) tfz1 (iv_c (46 : Int32) (a := 46) (b := 46) (by decide)) (by decide) (by decide +kernel)
      replace hR := tb hR ex_21
      refine lv_imul hx hb dX10_standNow_38 ?_
      refine lv_topi (fun x_22 ex_22 => ?_)
      have bx_22 : iv 0 4 x_22 := by rw [ex_22]; exact iv_cmul (iv_c (1 : Int32) (a := 1) (b := 1) (by decide)) bx_21 (by decide)
      replace hR := tb hR ex_22
      refine lv_iadd hx hb dX10_standNow_39 ?_
      refine lv_topi (fun x_23 ex_23 => ?_)
      have bx_23 : iv 0 9379 x_23 := by rw [ex_23]; exact iv_add bx_2 bx_22 (by decide)
      replace hR := tb hR ex_23
      refine lv_istore_n (lv' := [(1, .int x_23), (2, .int 0), (0, .ref (z 0))]) hx hb dX10_standNow_40 rfl hl (by decide) rfl (fun ls hl => ?_)
      refine lv_iinc (v := 1) (lv' := [(2, .int 1), (1, .int x_23), (0, .ref (z 0))]) hx hb dX10_standNow_41 hl (k := 1) rfl (by decide +kernel) (by decide) rfl (fun ls hl => ?_)
      refine lv_goto (tgt := 14) hx hb dX10_standNow_44 (by decide) ?_
      refine lv_iload_n hx hb dX10_standNow_14 rfl (lv_at hl 0 rfl) ?_
      refine lv_aload_n hx hb dX10_standNow_15 rfl (lv_at hl 2 rfl) ?_
      refine va_get (ci := 10) (v := .ref (z 1)) (C := RX10) (T := TX10) (N := 40) hx hb hg inX10 hown hK hP 0 rfl rfl 1 (by decide) (hg _ q_5_225) (fun _ h9 => h9) rfl dX10_standNow_16 ?_
      refine lv_iconst (v := 1) hx hb dX10_standNow_19 (by decide) ?_
      refine va_iald hx hb hK hP 1 0 rfl rfl (vin (by decide +kernel)) dX10_standNow_20 ?_
      refine tpi (y := x_3) ex_3.symm ?_
      refine lv_icmp_ge (tgt := 47) hx hb dX10_standNow_21 (by decide) (fun c_24 => ?_) (fun c_24 => ?_)
      · replace hR := ti hR c_24
        have b_25 : iv 1 1 x_3 := iv_e1 c_24 b_6 (iv_c (1 : Int32) (a := 1) (b := 1) (by decide)) (by decide)
        refine lv_iload_n hx hb dX10_standNow_47 rfl (lv_at hl 1 rfl) ?_
        exact fiI hx hb hr hlk hK hP hD hS dX10_standNow_48 (Nat.le_of_ble_eq_true rfl) (Nat.le_of_ble_eq_true rfl) (⟨(iv_w bx_23 (by decide)), (by rw [snF_1 (show fz1 1 = 1 from (ex_3.symm.trans (iv_eqp b_25 (iv_c (1 : Int32) (by decide))))), ex_23, ex_22, ex_21, ex_2, ex_1]; rfl), (hR.symm.trans hT0), rfl⟩)
      · replace hR := te hR c_24
        have b_26 : iv 2 4 x_3 := iv_l2 (Int32.not_le.mp c_24) (iv_c (1 : Int32) (a := 1) (b := 1) (by decide)) b_6 (by decide)
        refine lv_iload_n hx hb dX10_standNow_24 rfl (lv_at hl 1 rfl) ?_
        refine lv_iload_n hx hb dX10_standNow_25 rfl (lv_at hl 0 rfl) ?_
        refine jnI (wr := [(z 0, .inr (10, mo z pz0_0 pz0_5 pz0_6 pz0_7 pz0_8 pz0_9 pz0_10 pz0_11 pz0_12 pz0_13 pz0_14 pz0_18 pz0_19 pz0_22 pz0_23 pz0_29)), (z 1, aI V 3075 fz1)]) (rnS (rest := [.int x_23]) ⟨hx, hb, hml, hown, hg⟩ (k_X10_digitOf_0 l V 1 (iv_c (1 : Int32) (by decide))) mt_X10_digitOf q_7_15 ⟨Nat.le_of_ble_eq_true rfl, Nat.le_of_ble_eq_true rfl⟩ hK hP hD hS hA hE [] rfl rfl rfl hl.1 rfl (Nat.le_of_ble_eq_true rfl) dX10_standNow_26 ⟨Nat.le_of_ble_eq_true rfl, Nat.le_of_ble_eq_true rfl⟩) hP hD hS hA [] [0, 1] rfl rfl rfl (by decide) (fun r_27 w H locs hw hP hD hS => ?_)
        rcases hw with ⟨c_28, c_29, c_30, rfl, et_31, rfl⟩ | ⟨c_32, c_33, c_34, rfl, et_35, rfl⟩ | ⟨c_36, c_37, rfl, et_38, rfl⟩ | ⟨c_39, rfl, et_40, rfl⟩
        · have hP : va_P V.1 vwCl [(z 0, .inr (10, mo z pz0_0 pz0_5 pz0_6 pz0_7 pz0_8 pz0_9 pz0_10 pz0_11 pz0_12 pz0_13 pz0_14 pz0_18 pz0_19 pz0_22 pz0_23 pz0_29)), (z 1, aI V 3075 fz1)] H := hP
          have hD := cpD hP hD
          replace hR := ti hR et_31.symm
          exact absurd c_29 (by decide)
        · have hP : va_P V.1 vwCl [(z 0, .inr (10, mo z pz0_0 pz0_5 pz0_6 pz0_7 pz0_8 pz0_9 pz0_10 pz0_11 pz0_12 pz0_13 pz0_14 pz0_18 pz0_19 pz0_22 pz0_23 pz0_29)), (z 1, aI V 3075 fz1)] H := hP
          have hD := cpD hP hD
          replace hR := te hR (by rw [← et_35]; decide)
          replace hR := ti hR et_35.symm
          exact absurd c_33 (by decide)
        · have hP : va_P V.1 vwCl [(z 0, .inr (10, mo z pz0_0 pz0_5 pz0_6 pz0_7 pz0_8 pz0_9 pz0_10 pz0_11 pz0_12 pz0_13 pz0_14 pz0_18 pz0_19 pz0_22 pz0_23 pz0_29)), (z 1, aI V 3075 fz1)] H := hP
          have hD := cpD hP hD
          replace hR := te hR (by rw [← et_38]; decide)
          replace hR := te hR (by rw [← et_38]; decide)
          replace hR := ti hR et_38.symm
          refine lv_aload_n hx hb dX10_standNow_29 rfl (lv_at hl 2 rfl) ?_
          refine va_get (ci := 10) (v := .ref (z 1)) (C := RX10) (T := TX10) (N := 40) hx hb hg inX10 hown hK hP 0 rfl rfl 1 (by decide) (hg _ q_5_225) (fun _ h9 => h9) rfl dX10_standNow_30 ?_
          refine lv_bipush (v := 46) hx hb dX10_standNow_33 (by decide) ?_
          refine lv_iload_n hx hb dX10_standNow_35 rfl (lv_at hl 0 rfl) ?_
          refine lv_iadd hx hb dX10_standNow_36 ?_
          refine tpi (y := 47) (by decide +kernel) ?_
          refine va_iald hx hb hK hP 1 0 rfl rfl (vin (by decide +kernel)) dX10_standNow_37 ?_
          refine lv_topi (fun x_41 ex_41 => ?_)
          have bx_41 : iv 0 4 x_41 := by rw [ex_41]; exact rdT (a := 47) (n := 1) tfz1 (iv_c (47 : Int32) (a := 47) (b := 47) (by decide)) (by decide) (by decide +kernel)
          replace hR := tb hR ex_41
          refine lv_imul hx hb dX10_standNow_38 ?_
          refine lv_topi (fun x_42 ex_42 => ?_)
          have bx_42 : iv 0 20 x_42 := by rw [ex_42]; exact iv_cmul (iv_c (5 : Int32) (a := 5) (b := 5) (by decide)) bx_41 (by decide)
          replace hR := tb hR ex_42
          refine lv_iadd hx hb dX10_standNow_39 ?_
          refine lv_topi (fun x_43 ex_43 => ?_)
          have bx_43 : iv 0 9399 x_43 := by rw [ex_43]; exact iv_add bx_23 bx_42 (by decide)
          replace hR := tb hR ex_43
          refine lv_istore_n (lv' := [(1, .int x_43), (2, .int 1), (0, .ref (z 0))]) hx hb dX10_standNow_40 rfl hl (by decide) rfl (fun ls hl => ?_)
          refine lv_iinc (v := 2) (lv' := [(2, .int 2), (1, .int x_43), (0, .ref (z 0))]) hx hb dX10_standNow_41 hl (k := 1) rfl (by decide +kernel) (by decide) rfl (fun ls hl => ?_)
          refine lv_goto (tgt := 14) hx hb dX10_standNow_44 (by decide) ?_
          refine lv_iload_n hx hb dX10_standNow_14 rfl (lv_at hl 0 rfl) ?_
          refine lv_aload_n hx hb dX10_standNow_15 rfl (lv_at hl 2 rfl) ?_
          refine va_get (ci := 10) (v := .ref (z 1)) (C := RX10) (T := TX10) (N := 40) hx hb hg inX10 hown hK hP 0 rfl rfl 1 (by decide) (hg _ q_5_225) (fun _ h9 => h9) rfl dX10_standNow_16 ?_
          refine lv_iconst (v := 1) hx hb dX10_standNow_19 (by decide) ?_
          refine va_iald hx hb hK hP 1 0 rfl rfl (vin (by decide +kernel)) dX10_standNow_20 ?_
          refine tpi (y := x_3) ex_3.symm ?_
          refine lv_icmp_ge (tgt := 47) hx hb dX10_standNow_21 (by decide) (fun c_44 => ?_) (fun c_44 => ?_)
          · replace hR := ti hR c_44
            have b_45 : iv 2 2 x_3 := iv_e1 c_44 b_26 (iv_c (2 : Int32) (a := 2) (b := 2) (by decide)) (by decide)
            refine lv_iload_n hx hb dX10_standNow_47 rfl (lv_at hl 1 rfl) ?_
            exact fiI hx hb hr hlk hK hP hD hS dX10_standNow_48 (Nat.le_of_ble_eq_true rfl) (Nat.le_of_ble_eq_true rfl) (⟨(iv_w bx_43 (by decide)), (by rw [snF_2 (show fz1 1 = 2 from (ex_3.symm.trans (iv_eqp b_45 (iv_c (2 : Int32) (by decide))))), ex_43, ex_42, ex_41, ex_23, ex_22, ex_21, ex_2, ex_1]; rfl), (hR.symm.trans hT0), rfl⟩)
          · replace hR := te hR c_44
            have b_46 : iv 3 4 x_3 := iv_l2 (Int32.not_le.mp c_44) (iv_c (2 : Int32) (a := 2) (b := 2) (by decide)) b_26 (by decide)
            refine lv_iload_n hx hb dX10_standNow_24 rfl (lv_at hl 1 rfl) ?_
            refine lv_iload_n hx hb dX10_standNow_25 rfl (lv_at hl 0 rfl) ?_
            refine jnI (wr := [(z 0, .inr (10, mo z pz0_0 pz0_5 pz0_6 pz0_7 pz0_8 pz0_9 pz0_10 pz0_11 pz0_12 pz0_13 pz0_14 pz0_18 pz0_19 pz0_22 pz0_23 pz0_29)), (z 1, aI V 3075 fz1)]) (rnS (rest := [.int x_43]) ⟨hx, hb, hml, hown, hg⟩ (k_X10_digitOf_0 l V 2 (iv_c (2 : Int32) (by decide))) mt_X10_digitOf q_7_15 ⟨Nat.le_of_ble_eq_true rfl, Nat.le_of_ble_eq_true rfl⟩ hK hP hD hS hA hE [] rfl rfl rfl hl.1 rfl (Nat.le_of_ble_eq_true rfl) dX10_standNow_26 ⟨Nat.le_of_ble_eq_true rfl, Nat.le_of_ble_eq_true rfl⟩) hP hD hS hA [] [0, 1] rfl rfl rfl (by decide) (fun r_47 w H locs hw hP hD hS => ?_)
            rcases hw with ⟨c_48, c_49, c_50, rfl, et_51, rfl⟩ | ⟨c_52, c_53, c_54, rfl, et_55, rfl⟩ | ⟨c_56, c_57, rfl, et_58, rfl⟩ | ⟨c_59, rfl, et_60, rfl⟩
            · have hP : va_P V.1 vwCl [(z 0, .inr (10, mo z pz0_0 pz0_5 pz0_6 pz0_7 pz0_8 pz0_9 pz0_10 pz0_11 pz0_12 pz0_13 pz0_14 pz0_18 pz0_19 pz0_22 pz0_23 pz0_29)), (z 1, aI V 3075 fz1)] H := hP
              have hD := cpD hP hD
              replace hR := ti hR et_51.symm
              exact absurd c_50 (by decide)
            · have hP : va_P V.1 vwCl [(z 0, .inr (10, mo z pz0_0 pz0_5 pz0_6 pz0_7 pz0_8 pz0_9 pz0_10 pz0_11 pz0_12 pz0_13 pz0_14 pz0_18 pz0_19 pz0_22 pz0_23 pz0_29)), (z 1, aI V 3075 fz1)] H := hP
              have hD := cpD hP hD
              replace hR := te hR (by rw [← et_55]; decide)
              replace hR := ti hR et_55.symm
              refine lv_aload_n hx hb dX10_standNow_29 rfl (lv_at hl 2 rfl) ?_
              refine va_get (ci := 10) (v := .ref (z 1)) (C := RX10) (T := TX10) (N := 40) hx hb hg inX10 hown hK hP 0 rfl rfl 1 (by decide) (hg _ q_5_225) (fun _ h9 => h9) rfl dX10_standNow_30 ?_
              refine lv_bipush (v := 46) hx hb dX10_standNow_33 (by decide) ?_
              refine lv_iload_n hx hb dX10_standNow_35 rfl (lv_at hl 0 rfl) ?_
              refine lv_iadd hx hb dX10_standNow_36 ?_
              refine tpi (y := 48) (by decide +kernel) ?_
              refine va_iald hx hb hK hP 1 0 rfl rfl (vin (by decide +kernel)) dX10_standNow_37 ?_
              refine lv_topi (fun x_61 ex_61 => ?_)
              have bx_61 : iv 0 4 x_61 := by rw [ex_61]; exact rdT (a := 48) (n := 1) tfz1 (iv_c (48 : Int32) (a := 48) (b := 48) (by decide)) (by decide) (by decide +kernel)
              replace hR := tb hR ex_61
              refine lv_imul hx hb dX10_standNow_38 ?_
              refine lv_topi (fun x_62 ex_62 => ?_)
              have bx_62 : iv 0 100 x_62 := by rw [ex_62]; exact iv_cmul (iv_c (25 : Int32) (a := 25) (b := 25) (by decide)) bx_61 (by decide)
              replace hR := tb hR ex_62
              refine lv_iadd hx hb dX10_standNow_39 ?_
              refine lv_topi (fun x_63 ex_63 => ?_)
              have bx_63 : iv 0 9499 x_63 := by rw [ex_63]; exact iv_add bx_43 bx_62 (by decide)
              replace hR := tb hR ex_63
              refine lv_istore_n (lv' := [(1, .int x_63), (2, .int 2), (0, .ref (z 0))]) hx hb dX10_standNow_40 rfl hl (by decide) rfl (fun ls hl => ?_)
              refine lv_iinc (v := 3) (lv' := [(2, .int 3), (1, .int x_63), (0, .ref (z 0))]) hx hb dX10_standNow_41 hl (k := 1) rfl (by decide +kernel) (by decide) rfl (fun ls hl => ?_)
              refine lv_goto (tgt := 14) hx hb dX10_standNow_44 (by decide) ?_
              refine lv_iload_n hx hb dX10_standNow_14 rfl (lv_at hl 0 rfl) ?_
              refine lv_aload_n hx hb dX10_standNow_15 rfl (lv_at hl 2 rfl) ?_
              refine va_get (ci := 10) (v := .ref (z 1)) (C := RX10) (T := TX10) (N := 40) hx hb hg inX10 hown hK hP 0 rfl rfl 1 (by decide) (hg _ q_5_225) (fun _ h9 => h9) rfl dX10_standNow_16 ?_
              refine lv_iconst (v := 1) hx hb dX10_standNow_19 (by decide) ?_
              refine va_iald hx hb hK hP 1 0 rfl rfl (vin (by decide +kernel)) dX10_standNow_20 ?_
              refine tpi (y := x_3) ex_3.symm ?_
              refine lv_icmp_ge (tgt := 47) hx hb dX10_standNow_21 (by decide) (fun c_64 => ?_) (fun c_64 => ?_)
              · replace hR := ti hR c_64
                have b_65 : iv 3 3 x_3 := iv_e1 c_64 b_46 (iv_c (3 : Int32) (a := 3) (b := 3) (by decide)) (by decide)
                refine lv_iload_n hx hb dX10_standNow_47 rfl (lv_at hl 1 rfl) ?_
                exact fiI hx hb hr hlk hK hP hD hS dX10_standNow_48 (Nat.le_of_ble_eq_true rfl) (Nat.le_of_ble_eq_true rfl) (⟨(iv_w bx_63 (by decide)), (by rw [snF_3 (show fz1 1 = 3 from (ex_3.symm.trans (iv_eqp b_65 (iv_c (3 : Int32) (by decide))))), ex_63, ex_62, ex_61, ex_43, ex_42, ex_41, ex_23, ex_22, ex_21, ex_2, ex_1]; rfl), (hR.symm.trans hT0), rfl⟩)
              · replace hR := te hR c_64
                have b_66 : iv 4 4 x_3 := iv_l2 (Int32.not_le.mp c_64) (iv_c (3 : Int32) (a := 3) (b := 3) (by decide)) b_46 (by decide)
                refine lv_iload_n hx hb dX10_standNow_24 rfl (lv_at hl 1 rfl) ?_
                refine lv_iload_n hx hb dX10_standNow_25 rfl (lv_at hl 0 rfl) ?_
                refine jnI (wr := [(z 0, .inr (10, mo z pz0_0 pz0_5 pz0_6 pz0_7 pz0_8 pz0_9 pz0_10 pz0_11 pz0_12 pz0_13 pz0_14 pz0_18 pz0_19 pz0_22 pz0_23 pz0_29)), (z 1, aI V 3075 fz1)]) (rnS (rest := [.int x_63]) ⟨hx, hb, hml, hown, hg⟩ (k_X10_digitOf_0 l V 3 (iv_c (3 : Int32) (by decide))) mt_X10_digitOf q_7_15 ⟨Nat.le_of_ble_eq_true rfl, Nat.le_of_ble_eq_true rfl⟩ hK hP hD hS hA hE [] rfl rfl rfl hl.1 rfl (Nat.le_of_ble_eq_true rfl) dX10_standNow_26 ⟨Nat.le_of_ble_eq_true rfl, Nat.le_of_ble_eq_true rfl⟩) hP hD hS hA [] [0, 1] rfl rfl rfl (by decide) (fun r_67 w H locs hw hP hD hS => ?_)
                rcases hw with ⟨c_68, c_69, c_70, rfl, et_71, rfl⟩ | ⟨c_72, c_73, c_74, rfl, et_75, rfl⟩ | ⟨c_76, c_77, rfl, et_78, rfl⟩ | ⟨c_79, rfl, et_80, rfl⟩
                · have hP : va_P V.1 vwCl [(z 0, .inr (10, mo z pz0_0 pz0_5 pz0_6 pz0_7 pz0_8 pz0_9 pz0_10 pz0_11 pz0_12 pz0_13 pz0_14 pz0_18 pz0_19 pz0_22 pz0_23 pz0_29)), (z 1, aI V 3075 fz1)] H := hP
                  have hD := cpD hP hD
                  replace hR := ti hR et_71.symm
                  refine lv_aload_n hx hb dX10_standNow_29 rfl (lv_at hl 2 rfl) ?_
                  refine va_get (ci := 10) (v := .ref (z 1)) (C := RX10) (T := TX10) (N := 40) hx hb hg inX10 hown hK hP 0 rfl rfl 1 (by decide) (hg _ q_5_225) (fun _ h9 => h9) rfl dX10_standNow_30 ?_
                  refine lv_bipush (v := 46) hx hb dX10_standNow_33 (by decide) ?_
                  refine lv_iload_n hx hb dX10_standNow_35 rfl (lv_at hl 0 rfl) ?_
                  refine lv_iadd hx hb dX10_standNow_36 ?_
                  refine tpi (y := 49) (by decide +kernel) ?_
                  refine va_iald hx hb hK hP 1 0 rfl rfl (vin (by decide +kernel)) dX10_standNow_37 ?_
                  refine lv_topi (fun x_81 ex_81 => ?_)
                  have bx_81 : iv 0 4 x_81 := by rw [ex_81]; exact rdT (a := 49) (n := 1) tfz1 (iv_c (49 : Int32) (a := 49) (b := 49) (by decide)) (by decide) (by decide +kernel)
                  replace hR := tb hR ex_81
                  refine lv_imul hx hb dX10_standNow_38 ?_
                  refine lv_topi (fun x_82 ex_82 => ?_)
                  have bx_82 : iv 0 500 x_82 := by rw [ex_82]; exact iv_cmul (iv_c (125 : Int32) (a := 125) (b := 125) (by decide)) bx_81 (by decide)
                  replace hR := tb hR ex_82
                  refine lv_iadd hx hb dX10_standNow_39 ?_
                  refine lv_topi (fun x_83 ex_83 => ?_)
                  have bx_83 : iv 0 9999 x_83 := by rw [ex_83]; exact iv_add bx_63 bx_82 (by decide)
                  replace hR := tb hR ex_83
                  refine lv_istore_n (lv' := [(1, .int x_83), (2, .int 3), (0, .ref (z 0))]) hx hb dX10_standNow_40 rfl hl (by decide) rfl (fun ls hl => ?_)
                  refine lv_iinc (v := 4) (lv' := [(2, .int 4), (1, .int x_83), (0, .ref (z 0))]) hx hb dX10_standNow_41 hl (k := 1) rfl (by decide +kernel) (by decide) rfl (fun ls hl => ?_)
                  refine lv_goto (tgt := 14) hx hb dX10_standNow_44 (by decide) ?_
                  refine lv_iload_n hx hb dX10_standNow_14 rfl (lv_at hl 0 rfl) ?_
                  refine lv_aload_n hx hb dX10_standNow_15 rfl (lv_at hl 2 rfl) ?_
                  refine va_get (ci := 10) (v := .ref (z 1)) (C := RX10) (T := TX10) (N := 40) hx hb hg inX10 hown hK hP 0 rfl rfl 1 (by decide) (hg _ q_5_225) (fun _ h9 => h9) rfl dX10_standNow_16 ?_
                  refine lv_iconst (v := 1) hx hb dX10_standNow_19 (by decide) ?_
                  refine va_iald hx hb hK hP 1 0 rfl rfl (vin (by decide +kernel)) dX10_standNow_20 ?_
                  refine tpi (y := x_3) ex_3.symm ?_
                  refine lv_icmp_ge (tgt := 47) hx hb dX10_standNow_21 (by decide) (fun _ => ?_) (fun c_84 => absurd (iv_le b_66 (iv_c (4 : Int32) (a := 4) (b := 4) (by decide)) (by decide)) c_84)
                  refine lv_iload_n hx hb dX10_standNow_47 rfl (lv_at hl 1 rfl) ?_
                  exact fiI hx hb hr hlk hK hP hD hS dX10_standNow_48 (Nat.le_of_ble_eq_true rfl) (Nat.le_of_ble_eq_true rfl) (⟨bx_83, (by rw [snF_4 (show fz1 1 = 4 from (ex_3.symm.trans (iv_eqp b_66 (iv_c (4 : Int32) (by decide))))), ex_83, ex_82, ex_81, ex_63, ex_62, ex_61, ex_43, ex_42, ex_41, ex_23, ex_22, ex_21, ex_2, ex_1]; rfl), (hR.symm.trans hT0), rfl⟩)
                · have hP : va_P V.1 vwCl [(z 0, .inr (10, mo z pz0_0 pz0_5 pz0_6 pz0_7 pz0_8 pz0_9 pz0_10 pz0_11 pz0_12 pz0_13 pz0_14 pz0_18 pz0_19 pz0_22 pz0_23 pz0_29)), (z 1, aI V 3075 fz1)] H := hP
                  have hD := cpD hP hD
                  replace hR := te hR (by rw [← et_75]; decide)
                  replace hR := ti hR et_75.symm
                  exact absurd c_74 (by decide)
                · have hP : va_P V.1 vwCl [(z 0, .inr (10, mo z pz0_0 pz0_5 pz0_6 pz0_7 pz0_8 pz0_9 pz0_10 pz0_11 pz0_12 pz0_13 pz0_14 pz0_18 pz0_19 pz0_22 pz0_23 pz0_29)), (z 1, aI V 3075 fz1)] H := hP
                  have hD := cpD hP hD
                  replace hR := te hR (by rw [← et_78]; decide)
                  replace hR := te hR (by rw [← et_78]; decide)
                  replace hR := ti hR et_78.symm
                  exact absurd c_77 (by decide)
                · have hP : va_P V.1 vwCl [(z 0, .inr (10, mo z pz0_0 pz0_5 pz0_6 pz0_7 pz0_8 pz0_9 pz0_10 pz0_11 pz0_12 pz0_13 pz0_14 pz0_18 pz0_19 pz0_22 pz0_23 pz0_29)), (z 1, aI V 3075 fz1)] H := hP
                  have hD := cpD hP hD
                  replace hR := te hR (by rw [← et_80]; decide)
                  replace hR := te hR (by rw [← et_80]; decide)
                  replace hR := te hR (by rw [← et_80]; decide)
                  exact absurd c_79 (by decide)
            · have hP : va_P V.1 vwCl [(z 0, .inr (10, mo z pz0_0 pz0_5 pz0_6 pz0_7 pz0_8 pz0_9 pz0_10 pz0_11 pz0_12 pz0_13 pz0_14 pz0_18 pz0_19 pz0_22 pz0_23 pz0_29)), (z 1, aI V 3075 fz1)] H := hP
              have hD := cpD hP hD
              replace hR := te hR (by rw [← et_58]; decide)
              replace hR := te hR (by rw [← et_58]; decide)
              replace hR := ti hR et_58.symm
              exact absurd c_57 (by decide)
            · have hP : va_P V.1 vwCl [(z 0, .inr (10, mo z pz0_0 pz0_5 pz0_6 pz0_7 pz0_8 pz0_9 pz0_10 pz0_11 pz0_12 pz0_13 pz0_14 pz0_18 pz0_19 pz0_22 pz0_23 pz0_29)), (z 1, aI V 3075 fz1)] H := hP
              have hD := cpD hP hD
              replace hR := te hR (by rw [← et_60]; decide)
              replace hR := te hR (by rw [← et_60]; decide)
              replace hR := te hR (by rw [← et_60]; decide)
              exact absurd c_59 (by decide)
        · have hP : va_P V.1 vwCl [(z 0, .inr (10, mo z pz0_0 pz0_5 pz0_6 pz0_7 pz0_8 pz0_9 pz0_10 pz0_11 pz0_12 pz0_13 pz0_14 pz0_18 pz0_19 pz0_22 pz0_23 pz0_29)), (z 1, aI V 3075 fz1)] H := hP
          have hD := cpD hP hD
          replace hR := te hR (by rw [← et_40]; decide)
          replace hR := te hR (by rw [← et_40]; decide)
          replace hR := te hR (by rw [← et_40]; decide)
          exact absurd c_39 (by decide)
theorem dX10_stackIn_0 : decode cX10_stackIn 0 = .ok (.iload_n 0, 1) := by decide +kernel
theorem dX10_stackIn_1 : decode cX10_stackIn 1 = .ok (.sipush 625, 3) := by decide +kernel
theorem dX10_stackIn_4 : decode cX10_stackIn 4 = .ok (.irem, 1) := by decide +kernel
theorem dX10_stackIn_5 : decode cX10_stackIn 5 = .ok (.iload_n 1, 1) := by decide +kernel
theorem dX10_stackIn_6 : decode cX10_stackIn 6 = .ok (.invokestatic 228, 3) := by decide +kernel
theorem dX10_stackIn_9 : decode cX10_stackIn 9 = .ok (.idiv, 1) := by decide +kernel
theorem dX10_stackIn_10 : decode cX10_stackIn 10 = .ok (.iconst 5, 1) := by decide +kernel
theorem dX10_stackIn_11 : decode cX10_stackIn 11 = .ok (.irem, 1) := by decide +kernel
theorem dX10_stackIn_12 : decode cX10_stackIn 12 = .ok (.ireturn, 1) := by decide +kernel
set_option maxRecDepth 100000 in
noncomputable def F_k_X10_stackIn_0 (a0 : Int32) (a1 : Int32) : Int32 := bnd (a0 - a0 / (625 : Int32) * (625 : Int32) : Int32) fun (x_1 : Int32) => if F_k_X10_digitOf_0 a1 = 0 then (bnd (x_1 / (125 : Int32) : Int32) fun (x_19 : Int32) => bnd (x_19 - x_19 / (5 : Int32) * (5 : Int32) : Int32) fun (x_20 : Int32) => (x_20)) else (if F_k_X10_digitOf_0 a1 = 1 then (bnd (x_1 / (25 : Int32) : Int32) fun (x_24 : Int32) => bnd (x_24 - x_24 / (5 : Int32) * (5 : Int32) : Int32) fun (x_25 : Int32) => (x_25)) else (if F_k_X10_digitOf_0 a1 = 2 then (bnd (x_1 / (5 : Int32) : Int32) fun (x_28 : Int32) => bnd (x_28 - x_28 / (5 : Int32) * (5 : Int32) : Int32) fun (x_29 : Int32) => (x_29)) else (bnd (x_1 / (1 : Int32) : Int32) fun (x_31 : Int32) => bnd (x_31 - x_31 / (5 : Int32) * (5 : Int32) : Int32) fun (x_32 : Int32) => (x_32))))
set_option maxHeartbeats 4000000 in
set_option maxRecDepth 100000 in
theorem k_X10_stackIn_0 (l : Launch) (V : GV) (a0 : Int32) (a1 : Int32) (ba0 : iv 0 9999 a0) (ba1 : iv 0 3 a1) : Ct l V yX10_stackIn (.code yX10_stackIn cX10_stackIn 2 (some .int)) 2 [.int a0, .int a1] [] 0 0 (QI V (fun (r : Int32) (w : va_W) => iv 0 4 r ∧ r = stF a0 a1 ∧ r = (F_k_X10_stackIn_0 a0 a1) ∧ w = [])) := by
  refine Ct.of (by decide) (Nat.le_of_ble_eq_true rfl) (fun p e s m below meth c A ls hx hb hr hml hown hlk hnm hg hP hK hD hE hA hS hl => ?_)
  have hl : lv_has ls 2 [(0, .int a0), (1, .int a1)] := hl
  obtain ⟨T0, hT0⟩ : ∃ T9, T9 = F_k_X10_stackIn_0 a0 a1 := ⟨_, rfl⟩
  have hR := hT0.trans (F_k_X10_stackIn_0.eq_1 ..)
  refine lv_iload_n hx hb dX10_stackIn_0 rfl (lv_at hl 0 rfl) ?_
  refine lv_sipush (v := 625) hx hb dX10_stackIn_1 (by decide) ?_
  refine lv_irem hx hb dX10_stackIn_4 (by decide) ?_
  refine lv_topi (fun x_1 ex_1 => ?_)
  have bx_1 : iv 0 624 x_1 := by rw [ex_1]; exact iv_remp ba0 (k := 625) (by decide) (by decide)
  replace hR := tb hR ex_1
  refine lv_iload_n hx hb dX10_stackIn_5 rfl (lv_at hl 1 rfl) ?_
  refine jnI (wr := []) (rnS (rest := [.int x_1]) ⟨hx, hb, hml, hown, hg⟩ (k_X10_digitOf_0 l V a1 ba1) mt_X10_digitOf q_7_15 ⟨Nat.le_of_ble_eq_true rfl, Nat.le_of_ble_eq_true rfl⟩ hK hP hD hS hA hE [] rfl rfl rfl hl.1 rfl (Nat.le_of_ble_eq_true rfl) dX10_stackIn_6 ⟨Nat.le_of_ble_eq_true rfl, Nat.le_of_ble_eq_true rfl⟩) hP hD hS hA [] [] rfl rfl rfl (by decide) (fun r_2 w H locs hw hP hD hS => ?_)
  rcases hw with ⟨c_3, c_4, c_5, rfl, et_6, rfl⟩ | ⟨c_7, c_8, c_9, rfl, et_10, rfl⟩ | ⟨c_11, c_12, rfl, et_13, rfl⟩ | ⟨c_14, rfl, et_15, rfl⟩
  · have hP : va_P V.1 vwCl [] H := hP
    have hD := cpD hP hD
    replace hR := ti hR et_6.symm
    have b_16 : iv 1 3 a1 := iv_n0 c_3 ba1 (iv_c (0 : Int32) (a := 0) (b := 0) (by decide)) (by decide)
    have b_17 : iv 2 3 a1 := iv_n0 c_4 b_16 (iv_c (1 : Int32) (a := 1) (b := 1) (by decide)) (by decide)
    have b_18 : iv 3 3 a1 := iv_n0 c_5 b_17 (iv_c (2 : Int32) (a := 2) (b := 2) (by decide)) (by decide)
    refine lv_idiv hx hb dX10_stackIn_9 (by decide) ?_
    refine lv_topi (fun x_19 ex_19 => ?_)
    have bx_19 : iv 0 4 x_19 := by rw [ex_19]; exact iv_divp bx_1 (k := 125) (by decide) (by decide)
    replace hR := tb hR ex_19
    refine lv_iconst (v := 5) hx hb dX10_stackIn_10 (by decide) ?_
    refine lv_irem hx hb dX10_stackIn_11 (by decide) ?_
    refine lv_topi (fun x_20 ex_20 => ?_)
    have bx_20 : iv 0 4 x_20 := by rw [ex_20]; exact iv_remp bx_19 (k := 5) (by decide) (by decide)
    replace hR := tb hR ex_20
    exact fiI hx hb hr hlk hK hP hD hS dX10_stackIn_12 (Nat.le_of_ble_eq_true rfl) (Nat.le_of_ble_eq_true rfl) (⟨bx_20, (stF_e (dgF_3 c_3 c_4 c_5) ex_1 ex_19 ex_20), (hR.symm.trans hT0), rfl⟩)
  · have hP : va_P V.1 vwCl [] H := hP
    have hD := cpD hP hD
    replace hR := te hR (by rw [← et_10]; decide)
    replace hR := ti hR et_10.symm
    have b_21 : iv 1 3 a1 := iv_n0 c_7 ba1 (iv_c (0 : Int32) (a := 0) (b := 0) (by decide)) (by decide)
    have b_22 : iv 2 3 a1 := iv_n0 c_8 b_21 (iv_c (1 : Int32) (a := 1) (b := 1) (by decide)) (by decide)
    have b_23 : iv 2 2 a1 := iv_q c_9 (iv_c (2 : Int32) (a := 2) (b := 2) (by decide))
    refine lv_idiv hx hb dX10_stackIn_9 (by decide) ?_
    refine lv_topi (fun x_24 ex_24 => ?_)
    have bx_24 : iv 0 24 x_24 := by rw [ex_24]; exact iv_divp bx_1 (k := 25) (by decide) (by decide)
    replace hR := tb hR ex_24
    refine lv_iconst (v := 5) hx hb dX10_stackIn_10 (by decide) ?_
    refine lv_irem hx hb dX10_stackIn_11 (by decide) ?_
    refine lv_topi (fun x_25 ex_25 => ?_)
    have bx_25 : iv 0 4 x_25 := by rw [ex_25]; exact iv_remp bx_24 (k := 5) (by decide) (by decide)
    replace hR := tb hR ex_25
    exact fiI hx hb hr hlk hK hP hD hS dX10_stackIn_12 (Nat.le_of_ble_eq_true rfl) (Nat.le_of_ble_eq_true rfl) (⟨bx_25, (stF_e (dgF_2 c_9) ex_1 ex_24 ex_25), (hR.symm.trans hT0), rfl⟩)
  · have hP : va_P V.1 vwCl [] H := hP
    have hD := cpD hP hD
    replace hR := te hR (by rw [← et_13]; decide)
    replace hR := te hR (by rw [← et_13]; decide)
    replace hR := ti hR et_13.symm
    have b_26 : iv 1 3 a1 := iv_n0 c_11 ba1 (iv_c (0 : Int32) (a := 0) (b := 0) (by decide)) (by decide)
    have b_27 : iv 1 1 a1 := iv_q c_12 (iv_c (1 : Int32) (a := 1) (b := 1) (by decide))
    refine lv_idiv hx hb dX10_stackIn_9 (by decide) ?_
    refine lv_topi (fun x_28 ex_28 => ?_)
    have bx_28 : iv 0 124 x_28 := by rw [ex_28]; exact iv_divp bx_1 (k := 5) (by decide) (by decide)
    replace hR := tb hR ex_28
    refine lv_iconst (v := 5) hx hb dX10_stackIn_10 (by decide) ?_
    refine lv_irem hx hb dX10_stackIn_11 (by decide) ?_
    refine lv_topi (fun x_29 ex_29 => ?_)
    have bx_29 : iv 0 4 x_29 := by rw [ex_29]; exact iv_remp bx_28 (k := 5) (by decide) (by decide)
    replace hR := tb hR ex_29
    exact fiI hx hb hr hlk hK hP hD hS dX10_stackIn_12 (Nat.le_of_ble_eq_true rfl) (Nat.le_of_ble_eq_true rfl) (⟨bx_29, (stF_e (dgF_1 c_12) ex_1 ex_28 ex_29), (hR.symm.trans hT0), rfl⟩)
  · have hP : va_P V.1 vwCl [] H := hP
    have hD := cpD hP hD
    replace hR := te hR (by rw [← et_15]; decide)
    replace hR := te hR (by rw [← et_15]; decide)
    replace hR := te hR (by rw [← et_15]; decide)
    have b_30 : iv 0 0 a1 := iv_q c_14 (iv_c (0 : Int32) (a := 0) (b := 0) (by decide))
    refine lv_idiv hx hb dX10_stackIn_9 (by decide) ?_
    refine lv_topi (fun x_31 ex_31 => ?_)
    have bx_31 : iv 0 624 x_31 := by rw [ex_31]; exact iv_divp bx_1 (k := 1) (by decide) (by decide)
    replace hR := tb hR ex_31
    refine lv_iconst (v := 5) hx hb dX10_stackIn_10 (by decide) ?_
    refine lv_irem hx hb dX10_stackIn_11 (by decide) ?_
    refine lv_topi (fun x_32 ex_32 => ?_)
    have bx_32 : iv 0 4 x_32 := by rw [ex_32]; exact iv_remp bx_31 (k := 5) (by decide) (by decide)
    replace hR := tb hR ex_32
    exact fiI hx hb hr hlk hK hP hD hS dX10_stackIn_12 (Nat.le_of_ble_eq_true rfl) (Nat.le_of_ble_eq_true rfl) (⟨bx_32, (stF_e (dgF_0 c_14) ex_1 ex_31 ex_32), (hR.symm.trans hT0), rfl⟩)
theorem dX10_tookIn_0 : decode cX10_tookIn 0 = .ok (.iload_n 0, 1) := by decide +kernel
theorem dX10_tookIn_1 : decode cX10_tookIn 1 = .ok (.sipush 625, 3) := by decide +kernel
theorem dX10_tookIn_4 : decode cX10_tookIn 4 = .ok (.idiv, 1) := by decide +kernel
theorem dX10_tookIn_5 : decode cX10_tookIn 5 = .ok (.ireturn, 1) := by decide +kernel
set_option maxRecDepth 100000 in
noncomputable def F_k_X10_tookIn_0 (a0 : Int32) : Int32 := bnd (a0 / (625 : Int32) : Int32) fun (x_1 : Int32) => (x_1)
set_option maxHeartbeats 4000000 in
set_option maxRecDepth 100000 in
theorem k_X10_tookIn_0 (l : Launch) (V : GV) (a0 : Int32) (ba0 : iv 0 9999 a0) : Ct l V yX10_tookIn (.code yX10_tookIn cX10_tookIn 1 (some .int)) 1 [.int a0] [] 0 0 (QI V (fun (r : Int32) (w : va_W) => iv 0 15 r ∧ r = (F_k_X10_tookIn_0 a0) ∧ w = [])) := by
  refine Ct.of (by decide) (Nat.le_of_ble_eq_true rfl) (fun p e s m below meth c A ls hx hb hr hml hown hlk hnm hg hP hK hD hE hA hS hl => ?_)
  have hl : lv_has ls 1 [(0, .int a0)] := hl
  obtain ⟨T0, hT0⟩ : ∃ T9, T9 = F_k_X10_tookIn_0 a0 := ⟨_, rfl⟩
  have hR := hT0.trans (F_k_X10_tookIn_0.eq_1 ..)
  refine lv_iload_n hx hb dX10_tookIn_0 rfl (lv_at hl 0 rfl) ?_
  refine lv_sipush (v := 625) hx hb dX10_tookIn_1 (by decide) ?_
  refine lv_idiv hx hb dX10_tookIn_4 (by decide) ?_
  refine lv_topi (fun x_1 ex_1 => ?_)
  have bx_1 : iv 0 15 x_1 := by rw [ex_1]; exact iv_divp ba0 (k := 625) (by decide) (by decide)
  replace hR := tb hR ex_1
  exact fiI hx hb hr hlk hK hP hD hS dX10_tookIn_5 (Nat.le_of_ble_eq_true rfl) (Nat.le_of_ble_eq_true rfl) (⟨bx_1, (hR.symm.trans hT0), rfl⟩)
theorem dX10_isIn_0 : decode cX10_isIn 0 = .ok (.lload_n 0, 1) := by decide +kernel
theorem dX10_isIn_1 : decode cX10_isIn 1 = .ok (.iload_n 2, 1) := by decide +kernel
theorem dX10_isIn_2 : decode cX10_isIn 2 = .ok (.lshr, 1) := by decide +kernel
theorem dX10_isIn_3 : decode cX10_isIn 3 = .ok (.lconst 1, 1) := by decide +kernel
theorem dX10_isIn_4 : decode cX10_isIn 4 = .ok (.land, 1) := by decide +kernel
theorem dX10_isIn_5 : decode cX10_isIn 5 = .ok (.lconst 1, 1) := by decide +kernel
theorem dX10_isIn_6 : decode cX10_isIn 6 = .ok (.lcmp, 1) := by decide +kernel
theorem dX10_isIn_7 : decode cX10_isIn 7 = .ok (.ifCond .ne 7, 3) := by decide +kernel
theorem dX10_isIn_14 : decode cX10_isIn 14 = .ok (.iconst 0, 1) := by decide +kernel
theorem dX10_isIn_15 : decode cX10_isIn 15 = .ok (.ireturn, 1) := by decide +kernel
theorem dX10_isIn_10 : decode cX10_isIn 10 = .ok (.iconst 1, 1) := by decide +kernel
theorem dX10_isIn_11 : decode cX10_isIn 11 = .ok (.goto 4, 3) := by decide +kernel
set_option maxRecDepth 100000 in
noncomputable def F_k_X10_isIn_0 (k0 : Int64) (a1 : Int32) : Int32 := bnd (k0 >>> (a1.toInt64 &&& 63) : Int64) fun (j_1 : Int64) => bnd (j_1 &&& (1 : Int64) : Int64) fun (j_2 : Int64) => if j_2 = (1 : Int64) then (((1 : Int32))) else (((0 : Int32)))
set_option maxHeartbeats 4000000 in
set_option maxRecDepth 100000 in
theorem k_X10_isIn_0 (l : Launch) (V : GV) (k0 : Int64) (a1 : Int32) (ba1 : iv 0 31 a1) : Ct l V yX10_isIn (.code yX10_isIn cX10_isIn 3 (some .boolean)) 1 [.long k0, .int a1] [] 0 0 (QI V (fun (r : Int32) (w : va_W) => iv 0 1 r ∧ r = (F_k_X10_isIn_0 k0 a1) ∧ w = [])) := by
  refine Ct.of (by decide) (Nat.le_of_ble_eq_true rfl) (fun p e s m below meth c A ls hx hb hr hml hown hlk hnm hg hP hK hD hE hA hS hl => ?_)
  have hl : lv_has ls 3 [(0, .long k0), (2, .int a1)] := hl
  obtain ⟨T0, hT0⟩ : ∃ T9, T9 = F_k_X10_isIn_0 k0 a1 := ⟨_, rfl⟩
  have hR := hT0.trans (F_k_X10_isIn_0.eq_1 ..)
  refine lv_lload_n hx hb dX10_isIn_0 rfl (lv_at hl 0 rfl) ?_
  refine lv_iload_n hx hb dX10_isIn_1 rfl (lv_at hl 1 rfl) ?_
  refine lv_lshr hx hb dX10_isIn_2 rfl ?_
  refine lv_topl (fun j_1 ej_1 => ?_)
  replace hR := tb hR ej_1
  refine lv_lconst (v := 1) hx hb dX10_isIn_3 (by decide) ?_
  refine lv_land hx hb dX10_isIn_4 ?_
  refine lv_topl (fun j_2 ej_2 => ?_)
  replace hR := tb hR ej_2
  refine lv_lconst (v := 1) hx hb dX10_isIn_5 (by decide) ?_
  refine W.lcmp hx hb dX10_isIn_6 ?_
  refine lv_if_ne (tgt := 14) hx hb dX10_isIn_7 (by decide) (fun c_3 => ?_) (fun c_3 => ?_)
  · replace c_3 : ¬ j_2 = (1 : Int64) := fun z => c_3 ((lg_cmp_eq _ _).mpr z)
    replace hR := te hR c_3
    refine lv_iconst (v := 0) hx hb dX10_isIn_14 (by decide) ?_
    exact fiZ rfl hx hb hr hlk hK hP hD hS dX10_isIn_15 (Nat.le_of_ble_eq_true rfl) (Nat.le_of_ble_eq_true rfl) (⟨(iv_c (0 : Int32) (by decide)), (hR.symm.trans hT0), rfl⟩)
  · replace c_3 : j_2 = (1 : Int64) := (lg_cmp_eq _ _).mp c_3
    replace hR := ti hR c_3
    have b_4 : ivL 1 1 j_2 := ivL_q c_3 (ivL_c (1 : Int64) (a := 1) (b := 1) (by decide))
    refine lv_iconst (v := 1) hx hb dX10_isIn_10 (by decide) ?_
    refine lv_goto (tgt := 15) hx hb dX10_isIn_11 (by decide) ?_
    exact fiZ rfl hx hb hr hlk hK hP hD hS dX10_isIn_15 (Nat.le_of_ble_eq_true rfl) (Nat.le_of_ble_eq_true rfl) (⟨(iv_c (1 : Int32) (by decide)), (hR.symm.trans hT0), rfl⟩)
theorem dX10_laysWords_0 : decode cX10_laysWords 0 = .ok (.aload_n 0, 1) := by decide +kernel
theorem q_6_0 : Cond.fieldLink "BeaconDelayModel" 33 "BeaconDelayModel" "words" "[I" ∈ gw := gw_6 (i := 0) (by decide +kernel) rfl
theorem dX10_laysWords_1 : decode cX10_laysWords 1 = .ok (.getfield 33, 3) := by decide +kernel
theorem dX10_laysWords_4 : decode cX10_laysWords 4 = .ok (.iconst 0, 1) := by decide +kernel
theorem dX10_laysWords_5 : decode cX10_laysWords 5 = .ok (.iload_n 2, 1) := by decide +kernel
theorem dX10_laysWords_6 : decode cX10_laysWords 6 = .ok (.iastore, 1) := by decide +kernel
theorem dX10_laysWords_7 : decode cX10_laysWords 7 = .ok (.aload_n 0, 1) := by decide +kernel
theorem dX10_laysWords_8 : decode cX10_laysWords 8 = .ok (.getfield 33, 3) := by decide +kernel
theorem dX10_laysWords_11 : decode cX10_laysWords 11 = .ok (.iconst 1, 1) := by decide +kernel
theorem dX10_laysWords_12 : decode cX10_laysWords 12 = .ok (.iload_n 1, 1) := by decide +kernel
theorem dX10_laysWords_13 : decode cX10_laysWords 13 = .ok (.iload_n 2, 1) := by decide +kernel
theorem q_7_28 : Cond.code yX10_stackIn prog_12_method_38_code 2 (some FieldType.int) ∈ gw := gw_7 (i := 28) (rfl) rfl
theorem q_7_27 : Cond.static yX10_stackIn ∈ gw := gw_7 (i := 27) (by decide +kernel) rfl
theorem mt_X10_stackIn : MtS yX10_stackIn cX10_stackIn 2 (some .int) 2 := ⟨⟨q_7_28, q_1_9, by decide +kernel, by decide +kernel, by decide +kernel⟩, q_7_27⟩
theorem q_7_26 : Cond.methodLink "BeaconDelayModel" 231 yX10_stackIn ∈ gw := gw_7 (i := 26) (by decide +kernel) rfl
theorem dX10_laysWords_14 : decode cX10_laysWords 14 = .ok (.invokestatic 231, 3) := by decide +kernel
theorem dX10_laysWords_17 : decode cX10_laysWords 17 = .ok (.iastore, 1) := by decide +kernel
theorem dX10_laysWords_18 : decode cX10_laysWords 18 = .ok (.aload_n 0, 1) := by decide +kernel
theorem dX10_laysWords_19 : decode cX10_laysWords 19 = .ok (.getfield 33, 3) := by decide +kernel
theorem dX10_laysWords_22 : decode cX10_laysWords 22 = .ok (.iconst 2, 1) := by decide +kernel
theorem dX10_laysWords_23 : decode cX10_laysWords 23 = .ok (.iload_n 2, 1) := by decide +kernel
theorem dX10_laysWords_24 : decode cX10_laysWords 24 = .ok (.ifCond .ne 7, 3) := by decide +kernel
theorem dX10_laysWords_31 : decode cX10_laysWords 31 = .ok (.iload_n 1, 1) := by decide +kernel
theorem dX10_laysWords_32 : decode cX10_laysWords 32 = .ok (.iload_n 2, 1) := by decide +kernel
theorem dX10_laysWords_33 : decode cX10_laysWords 33 = .ok (.iconst 1, 1) := by decide +kernel
theorem dX10_laysWords_34 : decode cX10_laysWords 34 = .ok (.isub, 1) := by decide +kernel
theorem dX10_laysWords_35 : decode cX10_laysWords 35 = .ok (.invokestatic 231, 3) := by decide +kernel
theorem dX10_laysWords_38 : decode cX10_laysWords 38 = .ok (.iastore, 1) := by decide +kernel
theorem dX10_laysWords_39 : decode cX10_laysWords 39 = .ok (.aload_n 0, 1) := by decide +kernel
theorem dX10_laysWords_40 : decode cX10_laysWords 40 = .ok (.getfield 33, 3) := by decide +kernel
theorem dX10_laysWords_43 : decode cX10_laysWords 43 = .ok (.iconst 3, 1) := by decide +kernel
theorem dX10_laysWords_44 : decode cX10_laysWords 44 = .ok (.iload_n 2, 1) := by decide +kernel
theorem dX10_laysWords_45 : decode cX10_laysWords 45 = .ok (.ifCond .le 26, 3) := by decide +kernel
theorem dX10_laysWords_48 : decode cX10_laysWords 48 = .ok (.iload_n 3, 1) := by decide +kernel
theorem dX10_laysWords_49 : decode cX10_laysWords 49 = .ok (.iload_n 2, 1) := by decide +kernel
theorem dX10_laysWords_50 : decode cX10_laysWords 50 = .ok (.if_icmp .eq 21, 3) := by decide +kernel
theorem dX10_laysWords_71 : decode cX10_laysWords 71 = .ok (.iconst 0, 1) := by decide +kernel
theorem dX10_laysWords_72 : decode cX10_laysWords 72 = .ok (.iastore, 1) := by decide +kernel
theorem dX10_laysWords_73 : decode cX10_laysWords 73 = .ok (.aload_n 0, 1) := by decide +kernel
theorem dX10_laysWords_74 : decode cX10_laysWords 74 = .ok (.getfield 33, 3) := by decide +kernel
theorem dX10_laysWords_77 : decode cX10_laysWords 77 = .ok (.iconst 4, 1) := by decide +kernel
theorem dX10_laysWords_78 : decode cX10_laysWords 78 = .ok (.aload_n 0, 1) := by decide +kernel
theorem dX10_laysWords_79 : decode cX10_laysWords 79 = .ok (.getfield 13, 3) := by decide +kernel
theorem dX10_laysWords_82 : decode cX10_laysWords 82 = .ok (.bipush 10, 2) := by decide +kernel
theorem dX10_laysWords_84 : decode cX10_laysWords 84 = .ok (.iload_n 2, 1) := by decide +kernel
theorem dX10_laysWords_85 : decode cX10_laysWords 85 = .ok (.iadd, 1) := by decide +kernel
theorem dX10_laysWords_86 : decode cX10_laysWords 86 = .ok (.iaload, 1) := by decide +kernel
theorem dX10_laysWords_87 : decode cX10_laysWords 87 = .ok (.iastore, 1) := by decide +kernel
theorem dX10_laysWords_88 : decode cX10_laysWords 88 = .ok (.aload_n 0, 1) := by decide +kernel
theorem dX10_laysWords_89 : decode cX10_laysWords 89 = .ok (.getfield 33, 3) := by decide +kernel
theorem dX10_laysWords_92 : decode cX10_laysWords 92 = .ok (.iconst 5, 1) := by decide +kernel
theorem dX10_laysWords_93 : decode cX10_laysWords 93 = .ok (.iload 4, 2) := by decide +kernel
theorem dX10_laysWords_95 : decode cX10_laysWords 95 = .ok (.iastore, 1) := by decide +kernel
theorem dX10_laysWords_96 : decode cX10_laysWords 96 = .ok (.return_, 1) := by decide +kernel
theorem dX10_laysWords_53 : decode cX10_laysWords 53 = .ok (.iload_n 1, 1) := by decide +kernel
theorem q_7_31 : Cond.code yX10_tookIn prog_12_method_39_code 1 (some FieldType.int) ∈ gw := gw_7 (i := 31) (rfl) rfl
theorem q_7_30 : Cond.static yX10_tookIn ∈ gw := gw_7 (i := 30) (by decide +kernel) rfl
theorem mt_X10_tookIn : MtS yX10_tookIn cX10_tookIn 1 (some .int) 1 := ⟨⟨q_7_31, q_1_9, by decide +kernel, by decide +kernel, by decide +kernel⟩, q_7_30⟩
theorem q_7_29 : Cond.methodLink "BeaconDelayModel" 234 yX10_tookIn ∈ gw := gw_7 (i := 29) (by decide +kernel) rfl
theorem dX10_laysWords_54 : decode cX10_laysWords 54 = .ok (.invokestatic 234, 3) := by decide +kernel
theorem dX10_laysWords_57 : decode cX10_laysWords 57 = .ok (.i2l, 1) := by decide +kernel
theorem dX10_laysWords_58 : decode cX10_laysWords 58 = .ok (.iload_n 2, 1) := by decide +kernel
theorem dX10_laysWords_59 : decode cX10_laysWords 59 = .ok (.iconst 1, 1) := by decide +kernel
theorem dX10_laysWords_60 : decode cX10_laysWords 60 = .ok (.isub, 1) := by decide +kernel
theorem q_7_34 : Cond.code yX10_isIn prog_12_method_15_code 3 (some FieldType.boolean) ∈ gw := gw_7 (i := 34) (rfl) rfl
theorem q_7_33 : Cond.static yX10_isIn ∈ gw := gw_7 (i := 33) (by decide +kernel) rfl
theorem mt_X10_isIn : MtS yX10_isIn cX10_isIn 3 (some .boolean) 2 := ⟨⟨q_7_34, q_1_9, by decide +kernel, by decide +kernel, by decide +kernel⟩, q_7_33⟩
theorem q_7_32 : Cond.methodLink "BeaconDelayModel" 244 yX10_isIn ∈ gw := gw_7 (i := 32) (by decide +kernel) rfl
theorem dX10_laysWords_61 : decode cX10_laysWords 61 = .ok (.invokestatic 244, 3) := by decide +kernel
theorem dX10_laysWords_64 : decode cX10_laysWords 64 = .ok (.ifCond .eq 7, 3) := by decide +kernel
theorem dX10_laysWords_67 : decode cX10_laysWords 67 = .ok (.iconst 1, 1) := by decide +kernel
theorem dX10_laysWords_68 : decode cX10_laysWords 68 = .ok (.goto 4, 3) := by decide +kernel
theorem dX10_laysWords_27 : decode cX10_laysWords 27 = .ok (.iconst 0, 1) := by decide +kernel
theorem dX10_laysWords_28 : decode cX10_laysWords 28 = .ok (.goto 10, 3) := by decide +kernel
set_option maxRecDepth 100000 in
noncomputable def F_k_X10_laysWords_0 (a1 : Int32) (a2 : Int32) (a3 : Int32) (a4 : Int32) (fz16 : Nat → Int32) (fz1 : Nat → Int32) : (Nat → Int32) := bnd ((upd fz16 (0 : Int32).toNatClampNeg a2) : Nat → Int32) fun (f_1 : Nat → Int32) => bnd (F_k_X10_stackIn_0 a1 a2 : Int32) fun (r_2 : Int32) => bnd ((upd f_1 (1 : Int32).toNatClampNeg r_2) : Nat → Int32) fun (f_5 : Nat → Int32) => if a2 = (0 : Int32) then (bnd ((upd f_5 (2 : Int32).toNatClampNeg 0) : Nat → Int32) fun (f_42 : Nat → Int32) => bnd ((upd f_42 (3 : Int32).toNatClampNeg 0) : Nat → Int32) fun (f_44 : Nat → Int32) => bnd ((10 : Int32) + a2 : Int32) fun (x_45 : Int32) => bnd (fz1 (x_45 : Int32).toNatClampNeg : Int32) fun (x_46 : Int32) => bnd ((upd f_44 (4 : Int32).toNatClampNeg x_46) : Nat → Int32) fun (f_47 : Nat → Int32) => bnd ((upd f_47 (5 : Int32).toNatClampNeg a4) : Nat → Int32) fun (f_48 : Nat → Int32) => (f_48)) else (bnd (a2 - (1 : Int32) : Int32) fun (x_8 : Int32) => bnd (F_k_X10_stackIn_0 a1 x_8 : Int32) fun (r_9 : Int32) => bnd ((upd f_5 (2 : Int32).toNatClampNeg r_9) : Nat → Int32) fun (f_12 : Nat → Int32) => if a3 = a2 then (bnd ((upd f_12 (3 : Int32).toNatClampNeg 0) : Nat → Int32) fun (f_16 : Nat → Int32) => bnd ((10 : Int32) + a2 : Int32) fun (x_17 : Int32) => bnd (fz1 (x_17 : Int32).toNatClampNeg : Int32) fun (x_18 : Int32) => bnd ((upd f_16 (4 : Int32).toNatClampNeg x_18) : Nat → Int32) fun (f_19 : Nat → Int32) => bnd ((upd f_19 (5 : Int32).toNatClampNeg a4) : Nat → Int32) fun (f_20 : Nat → Int32) => (f_20)) else (bnd (F_k_X10_tookIn_0 a1 : Int32) fun (r_21 : Int32) => bnd (r_21.toInt64 : Int64) fun (j_24 : Int64) => bnd (F_k_X10_isIn_0 j_24 x_8 : Int32) fun (r_25 : Int32) => if r_25 = (0 : Int32) then (bnd ((upd f_12 (3 : Int32).toNatClampNeg 0) : Nat → Int32) fun (f_30 : Nat → Int32) => bnd ((10 : Int32) + a2 : Int32) fun (x_31 : Int32) => bnd (fz1 (x_31 : Int32).toNatClampNeg : Int32) fun (x_32 : Int32) => bnd ((upd f_30 (4 : Int32).toNatClampNeg x_32) : Nat → Int32) fun (f_33 : Nat → Int32) => bnd ((upd f_33 (5 : Int32).toNatClampNeg a4) : Nat → Int32) fun (f_34 : Nat → Int32) => (f_34)) else (bnd ((upd f_12 (3 : Int32).toNatClampNeg 1) : Nat → Int32) fun (f_36 : Nat → Int32) => bnd ((10 : Int32) + a2 : Int32) fun (x_37 : Int32) => bnd (fz1 (x_37 : Int32).toNatClampNeg : Int32) fun (x_38 : Int32) => bnd ((upd f_36 (4 : Int32).toNatClampNeg x_38) : Nat → Int32) fun (f_39 : Nat → Int32) => bnd ((upd f_39 (5 : Int32).toNatClampNeg a4) : Nat → Int32) fun (f_40 : Nat → Int32) => (f_40))))
set_option maxHeartbeats 4000000 in
set_option maxRecDepth 100000 in
theorem k_X10_laysWords_0 (l : Launch) (V : GV) (z : Nat → Nat) (a1 : Int32) (a2 : Int32) (a3 : Int32) (a4 : Int32) (fz16 : Nat → Int32) (pz0_0 : Int32) (pz0_5 : Int32) (pz0_6 : Int32) (pz0_7 : Int32) (pz0_8 : Int32) (pz0_9 : Int32) (pz0_10 : Int32) (pz0_11 : Int32) (pz0_12 : Int32) (pz0_13 : Int32) (pz0_14 : Int32) (pz0_18 : Int32) (pz0_19 : Int32) (pz0_22 : Int32) (pz0_23 : Int32) (pz0_29 : Int32) (fz1 : Nat → Int32) (ba1 : iv 0 9999 a1) (ba2 : iv 0 3 a2) (tfz16 : ivT tW fz16) (bpz0_5 : iv 0 900 pz0_5) (bpz0_6 : iv 0 900 pz0_6) (bpz0_7 : iv 0 900 pz0_7) (bpz0_8 : iv 0 900 pz0_8) (bpz0_10 : iv 0 999 pz0_10) (bpz0_11 : iv 0 4 pz0_11) (bpz0_12 : iv 0 900 pz0_12) (bpz0_13 : iv 0 4 pz0_13) (bpz0_14 : iv (-1) 900 pz0_14) (bpz0_18 : iv 0 2 pz0_18) (bpz0_22 : iv 0 9999 pz0_22) (bpz0_29 : iv 0 10000 pz0_29) (tfz1 : ivT tA fz1) : Ct l V yX10_laysWords (.code yX10_laysWords cX10_laysWords 5 none) 3 [.ref (z 0), .int a1, .int a2, .int a3, .int a4] [(z 16, aI V 6 fz16), (z 0, .inr (10, mo z pz0_0 pz0_5 pz0_6 pz0_7 pz0_8 pz0_9 pz0_10 pz0_11 pz0_12 pz0_13 pz0_14 pz0_18 pz0_19 pz0_22 pz0_23 pz0_29)), (z 1, aI V 3075 fz1)] 0 0 (QV V (fun (w : va_W) => ∃ (g0 : Nat → Int32), (ivT tW g0) ∧ g0 = (F_k_X10_laysWords_0 a1 a2 a3 a4 fz16 fz1) ∧ w = [(z 16, aI V 6 g0), (z 0, .inr (10, mo z pz0_0 pz0_5 pz0_6 pz0_7 pz0_8 pz0_9 pz0_10 pz0_11 pz0_12 pz0_13 pz0_14 pz0_18 pz0_19 pz0_22 pz0_23 pz0_29)), (z 1, aI V 3075 fz1)])) := by
  refine Ct.of (by decide) (Nat.le_of_ble_eq_true rfl) (fun p e s m below meth c A ls hx hb hr hml hown hlk hnm hg hP hK hD hE hA hS hl => ?_)
  have hl : lv_has ls 5 [(0, .ref (z 0)), (1, .int a1), (2, .int a2), (3, .int a3), (4, .int a4)] := hl
  obtain ⟨T0, hT0⟩ : ∃ T9, T9 = F_k_X10_laysWords_0 a1 a2 a3 a4 fz16 fz1 := ⟨_, rfl⟩
  have hR := hT0.trans (F_k_X10_laysWords_0.eq_1 ..)
  refine lv_aload_n hx hb dX10_laysWords_0 rfl (lv_at hl 0 rfl) ?_
  refine va_get (ci := 10) (v := .ref (z 16)) (C := RX10) (T := TX10) (N := 40) hx hb hg inX10 hown hK hP 1 rfl rfl 16 (by decide) (hg _ q_6_0) (fun _ h9 => h9) rfl dX10_laysWords_1 ?_
  refine lv_iconst (v := 0) hx hb dX10_laysWords_4 (by decide) ?_
  refine lv_iload_n hx hb dX10_laysWords_5 rfl (lv_at hl 2 rfl) ?_
  refine va_iast hx hb hK hP hD hS 0 0 rfl rfl (vin (by decide +kernel)) dX10_laysWords_6 (fun H locs hP hD hS => ?_)
  obtain ⟨f_1, ef_1, tf_1, hP, hD⟩ : ∃ f_1 : Nat → Int32, f_1 = (upd fz16 (0 : Int32).toNatClampNeg a2) ∧ (ivT tW f_1) ∧ va_P V.1 vwCl [(z 16, aI V 6 f_1), (z 0, .inr (10, mo z pz0_0 pz0_5 pz0_6 pz0_7 pz0_8 pz0_9 pz0_10 pz0_11 pz0_12 pz0_13 pz0_14 pz0_18 pz0_19 pz0_22 pz0_23 pz0_29)), (z 1, aI V 3075 fz1)] H ∧ va_D A [(z 16, aI V 6 f_1), (z 0, .inr (10, mo z pz0_0 pz0_5 pz0_6 pz0_7 pz0_8 pz0_9 pz0_10 pz0_11 pz0_12 pz0_13 pz0_14 pz0_18 pz0_19 pz0_22 pz0_23 pz0_29)), (z 1, aI V 3075 fz1)] := ⟨_, rfl, upT (lo := (-2147483648)) (hi := 2147483647) (a := 0) (n := 1) tfz16 (iv_c (0 : Int32) (a := 0) (b := 0) (by decide)) (by decide) (iv_w ba2 (by decide)) (by decide +kernel), hP, hD⟩
  replace hR := tb hR ef_1
  refine lv_aload_n hx hb dX10_laysWords_7 rfl (lv_at hl 0 rfl) ?_
  refine va_get (ci := 10) (v := .ref (z 16)) (C := RX10) (T := TX10) (N := 40) hx hb hg inX10 hown hK hP 1 rfl rfl 16 (by decide) (hg _ q_6_0) (fun _ h9 => h9) rfl dX10_laysWords_8 ?_
  refine lv_iconst (v := 1) hx hb dX10_laysWords_11 (by decide) ?_
  refine lv_iload_n hx hb dX10_laysWords_12 rfl (lv_at hl 1 rfl) ?_
  refine lv_iload_n hx hb dX10_laysWords_13 rfl (lv_at hl 2 rfl) ?_
  refine jnI (wr := [(z 16, aI V 6 f_1), (z 0, .inr (10, mo z pz0_0 pz0_5 pz0_6 pz0_7 pz0_8 pz0_9 pz0_10 pz0_11 pz0_12 pz0_13 pz0_14 pz0_18 pz0_19 pz0_22 pz0_23 pz0_29)), (z 1, aI V 3075 fz1)]) (rnS (rest := [.int 1, .ref (z 16)]) ⟨hx, hb, hml, hown, hg⟩ (k_X10_stackIn_0 l V a1 a2 ba1 ba2) mt_X10_stackIn q_7_26 ⟨Nat.le_of_ble_eq_true rfl, Nat.le_of_ble_eq_true rfl⟩ hK hP hD hS hA hE [] rfl rfl rfl hl.1 rfl (Nat.le_of_ble_eq_true rfl) dX10_laysWords_14 ⟨Nat.le_of_ble_eq_true rfl, Nat.le_of_ble_eq_true rfl⟩) hP hD hS hA [] [0, 1, 2] rfl rfl rfl (by decide) (fun r_2 w H locs hw hP hD hS => ?_)
  obtain ⟨br_2, er_2, et_3, rfl⟩ := hw
  replace hR := tb hR et_3
  have hP : va_P V.1 vwCl [(z 16, aI V 6 f_1), (z 0, .inr (10, mo z pz0_0 pz0_5 pz0_6 pz0_7 pz0_8 pz0_9 pz0_10 pz0_11 pz0_12 pz0_13 pz0_14 pz0_18 pz0_19 pz0_22 pz0_23 pz0_29)), (z 1, aI V 3075 fz1)] H := hP
  have hD := cpD hP hD
  refine va_iast hx hb hK hP hD hS 0 0 rfl rfl (vin (by decide +kernel)) dX10_laysWords_17 (fun H locs hP hD hS => ?_)
  obtain ⟨f_5, ef_5, tf_5, hP, hD⟩ : ∃ f_5 : Nat → Int32, f_5 = (upd f_1 (1 : Int32).toNatClampNeg r_2) ∧ (ivT tW f_5) ∧ va_P V.1 vwCl [(z 16, aI V 6 f_5), (z 0, .inr (10, mo z pz0_0 pz0_5 pz0_6 pz0_7 pz0_8 pz0_9 pz0_10 pz0_11 pz0_12 pz0_13 pz0_14 pz0_18 pz0_19 pz0_22 pz0_23 pz0_29)), (z 1, aI V 3075 fz1)] H ∧ va_D A [(z 16, aI V 6 f_5), (z 0, .inr (10, mo z pz0_0 pz0_5 pz0_6 pz0_7 pz0_8 pz0_9 pz0_10 pz0_11 pz0_12 pz0_13 pz0_14 pz0_18 pz0_19 pz0_22 pz0_23 pz0_29)), (z 1, aI V 3075 fz1)] := ⟨_, rfl, upT (lo := 0) (hi := 4) (a := 1) (n := 1) tf_1 (iv_c (1 : Int32) (a := 1) (b := 1) (by decide)) (by decide) br_2 (by decide +kernel), hP, hD⟩
  replace hR := tb hR ef_5
  refine lv_aload_n hx hb dX10_laysWords_18 rfl (lv_at hl 0 rfl) ?_
  refine va_get (ci := 10) (v := .ref (z 16)) (C := RX10) (T := TX10) (N := 40) hx hb hg inX10 hown hK hP 1 rfl rfl 16 (by decide) (hg _ q_6_0) (fun _ h9 => h9) rfl dX10_laysWords_19 ?_
  refine lv_iconst (v := 2) hx hb dX10_laysWords_22 (by decide) ?_
  refine lv_iload_n hx hb dX10_laysWords_23 rfl (lv_at hl 2 rfl) ?_
  refine lv_if_ne (tgt := 31) hx hb dX10_laysWords_24 (by decide) (fun c_6 => ?_) (fun c_6 => ?_)
  · replace hR := te hR c_6
    have b_7 : iv 1 3 a2 := iv_n0 c_6 ba2 (iv_c (0 : Int32) (a := 0) (b := 0) (by decide)) (by decide)
    refine lv_iload_n hx hb dX10_laysWords_31 rfl (lv_at hl 1 rfl) ?_
    refine lv_iload_n hx hb dX10_laysWords_32 rfl (lv_at hl 2 rfl) ?_
    refine lv_iconst (v := 1) hx hb dX10_laysWords_33 (by decide) ?_
    refine lv_isub hx hb dX10_laysWords_34 ?_
    refine lv_topi (fun x_8 ex_8 => ?_)
    have bx_8 : iv 0 2 x_8 := by rw [ex_8]; exact iv_sub b_7 (iv_c (1 : Int32) (a := 1) (b := 1) (by decide)) (by decide)
    replace hR := tb hR ex_8
    refine jnI (wr := [(z 16, aI V 6 f_5), (z 0, .inr (10, mo z pz0_0 pz0_5 pz0_6 pz0_7 pz0_8 pz0_9 pz0_10 pz0_11 pz0_12 pz0_13 pz0_14 pz0_18 pz0_19 pz0_22 pz0_23 pz0_29)), (z 1, aI V 3075 fz1)]) (rnS (rest := [.int 2, .ref (z 16)]) ⟨hx, hb, hml, hown, hg⟩ (k_X10_stackIn_0 l V a1 x_8 ba1 (iv_w bx_8 (by decide))) mt_X10_stackIn q_7_26 ⟨Nat.le_of_ble_eq_true rfl, Nat.le_of_ble_eq_true rfl⟩ hK hP hD hS hA hE [] rfl rfl rfl hl.1 rfl (Nat.le_of_ble_eq_true rfl) dX10_laysWords_35 ⟨Nat.le_of_ble_eq_true rfl, Nat.le_of_ble_eq_true rfl⟩) hP hD hS hA [] [0, 1, 2] rfl rfl rfl (by decide) (fun r_9 w H locs hw hP hD hS => ?_)
    obtain ⟨br_9, er_9, et_10, rfl⟩ := hw
    replace hR := tb hR et_10
    have hP : va_P V.1 vwCl [(z 16, aI V 6 f_5), (z 0, .inr (10, mo z pz0_0 pz0_5 pz0_6 pz0_7 pz0_8 pz0_9 pz0_10 pz0_11 pz0_12 pz0_13 pz0_14 pz0_18 pz0_19 pz0_22 pz0_23 pz0_29)), (z 1, aI V 3075 fz1)] H := hP
    have hD := cpD hP hD
    refine va_iast hx hb hK hP hD hS 0 0 rfl rfl (vin (by decide +kernel)) dX10_laysWords_38 (fun H locs hP hD hS => ?_)
    obtain ⟨f_12, ef_12, tf_12, hP, hD⟩ : ∃ f_12 : Nat → Int32, f_12 = (upd f_5 (2 : Int32).toNatClampNeg r_9) ∧ (ivT tW f_12) ∧ va_P V.1 vwCl [(z 16, aI V 6 f_12), (z 0, .inr (10, mo z pz0_0 pz0_5 pz0_6 pz0_7 pz0_8 pz0_9 pz0_10 pz0_11 pz0_12 pz0_13 pz0_14 pz0_18 pz0_19 pz0_22 pz0_23 pz0_29)), (z 1, aI V 3075 fz1)] H ∧ va_D A [(z 16, aI V 6 f_12), (z 0, .inr (10, mo z pz0_0 pz0_5 pz0_6 pz0_7 pz0_8 pz0_9 pz0_10 pz0_11 pz0_12 pz0_13 pz0_14 pz0_18 pz0_19 pz0_22 pz0_23 pz0_29)), (z 1, aI V 3075 fz1)] := ⟨_, rfl, upT (lo := (-2147483648)) (hi := 2147483647) (a := 2) (n := 1) tf_5 (iv_c (2 : Int32) (a := 2) (b := 2) (by decide)) (by decide) (iv_w br_9 (by decide)) (by decide +kernel), hP, hD⟩
    replace hR := tb hR ef_12
    refine lv_aload_n hx hb dX10_laysWords_39 rfl (lv_at hl 0 rfl) ?_
    refine va_get (ci := 10) (v := .ref (z 16)) (C := RX10) (T := TX10) (N := 40) hx hb hg inX10 hown hK hP 1 rfl rfl 16 (by decide) (hg _ q_6_0) (fun _ h9 => h9) rfl dX10_laysWords_40 ?_
    refine lv_iconst (v := 3) hx hb dX10_laysWords_43 (by decide) ?_
    refine lv_iload_n hx hb dX10_laysWords_44 rfl (lv_at hl 2 rfl) ?_
    refine lv_if_le (tgt := 71) hx hb dX10_laysWords_45 (by decide) (fun c_13 => absurd c_13 (iv_nle b_7 (iv_c (0 : Int32) (a := 0) (b := 0) (by decide)) (by decide))) (fun _ => ?_)
    refine lv_iload_n hx hb dX10_laysWords_48 rfl (lv_at hl 3 rfl) ?_
    refine lv_iload_n hx hb dX10_laysWords_49 rfl (lv_at hl 2 rfl) ?_
    refine lv_icmp_eq (tgt := 71) hx hb dX10_laysWords_50 (by decide) (fun c_14 => ?_) (fun c_14 => ?_)
    · replace hR := ti hR c_14
      have b_15 : iv 1 3 a3 := iv_q c_14 b_7
      refine lv_iconst (v := 0) hx hb dX10_laysWords_71 (by decide) ?_
      refine va_iast hx hb hK hP hD hS 0 0 rfl rfl (vin (by decide +kernel)) dX10_laysWords_72 (fun H locs hP hD hS => ?_)
      obtain ⟨f_16, ef_16, tf_16, hP, hD⟩ : ∃ f_16 : Nat → Int32, f_16 = (upd f_12 (3 : Int32).toNatClampNeg 0) ∧ (ivT tW f_16) ∧ va_P V.1 vwCl [(z 16, aI V 6 f_16), (z 0, .inr (10, mo z pz0_0 pz0_5 pz0_6 pz0_7 pz0_8 pz0_9 pz0_10 pz0_11 pz0_12 pz0_13 pz0_14 pz0_18 pz0_19 pz0_22 pz0_23 pz0_29)), (z 1, aI V 3075 fz1)] H ∧ va_D A [(z 16, aI V 6 f_16), (z 0, .inr (10, mo z pz0_0 pz0_5 pz0_6 pz0_7 pz0_8 pz0_9 pz0_10 pz0_11 pz0_12 pz0_13 pz0_14 pz0_18 pz0_19 pz0_22 pz0_23 pz0_29)), (z 1, aI V 3075 fz1)] := ⟨_, rfl, upT (lo := (-2147483648)) (hi := 2147483647) (a := 3) (n := 1) tf_12 (iv_c (3 : Int32) (a := 3) (b := 3) (by decide)) (by decide) (iv_c (0 : Int32) (by decide)) (by decide +kernel), hP, hD⟩
      replace hR := tb hR ef_16
      refine lv_aload_n hx hb dX10_laysWords_73 rfl (lv_at hl 0 rfl) ?_
      refine va_get (ci := 10) (v := .ref (z 16)) (C := RX10) (T := TX10) (N := 40) hx hb hg inX10 hown hK hP 1 rfl rfl 16 (by decide) (hg _ q_6_0) (fun _ h9 => h9) rfl dX10_laysWords_74 ?_
      refine lv_iconst (v := 4) hx hb dX10_laysWords_77 (by decide) ?_
      refine lv_aload_n hx hb dX10_laysWords_78 rfl (lv_at hl 0 rfl) ?_
      refine va_get (ci := 10) (v := .ref (z 1)) (C := RX10) (T := TX10) (N := 40) hx hb hg inX10 hown hK hP 1 rfl rfl 1 (by decide) (hg _ q_5_225) (fun _ h9 => h9) rfl dX10_laysWords_79 ?_
      refine lv_bipush (v := 10) hx hb dX10_laysWords_82 (by decide) ?_
      refine lv_iload_n hx hb dX10_laysWords_84 rfl (lv_at hl 2 rfl) ?_
      refine lv_iadd hx hb dX10_laysWords_85 ?_
      refine lv_topi (fun x_17 ex_17 => ?_)
      have bx_17 : iv 11 13 x_17 := by rw [ex_17]; exact iv_add (iv_c (10 : Int32) (a := 10) (b := 10) (by decide)) b_7 (by decide)
      replace hR := tb hR ex_17
      refine va_iald hx hb hK hP 2 0 rfl rfl (iv_in bx_17 (by decide)) dX10_laysWords_86 ?_
      refine lv_topi (fun x_18 ex_18 => ?_)
      have bx_18 : iv 0 9 x_18 := by rw [ex_18]; exact rdT (a := 11) (n := 3) tfz1 bx_17 (by decide) (by decide +kernel)
      replace hR := tb hR ex_18
      refine va_iast hx hb hK hP hD hS 0 0 rfl rfl (vin (by decide +kernel)) dX10_laysWords_87 (fun H locs hP hD hS => ?_)
      obtain ⟨f_19, ef_19, tf_19, hP, hD⟩ : ∃ f_19 : Nat → Int32, f_19 = (upd f_16 (4 : Int32).toNatClampNeg x_18) ∧ (ivT tW f_19) ∧ va_P V.1 vwCl [(z 16, aI V 6 f_19), (z 0, .inr (10, mo z pz0_0 pz0_5 pz0_6 pz0_7 pz0_8 pz0_9 pz0_10 pz0_11 pz0_12 pz0_13 pz0_14 pz0_18 pz0_19 pz0_22 pz0_23 pz0_29)), (z 1, aI V 3075 fz1)] H ∧ va_D A [(z 16, aI V 6 f_19), (z 0, .inr (10, mo z pz0_0 pz0_5 pz0_6 pz0_7 pz0_8 pz0_9 pz0_10 pz0_11 pz0_12 pz0_13 pz0_14 pz0_18 pz0_19 pz0_22 pz0_23 pz0_29)), (z 1, aI V 3075 fz1)] := ⟨_, rfl, upT (lo := (-2147483648)) (hi := 2147483647) (a := 4) (n := 1) tf_16 (iv_c (4 : Int32) (a := 4) (b := 4) (by decide)) (by decide) (iv_w bx_18 (by decide)) (by decide +kernel), hP, hD⟩
      replace hR := tb hR ef_19
      refine lv_aload_n hx hb dX10_laysWords_88 rfl (lv_at hl 0 rfl) ?_
      refine va_get (ci := 10) (v := .ref (z 16)) (C := RX10) (T := TX10) (N := 40) hx hb hg inX10 hown hK hP 1 rfl rfl 16 (by decide) (hg _ q_6_0) (fun _ h9 => h9) rfl dX10_laysWords_89 ?_
      refine lv_iconst (v := 5) hx hb dX10_laysWords_92 (by decide) ?_
      refine lv_iload hx hb dX10_laysWords_93 (lv_at hl 4 rfl) ?_
      refine va_iast hx hb hK hP hD hS 0 0 rfl rfl (vin (by decide +kernel)) dX10_laysWords_95 (fun H locs hP hD hS => ?_)
      obtain ⟨f_20, ef_20, tf_20, hP, hD⟩ : ∃ f_20 : Nat → Int32, f_20 = (upd f_19 (5 : Int32).toNatClampNeg a4) ∧ (ivT tW f_20) ∧ va_P V.1 vwCl [(z 16, aI V 6 f_20), (z 0, .inr (10, mo z pz0_0 pz0_5 pz0_6 pz0_7 pz0_8 pz0_9 pz0_10 pz0_11 pz0_12 pz0_13 pz0_14 pz0_18 pz0_19 pz0_22 pz0_23 pz0_29)), (z 1, aI V 3075 fz1)] H ∧ va_D A [(z 16, aI V 6 f_20), (z 0, .inr (10, mo z pz0_0 pz0_5 pz0_6 pz0_7 pz0_8 pz0_9 pz0_10 pz0_11 pz0_12 pz0_13 pz0_14 pz0_18 pz0_19 pz0_22 pz0_23 pz0_29)), (z 1, aI V 3075 fz1)] := ⟨_, rfl, upT (lo := (-2147483648)) (hi := 2147483647) (a := 5) (n := 1) tf_19 (iv_c (5 : Int32) (a := 5) (b := 5) (by decide)) (by decide) (iv_top a4) (by decide +kernel), hP, hD⟩
      replace hR := tb hR ef_20
      exact fiV hx hb hr hlk hK hP hD hS dX10_laysWords_96 (Nat.le_of_ble_eq_true rfl) (Nat.le_of_ble_eq_true rfl) (⟨f_20, tf_20, (hR.symm.trans hT0), rfl⟩)
    · replace hR := te hR c_14
      refine lv_iload_n hx hb dX10_laysWords_53 rfl (lv_at hl 1 rfl) ?_
      refine jnI (wr := [(z 16, aI V 6 f_12), (z 0, .inr (10, mo z pz0_0 pz0_5 pz0_6 pz0_7 pz0_8 pz0_9 pz0_10 pz0_11 pz0_12 pz0_13 pz0_14 pz0_18 pz0_19 pz0_22 pz0_23 pz0_29)), (z 1, aI V 3075 fz1)]) (rnS (rest := [.int 3, .ref (z 16)]) ⟨hx, hb, hml, hown, hg⟩ (k_X10_tookIn_0 l V a1 ba1) mt_X10_tookIn q_7_29 ⟨Nat.le_of_ble_eq_true rfl, Nat.le_of_ble_eq_true rfl⟩ hK hP hD hS hA hE [] rfl rfl rfl hl.1 rfl (Nat.le_of_ble_eq_true rfl) dX10_laysWords_54 ⟨Nat.le_of_ble_eq_true rfl, Nat.le_of_ble_eq_true rfl⟩) hP hD hS hA [] [0, 1, 2] rfl rfl rfl (by decide) (fun r_21 w H locs hw hP hD hS => ?_)
      obtain ⟨br_21, et_22, rfl⟩ := hw
      replace hR := tb hR et_22
      have hP : va_P V.1 vwCl [(z 16, aI V 6 f_12), (z 0, .inr (10, mo z pz0_0 pz0_5 pz0_6 pz0_7 pz0_8 pz0_9 pz0_10 pz0_11 pz0_12 pz0_13 pz0_14 pz0_18 pz0_19 pz0_22 pz0_23 pz0_29)), (z 1, aI V 3075 fz1)] H := hP
      have hD := cpD hP hD
      refine lv_i2l hx hb dX10_laysWords_57 rfl ?_
      refine lv_topl (fun j_24 ej_24 => ?_)
      have bj_24 : ivL 0 15 j_24 := by rw [ej_24]; exact ivL_of br_21
      replace hR := tb hR ej_24
      refine lv_iload_n hx hb dX10_laysWords_58 rfl (lv_at hl 2 rfl) ?_
      refine lv_iconst (v := 1) hx hb dX10_laysWords_59 (by decide) ?_
      refine lv_isub hx hb dX10_laysWords_60 ?_
      refine tpi (y := x_8) ex_8.symm ?_
      refine jnI (wr := [(z 16, aI V 6 f_12), (z 0, .inr (10, mo z pz0_0 pz0_5 pz0_6 pz0_7 pz0_8 pz0_9 pz0_10 pz0_11 pz0_12 pz0_13 pz0_14 pz0_18 pz0_19 pz0_22 pz0_23 pz0_29)), (z 1, aI V 3075 fz1)]) (rnS (rest := [.int 3, .ref (z 16)]) ⟨hx, hb, hml, hown, hg⟩ (k_X10_isIn_0 l V j_24 x_8 (iv_w bx_8 (by decide))) mt_X10_isIn q_7_32 ⟨Nat.le_of_ble_eq_true rfl, Nat.le_of_ble_eq_true rfl⟩ hK hP hD hS hA hE [] rfl rfl rfl hl.1 rfl (Nat.le_of_ble_eq_true rfl) dX10_laysWords_61 ⟨Nat.le_of_ble_eq_true rfl, Nat.le_of_ble_eq_true rfl⟩) hP hD hS hA [] [0, 1, 2] rfl rfl rfl (by decide) (fun r_25 w H locs hw hP hD hS => ?_)
      obtain ⟨br_25, et_26, rfl⟩ := hw
      replace hR := tb hR et_26
      have hP : va_P V.1 vwCl [(z 16, aI V 6 f_12), (z 0, .inr (10, mo z pz0_0 pz0_5 pz0_6 pz0_7 pz0_8 pz0_9 pz0_10 pz0_11 pz0_12 pz0_13 pz0_14 pz0_18 pz0_19 pz0_22 pz0_23 pz0_29)), (z 1, aI V 3075 fz1)] H := hP
      have hD := cpD hP hD
      refine lv_if_eq (tgt := 71) hx hb dX10_laysWords_64 (by decide) (fun c_28 => ?_) (fun c_28 => ?_)
      · replace hR := ti hR c_28
        have b_29 : iv 0 0 r_25 := iv_q c_28 (iv_c (0 : Int32) (a := 0) (b := 0) (by decide))
        refine lv_iconst (v := 0) hx hb dX10_laysWords_71 (by decide) ?_
        refine va_iast hx hb hK hP hD hS 0 0 rfl rfl (vin (by decide +kernel)) dX10_laysWords_72 (fun H locs hP hD hS => ?_)
        obtain ⟨f_30, ef_30, tf_30, hP, hD⟩ : ∃ f_30 : Nat → Int32, f_30 = (upd f_12 (3 : Int32).toNatClampNeg 0) ∧ (ivT tW f_30) ∧ va_P V.1 vwCl [(z 16, aI V 6 f_30), (z 0, .inr (10, mo z pz0_0 pz0_5 pz0_6 pz0_7 pz0_8 pz0_9 pz0_10 pz0_11 pz0_12 pz0_13 pz0_14 pz0_18 pz0_19 pz0_22 pz0_23 pz0_29)), (z 1, aI V 3075 fz1)] H ∧ va_D A [(z 16, aI V 6 f_30), (z 0, .inr (10, mo z pz0_0 pz0_5 pz0_6 pz0_7 pz0_8 pz0_9 pz0_10 pz0_11 pz0_12 pz0_13 pz0_14 pz0_18 pz0_19 pz0_22 pz0_23 pz0_29)), (z 1, aI V 3075 fz1)] := ⟨_, rfl, upT (lo := (-2147483648)) (hi := 2147483647) (a := 3) (n := 1) tf_12 (iv_c (3 : Int32) (a := 3) (b := 3) (by decide)) (by decide) (iv_c (0 : Int32) (by decide)) (by decide +kernel), hP, hD⟩
        replace hR := tb hR ef_30
        refine lv_aload_n hx hb dX10_laysWords_73 rfl (lv_at hl 0 rfl) ?_
        refine va_get (ci := 10) (v := .ref (z 16)) (C := RX10) (T := TX10) (N := 40) hx hb hg inX10 hown hK hP 1 rfl rfl 16 (by decide) (hg _ q_6_0) (fun _ h9 => h9) rfl dX10_laysWords_74 ?_
        refine lv_iconst (v := 4) hx hb dX10_laysWords_77 (by decide) ?_
        refine lv_aload_n hx hb dX10_laysWords_78 rfl (lv_at hl 0 rfl) ?_
        refine va_get (ci := 10) (v := .ref (z 1)) (C := RX10) (T := TX10) (N := 40) hx hb hg inX10 hown hK hP 1 rfl rfl 1 (by decide) (hg _ q_5_225) (fun _ h9 => h9) rfl dX10_laysWords_79 ?_
        refine lv_bipush (v := 10) hx hb dX10_laysWords_82 (by decide) ?_
        refine lv_iload_n hx hb dX10_laysWords_84 rfl (lv_at hl 2 rfl) ?_
        refine lv_iadd hx hb dX10_laysWords_85 ?_
        refine lv_topi (fun x_31 ex_31 => ?_)
        have bx_31 : iv 11 13 x_31 := by rw [ex_31]; exact iv_add (iv_c (10 : Int32) (a := 10) (b := 10) (by decide)) b_7 (by decide)
        replace hR := tb hR ex_31
        refine va_iald hx hb hK hP 2 0 rfl rfl (iv_in bx_31 (by decide)) dX10_laysWords_86 ?_
        refine lv_topi (fun x_32 ex_32 => ?_)
        have bx_32 : iv 0 9 x_32 := by rw [ex_32]; exact rdT (a := 11) (n := 3) tfz1 bx_31 (by decide) (by decide +kernel)
        replace hR := tb hR ex_32
        refine va_iast hx hb hK hP hD hS 0 0 rfl rfl (vin (by decide +kernel)) dX10_laysWords_87 (fun H locs hP hD hS => ?_)
        obtain ⟨f_33, ef_33, tf_33, hP, hD⟩ : ∃ f_33 : Nat → Int32, f_33 = (upd f_30 (4 : Int32).toNatClampNeg x_32) ∧ (ivT tW f_33) ∧ va_P V.1 vwCl [(z 16, aI V 6 f_33), (z 0, .inr (10, mo z pz0_0 pz0_5 pz0_6 pz0_7 pz0_8 pz0_9 pz0_10 pz0_11 pz0_12 pz0_13 pz0_14 pz0_18 pz0_19 pz0_22 pz0_23 pz0_29)), (z 1, aI V 3075 fz1)] H ∧ va_D A [(z 16, aI V 6 f_33), (z 0, .inr (10, mo z pz0_0 pz0_5 pz0_6 pz0_7 pz0_8 pz0_9 pz0_10 pz0_11 pz0_12 pz0_13 pz0_14 pz0_18 pz0_19 pz0_22 pz0_23 pz0_29)), (z 1, aI V 3075 fz1)] := ⟨_, rfl, upT (lo := (-2147483648)) (hi := 2147483647) (a := 4) (n := 1) tf_30 (iv_c (4 : Int32) (a := 4) (b := 4) (by decide)) (by decide) (iv_w bx_32 (by decide)) (by decide +kernel), hP, hD⟩
        replace hR := tb hR ef_33
        refine lv_aload_n hx hb dX10_laysWords_88 rfl (lv_at hl 0 rfl) ?_
        refine va_get (ci := 10) (v := .ref (z 16)) (C := RX10) (T := TX10) (N := 40) hx hb hg inX10 hown hK hP 1 rfl rfl 16 (by decide) (hg _ q_6_0) (fun _ h9 => h9) rfl dX10_laysWords_89 ?_
        refine lv_iconst (v := 5) hx hb dX10_laysWords_92 (by decide) ?_
        refine lv_iload hx hb dX10_laysWords_93 (lv_at hl 4 rfl) ?_
        refine va_iast hx hb hK hP hD hS 0 0 rfl rfl (vin (by decide +kernel)) dX10_laysWords_95 (fun H locs hP hD hS => ?_)
        obtain ⟨f_34, ef_34, tf_34, hP, hD⟩ : ∃ f_34 : Nat → Int32, f_34 = (upd f_33 (5 : Int32).toNatClampNeg a4) ∧ (ivT tW f_34) ∧ va_P V.1 vwCl [(z 16, aI V 6 f_34), (z 0, .inr (10, mo z pz0_0 pz0_5 pz0_6 pz0_7 pz0_8 pz0_9 pz0_10 pz0_11 pz0_12 pz0_13 pz0_14 pz0_18 pz0_19 pz0_22 pz0_23 pz0_29)), (z 1, aI V 3075 fz1)] H ∧ va_D A [(z 16, aI V 6 f_34), (z 0, .inr (10, mo z pz0_0 pz0_5 pz0_6 pz0_7 pz0_8 pz0_9 pz0_10 pz0_11 pz0_12 pz0_13 pz0_14 pz0_18 pz0_19 pz0_22 pz0_23 pz0_29)), (z 1, aI V 3075 fz1)] := ⟨_, rfl, upT (lo := (-2147483648)) (hi := 2147483647) (a := 5) (n := 1) tf_33 (iv_c (5 : Int32) (a := 5) (b := 5) (by decide)) (by decide) (iv_top a4) (by decide +kernel), hP, hD⟩
        replace hR := tb hR ef_34
        exact fiV hx hb hr hlk hK hP hD hS dX10_laysWords_96 (Nat.le_of_ble_eq_true rfl) (Nat.le_of_ble_eq_true rfl) (⟨f_34, tf_34, (hR.symm.trans hT0), rfl⟩)
      · replace hR := te hR c_28
        have b_35 : iv 1 1 r_25 := iv_n0 c_28 br_25 (iv_c (0 : Int32) (a := 0) (b := 0) (by decide)) (by decide)
        refine lv_iconst (v := 1) hx hb dX10_laysWords_67 (by decide) ?_
        refine lv_goto (tgt := 72) hx hb dX10_laysWords_68 (by decide) ?_
        refine va_iast hx hb hK hP hD hS 0 0 rfl rfl (vin (by decide +kernel)) dX10_laysWords_72 (fun H locs hP hD hS => ?_)
        obtain ⟨f_36, ef_36, tf_36, hP, hD⟩ : ∃ f_36 : Nat → Int32, f_36 = (upd f_12 (3 : Int32).toNatClampNeg 1) ∧ (ivT tW f_36) ∧ va_P V.1 vwCl [(z 16, aI V 6 f_36), (z 0, .inr (10, mo z pz0_0 pz0_5 pz0_6 pz0_7 pz0_8 pz0_9 pz0_10 pz0_11 pz0_12 pz0_13 pz0_14 pz0_18 pz0_19 pz0_22 pz0_23 pz0_29)), (z 1, aI V 3075 fz1)] H ∧ va_D A [(z 16, aI V 6 f_36), (z 0, .inr (10, mo z pz0_0 pz0_5 pz0_6 pz0_7 pz0_8 pz0_9 pz0_10 pz0_11 pz0_12 pz0_13 pz0_14 pz0_18 pz0_19 pz0_22 pz0_23 pz0_29)), (z 1, aI V 3075 fz1)] := ⟨_, rfl, upT (lo := (-2147483648)) (hi := 2147483647) (a := 3) (n := 1) tf_12 (iv_c (3 : Int32) (a := 3) (b := 3) (by decide)) (by decide) (iv_c (1 : Int32) (by decide)) (by decide +kernel), hP, hD⟩
        replace hR := tb hR ef_36
        refine lv_aload_n hx hb dX10_laysWords_73 rfl (lv_at hl 0 rfl) ?_
        refine va_get (ci := 10) (v := .ref (z 16)) (C := RX10) (T := TX10) (N := 40) hx hb hg inX10 hown hK hP 1 rfl rfl 16 (by decide) (hg _ q_6_0) (fun _ h9 => h9) rfl dX10_laysWords_74 ?_
        refine lv_iconst (v := 4) hx hb dX10_laysWords_77 (by decide) ?_
        refine lv_aload_n hx hb dX10_laysWords_78 rfl (lv_at hl 0 rfl) ?_
        refine va_get (ci := 10) (v := .ref (z 1)) (C := RX10) (T := TX10) (N := 40) hx hb hg inX10 hown hK hP 1 rfl rfl 1 (by decide) (hg _ q_5_225) (fun _ h9 => h9) rfl dX10_laysWords_79 ?_
        refine lv_bipush (v := 10) hx hb dX10_laysWords_82 (by decide) ?_
        refine lv_iload_n hx hb dX10_laysWords_84 rfl (lv_at hl 2 rfl) ?_
        refine lv_iadd hx hb dX10_laysWords_85 ?_
        refine lv_topi (fun x_37 ex_37 => ?_)
        have bx_37 : iv 11 13 x_37 := by rw [ex_37]; exact iv_add (iv_c (10 : Int32) (a := 10) (b := 10) (by decide)) b_7 (by decide)
        replace hR := tb hR ex_37
        refine va_iald hx hb hK hP 2 0 rfl rfl (iv_in bx_37 (by decide)) dX10_laysWords_86 ?_
        refine lv_topi (fun x_38 ex_38 => ?_)
        have bx_38 : iv 0 9 x_38 := by rw [ex_38]; exact rdT (a := 11) (n := 3) tfz1 bx_37 (by decide) (by decide +kernel)
        replace hR := tb hR ex_38
        refine va_iast hx hb hK hP hD hS 0 0 rfl rfl (vin (by decide +kernel)) dX10_laysWords_87 (fun H locs hP hD hS => ?_)
        obtain ⟨f_39, ef_39, tf_39, hP, hD⟩ : ∃ f_39 : Nat → Int32, f_39 = (upd f_36 (4 : Int32).toNatClampNeg x_38) ∧ (ivT tW f_39) ∧ va_P V.1 vwCl [(z 16, aI V 6 f_39), (z 0, .inr (10, mo z pz0_0 pz0_5 pz0_6 pz0_7 pz0_8 pz0_9 pz0_10 pz0_11 pz0_12 pz0_13 pz0_14 pz0_18 pz0_19 pz0_22 pz0_23 pz0_29)), (z 1, aI V 3075 fz1)] H ∧ va_D A [(z 16, aI V 6 f_39), (z 0, .inr (10, mo z pz0_0 pz0_5 pz0_6 pz0_7 pz0_8 pz0_9 pz0_10 pz0_11 pz0_12 pz0_13 pz0_14 pz0_18 pz0_19 pz0_22 pz0_23 pz0_29)), (z 1, aI V 3075 fz1)] := ⟨_, rfl, upT (lo := (-2147483648)) (hi := 2147483647) (a := 4) (n := 1) tf_36 (iv_c (4 : Int32) (a := 4) (b := 4) (by decide)) (by decide) (iv_w bx_38 (by decide)) (by decide +kernel), hP, hD⟩
        replace hR := tb hR ef_39
        refine lv_aload_n hx hb dX10_laysWords_88 rfl (lv_at hl 0 rfl) ?_
        refine va_get (ci := 10) (v := .ref (z 16)) (C := RX10) (T := TX10) (N := 40) hx hb hg inX10 hown hK hP 1 rfl rfl 16 (by decide) (hg _ q_6_0) (fun _ h9 => h9) rfl dX10_laysWords_89 ?_
        refine lv_iconst (v := 5) hx hb dX10_laysWords_92 (by decide) ?_
        refine lv_iload hx hb dX10_laysWords_93 (lv_at hl 4 rfl) ?_
        refine va_iast hx hb hK hP hD hS 0 0 rfl rfl (vin (by decide +kernel)) dX10_laysWords_95 (fun H locs hP hD hS => ?_)
        obtain ⟨f_40, ef_40, tf_40, hP, hD⟩ : ∃ f_40 : Nat → Int32, f_40 = (upd f_39 (5 : Int32).toNatClampNeg a4) ∧ (ivT tW f_40) ∧ va_P V.1 vwCl [(z 16, aI V 6 f_40), (z 0, .inr (10, mo z pz0_0 pz0_5 pz0_6 pz0_7 pz0_8 pz0_9 pz0_10 pz0_11 pz0_12 pz0_13 pz0_14 pz0_18 pz0_19 pz0_22 pz0_23 pz0_29)), (z 1, aI V 3075 fz1)] H ∧ va_D A [(z 16, aI V 6 f_40), (z 0, .inr (10, mo z pz0_0 pz0_5 pz0_6 pz0_7 pz0_8 pz0_9 pz0_10 pz0_11 pz0_12 pz0_13 pz0_14 pz0_18 pz0_19 pz0_22 pz0_23 pz0_29)), (z 1, aI V 3075 fz1)] := ⟨_, rfl, upT (lo := (-2147483648)) (hi := 2147483647) (a := 5) (n := 1) tf_39 (iv_c (5 : Int32) (a := 5) (b := 5) (by decide)) (by decide) (iv_top a4) (by decide +kernel), hP, hD⟩
        replace hR := tb hR ef_40
        exact fiV hx hb hr hlk hK hP hD hS dX10_laysWords_96 (Nat.le_of_ble_eq_true rfl) (Nat.le_of_ble_eq_true rfl) (⟨f_40, tf_40, (hR.symm.trans hT0), rfl⟩)
  · replace hR := ti hR c_6
    have b_41 : iv 0 0 a2 := iv_q c_6 (iv_c (0 : Int32) (a := 0) (b := 0) (by decide))
    refine lv_iconst (v := 0) hx hb dX10_laysWords_27 (by decide) ?_
    refine lv_goto (tgt := 38) hx hb dX10_laysWords_28 (by decide) ?_
    refine va_iast hx hb hK hP hD hS 0 0 rfl rfl (vin (by decide +kernel)) dX10_laysWords_38 (fun H locs hP hD hS => ?_)
    obtain ⟨f_42, ef_42, tf_42, hP, hD⟩ : ∃ f_42 : Nat → Int32, f_42 = (upd f_5 (2 : Int32).toNatClampNeg 0) ∧ (ivT tW f_42) ∧ va_P V.1 vwCl [(z 16, aI V 6 f_42), (z 0, .inr (10, mo z pz0_0 pz0_5 pz0_6 pz0_7 pz0_8 pz0_9 pz0_10 pz0_11 pz0_12 pz0_13 pz0_14 pz0_18 pz0_19 pz0_22 pz0_23 pz0_29)), (z 1, aI V 3075 fz1)] H ∧ va_D A [(z 16, aI V 6 f_42), (z 0, .inr (10, mo z pz0_0 pz0_5 pz0_6 pz0_7 pz0_8 pz0_9 pz0_10 pz0_11 pz0_12 pz0_13 pz0_14 pz0_18 pz0_19 pz0_22 pz0_23 pz0_29)), (z 1, aI V 3075 fz1)] := ⟨_, rfl, upT (lo := (-2147483648)) (hi := 2147483647) (a := 2) (n := 1) tf_5 (iv_c (2 : Int32) (a := 2) (b := 2) (by decide)) (by decide) (iv_c (0 : Int32) (by decide)) (by decide +kernel), hP, hD⟩
    replace hR := tb hR ef_42
    refine lv_aload_n hx hb dX10_laysWords_39 rfl (lv_at hl 0 rfl) ?_
    refine va_get (ci := 10) (v := .ref (z 16)) (C := RX10) (T := TX10) (N := 40) hx hb hg inX10 hown hK hP 1 rfl rfl 16 (by decide) (hg _ q_6_0) (fun _ h9 => h9) rfl dX10_laysWords_40 ?_
    refine lv_iconst (v := 3) hx hb dX10_laysWords_43 (by decide) ?_
    refine lv_iload_n hx hb dX10_laysWords_44 rfl (lv_at hl 2 rfl) ?_
    refine lv_if_le (tgt := 71) hx hb dX10_laysWords_45 (by decide) (fun _ => ?_) (fun c_43 => absurd (iv_le b_41 (iv_c (0 : Int32) (a := 0) (b := 0) (by decide)) (by decide)) c_43)
    refine lv_iconst (v := 0) hx hb dX10_laysWords_71 (by decide) ?_
    refine va_iast hx hb hK hP hD hS 0 0 rfl rfl (vin (by decide +kernel)) dX10_laysWords_72 (fun H locs hP hD hS => ?_)
    obtain ⟨f_44, ef_44, tf_44, hP, hD⟩ : ∃ f_44 : Nat → Int32, f_44 = (upd f_42 (3 : Int32).toNatClampNeg 0) ∧ (ivT tW f_44) ∧ va_P V.1 vwCl [(z 16, aI V 6 f_44), (z 0, .inr (10, mo z pz0_0 pz0_5 pz0_6 pz0_7 pz0_8 pz0_9 pz0_10 pz0_11 pz0_12 pz0_13 pz0_14 pz0_18 pz0_19 pz0_22 pz0_23 pz0_29)), (z 1, aI V 3075 fz1)] H ∧ va_D A [(z 16, aI V 6 f_44), (z 0, .inr (10, mo z pz0_0 pz0_5 pz0_6 pz0_7 pz0_8 pz0_9 pz0_10 pz0_11 pz0_12 pz0_13 pz0_14 pz0_18 pz0_19 pz0_22 pz0_23 pz0_29)), (z 1, aI V 3075 fz1)] := ⟨_, rfl, upT (lo := (-2147483648)) (hi := 2147483647) (a := 3) (n := 1) tf_42 (iv_c (3 : Int32) (a := 3) (b := 3) (by decide)) (by decide) (iv_c (0 : Int32) (by decide)) (by decide +kernel), hP, hD⟩
    replace hR := tb hR ef_44
    refine lv_aload_n hx hb dX10_laysWords_73 rfl (lv_at hl 0 rfl) ?_
    refine va_get (ci := 10) (v := .ref (z 16)) (C := RX10) (T := TX10) (N := 40) hx hb hg inX10 hown hK hP 1 rfl rfl 16 (by decide) (hg _ q_6_0) (fun _ h9 => h9) rfl dX10_laysWords_74 ?_
    refine lv_iconst (v := 4) hx hb dX10_laysWords_77 (by decide) ?_
    refine lv_aload_n hx hb dX10_laysWords_78 rfl (lv_at hl 0 rfl) ?_
    refine va_get (ci := 10) (v := .ref (z 1)) (C := RX10) (T := TX10) (N := 40) hx hb hg inX10 hown hK hP 1 rfl rfl 1 (by decide) (hg _ q_5_225) (fun _ h9 => h9) rfl dX10_laysWords_79 ?_
    refine lv_bipush (v := 10) hx hb dX10_laysWords_82 (by decide) ?_
    refine lv_iload_n hx hb dX10_laysWords_84 rfl (lv_at hl 2 rfl) ?_
    refine lv_iadd hx hb dX10_laysWords_85 ?_
    refine lv_topi (fun x_45 ex_45 => ?_)
    have bx_45 : iv 10 10 x_45 := by rw [ex_45]; exact iv_add (iv_c (10 : Int32) (a := 10) (b := 10) (by decide)) b_41 (by decide)
    replace hR := tb hR ex_45
    refine va_iald hx hb hK hP 2 0 rfl rfl (iv_in bx_45 (by decide)) dX10_laysWords_86 ?_
    refine lv_topi (fun x_46 ex_46 => ?_)
    have bx_46 : iv 0 9 x_46 := by rw [ex_46]; exact rdT (a := 10) (n := 1) tfz1 bx_45 (by decide) (by decide +kernel)
    replace hR := tb hR ex_46
    refine va_iast hx hb hK hP hD hS 0 0 rfl rfl (vin (by decide +kernel)) dX10_laysWords_87 (fun H locs hP hD hS => ?_)
    obtain ⟨f_47, ef_47, tf_47, hP, hD⟩ : ∃ f_47 : Nat → Int32, f_47 = (upd f_44 (4 : Int32).toNatClampNeg x_46) ∧ (ivT tW f_47) ∧ va_P V.1 vwCl [(z 16, aI V 6 f_47), (z 0, .inr (10, mo z pz0_0 pz0_5 pz0_6 pz0_7 pz0_8 pz0_9 pz0_10 pz0_11 pz0_12 pz0_13 pz0_14 pz0_18 pz0_19 pz0_22 pz0_23 pz0_29)), (z 1, aI V 3075 fz1)] H ∧ va_D A [(z 16, aI V 6 f_47), (z 0, .inr (10, mo z pz0_0 pz0_5 pz0_6 pz0_7 pz0_8 pz0_9 pz0_10 pz0_11 pz0_12 pz0_13 pz0_14 pz0_18 pz0_19 pz0_22 pz0_23 pz0_29)), (z 1, aI V 3075 fz1)] := ⟨_, rfl, upT (lo := (-2147483648)) (hi := 2147483647) (a := 4) (n := 1) tf_44 (iv_c (4 : Int32) (a := 4) (b := 4) (by decide)) (by decide) (iv_w bx_46 (by decide)) (by decide +kernel), hP, hD⟩
    replace hR := tb hR ef_47
    refine lv_aload_n hx hb dX10_laysWords_88 rfl (lv_at hl 0 rfl) ?_
    refine va_get (ci := 10) (v := .ref (z 16)) (C := RX10) (T := TX10) (N := 40) hx hb hg inX10 hown hK hP 1 rfl rfl 16 (by decide) (hg _ q_6_0) (fun _ h9 => h9) rfl dX10_laysWords_89 ?_
    refine lv_iconst (v := 5) hx hb dX10_laysWords_92 (by decide) ?_
    refine lv_iload hx hb dX10_laysWords_93 (lv_at hl 4 rfl) ?_
    refine va_iast hx hb hK hP hD hS 0 0 rfl rfl (vin (by decide +kernel)) dX10_laysWords_95 (fun H locs hP hD hS => ?_)
    obtain ⟨f_48, ef_48, tf_48, hP, hD⟩ : ∃ f_48 : Nat → Int32, f_48 = (upd f_47 (5 : Int32).toNatClampNeg a4) ∧ (ivT tW f_48) ∧ va_P V.1 vwCl [(z 16, aI V 6 f_48), (z 0, .inr (10, mo z pz0_0 pz0_5 pz0_6 pz0_7 pz0_8 pz0_9 pz0_10 pz0_11 pz0_12 pz0_13 pz0_14 pz0_18 pz0_19 pz0_22 pz0_23 pz0_29)), (z 1, aI V 3075 fz1)] H ∧ va_D A [(z 16, aI V 6 f_48), (z 0, .inr (10, mo z pz0_0 pz0_5 pz0_6 pz0_7 pz0_8 pz0_9 pz0_10 pz0_11 pz0_12 pz0_13 pz0_14 pz0_18 pz0_19 pz0_22 pz0_23 pz0_29)), (z 1, aI V 3075 fz1)] := ⟨_, rfl, upT (lo := (-2147483648)) (hi := 2147483647) (a := 5) (n := 1) tf_47 (iv_c (5 : Int32) (a := 5) (b := 5) (by decide)) (by decide) (iv_top a4) (by decide +kernel), hP, hD⟩
    replace hR := tb hR ef_48
    exact fiV hx hb hr hlk hK hP hD hS dX10_laysWords_96 (Nat.le_of_ble_eq_true rfl) (Nat.le_of_ble_eq_true rfl) (⟨f_48, tf_48, (hR.symm.trans hT0), rfl⟩)
theorem dX10_between_0 : decode cX10_between 0 = .ok (.iload_n 0, 1) := by decide +kernel
theorem dX10_between_1 : decode cX10_between 1 = .ok (.tableswitch 80 3003 3008 #[39, 50, 61, 80, 72, 76], 39) := by decide +kernel
theorem dX10_between_40 : decode cX10_between 40 = .ok (.iload_n 1, 1) := by decide +kernel
theorem dX10_between_41 : decode cX10_between 41 = .ok (.iload_n 2, 1) := by decide +kernel
theorem dX10_between_42 : decode cX10_between 42 = .ok (.if_icmp .ne 7, 3) := by decide +kernel
theorem dX10_between_49 : decode cX10_between 49 = .ok (.iconst 0, 1) := by decide +kernel
theorem dX10_between_50 : decode cX10_between 50 = .ok (.ireturn, 1) := by decide +kernel
theorem dX10_between_45 : decode cX10_between 45 = .ok (.iconst 1, 1) := by decide +kernel
theorem dX10_between_46 : decode cX10_between 46 = .ok (.goto 4, 3) := by decide +kernel
theorem dX10_between_51 : decode cX10_between 51 = .ok (.iload_n 1, 1) := by decide +kernel
theorem dX10_between_52 : decode cX10_between 52 = .ok (.iload_n 2, 1) := by decide +kernel
theorem dX10_between_53 : decode cX10_between 53 = .ok (.if_icmp .ge 7, 3) := by decide +kernel
theorem dX10_between_60 : decode cX10_between 60 = .ok (.iconst 0, 1) := by decide +kernel
theorem dX10_between_61 : decode cX10_between 61 = .ok (.ireturn, 1) := by decide +kernel
theorem dX10_between_56 : decode cX10_between 56 = .ok (.iconst 1, 1) := by decide +kernel
theorem dX10_between_57 : decode cX10_between 57 = .ok (.goto 4, 3) := by decide +kernel
theorem dX10_between_62 : decode cX10_between 62 = .ok (.iload_n 1, 1) := by decide +kernel
theorem dX10_between_63 : decode cX10_between 63 = .ok (.iload_n 2, 1) := by decide +kernel
theorem dX10_between_64 : decode cX10_between 64 = .ok (.if_icmp .le 7, 3) := by decide +kernel
theorem dX10_between_71 : decode cX10_between 71 = .ok (.iconst 0, 1) := by decide +kernel
theorem dX10_between_72 : decode cX10_between 72 = .ok (.ireturn, 1) := by decide +kernel
theorem dX10_between_67 : decode cX10_between 67 = .ok (.iconst 1, 1) := by decide +kernel
theorem dX10_between_68 : decode cX10_between 68 = .ok (.goto 4, 3) := by decide +kernel
theorem dX10_between_81 : decode cX10_between 81 = .ok (.iload_n 0, 1) := by decide +kernel
theorem dX10_between_82 : decode cX10_between 82 = .ok (.sipush 3000, 3) := by decide +kernel
theorem dX10_between_85 : decode cX10_between 85 = .ok (.if_icmp .ne 11, 3) := by decide +kernel
theorem dX10_between_96 : decode cX10_between 96 = .ok (.iload_n 0, 1) := by decide +kernel
theorem dX10_between_97 : decode cX10_between 97 = .ok (.sipush 3001, 3) := by decide +kernel
theorem dX10_between_100 : decode cX10_between 100 = .ok (.if_icmp .ne 11, 3) := by decide +kernel
theorem dX10_between_111 : decode cX10_between 111 = .ok (.iload_n 1, 1) := by decide +kernel
theorem dX10_between_112 : decode cX10_between 112 = .ok (.i2l, 1) := by decide +kernel
theorem dX10_between_113 : decode cX10_between 113 = .ok (.iload_n 2, 1) := by decide +kernel
theorem dX10_between_114 : decode cX10_between 114 = .ok (.i2l, 1) := by decide +kernel
theorem dX10_between_115 : decode cX10_between 115 = .ok (.lmul, 1) := by decide +kernel
theorem dX10_between_116 : decode cX10_between 116 = .ok (.lstore_n 3, 1) := by decide +kernel
theorem dX10_between_117 : decode cX10_between 117 = .ok (.lload_n 3, 1) := by decide +kernel
theorem q_7_46 : Cond.constantLong "BeaconDelayModel" 237 (1000000 : Int64) ∈ gw := gw_7 (i := 46) (by decide +kernel) rfl
theorem dX10_between_118 : decode cX10_between 118 = .ok (.ldc2_w 237, 3) := by decide +kernel
theorem dX10_between_121 : decode cX10_between 121 = .ok (.lcmp, 1) := by decide +kernel
theorem dX10_between_122 : decode cX10_between 122 = .ok (.ifCond .le 9, 3) := by decide +kernel
theorem dX10_between_131 : decode cX10_between 131 = .ok (.lload_n 3, 1) := by decide +kernel
theorem q_7_47 : Cond.constantLong "BeaconDelayModel" 239 (-1000000 : Int64) ∈ gw := gw_7 (i := 47) (by decide +kernel) rfl
theorem dX10_between_132 : decode cX10_between 132 = .ok (.ldc2_w 239, 3) := by decide +kernel
theorem dX10_between_135 : decode cX10_between 135 = .ok (.lcmp, 1) := by decide +kernel
theorem dX10_between_136 : decode cX10_between 136 = .ok (.ifCond .ge 9, 3) := by decide +kernel
theorem dX10_between_145 : decode cX10_between 145 = .ok (.lload_n 3, 1) := by decide +kernel
theorem dX10_between_146 : decode cX10_between 146 = .ok (.l2i, 1) := by decide +kernel
theorem dX10_between_147 : decode cX10_between 147 = .ok (.ireturn, 1) := by decide +kernel
theorem dX10_between_139 : decode cX10_between 139 = .ok (.ldc2_w 239, 3) := by decide +kernel
theorem dX10_between_142 : decode cX10_between 142 = .ok (.goto 4, 3) := by decide +kernel
theorem dX10_between_125 : decode cX10_between 125 = .ok (.ldc2_w 237, 3) := by decide +kernel
theorem dX10_between_128 : decode cX10_between 128 = .ok (.goto 18, 3) := by decide +kernel
theorem dX10_between_103 : decode cX10_between 103 = .ok (.iload_n 1, 1) := by decide +kernel
theorem dX10_between_104 : decode cX10_between 104 = .ok (.i2l, 1) := by decide +kernel
theorem dX10_between_105 : decode cX10_between 105 = .ok (.iload_n 2, 1) := by decide +kernel
theorem dX10_between_106 : decode cX10_between 106 = .ok (.i2l, 1) := by decide +kernel
theorem dX10_between_107 : decode cX10_between 107 = .ok (.lsub, 1) := by decide +kernel
theorem dX10_between_108 : decode cX10_between 108 = .ok (.goto 8, 3) := by decide +kernel
theorem dX10_between_88 : decode cX10_between 88 = .ok (.iload_n 1, 1) := by decide +kernel
theorem dX10_between_89 : decode cX10_between 89 = .ok (.i2l, 1) := by decide +kernel
theorem dX10_between_90 : decode cX10_between 90 = .ok (.iload_n 2, 1) := by decide +kernel
theorem dX10_between_91 : decode cX10_between 91 = .ok (.i2l, 1) := by decide +kernel
theorem dX10_between_92 : decode cX10_between 92 = .ok (.ladd, 1) := by decide +kernel
theorem dX10_between_93 : decode cX10_between 93 = .ok (.goto 23, 3) := by decide +kernel
theorem dX10_between_73 : decode cX10_between 73 = .ok (.iload_n 1, 1) := by decide +kernel
theorem dX10_between_74 : decode cX10_between 74 = .ok (.iload_n 2, 1) := by decide +kernel
theorem dX10_between_75 : decode cX10_between 75 = .ok (.iand, 1) := by decide +kernel
theorem dX10_between_76 : decode cX10_between 76 = .ok (.ireturn, 1) := by decide +kernel
theorem dX10_between_77 : decode cX10_between 77 = .ok (.iload_n 1, 1) := by decide +kernel
theorem dX10_between_78 : decode cX10_between 78 = .ok (.iload_n 2, 1) := by decide +kernel
theorem dX10_between_79 : decode cX10_between 79 = .ok (.ior, 1) := by decide +kernel
theorem dX10_between_80 : decode cX10_between 80 = .ok (.ireturn, 1) := by decide +kernel
set_option maxRecDepth 100000 in
noncomputable def F_k_X10_between_0 (a0 : Int32) (a1 : Int32) (a2 : Int32) : Int32 := if a0 = 3003 then (if a1 = a2 then (((1 : Int32))) else (((0 : Int32)))) else (if a0 = 3004 then (if a2 ≤ a1 then (((0 : Int32))) else (((1 : Int32)))) else (if a0 = 3005 then (if a1 ≤ a2 then (((0 : Int32))) else (((1 : Int32)))) else (if a0 = 3006 then (if a0 = (3000 : Int32) then (bnd (a1.toInt64 : Int64) fun (j_36 : Int64) => bnd (a2.toInt64 : Int64) fun (j_37 : Int64) => bnd (j_36 + j_37 : Int64) fun (j_38 : Int64) => if j_38 ≤ (1000000 : Int64) then (if ((-1000000) : Int64) ≤ j_38 then (bnd (j_38.toInt32 : Int32) fun (x_43 : Int32) => (x_43)) else ((((-1000000) : Int32)))) else (((1000000 : Int32)))) else (if a0 = (3001 : Int32) then (bnd (a1.toInt64 : Int64) fun (j_25 : Int64) => bnd (a2.toInt64 : Int64) fun (j_26 : Int64) => bnd (j_25 - j_26 : Int64) fun (j_27 : Int64) => if j_27 ≤ (1000000 : Int64) then (if ((-1000000) : Int64) ≤ j_27 then (bnd (j_27.toInt32 : Int32) fun (x_32 : Int32) => (x_32)) else ((((-1000000) : Int32)))) else (((1000000 : Int32)))) else (bnd (a1.toInt64 : Int64) fun (j_14 : Int64) => bnd (a2.toInt64 : Int64) fun (j_15 : Int64) => bnd (j_14 * j_15 : Int64) fun (j_16 : Int64) => if j_16 ≤ (1000000 : Int64) then (if ((-1000000) : Int64) ≤ j_16 then (bnd (j_16.toInt32 : Int32) fun (x_21 : Int32) => (x_21)) else ((((-1000000) : Int32)))) else (((1000000 : Int32)))))) else (if a0 = 3007 then (bnd (a1 &&& a2 : Int32) fun (x_47 : Int32) => (x_47)) else (if a0 = 3008 then (bnd (a1 ||| a2 : Int32) fun (x_49 : Int32) => (x_49)) else (if a0 = (3000 : Int32) then (bnd (a1.toInt64 : Int64) fun (j_75 : Int64) => bnd (a2.toInt64 : Int64) fun (j_76 : Int64) => bnd (j_75 + j_76 : Int64) fun (j_77 : Int64) => if j_77 ≤ (1000000 : Int64) then (if ((-1000000) : Int64) ≤ j_77 then (bnd (j_77.toInt32 : Int32) fun (x_82 : Int32) => (x_82)) else ((((-1000000) : Int32)))) else (((1000000 : Int32)))) else (if a0 = (3001 : Int32) then (bnd (a1.toInt64 : Int64) fun (j_64 : Int64) => bnd (a2.toInt64 : Int64) fun (j_65 : Int64) => bnd (j_64 - j_65 : Int64) fun (j_66 : Int64) => if j_66 ≤ (1000000 : Int64) then (if ((-1000000) : Int64) ≤ j_66 then (bnd (j_66.toInt32 : Int32) fun (x_71 : Int32) => (x_71)) else ((((-1000000) : Int32)))) else (((1000000 : Int32)))) else (bnd (a1.toInt64 : Int64) fun (j_53 : Int64) => bnd (a2.toInt64 : Int64) fun (j_54 : Int64) => bnd (j_53 * j_54 : Int64) fun (j_55 : Int64) => if j_55 ≤ (1000000 : Int64) then (if ((-1000000) : Int64) ≤ j_55 then (bnd (j_55.toInt32 : Int32) fun (x_60 : Int32) => (x_60)) else ((((-1000000) : Int32)))) else (((1000000 : Int32)))))))))))
set_option maxHeartbeats 4000000 in
set_option maxRecDepth 100000 in
theorem k_X10_between_0 (l : Launch) (V : GV) (a0 : Int32) (a1 : Int32) (a2 : Int32) : Ct l V yX10_between (.code yX10_between cX10_between 5 (some .int)) 1 [.int a0, .int a1, .int a2] [] 0 0 (QI V (fun (r : Int32) (w : va_W) => r = (F_k_X10_between_0 a0 a1 a2) ∧ w = [])) := by
  refine Ct.of (by decide) (Nat.le_of_ble_eq_true rfl) (fun p e s m below meth c A ls hx hb hr hml hown hlk hnm hg hP hK hD hE hA hS hl => ?_)
  have hl : lv_has ls 5 [(0, .int a0), (1, .int a1), (2, .int a2)] := hl
  obtain ⟨T0, hT0⟩ : ∃ T9, T9 = F_k_X10_between_0 a0 a1 a2 := ⟨_, rfl⟩
  have hR := hT0.trans (F_k_X10_between_0.eq_1 ..)
  refine lv_iload_n hx hb dX10_between_0 rfl (lv_at hl 0 rfl) ?_
  by_cases c_1 : a0 = 3003
  · refine lv_tableIn (off := 39) (tgt := 40) hx hb dX10_between_1 (by rw [c_1]; decide) (by rw [c_1]; decide) (by rw [c_1]; rfl) (by decide) ?_
    replace hR := ti hR c_1
    refine lv_iload_n hx hb dX10_between_40 rfl (lv_at hl 1 rfl) ?_
    refine lv_iload_n hx hb dX10_between_41 rfl (lv_at hl 2 rfl) ?_
    refine lv_icmp_ne (tgt := 49) hx hb dX10_between_42 (by decide) (fun c_2 => ?_) (fun c_2 => ?_)
    · replace hR := te hR c_2
      refine lv_iconst (v := 0) hx hb dX10_between_49 (by decide) ?_
      exact fiI hx hb hr hlk hK hP hD hS dX10_between_50 (Nat.le_of_ble_eq_true rfl) (Nat.le_of_ble_eq_true rfl) (⟨(hR.symm.trans hT0), rfl⟩)
    · replace hR := ti hR c_2
      refine lv_iconst (v := 1) hx hb dX10_between_45 (by decide) ?_
      refine lv_goto (tgt := 50) hx hb dX10_between_46 (by decide) ?_
      exact fiI hx hb hr hlk hK hP hD hS dX10_between_50 (Nat.le_of_ble_eq_true rfl) (Nat.le_of_ble_eq_true rfl) (⟨(hR.symm.trans hT0), rfl⟩)
  · replace hR := te hR c_1
    by_cases c_3 : a0 = 3004
    · refine lv_tableIn (off := 50) (tgt := 51) hx hb dX10_between_1 (by rw [c_3]; decide) (by rw [c_3]; decide) (by rw [c_3]; rfl) (by decide) ?_
      replace hR := ti hR c_3
      refine lv_iload_n hx hb dX10_between_51 rfl (lv_at hl 1 rfl) ?_
      refine lv_iload_n hx hb dX10_between_52 rfl (lv_at hl 2 rfl) ?_
      refine lv_icmp_ge (tgt := 60) hx hb dX10_between_53 (by decide) (fun c_4 => ?_) (fun c_4 => ?_)
      · replace hR := ti hR c_4
        refine lv_iconst (v := 0) hx hb dX10_between_60 (by decide) ?_
        exact fiI hx hb hr hlk hK hP hD hS dX10_between_61 (Nat.le_of_ble_eq_true rfl) (Nat.le_of_ble_eq_true rfl) (⟨(hR.symm.trans hT0), rfl⟩)
      · replace hR := te hR c_4
        have b_5 : iv (-2147483648) 2147483646 a1 := iv_l1 (Int32.not_le.mp c_4) (iv_top a1) (iv_top a2) (by decide)
        have b_6 : iv (-2147483647) 2147483647 a2 := iv_l2 (Int32.not_le.mp c_4) (iv_top a1) (iv_top a2) (by decide)
        refine lv_iconst (v := 1) hx hb dX10_between_56 (by decide) ?_
        refine lv_goto (tgt := 61) hx hb dX10_between_57 (by decide) ?_
        exact fiI hx hb hr hlk hK hP hD hS dX10_between_61 (Nat.le_of_ble_eq_true rfl) (Nat.le_of_ble_eq_true rfl) (⟨(hR.symm.trans hT0), rfl⟩)
    · replace hR := te hR c_3
      by_cases c_7 : a0 = 3005
      · refine lv_tableIn (off := 61) (tgt := 62) hx hb dX10_between_1 (by rw [c_7]; decide) (by rw [c_7]; decide) (by rw [c_7]; rfl) (by decide) ?_
        replace hR := ti hR c_7
        refine lv_iload_n hx hb dX10_between_62 rfl (lv_at hl 1 rfl) ?_
        refine lv_iload_n hx hb dX10_between_63 rfl (lv_at hl 2 rfl) ?_
        refine lv_icmp_le (tgt := 71) hx hb dX10_between_64 (by decide) (fun c_8 => ?_) (fun c_8 => ?_)
        · replace hR := ti hR c_8
          refine lv_iconst (v := 0) hx hb dX10_between_71 (by decide) ?_
          exact fiI hx hb hr hlk hK hP hD hS dX10_between_72 (Nat.le_of_ble_eq_true rfl) (Nat.le_of_ble_eq_true rfl) (⟨(hR.symm.trans hT0), rfl⟩)
        · replace hR := te hR c_8
          have b_9 : iv (-2147483648) 2147483646 a2 := iv_l1 (Int32.not_le.mp c_8) (iv_top a2) (iv_top a1) (by decide)
          have b_10 : iv (-2147483647) 2147483647 a1 := iv_l2 (Int32.not_le.mp c_8) (iv_top a2) (iv_top a1) (by decide)
          refine lv_iconst (v := 1) hx hb dX10_between_67 (by decide) ?_
          refine lv_goto (tgt := 72) hx hb dX10_between_68 (by decide) ?_
          exact fiI hx hb hr hlk hK hP hD hS dX10_between_72 (Nat.le_of_ble_eq_true rfl) (Nat.le_of_ble_eq_true rfl) (⟨(hR.symm.trans hT0), rfl⟩)
      · replace hR := te hR c_7
        by_cases c_11 : a0 = 3006
        · refine lv_tableIn (off := 80) (tgt := 81) hx hb dX10_between_1 (by rw [c_11]; decide) (by rw [c_11]; decide) (by rw [c_11]; rfl) (by decide) ?_
          replace hR := ti hR c_11
          refine lv_iload_n hx hb dX10_between_81 rfl (lv_at hl 0 rfl) ?_
          refine lv_sipush (v := 3000) hx hb dX10_between_82 (by decide) ?_
          refine lv_icmp_ne (tgt := 96) hx hb dX10_between_85 (by decide) (fun c_12 => ?_) (fun c_12 => ?_)
          · replace hR := te hR c_12
            refine lv_iload_n hx hb dX10_between_96 rfl (lv_at hl 0 rfl) ?_
            refine lv_sipush (v := 3001) hx hb dX10_between_97 (by decide) ?_
            refine lv_icmp_ne (tgt := 111) hx hb dX10_between_100 (by decide) (fun c_13 => ?_) (fun c_13 => ?_)
            · replace hR := te hR c_13
              refine lv_iload_n hx hb dX10_between_111 rfl (lv_at hl 1 rfl) ?_
              refine lv_i2l hx hb dX10_between_112 rfl ?_
              refine lv_topl (fun j_14 ej_14 => ?_)
              replace hR := tb hR ej_14
              refine lv_iload_n hx hb dX10_between_113 rfl (lv_at hl 2 rfl) ?_
              refine lv_i2l hx hb dX10_between_114 rfl ?_
              refine lv_topl (fun j_15 ej_15 => ?_)
              replace hR := tb hR ej_15
              refine lv_lmul hx hb dX10_between_115 ?_
              refine lv_topl (fun j_16 ej_16 => ?_)
              replace hR := tb hR ej_16
              refine lv_lstore_n (lv' := [(3, .long j_16), (0, .int a0), (1, .int a1), (2, .int a2)]) hx hb dX10_between_116 rfl hl (by decide) rfl (fun ls hl => ?_)
              refine lv_lload_n hx hb dX10_between_117 rfl (lv_at hl 0 rfl) ?_
              refine lv_ldc2 (v := 1000000) hx hb hown (hg _ q_7_46) dX10_between_118 ?_
              refine W.lcmp hx hb dX10_between_121 ?_
              refine lv_if_le (tgt := 131) hx hb dX10_between_122 (by decide) (fun c_17 => ?_) (fun c_17 => ?_)
              · replace c_17 : j_16 ≤ (1000000 : Int64) := (lg_cmp_le _ _).mp c_17
                replace hR := ti hR c_17
                have b_18 : ivL (-9223372036854775808) 1000000 j_16 := ivL_e1 c_17 (ivL_top j_16) (ivL_c (1000000 : Int64) (a := 1000000) (b := 1000000) (by decide)) (by decide)
                refine lv_lload_n hx hb dX10_between_131 rfl (lv_at hl 0 rfl) ?_
                refine lv_ldc2 (v := (-1000000)) hx hb hown (hg _ q_7_47) dX10_between_132 ?_
                refine W.lcmp hx hb dX10_between_135 ?_
                refine lv_if_ge (tgt := 145) hx hb dX10_between_136 (by decide) (fun c_19 => ?_) (fun c_19 => ?_)
                · replace c_19 : ((-1000000) : Int64) ≤ j_16 := (lg_cmp_ge _ _).mp c_19
                  replace hR := ti hR c_19
                  have b_20 : ivL (-1000000) 1000000 j_16 := ivL_e2 c_19 (ivL_c ((-1000000) : Int64) (a := (-1000000)) (b := (-1000000)) (by decide)) b_18 (by decide)
                  refine lv_lload_n hx hb dX10_between_145 rfl (lv_at hl 0 rfl) ?_
                  refine lv_l2i hx hb dX10_between_146 rfl ?_
                  refine lv_topi (fun x_21 ex_21 => ?_)
                  have bx_21 : iv (-1000000) 1000000 x_21 := by rw [ex_21]; exact iv_ofL b_20 (by decide)
                  replace hR := tb hR ex_21
                  exact fiI hx hb hr hlk hK hP hD hS dX10_between_147 (Nat.le_of_ble_eq_true rfl) (Nat.le_of_ble_eq_true rfl) (⟨(hR.symm.trans hT0), rfl⟩)
                · replace c_19 : ¬ ((-1000000) : Int64) ≤ j_16 := fun z => c_19 ((lg_cmp_ge _ _).mpr z)
                  replace hR := te hR c_19
                  have b_22 : ivL (-9223372036854775808) (-1000001) j_16 := ivL_l1 (Int64.not_le.mp c_19) b_18 (ivL_c ((-1000000) : Int64) (a := (-1000000)) (b := (-1000000)) (by decide)) (by decide)
                  refine lv_ldc2 (v := (-1000000)) hx hb hown (hg _ q_7_47) dX10_between_139 ?_
                  refine lv_goto (tgt := 146) hx hb dX10_between_142 (by decide) ?_
                  refine lv_l2i (v := (-1000000)) hx hb dX10_between_146 (by decide +kernel) ?_
                  exact fiI hx hb hr hlk hK hP hD hS dX10_between_147 (Nat.le_of_ble_eq_true rfl) (Nat.le_of_ble_eq_true rfl) (⟨(hR.symm.trans hT0), rfl⟩)
              · replace c_17 : ¬ j_16 ≤ (1000000 : Int64) := fun z => c_17 ((lg_cmp_le _ _).mpr z)
                replace hR := te hR c_17
                have b_23 : ivL 1000001 9223372036854775807 j_16 := ivL_l2 (Int64.not_le.mp c_17) (ivL_c (1000000 : Int64) (a := 1000000) (b := 1000000) (by decide)) (ivL_top j_16) (by decide)
                refine lv_ldc2 (v := 1000000) hx hb hown (hg _ q_7_46) dX10_between_125 ?_
                refine lv_goto (tgt := 146) hx hb dX10_between_128 (by decide) ?_
                refine lv_l2i (v := 1000000) hx hb dX10_between_146 (by decide +kernel) ?_
                exact fiI hx hb hr hlk hK hP hD hS dX10_between_147 (Nat.le_of_ble_eq_true rfl) (Nat.le_of_ble_eq_true rfl) (⟨(hR.symm.trans hT0), rfl⟩)
            · replace hR := ti hR c_13
              have b_24 : iv 3001 3001 a0 := iv_q c_13 (iv_c (3001 : Int32) (a := 3001) (b := 3001) (by decide))
              refine lv_iload_n hx hb dX10_between_103 rfl (lv_at hl 1 rfl) ?_
              refine lv_i2l hx hb dX10_between_104 rfl ?_
              refine lv_topl (fun j_25 ej_25 => ?_)
              replace hR := tb hR ej_25
              refine lv_iload_n hx hb dX10_between_105 rfl (lv_at hl 2 rfl) ?_
              refine lv_i2l hx hb dX10_between_106 rfl ?_
              refine lv_topl (fun j_26 ej_26 => ?_)
              replace hR := tb hR ej_26
              refine lv_lsub hx hb dX10_between_107 ?_
              refine lv_topl (fun j_27 ej_27 => ?_)
              replace hR := tb hR ej_27
              refine lv_goto (tgt := 116) hx hb dX10_between_108 (by decide) ?_
              refine lv_lstore_n (lv' := [(3, .long j_27), (0, .int a0), (1, .int a1), (2, .int a2)]) hx hb dX10_between_116 rfl hl (by decide) rfl (fun ls hl => ?_)
              refine lv_lload_n hx hb dX10_between_117 rfl (lv_at hl 0 rfl) ?_
              refine lv_ldc2 (v := 1000000) hx hb hown (hg _ q_7_46) dX10_between_118 ?_
              refine W.lcmp hx hb dX10_between_121 ?_
              refine lv_if_le (tgt := 131) hx hb dX10_between_122 (by decide) (fun c_28 => ?_) (fun c_28 => ?_)
              · replace c_28 : j_27 ≤ (1000000 : Int64) := (lg_cmp_le _ _).mp c_28
                replace hR := ti hR c_28
                have b_29 : ivL (-9223372036854775808) 1000000 j_27 := ivL_e1 c_28 (ivL_top j_27) (ivL_c (1000000 : Int64) (a := 1000000) (b := 1000000) (by decide)) (by decide)
                refine lv_lload_n hx hb dX10_between_131 rfl (lv_at hl 0 rfl) ?_
                refine lv_ldc2 (v := (-1000000)) hx hb hown (hg _ q_7_47) dX10_between_132 ?_
                refine W.lcmp hx hb dX10_between_135 ?_
                refine lv_if_ge (tgt := 145) hx hb dX10_between_136 (by decide) (fun c_30 => ?_) (fun c_30 => ?_)
                · replace c_30 : ((-1000000) : Int64) ≤ j_27 := (lg_cmp_ge _ _).mp c_30
                  replace hR := ti hR c_30
                  have b_31 : ivL (-1000000) 1000000 j_27 := ivL_e2 c_30 (ivL_c ((-1000000) : Int64) (a := (-1000000)) (b := (-1000000)) (by decide)) b_29 (by decide)
                  refine lv_lload_n hx hb dX10_between_145 rfl (lv_at hl 0 rfl) ?_
                  refine lv_l2i hx hb dX10_between_146 rfl ?_
                  refine lv_topi (fun x_32 ex_32 => ?_)
                  have bx_32 : iv (-1000000) 1000000 x_32 := by rw [ex_32]; exact iv_ofL b_31 (by decide)
                  replace hR := tb hR ex_32
                  exact fiI hx hb hr hlk hK hP hD hS dX10_between_147 (Nat.le_of_ble_eq_true rfl) (Nat.le_of_ble_eq_true rfl) (⟨(hR.symm.trans hT0), rfl⟩)
                · replace c_30 : ¬ ((-1000000) : Int64) ≤ j_27 := fun z => c_30 ((lg_cmp_ge _ _).mpr z)
                  replace hR := te hR c_30
                  have b_33 : ivL (-9223372036854775808) (-1000001) j_27 := ivL_l1 (Int64.not_le.mp c_30) b_29 (ivL_c ((-1000000) : Int64) (a := (-1000000)) (b := (-1000000)) (by decide)) (by decide)
                  refine lv_ldc2 (v := (-1000000)) hx hb hown (hg _ q_7_47) dX10_between_139 ?_
                  refine lv_goto (tgt := 146) hx hb dX10_between_142 (by decide) ?_
                  refine lv_l2i (v := (-1000000)) hx hb dX10_between_146 (by decide +kernel) ?_
                  exact fiI hx hb hr hlk hK hP hD hS dX10_between_147 (Nat.le_of_ble_eq_true rfl) (Nat.le_of_ble_eq_true rfl) (⟨(hR.symm.trans hT0), rfl⟩)
              · replace c_28 : ¬ j_27 ≤ (1000000 : Int64) := fun z => c_28 ((lg_cmp_le _ _).mpr z)
                replace hR := te hR c_28
                have b_34 : ivL 1000001 9223372036854775807 j_27 := ivL_l2 (Int64.not_le.mp c_28) (ivL_c (1000000 : Int64) (a := 1000000) (b := 1000000) (by decide)) (ivL_top j_27) (by decide)
                refine lv_ldc2 (v := 1000000) hx hb hown (hg _ q_7_46) dX10_between_125 ?_
                refine lv_goto (tgt := 146) hx hb dX10_between_128 (by decide) ?_
                refine lv_l2i (v := 1000000) hx hb dX10_between_146 (by decide +kernel) ?_
                exact fiI hx hb hr hlk hK hP hD hS dX10_between_147 (Nat.le_of_ble_eq_true rfl) (Nat.le_of_ble_eq_true rfl) (⟨(hR.symm.trans hT0), rfl⟩)
          · replace hR := ti hR c_12
            have b_35 : iv 3000 3000 a0 := iv_q c_12 (iv_c (3000 : Int32) (a := 3000) (b := 3000) (by decide))
            refine lv_iload_n hx hb dX10_between_88 rfl (lv_at hl 1 rfl) ?_
            refine lv_i2l hx hb dX10_between_89 rfl ?_
            refine lv_topl (fun j_36 ej_36 => ?_)
            replace hR := tb hR ej_36
            refine lv_iload_n hx hb dX10_between_90 rfl (lv_at hl 2 rfl) ?_
            refine lv_i2l hx hb dX10_between_91 rfl ?_
            refine lv_topl (fun j_37 ej_37 => ?_)
            replace hR := tb hR ej_37
            refine lv_ladd hx hb dX10_between_92 ?_
            refine lv_topl (fun j_38 ej_38 => ?_)
            replace hR := tb hR ej_38
            refine lv_goto (tgt := 116) hx hb dX10_between_93 (by decide) ?_
            refine lv_lstore_n (lv' := [(3, .long j_38), (0, .int a0), (1, .int a1), (2, .int a2)]) hx hb dX10_between_116 rfl hl (by decide) rfl (fun ls hl => ?_)
            refine lv_lload_n hx hb dX10_between_117 rfl (lv_at hl 0 rfl) ?_
            refine lv_ldc2 (v := 1000000) hx hb hown (hg _ q_7_46) dX10_between_118 ?_
            refine W.lcmp hx hb dX10_between_121 ?_
            refine lv_if_le (tgt := 131) hx hb dX10_between_122 (by decide) (fun c_39 => ?_) (fun c_39 => ?_)
            · replace c_39 : j_38 ≤ (1000000 : Int64) := (lg_cmp_le _ _).mp c_39
              replace hR := ti hR c_39
              have b_40 : ivL (-9223372036854775808) 1000000 j_38 := ivL_e1 c_39 (ivL_top j_38) (ivL_c (1000000 : Int64) (a := 1000000) (b := 1000000) (by decide)) (by decide)
              refine lv_lload_n hx hb dX10_between_131 rfl (lv_at hl 0 rfl) ?_
              refine lv_ldc2 (v := (-1000000)) hx hb hown (hg _ q_7_47) dX10_between_132 ?_
              refine W.lcmp hx hb dX10_between_135 ?_
              refine lv_if_ge (tgt := 145) hx hb dX10_between_136 (by decide) (fun c_41 => ?_) (fun c_41 => ?_)
              · replace c_41 : ((-1000000) : Int64) ≤ j_38 := (lg_cmp_ge _ _).mp c_41
                replace hR := ti hR c_41
                have b_42 : ivL (-1000000) 1000000 j_38 := ivL_e2 c_41 (ivL_c ((-1000000) : Int64) (a := (-1000000)) (b := (-1000000)) (by decide)) b_40 (by decide)
                refine lv_lload_n hx hb dX10_between_145 rfl (lv_at hl 0 rfl) ?_
                refine lv_l2i hx hb dX10_between_146 rfl ?_
                refine lv_topi (fun x_43 ex_43 => ?_)
                have bx_43 : iv (-1000000) 1000000 x_43 := by rw [ex_43]; exact iv_ofL b_42 (by decide)
                replace hR := tb hR ex_43
                exact fiI hx hb hr hlk hK hP hD hS dX10_between_147 (Nat.le_of_ble_eq_true rfl) (Nat.le_of_ble_eq_true rfl) (⟨(hR.symm.trans hT0), rfl⟩)
              · replace c_41 : ¬ ((-1000000) : Int64) ≤ j_38 := fun z => c_41 ((lg_cmp_ge _ _).mpr z)
                replace hR := te hR c_41
                have b_44 : ivL (-9223372036854775808) (-1000001) j_38 := ivL_l1 (Int64.not_le.mp c_41) b_40 (ivL_c ((-1000000) : Int64) (a := (-1000000)) (b := (-1000000)) (by decide)) (by decide)
                refine lv_ldc2 (v := (-1000000)) hx hb hown (hg _ q_7_47) dX10_between_139 ?_
                refine lv_goto (tgt := 146) hx hb dX10_between_142 (by decide) ?_
                refine lv_l2i (v := (-1000000)) hx hb dX10_between_146 (by decide +kernel) ?_
                exact fiI hx hb hr hlk hK hP hD hS dX10_between_147 (Nat.le_of_ble_eq_true rfl) (Nat.le_of_ble_eq_true rfl) (⟨(hR.symm.trans hT0), rfl⟩)
            · replace c_39 : ¬ j_38 ≤ (1000000 : Int64) := fun z => c_39 ((lg_cmp_le _ _).mpr z)
              replace hR := te hR c_39
              have b_45 : ivL 1000001 9223372036854775807 j_38 := ivL_l2 (Int64.not_le.mp c_39) (ivL_c (1000000 : Int64) (a := 1000000) (b := 1000000) (by decide)) (ivL_top j_38) (by decide)
              refine lv_ldc2 (v := 1000000) hx hb hown (hg _ q_7_46) dX10_between_125 ?_
              refine lv_goto (tgt := 146) hx hb dX10_between_128 (by decide) ?_
              refine lv_l2i (v := 1000000) hx hb dX10_between_146 (by decide +kernel) ?_
              exact fiI hx hb hr hlk hK hP hD hS dX10_between_147 (Nat.le_of_ble_eq_true rfl) (Nat.le_of_ble_eq_true rfl) (⟨(hR.symm.trans hT0), rfl⟩)
        · replace hR := te hR c_11
          by_cases c_46 : a0 = 3007
          · refine lv_tableIn (off := 72) (tgt := 73) hx hb dX10_between_1 (by rw [c_46]; decide) (by rw [c_46]; decide) (by rw [c_46]; rfl) (by decide) ?_
            replace hR := ti hR c_46
            refine lv_iload_n hx hb dX10_between_73 rfl (lv_at hl 1 rfl) ?_
            refine lv_iload_n hx hb dX10_between_74 rfl (lv_at hl 2 rfl) ?_
            refine lv_iand hx hb dX10_between_75 ?_
            refine lv_topi (fun x_47 ex_47 => ?_)
            replace hR := tb hR ex_47
            exact fiI hx hb hr hlk hK hP hD hS dX10_between_76 (Nat.le_of_ble_eq_true rfl) (Nat.le_of_ble_eq_true rfl) (⟨(hR.symm.trans hT0), rfl⟩)
          · replace hR := te hR c_46
            by_cases c_48 : a0 = 3008
            · refine lv_tableIn (off := 76) (tgt := 77) hx hb dX10_between_1 (by rw [c_48]; decide) (by rw [c_48]; decide) (by rw [c_48]; rfl) (by decide) ?_
              replace hR := ti hR c_48
              refine lv_iload_n hx hb dX10_between_77 rfl (lv_at hl 1 rfl) ?_
              refine lv_iload_n hx hb dX10_between_78 rfl (lv_at hl 2 rfl) ?_
              refine lv_ior hx hb dX10_between_79 ?_
              refine lv_topi (fun x_49 ex_49 => ?_)
              replace hR := tb hR ex_49
              exact fiI hx hb hr hlk hK hP hD hS dX10_between_80 (Nat.le_of_ble_eq_true rfl) (Nat.le_of_ble_eq_true rfl) (⟨(hR.symm.trans hT0), rfl⟩)
            · replace hR := te hR c_48
              refine lv_tableOut (tgt := 81) hx hb dX10_between_1 ((Int.lt_or_le a0.toInt 3003).elim Or.inl (fun c_50 => Or.inr (by simp only [tI_eq, (by decide : (3003 : Int32).toInt = 3003), (by decide : (3004 : Int32).toInt = 3004), (by decide : (3005 : Int32).toInt = 3005), (by decide : (3006 : Int32).toInt = 3006), (by decide : (3007 : Int32).toInt = 3007), (by decide : (3008 : Int32).toInt = 3008)] at c_1 c_3 c_7 c_11 c_46 c_48; omega))) (by decide) ?_
              refine lv_iload_n hx hb dX10_between_81 rfl (lv_at hl 0 rfl) ?_
              refine lv_sipush (v := 3000) hx hb dX10_between_82 (by decide) ?_
              refine lv_icmp_ne (tgt := 96) hx hb dX10_between_85 (by decide) (fun c_51 => ?_) (fun c_51 => ?_)
              · replace hR := te hR c_51
                refine lv_iload_n hx hb dX10_between_96 rfl (lv_at hl 0 rfl) ?_
                refine lv_sipush (v := 3001) hx hb dX10_between_97 (by decide) ?_
                refine lv_icmp_ne (tgt := 111) hx hb dX10_between_100 (by decide) (fun c_52 => ?_) (fun c_52 => ?_)
                · replace hR := te hR c_52
                  refine lv_iload_n hx hb dX10_between_111 rfl (lv_at hl 1 rfl) ?_
                  refine lv_i2l hx hb dX10_between_112 rfl ?_
                  refine lv_topl (fun j_53 ej_53 => ?_)
                  replace hR := tb hR ej_53
                  refine lv_iload_n hx hb dX10_between_113 rfl (lv_at hl 2 rfl) ?_
                  refine lv_i2l hx hb dX10_between_114 rfl ?_
                  refine lv_topl (fun j_54 ej_54 => ?_)
                  replace hR := tb hR ej_54
                  refine lv_lmul hx hb dX10_between_115 ?_
                  refine lv_topl (fun j_55 ej_55 => ?_)
                  replace hR := tb hR ej_55
                  refine lv_lstore_n (lv' := [(3, .long j_55), (0, .int a0), (1, .int a1), (2, .int a2)]) hx hb dX10_between_116 rfl hl (by decide) rfl (fun ls hl => ?_)
                  refine lv_lload_n hx hb dX10_between_117 rfl (lv_at hl 0 rfl) ?_
                  refine lv_ldc2 (v := 1000000) hx hb hown (hg _ q_7_46) dX10_between_118 ?_
                  refine W.lcmp hx hb dX10_between_121 ?_
                  refine lv_if_le (tgt := 131) hx hb dX10_between_122 (by decide) (fun c_56 => ?_) (fun c_56 => ?_)
                  · replace c_56 : j_55 ≤ (1000000 : Int64) := (lg_cmp_le _ _).mp c_56
                    replace hR := ti hR c_56
                    have b_57 : ivL (-9223372036854775808) 1000000 j_55 := ivL_e1 c_56 (ivL_top j_55) (ivL_c (1000000 : Int64) (a := 1000000) (b := 1000000) (by decide)) (by decide)
                    refine lv_lload_n hx hb dX10_between_131 rfl (lv_at hl 0 rfl) ?_
                    refine lv_ldc2 (v := (-1000000)) hx hb hown (hg _ q_7_47) dX10_between_132 ?_
                    refine W.lcmp hx hb dX10_between_135 ?_
                    refine lv_if_ge (tgt := 145) hx hb dX10_between_136 (by decide) (fun c_58 => ?_) (fun c_58 => ?_)
                    · replace c_58 : ((-1000000) : Int64) ≤ j_55 := (lg_cmp_ge _ _).mp c_58
                      replace hR := ti hR c_58
                      have b_59 : ivL (-1000000) 1000000 j_55 := ivL_e2 c_58 (ivL_c ((-1000000) : Int64) (a := (-1000000)) (b := (-1000000)) (by decide)) b_57 (by decide)
                      refine lv_lload_n hx hb dX10_between_145 rfl (lv_at hl 0 rfl) ?_
                      refine lv_l2i hx hb dX10_between_146 rfl ?_
                      refine lv_topi (fun x_60 ex_60 => ?_)
                      have bx_60 : iv (-1000000) 1000000 x_60 := by rw [ex_60]; exact iv_ofL b_59 (by decide)
                      replace hR := tb hR ex_60
                      exact fiI hx hb hr hlk hK hP hD hS dX10_between_147 (Nat.le_of_ble_eq_true rfl) (Nat.le_of_ble_eq_true rfl) (⟨(hR.symm.trans hT0), rfl⟩)
                    · replace c_58 : ¬ ((-1000000) : Int64) ≤ j_55 := fun z => c_58 ((lg_cmp_ge _ _).mpr z)
                      replace hR := te hR c_58
                      have b_61 : ivL (-9223372036854775808) (-1000001) j_55 := ivL_l1 (Int64.not_le.mp c_58) b_57 (ivL_c ((-1000000) : Int64) (a := (-1000000)) (b := (-1000000)) (by decide)) (by decide)
                      refine lv_ldc2 (v := (-1000000)) hx hb hown (hg _ q_7_47) dX10_between_139 ?_
                      refine lv_goto (tgt := 146) hx hb dX10_between_142 (by decide) ?_
                      refine lv_l2i (v := (-1000000)) hx hb dX10_between_146 (by decide +kernel) ?_
                      exact fiI hx hb hr hlk hK hP hD hS dX10_between_147 (Nat.le_of_ble_eq_true rfl) (Nat.le_of_ble_eq_true rfl) (⟨(hR.symm.trans hT0), rfl⟩)
                  · replace c_56 : ¬ j_55 ≤ (1000000 : Int64) := fun z => c_56 ((lg_cmp_le _ _).mpr z)
                    replace hR := te hR c_56
                    have b_62 : ivL 1000001 9223372036854775807 j_55 := ivL_l2 (Int64.not_le.mp c_56) (ivL_c (1000000 : Int64) (a := 1000000) (b := 1000000) (by decide)) (ivL_top j_55) (by decide)
                    refine lv_ldc2 (v := 1000000) hx hb hown (hg _ q_7_46) dX10_between_125 ?_
                    refine lv_goto (tgt := 146) hx hb dX10_between_128 (by decide) ?_
                    refine lv_l2i (v := 1000000) hx hb dX10_between_146 (by decide +kernel) ?_
                    exact fiI hx hb hr hlk hK hP hD hS dX10_between_147 (Nat.le_of_ble_eq_true rfl) (Nat.le_of_ble_eq_true rfl) (⟨(hR.symm.trans hT0), rfl⟩)
                · replace hR := ti hR c_52
                  have b_63 : iv 3001 3001 a0 := iv_q c_52 (iv_c (3001 : Int32) (a := 3001) (b := 3001) (by decide))
                  refine lv_iload_n hx hb dX10_between_103 rfl (lv_at hl 1 rfl) ?_
                  refine lv_i2l hx hb dX10_between_104 rfl ?_
                  refine lv_topl (fun j_64 ej_64 => ?_)
                  replace hR := tb hR ej_64
                  refine lv_iload_n hx hb dX10_between_105 rfl (lv_at hl 2 rfl) ?_
                  refine lv_i2l hx hb dX10_between_106 rfl ?_
                  refine lv_topl (fun j_65 ej_65 => ?_)
                  replace hR := tb hR ej_65
                  refine lv_lsub hx hb dX10_between_107 ?_
                  refine lv_topl (fun j_66 ej_66 => ?_)
                  replace hR := tb hR ej_66
                  refine lv_goto (tgt := 116) hx hb dX10_between_108 (by decide) ?_
                  refine lv_lstore_n (lv' := [(3, .long j_66), (0, .int a0), (1, .int a1), (2, .int a2)]) hx hb dX10_between_116 rfl hl (by decide) rfl (fun ls hl => ?_)
                  refine lv_lload_n hx hb dX10_between_117 rfl (lv_at hl 0 rfl) ?_
                  refine lv_ldc2 (v := 1000000) hx hb hown (hg _ q_7_46) dX10_between_118 ?_
                  refine W.lcmp hx hb dX10_between_121 ?_
                  refine lv_if_le (tgt := 131) hx hb dX10_between_122 (by decide) (fun c_67 => ?_) (fun c_67 => ?_)
                  · replace c_67 : j_66 ≤ (1000000 : Int64) := (lg_cmp_le _ _).mp c_67
                    replace hR := ti hR c_67
                    have b_68 : ivL (-9223372036854775808) 1000000 j_66 := ivL_e1 c_67 (ivL_top j_66) (ivL_c (1000000 : Int64) (a := 1000000) (b := 1000000) (by decide)) (by decide)
                    refine lv_lload_n hx hb dX10_between_131 rfl (lv_at hl 0 rfl) ?_
                    refine lv_ldc2 (v := (-1000000)) hx hb hown (hg _ q_7_47) dX10_between_132 ?_
                    refine W.lcmp hx hb dX10_between_135 ?_
                    refine lv_if_ge (tgt := 145) hx hb dX10_between_136 (by decide) (fun c_69 => ?_) (fun c_69 => ?_)
                    · replace c_69 : ((-1000000) : Int64) ≤ j_66 := (lg_cmp_ge _ _).mp c_69
                      replace hR := ti hR c_69
                      have b_70 : ivL (-1000000) 1000000 j_66 := ivL_e2 c_69 (ivL_c ((-1000000) : Int64) (a := (-1000000)) (b := (-1000000)) (by decide)) b_68 (by decide)
                      refine lv_lload_n hx hb dX10_between_145 rfl (lv_at hl 0 rfl) ?_
                      refine lv_l2i hx hb dX10_between_146 rfl ?_
                      refine lv_topi (fun x_71 ex_71 => ?_)
                      have bx_71 : iv (-1000000) 1000000 x_71 := by rw [ex_71]; exact iv_ofL b_70 (by decide)
                      replace hR := tb hR ex_71
                      exact fiI hx hb hr hlk hK hP hD hS dX10_between_147 (Nat.le_of_ble_eq_true rfl) (Nat.le_of_ble_eq_true rfl) (⟨(hR.symm.trans hT0), rfl⟩)
                    · replace c_69 : ¬ ((-1000000) : Int64) ≤ j_66 := fun z => c_69 ((lg_cmp_ge _ _).mpr z)
                      replace hR := te hR c_69
                      have b_72 : ivL (-9223372036854775808) (-1000001) j_66 := ivL_l1 (Int64.not_le.mp c_69) b_68 (ivL_c ((-1000000) : Int64) (a := (-1000000)) (b := (-1000000)) (by decide)) (by decide)
                      refine lv_ldc2 (v := (-1000000)) hx hb hown (hg _ q_7_47) dX10_between_139 ?_
                      refine lv_goto (tgt := 146) hx hb dX10_between_142 (by decide) ?_
                      refine lv_l2i (v := (-1000000)) hx hb dX10_between_146 (by decide +kernel) ?_
                      exact fiI hx hb hr hlk hK hP hD hS dX10_between_147 (Nat.le_of_ble_eq_true rfl) (Nat.le_of_ble_eq_true rfl) (⟨(hR.symm.trans hT0), rfl⟩)
                  · replace c_67 : ¬ j_66 ≤ (1000000 : Int64) := fun z => c_67 ((lg_cmp_le _ _).mpr z)
                    replace hR := te hR c_67
                    have b_73 : ivL 1000001 9223372036854775807 j_66 := ivL_l2 (Int64.not_le.mp c_67) (ivL_c (1000000 : Int64) (a := 1000000) (b := 1000000) (by decide)) (ivL_top j_66) (by decide)
                    refine lv_ldc2 (v := 1000000) hx hb hown (hg _ q_7_46) dX10_between_125 ?_
                    refine lv_goto (tgt := 146) hx hb dX10_between_128 (by decide) ?_
                    refine lv_l2i (v := 1000000) hx hb dX10_between_146 (by decide +kernel) ?_
                    exact fiI hx hb hr hlk hK hP hD hS dX10_between_147 (Nat.le_of_ble_eq_true rfl) (Nat.le_of_ble_eq_true rfl) (⟨(hR.symm.trans hT0), rfl⟩)
              · replace hR := ti hR c_51
                have b_74 : iv 3000 3000 a0 := iv_q c_51 (iv_c (3000 : Int32) (a := 3000) (b := 3000) (by decide))
                refine lv_iload_n hx hb dX10_between_88 rfl (lv_at hl 1 rfl) ?_
                refine lv_i2l hx hb dX10_between_89 rfl ?_
                refine lv_topl (fun j_75 ej_75 => ?_)
                replace hR := tb hR ej_75
                refine lv_iload_n hx hb dX10_between_90 rfl (lv_at hl 2 rfl) ?_
                refine lv_i2l hx hb dX10_between_91 rfl ?_
                refine lv_topl (fun j_76 ej_76 => ?_)
                replace hR := tb hR ej_76
                refine lv_ladd hx hb dX10_between_92 ?_
                refine lv_topl (fun j_77 ej_77 => ?_)
                replace hR := tb hR ej_77
                refine lv_goto (tgt := 116) hx hb dX10_between_93 (by decide) ?_
                refine lv_lstore_n (lv' := [(3, .long j_77), (0, .int a0), (1, .int a1), (2, .int a2)]) hx hb dX10_between_116 rfl hl (by decide) rfl (fun ls hl => ?_)
                refine lv_lload_n hx hb dX10_between_117 rfl (lv_at hl 0 rfl) ?_
                refine lv_ldc2 (v := 1000000) hx hb hown (hg _ q_7_46) dX10_between_118 ?_
                refine W.lcmp hx hb dX10_between_121 ?_
                refine lv_if_le (tgt := 131) hx hb dX10_between_122 (by decide) (fun c_78 => ?_) (fun c_78 => ?_)
                · replace c_78 : j_77 ≤ (1000000 : Int64) := (lg_cmp_le _ _).mp c_78
                  replace hR := ti hR c_78
                  have b_79 : ivL (-9223372036854775808) 1000000 j_77 := ivL_e1 c_78 (ivL_top j_77) (ivL_c (1000000 : Int64) (a := 1000000) (b := 1000000) (by decide)) (by decide)
                  refine lv_lload_n hx hb dX10_between_131 rfl (lv_at hl 0 rfl) ?_
                  refine lv_ldc2 (v := (-1000000)) hx hb hown (hg _ q_7_47) dX10_between_132 ?_
                  refine W.lcmp hx hb dX10_between_135 ?_
                  refine lv_if_ge (tgt := 145) hx hb dX10_between_136 (by decide) (fun c_80 => ?_) (fun c_80 => ?_)
                  · replace c_80 : ((-1000000) : Int64) ≤ j_77 := (lg_cmp_ge _ _).mp c_80
                    replace hR := ti hR c_80
                    have b_81 : ivL (-1000000) 1000000 j_77 := ivL_e2 c_80 (ivL_c ((-1000000) : Int64) (a := (-1000000)) (b := (-1000000)) (by decide)) b_79 (by decide)
                    refine lv_lload_n hx hb dX10_between_145 rfl (lv_at hl 0 rfl) ?_
                    refine lv_l2i hx hb dX10_between_146 rfl ?_
                    refine lv_topi (fun x_82 ex_82 => ?_)
                    have bx_82 : iv (-1000000) 1000000 x_82 := by rw [ex_82]; exact iv_ofL b_81 (by decide)
                    replace hR := tb hR ex_82
                    exact fiI hx hb hr hlk hK hP hD hS dX10_between_147 (Nat.le_of_ble_eq_true rfl) (Nat.le_of_ble_eq_true rfl) (⟨(hR.symm.trans hT0), rfl⟩)
                  · replace c_80 : ¬ ((-1000000) : Int64) ≤ j_77 := fun z => c_80 ((lg_cmp_ge _ _).mpr z)
                    replace hR := te hR c_80
                    have b_83 : ivL (-9223372036854775808) (-1000001) j_77 := ivL_l1 (Int64.not_le.mp c_80) b_79 (ivL_c ((-1000000) : Int64) (a := (-1000000)) (b := (-1000000)) (by decide)) (by decide)
                    refine lv_ldc2 (v := (-1000000)) hx hb hown (hg _ q_7_47) dX10_between_139 ?_
                    refine lv_goto (tgt := 146) hx hb dX10_between_142 (by decide) ?_
                    refine lv_l2i (v := (-1000000)) hx hb dX10_between_146 (by decide +kernel) ?_
                    exact fiI hx hb hr hlk hK hP hD hS dX10_between_147 (Nat.le_of_ble_eq_true rfl) (Nat.le_of_ble_eq_true rfl) (⟨(hR.symm.trans hT0), rfl⟩)
                · replace c_78 : ¬ j_77 ≤ (1000000 : Int64) := fun z => c_78 ((lg_cmp_le _ _).mpr z)
                  replace hR := te hR c_78
                  have b_84 : ivL 1000001 9223372036854775807 j_77 := ivL_l2 (Int64.not_le.mp c_78) (ivL_c (1000000 : Int64) (a := 1000000) (b := 1000000) (by decide)) (ivL_top j_77) (by decide)
                  refine lv_ldc2 (v := 1000000) hx hb hown (hg _ q_7_46) dX10_between_125 ?_
                  refine lv_goto (tgt := 146) hx hb dX10_between_128 (by decide) ?_
                  refine lv_l2i (v := 1000000) hx hb dX10_between_146 (by decide +kernel) ?_
                  exact fiI hx hb hr hlk hK hP hD hS dX10_between_147 (Nat.le_of_ble_eq_true rfl) (Nat.le_of_ble_eq_true rfl) (⟨(hR.symm.trans hT0), rfl⟩)
theorem dX10_reckons_0 : decode cX10_reckons 0 = .ok (.iconst 0, 1) := by decide +kernel
theorem dX10_reckons_1 : decode cX10_reckons 1 = .ok (.istore_n 2, 1) := by decide +kernel
theorem dX10_reckons_2 : decode cX10_reckons 2 = .ok (.iconst 0, 1) := by decide +kernel
theorem dX10_reckons_3 : decode cX10_reckons 3 = .ok (.istore_n 3, 1) := by decide +kernel
theorem dX10_reckons_4 : decode cX10_reckons 4 = .ok (.iload_n 3, 1) := by decide +kernel
theorem dX10_reckons_5 : decode cX10_reckons 5 = .ok (.aload_n 0, 1) := by decide +kernel
theorem dX10_reckons_6 : decode cX10_reckons 6 = .ok (.getfield 13, 3) := by decide +kernel
theorem dX10_reckons_9 : decode cX10_reckons 9 = .ok (.bipush 8, 2) := by decide +kernel
theorem dX10_reckons_11 : decode cX10_reckons 11 = .ok (.iload_n 1, 1) := by decide +kernel
theorem dX10_reckons_12 : decode cX10_reckons 12 = .ok (.iadd, 1) := by decide +kernel
theorem dX10_reckons_13 : decode cX10_reckons 13 = .ok (.iaload, 1) := by decide +kernel
theorem dX10_reckons_14 : decode cX10_reckons 14 = .ok (.if_icmp .ge 184, 3) := by decide +kernel
theorem dX10_reckons_198 : decode cX10_reckons 198 = .ok (.aload_n 0, 1) := by decide +kernel
theorem q_5_239 : Cond.fieldLink "BeaconDelayModel" 30 "BeaconDelayModel" "reckoned" "[I" ∈ gw := gw_5 (i := 239) (by decide +kernel) rfl
theorem dX10_reckons_199 : decode cX10_reckons 199 = .ok (.getfield 30, 3) := by decide +kernel
theorem dX10_reckons_202 : decode cX10_reckons 202 = .ok (.iconst 0, 1) := by decide +kernel
theorem dX10_reckons_203 : decode cX10_reckons 203 = .ok (.iaload, 1) := by decide +kernel
theorem dX10_reckons_204 : decode cX10_reckons 204 = .ok (.ireturn, 1) := by decide +kernel
theorem dX10_reckons_17 : decode cX10_reckons 17 = .ok (.aload_n 0, 1) := by decide +kernel
theorem dX10_reckons_18 : decode cX10_reckons 18 = .ok (.getfield 13, 3) := by decide +kernel
theorem dX10_reckons_21 : decode cX10_reckons 21 = .ok (.bipush 125, 2) := by decide +kernel
theorem dX10_reckons_23 : decode cX10_reckons 23 = .ok (.aload_n 0, 1) := by decide +kernel
theorem dX10_reckons_24 : decode cX10_reckons 24 = .ok (.getfield 13, 3) := by decide +kernel
theorem dX10_reckons_27 : decode cX10_reckons 27 = .ok (.bipush 6, 2) := by decide +kernel
theorem dX10_reckons_29 : decode cX10_reckons 29 = .ok (.iload_n 1, 1) := by decide +kernel
theorem dX10_reckons_30 : decode cX10_reckons 30 = .ok (.iadd, 1) := by decide +kernel
theorem dX10_reckons_31 : decode cX10_reckons 31 = .ok (.iaload, 1) := by decide +kernel
theorem dX10_reckons_32 : decode cX10_reckons 32 = .ok (.iadd, 1) := by decide +kernel
theorem dX10_reckons_33 : decode cX10_reckons 33 = .ok (.iload_n 3, 1) := by decide +kernel
theorem dX10_reckons_34 : decode cX10_reckons 34 = .ok (.iadd, 1) := by decide +kernel
theorem dX10_reckons_35 : decode cX10_reckons 35 = .ok (.iaload, 1) := by decide +kernel
theorem dX10_reckons_36 : decode cX10_reckons 36 = .ok (.istore 4, 2) := by decide +kernel
theorem dX10_reckons_38 : decode cX10_reckons 38 = .ok (.iload 4, 2) := by decide +kernel
theorem dX10_reckons_40 : decode cX10_reckons 40 = .ok (.sipush 3000, 3) := by decide +kernel
theorem dX10_reckons_43 : decode cX10_reckons 43 = .ok (.if_icmp .ge 39, 3) := by decide +kernel
theorem dX10_reckons_82 : decode cX10_reckons 82 = .ok (.iload 4, 2) := by decide +kernel
theorem dX10_reckons_84 : decode cX10_reckons 84 = .ok (.sipush 3006, 3) := by decide +kernel
theorem dX10_reckons_87 : decode cX10_reckons 87 = .ok (.if_icmp .ne 24, 3) := by decide +kernel
theorem dX10_reckons_111 : decode cX10_reckons 111 = .ok (.iload 4, 2) := by decide +kernel
theorem dX10_reckons_113 : decode cX10_reckons 113 = .ok (.sipush 3009, 3) := by decide +kernel
theorem dX10_reckons_116 : decode cX10_reckons 116 = .ok (.if_icmp .ne 46, 3) := by decide +kernel
theorem dX10_reckons_162 : decode cX10_reckons 162 = .ok (.iinc 2 (-1), 3) := by decide +kernel
theorem dX10_reckons_165 : decode cX10_reckons 165 = .ok (.aload_n 0, 1) := by decide +kernel
theorem dX10_reckons_166 : decode cX10_reckons 166 = .ok (.getfield 30, 3) := by decide +kernel
theorem dX10_reckons_169 : decode cX10_reckons 169 = .ok (.iload_n 2, 1) := by decide +kernel
theorem dX10_reckons_170 : decode cX10_reckons 170 = .ok (.iconst 1, 1) := by decide +kernel
theorem dX10_reckons_171 : decode cX10_reckons 171 = .ok (.isub, 1) := by decide +kernel
theorem dX10_reckons_172 : decode cX10_reckons 172 = .ok (.iload 4, 2) := by decide +kernel
theorem dX10_reckons_174 : decode cX10_reckons 174 = .ok (.aload_n 0, 1) := by decide +kernel
theorem dX10_reckons_175 : decode cX10_reckons 175 = .ok (.getfield 30, 3) := by decide +kernel
theorem dX10_reckons_178 : decode cX10_reckons 178 = .ok (.iload_n 2, 1) := by decide +kernel
theorem dX10_reckons_179 : decode cX10_reckons 179 = .ok (.iconst 1, 1) := by decide +kernel
theorem dX10_reckons_180 : decode cX10_reckons 180 = .ok (.isub, 1) := by decide +kernel
theorem dX10_reckons_181 : decode cX10_reckons 181 = .ok (.iaload, 1) := by decide +kernel
theorem dX10_reckons_182 : decode cX10_reckons 182 = .ok (.aload_n 0, 1) := by decide +kernel
theorem dX10_reckons_183 : decode cX10_reckons 183 = .ok (.getfield 30, 3) := by decide +kernel
theorem dX10_reckons_186 : decode cX10_reckons 186 = .ok (.iload_n 2, 1) := by decide +kernel
theorem dX10_reckons_187 : decode cX10_reckons 187 = .ok (.iaload, 1) := by decide +kernel
theorem q_7_45 : Cond.code yX10_between prog_12_method_45_code 5 (some FieldType.int) ∈ gw := gw_7 (i := 45) (rfl) rfl
theorem q_7_44 : Cond.static yX10_between ∈ gw := gw_7 (i := 44) (by decide +kernel) rfl
theorem mt_X10_between : MtS yX10_between cX10_between 5 (some .int) 3 := ⟨⟨q_7_45, q_1_9, by decide +kernel, by decide +kernel, by decide +kernel⟩, q_7_44⟩
theorem q_7_43 : Cond.methodLink "BeaconDelayModel" 241 yX10_between ∈ gw := gw_7 (i := 43) (by decide +kernel) rfl
theorem dX10_reckons_188 : decode cX10_reckons 188 = .ok (.invokestatic 241, 3) := by decide +kernel
theorem dX10_reckons_191 : decode cX10_reckons 191 = .ok (.iastore, 1) := by decide +kernel
theorem dX10_reckons_192 : decode cX10_reckons 192 = .ok (.iinc 3 1, 3) := by decide +kernel
theorem dX10_reckons_195 : decode cX10_reckons 195 = .ok (.goto (-191), 3) := by decide +kernel
theorem dX10_reckons_119 : decode cX10_reckons 119 = .ok (.iinc 2 (-2), 3) := by decide +kernel
theorem dX10_reckons_122 : decode cX10_reckons 122 = .ok (.aload_n 0, 1) := by decide +kernel
theorem dX10_reckons_123 : decode cX10_reckons 123 = .ok (.getfield 30, 3) := by decide +kernel
theorem dX10_reckons_126 : decode cX10_reckons 126 = .ok (.iload_n 2, 1) := by decide +kernel
theorem dX10_reckons_127 : decode cX10_reckons 127 = .ok (.iconst 1, 1) := by decide +kernel
theorem dX10_reckons_128 : decode cX10_reckons 128 = .ok (.isub, 1) := by decide +kernel
theorem dX10_reckons_129 : decode cX10_reckons 129 = .ok (.aload_n 0, 1) := by decide +kernel
theorem dX10_reckons_130 : decode cX10_reckons 130 = .ok (.getfield 30, 3) := by decide +kernel
theorem dX10_reckons_133 : decode cX10_reckons 133 = .ok (.iload_n 2, 1) := by decide +kernel
theorem dX10_reckons_134 : decode cX10_reckons 134 = .ok (.iconst 1, 1) := by decide +kernel
theorem dX10_reckons_135 : decode cX10_reckons 135 = .ok (.isub, 1) := by decide +kernel
theorem dX10_reckons_136 : decode cX10_reckons 136 = .ok (.iaload, 1) := by decide +kernel
theorem dX10_reckons_137 : decode cX10_reckons 137 = .ok (.iconst 1, 1) := by decide +kernel
theorem dX10_reckons_138 : decode cX10_reckons 138 = .ok (.if_icmp .ne 12, 3) := by decide +kernel
theorem dX10_reckons_150 : decode cX10_reckons 150 = .ok (.aload_n 0, 1) := by decide +kernel
theorem dX10_reckons_151 : decode cX10_reckons 151 = .ok (.getfield 30, 3) := by decide +kernel
theorem dX10_reckons_154 : decode cX10_reckons 154 = .ok (.iload_n 2, 1) := by decide +kernel
theorem dX10_reckons_155 : decode cX10_reckons 155 = .ok (.iconst 1, 1) := by decide +kernel
theorem dX10_reckons_156 : decode cX10_reckons 156 = .ok (.iadd, 1) := by decide +kernel
theorem dX10_reckons_157 : decode cX10_reckons 157 = .ok (.iaload, 1) := by decide +kernel
theorem dX10_reckons_158 : decode cX10_reckons 158 = .ok (.iastore, 1) := by decide +kernel
theorem dX10_reckons_159 : decode cX10_reckons 159 = .ok (.goto 33, 3) := by decide +kernel
theorem dX10_reckons_141 : decode cX10_reckons 141 = .ok (.aload_n 0, 1) := by decide +kernel
theorem dX10_reckons_142 : decode cX10_reckons 142 = .ok (.getfield 30, 3) := by decide +kernel
theorem dX10_reckons_145 : decode cX10_reckons 145 = .ok (.iload_n 2, 1) := by decide +kernel
theorem dX10_reckons_146 : decode cX10_reckons 146 = .ok (.iaload, 1) := by decide +kernel
theorem dX10_reckons_147 : decode cX10_reckons 147 = .ok (.goto 11, 3) := by decide +kernel
theorem dX10_reckons_90 : decode cX10_reckons 90 = .ok (.aload_n 0, 1) := by decide +kernel
theorem dX10_reckons_91 : decode cX10_reckons 91 = .ok (.getfield 30, 3) := by decide +kernel
theorem dX10_reckons_94 : decode cX10_reckons 94 = .ok (.iload_n 2, 1) := by decide +kernel
theorem dX10_reckons_95 : decode cX10_reckons 95 = .ok (.iconst 1, 1) := by decide +kernel
theorem dX10_reckons_96 : decode cX10_reckons 96 = .ok (.isub, 1) := by decide +kernel
theorem dX10_reckons_97 : decode cX10_reckons 97 = .ok (.iconst 1, 1) := by decide +kernel
theorem dX10_reckons_98 : decode cX10_reckons 98 = .ok (.aload_n 0, 1) := by decide +kernel
theorem dX10_reckons_99 : decode cX10_reckons 99 = .ok (.getfield 30, 3) := by decide +kernel
theorem dX10_reckons_102 : decode cX10_reckons 102 = .ok (.iload_n 2, 1) := by decide +kernel
theorem dX10_reckons_103 : decode cX10_reckons 103 = .ok (.iconst 1, 1) := by decide +kernel
theorem dX10_reckons_104 : decode cX10_reckons 104 = .ok (.isub, 1) := by decide +kernel
theorem dX10_reckons_105 : decode cX10_reckons 105 = .ok (.iaload, 1) := by decide +kernel
theorem dX10_reckons_106 : decode cX10_reckons 106 = .ok (.isub, 1) := by decide +kernel
theorem dX10_reckons_107 : decode cX10_reckons 107 = .ok (.iastore, 1) := by decide +kernel
theorem dX10_reckons_108 : decode cX10_reckons 108 = .ok (.goto 84, 3) := by decide +kernel
theorem dX10_reckons_46 : decode cX10_reckons 46 = .ok (.aload_n 0, 1) := by decide +kernel
theorem dX10_reckons_47 : decode cX10_reckons 47 = .ok (.getfield 30, 3) := by decide +kernel
theorem dX10_reckons_50 : decode cX10_reckons 50 = .ok (.iload_n 2, 1) := by decide +kernel
theorem dX10_reckons_51 : decode cX10_reckons 51 = .ok (.iload 4, 2) := by decide +kernel
theorem dX10_reckons_53 : decode cX10_reckons 53 = .ok (.sipush 1000, 3) := by decide +kernel
theorem dX10_reckons_56 : decode cX10_reckons 56 = .ok (.if_icmp .ge 8, 3) := by decide +kernel
theorem dX10_reckons_64 : decode cX10_reckons 64 = .ok (.aload_n 0, 1) := by decide +kernel
theorem dX10_reckons_65 : decode cX10_reckons 65 = .ok (.getfield 33, 3) := by decide +kernel
theorem dX10_reckons_68 : decode cX10_reckons 68 = .ok (.iload 4, 2) := by decide +kernel
theorem dX10_reckons_70 : decode cX10_reckons 70 = .ok (.sipush 1000, 3) := by decide +kernel
theorem dX10_reckons_73 : decode cX10_reckons 73 = .ok (.isub, 1) := by decide +kernel
theorem dX10_reckons_74 : decode cX10_reckons 74 = .ok (.iaload, 1) := by decide +kernel
theorem dX10_reckons_75 : decode cX10_reckons 75 = .ok (.iastore, 1) := by decide +kernel
theorem dX10_reckons_76 : decode cX10_reckons 76 = .ok (.iinc 2 1, 3) := by decide +kernel
theorem dX10_reckons_79 : decode cX10_reckons 79 = .ok (.goto 113, 3) := by decide +kernel
theorem dX10_reckons_59 : decode cX10_reckons 59 = .ok (.iload 4, 2) := by decide +kernel
theorem dX10_reckons_61 : decode cX10_reckons 61 = .ok (.goto 14, 3) := by decide +kernel
set_option maxRecDepth 100000 in
noncomputable def B_k_X10_reckons_0_1 (fz1 : Nat → Int32) (fz16 : Nat → Int32) (u_1 : Int32) (u_2 : Int32) (f_3 : Nat → Int32) : (Int32 × Int32 × (Nat → Int32)) ⊕ (Int32 × (Nat → Int32)) := bnd (fz1 (8 : Int32).toNatClampNeg : Int32) fun (x_5 : Int32) => if x_5 ≤ u_1 then (bnd (f_3 (0 : Int32).toNatClampNeg : Int32) fun (x_7 : Int32) => Sum.inr ((x_7, f_3))) else (bnd (fz1 (6 : Int32).toNatClampNeg : Int32) fun (x_10 : Int32) => bnd ((125 : Int32) + x_10 : Int32) fun (x_11 : Int32) => bnd (x_11 + u_1 : Int32) fun (x_12 : Int32) => bnd (fz1 (x_12 : Int32).toNatClampNeg : Int32) fun (x_13 : Int32) => if (3000 : Int32) ≤ x_13 then (if x_13 = (3006 : Int32) then (bnd (u_2 - (1 : Int32) : Int32) fun (x_45 : Int32) => bnd (f_3 (x_45 : Int32).toNatClampNeg : Int32) fun (x_46 : Int32) => bnd ((1 : Int32) - x_46 : Int32) fun (x_47 : Int32) => bnd ((upd f_3 (x_45 : Int32).toNatClampNeg x_47) : Nat → Int32) fun (f_48 : Nat → Int32) => bnd (u_1 + 1 : Int32) fun (x_49 : Int32) => Sum.inl (x_49, u_2, f_48)) else (if x_13 = (3009 : Int32) then (bnd (u_2 + (-2) : Int32) fun (x_31 : Int32) => bnd (x_31 - (1 : Int32) : Int32) fun (x_32 : Int32) => bnd (f_3 (x_32 : Int32).toNatClampNeg : Int32) fun (x_33 : Int32) => if x_33 = (1 : Int32) then (bnd (f_3 (x_31 : Int32).toNatClampNeg : Int32) fun (x_40 : Int32) => bnd ((upd f_3 (x_32 : Int32).toNatClampNeg x_40) : Nat → Int32) fun (f_41 : Nat → Int32) => bnd (u_1 + 1 : Int32) fun (x_42 : Int32) => Sum.inl (x_42, x_31, f_41)) else (bnd (x_31 + (1 : Int32) : Int32) fun (x_35 : Int32) => bnd (f_3 (x_35 : Int32).toNatClampNeg : Int32) fun (x_36 : Int32) => bnd ((upd f_3 (x_32 : Int32).toNatClampNeg x_36) : Nat → Int32) fun (f_37 : Nat → Int32) => bnd (u_1 + 1 : Int32) fun (x_38 : Int32) => Sum.inl (x_38, x_31, f_37))) else (bnd (u_2 + (-1) : Int32) fun (x_20 : Int32) => bnd (x_20 - (1 : Int32) : Int32) fun (x_21 : Int32) => bnd (f_3 (x_21 : Int32).toNatClampNeg : Int32) fun (x_22 : Int32) => bnd (f_3 (x_20 : Int32).toNatClampNeg : Int32) fun (x_23 : Int32) => bnd (F_k_X10_between_0 x_13 x_22 x_23 : Int32) fun (r_24 : Int32) => bnd ((upd f_3 (x_21 : Int32).toNatClampNeg r_24) : Nat → Int32) fun (f_27 : Nat → Int32) => bnd (u_1 + 1 : Int32) fun (x_28 : Int32) => Sum.inl (x_28, x_20, f_27)))) else (if (1000 : Int32) ≤ x_13 then (bnd (x_13 - (1000 : Int32) : Int32) fun (x_53 : Int32) => bnd (fz16 (x_53 : Int32).toNatClampNeg : Int32) fun (x_55 : Int32) => bnd ((upd f_3 (u_2 : Int32).toNatClampNeg x_55) : Nat → Int32) fun (f_56 : Nat → Int32) => bnd (u_2 + 1 : Int32) fun (x_57 : Int32) => bnd (u_1 + 1 : Int32) fun (x_58 : Int32) => Sum.inl (x_58, x_57, f_56)) else (bnd ((upd f_3 (u_2 : Int32).toNatClampNeg x_13) : Nat → Int32) fun (f_60 : Nat → Int32) => bnd (u_2 + 1 : Int32) fun (x_61 : Int32) => bnd (u_1 + 1 : Int32) fun (x_62 : Int32) => Sum.inl (x_62, x_61, f_60))))
noncomputable def L_k_X10_reckons_0_1 (fz1 : Nat → Int32) (fz16 : Nat → Int32) (q9 : Int32 × Int32 × (Nat → Int32)) : (Int32 × Int32 × (Nat → Int32)) ⊕ (Int32 × (Nat → Int32)) := B_k_X10_reckons_0_1 fz1 fz16 q9.1 q9.2.1 q9.2.2
set_option maxRecDepth 100000 in
noncomputable def F_k_X10_reckons_0 (fz15 : Nat → Int32) (fz16 : Nat → Int32) (fz1 : Nat → Int32) : Int32 × (Nat → Int32) := W9 (L_k_X10_reckons_0_1 fz1 fz16) (0, 0, fz15)
set_option maxHeartbeats 4000000 in
set_option maxRecDepth 100000 in
theorem k_X10_reckons_0 (l : Launch) (V : GV) (z : Nat → Nat) (fz15 : Nat → Int32) (fz16 : Nat → Int32) (pz0_0 : Int32) (pz0_5 : Int32) (pz0_6 : Int32) (pz0_7 : Int32) (pz0_8 : Int32) (pz0_9 : Int32) (pz0_10 : Int32) (pz0_11 : Int32) (pz0_12 : Int32) (pz0_13 : Int32) (pz0_14 : Int32) (pz0_18 : Int32) (pz0_19 : Int32) (pz0_22 : Int32) (pz0_23 : Int32) (pz0_29 : Int32) (fz1 : Nat → Int32) (tfz16 : ivT tW fz16) (bpz0_5 : iv 0 900 pz0_5) (bpz0_6 : iv 0 900 pz0_6) (bpz0_7 : iv 0 900 pz0_7) (bpz0_8 : iv 0 900 pz0_8) (bpz0_10 : iv 0 999 pz0_10) (bpz0_11 : iv 0 4 pz0_11) (bpz0_12 : iv 0 900 pz0_12) (bpz0_13 : iv 0 4 pz0_13) (bpz0_14 : iv (-1) 900 pz0_14) (bpz0_18 : iv 0 2 pz0_18) (bpz0_22 : iv 0 9999 pz0_22) (bpz0_29 : iv 0 10000 pz0_29) (tfz1 : ivT tA fz1) (hf0 : RW fz1) : Ct l V yX10_reckons (.code yX10_reckons cX10_reckons 5 (some .int)) 2 [.ref (z 0), .int 0] [(z 15, aI V 900 fz15), (z 16, aI V 6 fz16), (z 0, .inr (10, mo z pz0_0 pz0_5 pz0_6 pz0_7 pz0_8 pz0_9 pz0_10 pz0_11 pz0_12 pz0_13 pz0_14 pz0_18 pz0_19 pz0_22 pz0_23 pz0_29)), (z 1, aI V 3075 fz1)] 0 0 (QI V (fun (r : Int32) (w : va_W) => ∃ (g0 : Nat → Int32), (RW fz1) ∧ r = (F_k_X10_reckons_0 fz15 fz16 fz1).1 ∧ g0 = (F_k_X10_reckons_0 fz15 fz16 fz1).2 ∧ w = [(z 15, aI V 900 g0), (z 16, aI V 6 fz16), (z 0, .inr (10, mo z pz0_0 pz0_5 pz0_6 pz0_7 pz0_8 pz0_9 pz0_10 pz0_11 pz0_12 pz0_13 pz0_14 pz0_18 pz0_19 pz0_22 pz0_23 pz0_29)), (z 1, aI V 3075 fz1)])) := by
  refine Ct.of (by decide) (Nat.le_of_ble_eq_true rfl) (fun p e s m below meth c A ls hx hb hr hml hown hlk hnm hg hP hK hD hE hA hS hl => ?_)
  have hl : lv_has ls 5 [(0, .ref (z 0)), (1, .int 0)] := hl
  obtain ⟨T0, hT0⟩ : ∃ T9, T9 = F_k_X10_reckons_0 fz15 fz16 fz1 := ⟨_, rfl⟩
  have hR := hT0.trans (F_k_X10_reckons_0.eq_1 ..)
  refine lv_iconst (v := 0) hx hb dX10_reckons_0 (by decide) ?_
  refine lv_istore_n (lv' := [(2, .int 0), (0, .ref (z 0)), (1, .int 0)]) hx hb dX10_reckons_1 rfl hl (by decide) rfl (fun ls hl => ?_)
  refine lv_iconst (v := 0) hx hb dX10_reckons_2 (by decide) ?_
  refine lv_istore_n (lv' := [(3, .int 0), (2, .int 0), (0, .ref (z 0)), (1, .int 0)]) hx hb dX10_reckons_3 rfl hl (by decide) rfl (fun ls hl => ?_)
  refine loopF (X := fun (n_4 : Nat) (H : Heap) (locs : List Loc) (ls : Array Slot) => ∃ (u_1 : Int32) (u_2 : Int32) (f_3 : Nat → Int32), (iv 0 900 u_1) ∧ (iv (-2147483648) 2147483647 u_2) ∧ (RK fz1 (0 : Int32) u_1 u_2) ∧ T0 = W9 (L_k_X10_reckons_0_1 fz1 fz16) (u_1, u_2, f_3) ∧ n_4 = (2147483647 - (u_1 : Int32).toInt).toNat ∧ va_P V.1 vwCl [(z 15, aI V 900 f_3), (z 16, aI V 6 fz16), (z 0, .inr (10, mo z pz0_0 pz0_5 pz0_6 pz0_7 pz0_8 pz0_9 pz0_10 pz0_11 pz0_12 pz0_13 pz0_14 pz0_18 pz0_19 pz0_22 pz0_23 pz0_29)), (z 1, aI V 3075 fz1)] H ∧ va_D A [(z 15, aI V 900 f_3), (z 16, aI V 6 fz16), (z 0, .inr (10, mo z pz0_0 pz0_5 pz0_6 pz0_7 pz0_8 pz0_9 pz0_10 pz0_11 pz0_12 pz0_13 pz0_14 pz0_18 pz0_19 pz0_22 pz0_23 pz0_29)), (z 1, aI V 3075 fz1)] ∧ va_S A s.heap H locs ∧ lv_has ls 5 [(3, .int u_1), (2, .int u_2), (0, .ref (z 0)), (1, .int 0)]) (g := fun ls => F0 m 4 ls []) (fun n_4 H locs ls hX ihn_4 => ?_) _ ⟨0, 0, fz15, (iv_c (0 : Int32) (by decide)), (iv_c (0 : Int32) (by decide)), RK_0, hR, rfl, hP, hD, hS, lv_sub hl [0, 1, 2, 3] rfl⟩
  obtain ⟨u_1, u_2, f_3, bu_1, bu_2, inn_4_0, hR, en_4, hP, hD, hS, hl⟩ := hX
  obtain ⟨Tn_4, hR, hAn_4⟩ := tw hR
  replace hR : Tn_4 = B_k_X10_reckons_0_1 fz1 fz16 u_1 u_2 f_3 := hR
  replace hR := hR.trans (B_k_X10_reckons_0_1.eq_1 ..)
  refine lv_iload_n hx hb dX10_reckons_4 rfl (lv_at hl 0 rfl) ?_
  refine lv_aload_n hx hb dX10_reckons_5 rfl (lv_at hl 2 rfl) ?_
  refine va_get (ci := 10) (v := .ref (z 1)) (C := RX10) (T := TX10) (N := 40) hx hb hg inX10 hown hK hP 2 rfl rfl 1 (by decide) (hg _ q_5_225) (fun _ h9 => h9) rfl dX10_reckons_6 ?_
  refine lv_bipush (v := 8) hx hb dX10_reckons_9 (by decide) ?_
  refine lv_iload_n hx hb dX10_reckons_11 rfl (lv_at hl 3 rfl) ?_
  refine lv_iadd hx hb dX10_reckons_12 ?_
  refine tpi (y := 8) (by decide +kernel) ?_
  refine va_iald hx hb hK hP 3 0 rfl rfl (vin (by decide +kernel)) dX10_reckons_13 ?_
  refine lv_topi (fun x_5 ex_5 => ?_)
  have bx_5 : iv 0 900 x_5 := by rw [ex_5]; exact rdT (a := 8) (n := 1) tfz1 (iv_c (8 : Int32) (a := 8) (b := 8) (by decide)) (by decide) (by decide +kernel)
  replace hR := tb hR ex_5
  refine lv_icmp_ge (tgt := 198) hx hb dX10_reckons_14 (by decide) (fun c_6 => ?_) (fun c_6 => ?_)
  · replace hR := ti hR c_6
    refine lv_aload_n hx hb dX10_reckons_198 rfl (lv_at hl 2 rfl) ?_
    refine va_get (ci := 10) (v := .ref (z 15)) (C := RX10) (T := TX10) (N := 40) hx hb hg inX10 hown hK hP 2 rfl rfl 15 (by decide) (hg _ q_5_239) (fun _ h9 => h9) rfl dX10_reckons_199 ?_
    refine lv_iconst (v := 0) hx hb dX10_reckons_202 (by decide) ?_
    refine va_iald hx hb hK hP 0 0 rfl rfl (vin (by decide +kernel)) dX10_reckons_203 ?_
    refine lv_topi (fun x_7 ex_7 => ?_)
    replace hR := tb hR ex_7
    exact fiI hx hb hr hlk hK hP hD hS dX10_reckons_204 (Nat.le_of_ble_eq_true rfl) (Nat.le_of_ble_eq_true rfl) (⟨f_3, hf0, (congrArg Prod.fst ((tx hAn_4 hR).symm.trans hT0)), (congrArg Prod.snd ((tx hAn_4 hR).symm.trans hT0)), rfl⟩)
  · replace hR := te hR c_6
    have b_8 : iv 0 899 u_1 := iv_l1 (Int32.not_le.mp c_6) bu_1 bx_5 (by decide)
    have b_9 : iv 1 900 x_5 := iv_l2 (Int32.not_le.mp c_6) bu_1 bx_5 (by decide)
    refine lv_aload_n hx hb dX10_reckons_17 rfl (lv_at hl 2 rfl) ?_
    refine va_get (ci := 10) (v := .ref (z 1)) (C := RX10) (T := TX10) (N := 40) hx hb hg inX10 hown hK hP 2 rfl rfl 1 (by decide) (hg _ q_5_225) (fun _ h9 => h9) rfl dX10_reckons_18 ?_
    refine lv_bipush (v := 125) hx hb dX10_reckons_21 (by decide) ?_
    refine lv_aload_n hx hb dX10_reckons_23 rfl (lv_at hl 2 rfl) ?_
    refine va_get (ci := 10) (v := .ref (z 1)) (C := RX10) (T := TX10) (N := 40) hx hb hg inX10 hown hK hP 2 rfl rfl 1 (by decide) (hg _ q_5_225) (fun _ h9 => h9) rfl dX10_reckons_24 ?_
    refine lv_bipush (v := 6) hx hb dX10_reckons_27 (by decide) ?_
    refine lv_iload_n hx hb dX10_reckons_29 rfl (lv_at hl 3 rfl) ?_
    refine lv_iadd hx hb dX10_reckons_30 ?_
    refine tpi (y := 6) (by decide +kernel) ?_
    refine va_iald hx hb hK hP 3 0 rfl rfl (vin (by decide +kernel)) dX10_reckons_31 ?_
    refine lv_topi (fun x_10 ex_10 => ?_)
    have bx_10 : iv 0 900 x_10 := by rw [ex_10]; exact rdT (a := 6) (n := 1) tfz1 (iv_c (6 : Int32) (a := 6) (b := 6) (by decide)) (by decide) (by decide +kernel)
    replace hR := tb hR ex_10
    refine lv_iadd hx hb dX10_reckons_32 ?_
    refine lv_topi (fun x_11 ex_11 => ?_)
    have bx_11 : iv 125 1025 x_11 := by rw [ex_11]; exact iv_add (iv_c (125 : Int32) (a := 125) (b := 125) (by decide)) bx_10 (by decide)
    replace hR := tb hR ex_11
    refine lv_iload_n hx hb dX10_reckons_33 rfl (lv_at hl 0 rfl) ?_
    refine lv_iadd hx hb dX10_reckons_34 ?_
    refine lv_topi (fun x_12 ex_12 => ?_)
    have bx_12 : iv 125 1924 x_12 := by rw [ex_12]; exact iv_add bx_11 b_8 (by decide)
    replace hR := tb hR ex_12
    refine va_iald hx hb hK hP 3 0 rfl rfl (iv_in bx_12 (by decide)) dX10_reckons_35 ?_
    refine lv_topi (fun x_13 ex_13 => ?_)
    replace hR := tb hR ex_13
    have hc_x_13 := RK_c (law := (0 : Int32)) (i6 := 6) (i8 := 8) hf0 (iv_c (0 : Int32) (by decide)) b_8 inn_4_0 (by decide) (by decide) ex_5 (iv_w b_9 (by decide)) ex_10 bx_10 (Int32.not_le.mp c_6) ex_11 ex_12 ex_13
    have b_14 : iv 0 899 u_2 := by have q9 := hc_x_13; have q8 := ned_0 x_13; have q7 := b_8; unfold iv at *; omega
    refine lv_istore (lv' := [(4, .int x_13), (3, .int u_1), (2, .int u_2), (0, .ref (z 0)), (1, .int 0)]) hx hb dX10_reckons_36 hl (by decide) rfl (fun ls hl => ?_)
    refine lv_iload hx hb dX10_reckons_38 (lv_at hl 0 rfl) ?_
    refine lv_sipush (v := 3000) hx hb dX10_reckons_40 (by decide) ?_
    refine lv_icmp_ge (tgt := 82) hx hb dX10_reckons_43 (by decide) (fun c_15 => ?_) (fun c_15 => ?_)
    · replace hR := ti hR c_15
      have b_16 : iv 3000 2147483647 x_13 := iv_e2 c_15 (iv_c (3000 : Int32) (a := 3000) (b := 3000) (by decide)) (iv_top x_13) (by decide)
      refine lv_iload hx hb dX10_reckons_82 (lv_at hl 0 rfl) ?_
      refine lv_sipush (v := 3006) hx hb dX10_reckons_84 (by decide) ?_
      refine lv_icmp_ne (tgt := 111) hx hb dX10_reckons_87 (by decide) (fun c_17 => ?_) (fun c_17 => ?_)
      · replace hR := te hR c_17
        refine lv_iload hx hb dX10_reckons_111 (lv_at hl 0 rfl) ?_
        refine lv_sipush (v := 3009) hx hb dX10_reckons_113 (by decide) ?_
        refine lv_icmp_ne (tgt := 162) hx hb dX10_reckons_116 (by decide) (fun c_18 => ?_) (fun c_18 => ?_)
        · replace hR := te hR c_18
          have b_19 : iv 2 899 u_2 := by have q9 := hc_x_13.2.1; have q8 := ned_two (Int32.not_lt.mpr c_15) c_17 c_18; have q7 := b_14; unfold iv at *; omega
          obtain ⟨x_20, ex_20⟩ : ∃ z9 : Int32, z9 = u_2 + (-1) := ⟨_, rfl⟩
          have bx_20 : iv 1 898 x_20 := by rw [ex_20]; exact iv_add b_19 (iv_c ((-1) : Int32) (a := (-1)) (b := (-1)) (by decide)) (by decide)
          replace hR := tb hR ex_20
          refine lv_iinc (v := x_20) (lv' := [(2, .int x_20), (4, .int x_13), (3, .int u_1), (0, .ref (z 0)), (1, .int 0)]) hx hb dX10_reckons_162 hl (k := 2) rfl (by rw [ex_20]; rfl) (by decide) rfl (fun ls hl => ?_)
          refine lv_aload_n hx hb dX10_reckons_165 rfl (lv_at hl 3 rfl) ?_
          refine va_get (ci := 10) (v := .ref (z 15)) (C := RX10) (T := TX10) (N := 40) hx hb hg inX10 hown hK hP 2 rfl rfl 15 (by decide) (hg _ q_5_239) (fun _ h9 => h9) rfl dX10_reckons_166 ?_
          refine lv_iload_n hx hb dX10_reckons_169 rfl (lv_at hl 0 rfl) ?_
          refine lv_iconst (v := 1) hx hb dX10_reckons_170 (by decide) ?_
          refine lv_isub hx hb dX10_reckons_171 ?_
          refine lv_topi (fun x_21 ex_21 => ?_)
          have bx_21 : iv 0 897 x_21 := by rw [ex_21]; exact iv_sub bx_20 (iv_c (1 : Int32) (a := 1) (b := 1) (by decide)) (by decide)
          replace hR := tb hR ex_21
          refine lv_iload hx hb dX10_reckons_172 (lv_at hl 1 rfl) ?_
          refine lv_aload_n hx hb dX10_reckons_174 rfl (lv_at hl 3 rfl) ?_
          refine va_get (ci := 10) (v := .ref (z 15)) (C := RX10) (T := TX10) (N := 40) hx hb hg inX10 hown hK hP 2 rfl rfl 15 (by decide) (hg _ q_5_239) (fun _ h9 => h9) rfl dX10_reckons_175 ?_
          refine lv_iload_n hx hb dX10_reckons_178 rfl (lv_at hl 0 rfl) ?_
          refine lv_iconst (v := 1) hx hb dX10_reckons_179 (by decide) ?_
          refine lv_isub hx hb dX10_reckons_180 ?_
          refine tpi (y := x_21) ex_21.symm ?_
          refine va_iald hx hb hK hP 0 0 rfl rfl (iv_in bx_21 (by decide)) dX10_reckons_181 ?_
          refine lv_topi (fun x_22 ex_22 => ?_)
          replace hR := tb hR ex_22
          refine lv_aload_n hx hb dX10_reckons_182 rfl (lv_at hl 3 rfl) ?_
          refine va_get (ci := 10) (v := .ref (z 15)) (C := RX10) (T := TX10) (N := 40) hx hb hg inX10 hown hK hP 2 rfl rfl 15 (by decide) (hg _ q_5_239) (fun _ h9 => h9) rfl dX10_reckons_183 ?_
          refine lv_iload_n hx hb dX10_reckons_186 rfl (lv_at hl 0 rfl) ?_
          refine va_iald hx hb hK hP 0 0 rfl rfl (iv_in bx_20 (by decide)) dX10_reckons_187 ?_
          refine lv_topi (fun x_23 ex_23 => ?_)
          replace hR := tb hR ex_23
          refine jnI (wr := [(z 15, aI V 900 f_3), (z 16, aI V 6 fz16), (z 0, .inr (10, mo z pz0_0 pz0_5 pz0_6 pz0_7 pz0_8 pz0_9 pz0_10 pz0_11 pz0_12 pz0_13 pz0_14 pz0_18 pz0_19 pz0_22 pz0_23 pz0_29)), (z 1, aI V 3075 fz1)]) (rnS (rest := [.int x_21, .ref (z 15)]) ⟨hx, hb, hml, hown, hg⟩ (k_X10_between_0 l V x_13 x_22 x_23) mt_X10_between q_7_43 ⟨Nat.le_of_ble_eq_true rfl, Nat.le_of_ble_eq_true rfl⟩ hK hP hD hS hA hE [] rfl rfl rfl hl.1 rfl (Nat.le_of_ble_eq_true rfl) dX10_reckons_188 ⟨Nat.le_of_ble_eq_true rfl, Nat.le_of_ble_eq_true rfl⟩) hP hD hS hA [] [0, 1, 2, 3] rfl rfl rfl (by decide) (fun r_24 w H locs hw hP hD hS => ?_)
          obtain ⟨et_25, rfl⟩ := hw
          replace hR := tb hR et_25
          have hP : va_P V.1 vwCl [(z 15, aI V 900 f_3), (z 16, aI V 6 fz16), (z 0, .inr (10, mo z pz0_0 pz0_5 pz0_6 pz0_7 pz0_8 pz0_9 pz0_10 pz0_11 pz0_12 pz0_13 pz0_14 pz0_18 pz0_19 pz0_22 pz0_23 pz0_29)), (z 1, aI V 3075 fz1)] H := hP
          have hD := cpD hP hD
          refine va_iast hx hb hK hP hD hS 0 0 rfl rfl (iv_in bx_21 (by decide)) dX10_reckons_191 (fun H locs hP hD hS => ?_)
          obtain ⟨f_27, ef_27, hP, hD⟩ : ∃ f_27 : Nat → Int32, f_27 = (upd f_3 (x_21 : Int32).toNatClampNeg r_24) ∧ va_P V.1 vwCl [(z 15, aI V 900 f_27), (z 16, aI V 6 fz16), (z 0, .inr (10, mo z pz0_0 pz0_5 pz0_6 pz0_7 pz0_8 pz0_9 pz0_10 pz0_11 pz0_12 pz0_13 pz0_14 pz0_18 pz0_19 pz0_22 pz0_23 pz0_29)), (z 1, aI V 3075 fz1)] H ∧ va_D A [(z 15, aI V 900 f_27), (z 16, aI V 6 fz16), (z 0, .inr (10, mo z pz0_0 pz0_5 pz0_6 pz0_7 pz0_8 pz0_9 pz0_10 pz0_11 pz0_12 pz0_13 pz0_14 pz0_18 pz0_19 pz0_22 pz0_23 pz0_29)), (z 1, aI V 3075 fz1)] := ⟨_, rfl, hP, hD⟩
          replace hR := tb hR ef_27
          obtain ⟨x_28, ex_28⟩ : ∃ z9 : Int32, z9 = u_1 + 1 := ⟨_, rfl⟩
          have bx_28 : iv 1 900 x_28 := by rw [ex_28]; exact iv_add b_8 (iv_c (1 : Int32) (a := 1) (b := 1) (by decide)) (by decide)
          replace hR := tb hR ex_28
          refine lv_iinc (v := x_28) (lv' := [(3, .int x_28), (2, .int x_20), (4, .int x_13), (0, .ref (z 0)), (1, .int 0)]) hx hb dX10_reckons_192 hl (k := 2) rfl (by rw [ex_28]; rfl) (by decide) rfl (fun ls hl => ?_)
          refine lv_goto (tgt := 4) hx hb dX10_reckons_195 (by decide) ?_
          exact ihn_4 _ _ _ _ (by rw [en_4, ex_28]; exact mu_up b_8 (by decide)) ⟨x_28, x_20, f_27, (iv_w bx_28 (by decide)), (iv_w bx_20 (by decide)), (RK_s (law := (0 : Int32)) (i6 := 6) (iv_c (0 : Int32) (by decide)) b_8 inn_4_0 (by decide) ex_10 bx_10 ex_11 ex_12 ex_13 ex_28 (by have q8 := toInt_add ex_20 b_19 (iv_c ((-1) : Int32) (a := (-1)) (b := (-1)) (by decide)) (by decide); have q7 : ((-1) : Int32).toInt = (-1) := (by decide); have q9 := eff_two (Int32.not_lt.mpr c_15) c_17 c_18; omega)), (tbk hAn_4 hR), rfl, hP, hD, hS, lv_sub hl [0, 1, 3, 4] rfl⟩
        · replace hR := ti hR c_18
          have b_29 : iv 3009 3009 x_13 := iv_q c_18 (iv_c (3009 : Int32) (a := 3009) (b := 3009) (by decide))
          have b_30 : iv 3 899 u_2 := by have q9 := hc_x_13.2.1; have q8 := ned_if c_18; have q7 := b_14; unfold iv at *; omega
          obtain ⟨x_31, ex_31⟩ : ∃ z9 : Int32, z9 = u_2 + (-2) := ⟨_, rfl⟩
          have bx_31 : iv 1 897 x_31 := by rw [ex_31]; exact iv_add b_30 (iv_c ((-2) : Int32) (a := (-2)) (b := (-2)) (by decide)) (by decide)
          replace hR := tb hR ex_31
          refine lv_iinc (v := x_31) (lv' := [(2, .int x_31), (4, .int x_13), (3, .int u_1), (0, .ref (z 0)), (1, .int 0)]) hx hb dX10_reckons_119 hl (k := 2) rfl (by rw [ex_31]; rfl) (by decide) rfl (fun ls hl => ?_)
          refine lv_aload_n hx hb dX10_reckons_122 rfl (lv_at hl 3 rfl) ?_
          refine va_get (ci := 10) (v := .ref (z 15)) (C := RX10) (T := TX10) (N := 40) hx hb hg inX10 hown hK hP 2 rfl rfl 15 (by decide) (hg _ q_5_239) (fun _ h9 => h9) rfl dX10_reckons_123 ?_
          refine lv_iload_n hx hb dX10_reckons_126 rfl (lv_at hl 0 rfl) ?_
          refine lv_iconst (v := 1) hx hb dX10_reckons_127 (by decide) ?_
          refine lv_isub hx hb dX10_reckons_128 ?_
          refine lv_topi (fun x_32 ex_32 => ?_)
          have bx_32 : iv 0 896 x_32 := by rw [ex_32]; exact iv_sub bx_31 (iv_c (1 : Int32) (a := 1) (b := 1) (by decide)) (by decide)
          replace hR := tb hR ex_32
          refine lv_aload_n hx hb dX10_reckons_129 rfl (lv_at hl 3 rfl) ?_
          refine va_get (ci := 10) (v := .ref (z 15)) (C := RX10) (T := TX10) (N := 40) hx hb hg inX10 hown hK hP 2 rfl rfl 15 (by decide) (hg _ q_5_239) (fun _ h9 => h9) rfl dX10_reckons_130 ?_
          refine lv_iload_n hx hb dX10_reckons_133 rfl (lv_at hl 0 rfl) ?_
          refine lv_iconst (v := 1) hx hb dX10_reckons_134 (by decide) ?_
          refine lv_isub hx hb dX10_reckons_135 ?_
          refine tpi (y := x_32) ex_32.symm ?_
          refine va_iald hx hb hK hP 0 0 rfl rfl (iv_in bx_32 (by decide)) dX10_reckons_136 ?_
          refine lv_topi (fun x_33 ex_33 => ?_)
          replace hR := tb hR ex_33
          refine lv_iconst (v := 1) hx hb dX10_reckons_137 (by decide) ?_
          refine lv_icmp_ne (tgt := 150) hx hb dX10_reckons_138 (by decide) (fun c_34 => ?_) (fun c_34 => ?_)
          · replace hR := te hR c_34
            refine lv_aload_n hx hb dX10_reckons_150 rfl (lv_at hl 3 rfl) ?_
            refine va_get (ci := 10) (v := .ref (z 15)) (C := RX10) (T := TX10) (N := 40) hx hb hg inX10 hown hK hP 2 rfl rfl 15 (by decide) (hg _ q_5_239) (fun _ h9 => h9) rfl dX10_reckons_151 ?_
            refine lv_iload_n hx hb dX10_reckons_154 rfl (lv_at hl 0 rfl) ?_
            refine lv_iconst (v := 1) hx hb dX10_reckons_155 (by decide) ?_
            refine lv_iadd hx hb dX10_reckons_156 ?_
            refine lv_topi (fun x_35 ex_35 => ?_)
            have bx_35 : iv 2 898 x_35 := by rw [ex_35]; exact iv_add bx_31 (iv_c (1 : Int32) (a := 1) (b := 1) (by decide)) (by decide)
            replace hR := tb hR ex_35
            refine va_iald hx hb hK hP 0 0 rfl rfl (iv_in bx_35 (by decide)) dX10_reckons_157 ?_
            refine lv_topi (fun x_36 ex_36 => ?_)
            replace hR := tb hR ex_36
            refine va_iast hx hb hK hP hD hS 0 0 rfl rfl (iv_in bx_32 (by decide)) dX10_reckons_158 (fun H locs hP hD hS => ?_)
            obtain ⟨f_37, ef_37, hP, hD⟩ : ∃ f_37 : Nat → Int32, f_37 = (upd f_3 (x_32 : Int32).toNatClampNeg x_36) ∧ va_P V.1 vwCl [(z 15, aI V 900 f_37), (z 16, aI V 6 fz16), (z 0, .inr (10, mo z pz0_0 pz0_5 pz0_6 pz0_7 pz0_8 pz0_9 pz0_10 pz0_11 pz0_12 pz0_13 pz0_14 pz0_18 pz0_19 pz0_22 pz0_23 pz0_29)), (z 1, aI V 3075 fz1)] H ∧ va_D A [(z 15, aI V 900 f_37), (z 16, aI V 6 fz16), (z 0, .inr (10, mo z pz0_0 pz0_5 pz0_6 pz0_7 pz0_8 pz0_9 pz0_10 pz0_11 pz0_12 pz0_13 pz0_14 pz0_18 pz0_19 pz0_22 pz0_23 pz0_29)), (z 1, aI V 3075 fz1)] := ⟨_, rfl, hP, hD⟩
            replace hR := tb hR ef_37
            refine lv_goto (tgt := 192) hx hb dX10_reckons_159 (by decide) ?_
            obtain ⟨x_38, ex_38⟩ : ∃ z9 : Int32, z9 = u_1 + 1 := ⟨_, rfl⟩
            have bx_38 : iv 1 900 x_38 := by rw [ex_38]; exact iv_add b_8 (iv_c (1 : Int32) (a := 1) (b := 1) (by decide)) (by decide)
            replace hR := tb hR ex_38
            refine lv_iinc (v := x_38) (lv' := [(3, .int x_38), (2, .int x_31), (4, .int x_13), (0, .ref (z 0)), (1, .int 0)]) hx hb dX10_reckons_192 hl (k := 2) rfl (by rw [ex_38]; rfl) (by decide) rfl (fun ls hl => ?_)
            refine lv_goto (tgt := 4) hx hb dX10_reckons_195 (by decide) ?_
            exact ihn_4 _ _ _ _ (by rw [en_4, ex_38]; exact mu_up b_8 (by decide)) ⟨x_38, x_31, f_37, (iv_w bx_38 (by decide)), (iv_w bx_31 (by decide)), (RK_s (law := (0 : Int32)) (i6 := 6) (iv_c (0 : Int32) (by decide)) b_8 inn_4_0 (by decide) ex_10 bx_10 ex_11 ex_12 ex_13 ex_38 (by have q8 := toInt_add ex_31 b_30 (iv_c ((-2) : Int32) (a := (-2)) (b := (-2)) (by decide)) (by decide); have q7 : ((-2) : Int32).toInt = (-2) := (by decide); have q9 := eff_if c_18; omega)), (tbk hAn_4 hR), rfl, hP, hD, hS, lv_sub hl [0, 1, 3, 4] rfl⟩
          · replace hR := ti hR c_34
            have b_39 : iv 1 1 x_33 := iv_q c_34 (iv_c (1 : Int32) (a := 1) (b := 1) (by decide))
            refine lv_aload_n hx hb dX10_reckons_141 rfl (lv_at hl 3 rfl) ?_
            refine va_get (ci := 10) (v := .ref (z 15)) (C := RX10) (T := TX10) (N := 40) hx hb hg inX10 hown hK hP 2 rfl rfl 15 (by decide) (hg _ q_5_239) (fun _ h9 => h9) rfl dX10_reckons_142 ?_
            refine lv_iload_n hx hb dX10_reckons_145 rfl (lv_at hl 0 rfl) ?_
            refine va_iald hx hb hK hP 0 0 rfl rfl (iv_in bx_31 (by decide)) dX10_reckons_146 ?_
            refine lv_topi (fun x_40 ex_40 => ?_)
            replace hR := tb hR ex_40
            refine lv_goto (tgt := 158) hx hb dX10_reckons_147 (by decide) ?_
            refine va_iast hx hb hK hP hD hS 0 0 rfl rfl (iv_in bx_32 (by decide)) dX10_reckons_158 (fun H locs hP hD hS => ?_)
            obtain ⟨f_41, ef_41, hP, hD⟩ : ∃ f_41 : Nat → Int32, f_41 = (upd f_3 (x_32 : Int32).toNatClampNeg x_40) ∧ va_P V.1 vwCl [(z 15, aI V 900 f_41), (z 16, aI V 6 fz16), (z 0, .inr (10, mo z pz0_0 pz0_5 pz0_6 pz0_7 pz0_8 pz0_9 pz0_10 pz0_11 pz0_12 pz0_13 pz0_14 pz0_18 pz0_19 pz0_22 pz0_23 pz0_29)), (z 1, aI V 3075 fz1)] H ∧ va_D A [(z 15, aI V 900 f_41), (z 16, aI V 6 fz16), (z 0, .inr (10, mo z pz0_0 pz0_5 pz0_6 pz0_7 pz0_8 pz0_9 pz0_10 pz0_11 pz0_12 pz0_13 pz0_14 pz0_18 pz0_19 pz0_22 pz0_23 pz0_29)), (z 1, aI V 3075 fz1)] := ⟨_, rfl, hP, hD⟩
            replace hR := tb hR ef_41
            refine lv_goto (tgt := 192) hx hb dX10_reckons_159 (by decide) ?_
            obtain ⟨x_42, ex_42⟩ : ∃ z9 : Int32, z9 = u_1 + 1 := ⟨_, rfl⟩
            have bx_42 : iv 1 900 x_42 := by rw [ex_42]; exact iv_add b_8 (iv_c (1 : Int32) (a := 1) (b := 1) (by decide)) (by decide)
            replace hR := tb hR ex_42
            refine lv_iinc (v := x_42) (lv' := [(3, .int x_42), (2, .int x_31), (4, .int x_13), (0, .ref (z 0)), (1, .int 0)]) hx hb dX10_reckons_192 hl (k := 2) rfl (by rw [ex_42]; rfl) (by decide) rfl (fun ls hl => ?_)
            refine lv_goto (tgt := 4) hx hb dX10_reckons_195 (by decide) ?_
            exact ihn_4 _ _ _ _ (by rw [en_4, ex_42]; exact mu_up b_8 (by decide)) ⟨x_42, x_31, f_41, (iv_w bx_42 (by decide)), (iv_w bx_31 (by decide)), (RK_s (law := (0 : Int32)) (i6 := 6) (iv_c (0 : Int32) (by decide)) b_8 inn_4_0 (by decide) ex_10 bx_10 ex_11 ex_12 ex_13 ex_42 (by have q8 := toInt_add ex_31 b_30 (iv_c ((-2) : Int32) (a := (-2)) (b := (-2)) (by decide)) (by decide); have q7 : ((-2) : Int32).toInt = (-2) := (by decide); have q9 := eff_if c_18; omega)), (tbk hAn_4 hR), rfl, hP, hD, hS, lv_sub hl [0, 1, 3, 4] rfl⟩
      · replace hR := ti hR c_17
        have b_43 : iv 3006 3006 x_13 := iv_q c_17 (iv_c (3006 : Int32) (a := 3006) (b := 3006) (by decide))
        have b_44 : iv 1 899 u_2 := by have q9 := hc_x_13.2.1; have q8 := ned_not c_17; have q7 := b_14; unfold iv at *; omega
        refine lv_aload_n hx hb dX10_reckons_90 rfl (lv_at hl 3 rfl) ?_
        refine va_get (ci := 10) (v := .ref (z 15)) (C := RX10) (T := TX10) (N := 40) hx hb hg inX10 hown hK hP 2 rfl rfl 15 (by decide) (hg _ q_5_239) (fun _ h9 => h9) rfl dX10_reckons_91 ?_
        refine lv_iload_n hx hb dX10_reckons_94 rfl (lv_at hl 2 rfl) ?_
        refine lv_iconst (v := 1) hx hb dX10_reckons_95 (by decide) ?_
        refine lv_isub hx hb dX10_reckons_96 ?_
        refine lv_topi (fun x_45 ex_45 => ?_)
        have bx_45 : iv 0 898 x_45 := by rw [ex_45]; exact iv_sub b_44 (iv_c (1 : Int32) (a := 1) (b := 1) (by decide)) (by decide)
        replace hR := tb hR ex_45
        refine lv_iconst (v := 1) hx hb dX10_reckons_97 (by decide) ?_
        refine lv_aload_n hx hb dX10_reckons_98 rfl (lv_at hl 3 rfl) ?_
        refine va_get (ci := 10) (v := .ref (z 15)) (C := RX10) (T := TX10) (N := 40) hx hb hg inX10 hown hK hP 2 rfl rfl 15 (by decide) (hg _ q_5_239) (fun _ h9 => h9) rfl dX10_reckons_99 ?_
        refine lv_iload_n hx hb dX10_reckons_102 rfl (lv_at hl 2 rfl) ?_
        refine lv_iconst (v := 1) hx hb dX10_reckons_103 (by decide) ?_
        refine lv_isub hx hb dX10_reckons_104 ?_
        refine tpi (y := x_45) ex_45.symm ?_
        refine va_iald hx hb hK hP 0 0 rfl rfl (iv_in bx_45 (by decide)) dX10_reckons_105 ?_
        refine lv_topi (fun x_46 ex_46 => ?_)
        replace hR := tb hR ex_46
        refine lv_isub hx hb dX10_reckons_106 ?_
        refine lv_topi (fun x_47 ex_47 => ?_)
        replace hR := tb hR ex_47
        refine va_iast hx hb hK hP hD hS 0 0 rfl rfl (iv_in bx_45 (by decide)) dX10_reckons_107 (fun H locs hP hD hS => ?_)
        obtain ⟨f_48, ef_48, hP, hD⟩ : ∃ f_48 : Nat → Int32, f_48 = (upd f_3 (x_45 : Int32).toNatClampNeg x_47) ∧ va_P V.1 vwCl [(z 15, aI V 900 f_48), (z 16, aI V 6 fz16), (z 0, .inr (10, mo z pz0_0 pz0_5 pz0_6 pz0_7 pz0_8 pz0_9 pz0_10 pz0_11 pz0_12 pz0_13 pz0_14 pz0_18 pz0_19 pz0_22 pz0_23 pz0_29)), (z 1, aI V 3075 fz1)] H ∧ va_D A [(z 15, aI V 900 f_48), (z 16, aI V 6 fz16), (z 0, .inr (10, mo z pz0_0 pz0_5 pz0_6 pz0_7 pz0_8 pz0_9 pz0_10 pz0_11 pz0_12 pz0_13 pz0_14 pz0_18 pz0_19 pz0_22 pz0_23 pz0_29)), (z 1, aI V 3075 fz1)] := ⟨_, rfl, hP, hD⟩
        replace hR := tb hR ef_48
        refine lv_goto (tgt := 192) hx hb dX10_reckons_108 (by decide) ?_
        obtain ⟨x_49, ex_49⟩ : ∃ z9 : Int32, z9 = u_1 + 1 := ⟨_, rfl⟩
        have bx_49 : iv 1 900 x_49 := by rw [ex_49]; exact iv_add b_8 (iv_c (1 : Int32) (a := 1) (b := 1) (by decide)) (by decide)
        replace hR := tb hR ex_49
        refine lv_iinc (v := x_49) (lv' := [(3, .int x_49), (4, .int x_13), (2, .int u_2), (0, .ref (z 0)), (1, .int 0)]) hx hb dX10_reckons_192 hl (k := 1) rfl (by rw [ex_49]; rfl) (by decide) rfl (fun ls hl => ?_)
        refine lv_goto (tgt := 4) hx hb dX10_reckons_195 (by decide) ?_
        exact ihn_4 _ _ _ _ (by rw [en_4, ex_49]; exact mu_up b_8 (by decide)) ⟨x_49, u_2, f_48, (iv_w bx_49 (by decide)), (iv_w b_44 (by decide)), (RK_s (law := (0 : Int32)) (i6 := 6) (iv_c (0 : Int32) (by decide)) b_8 inn_4_0 (by decide) ex_10 bx_10 ex_11 ex_12 ex_13 ex_49 (by have q9 := eff_not c_17; omega)), (tbk hAn_4 hR), rfl, hP, hD, hS, lv_sub hl [0, 2, 3, 4] rfl⟩
    · replace hR := te hR c_15
      have b_50 : iv (-2147483648) 2999 x_13 := iv_l1 (Int32.not_le.mp c_15) (iv_top x_13) (iv_c (3000 : Int32) (a := 3000) (b := 3000) (by decide)) (by decide)
      refine lv_aload_n hx hb dX10_reckons_46 rfl (lv_at hl 3 rfl) ?_
      refine va_get (ci := 10) (v := .ref (z 15)) (C := RX10) (T := TX10) (N := 40) hx hb hg inX10 hown hK hP 2 rfl rfl 15 (by decide) (hg _ q_5_239) (fun _ h9 => h9) rfl dX10_reckons_47 ?_
      refine lv_iload_n hx hb dX10_reckons_50 rfl (lv_at hl 2 rfl) ?_
      refine lv_iload hx hb dX10_reckons_51 (lv_at hl 0 rfl) ?_
      refine lv_sipush (v := 1000) hx hb dX10_reckons_53 (by decide) ?_
      refine lv_icmp_ge (tgt := 64) hx hb dX10_reckons_56 (by decide) (fun c_51 => ?_) (fun c_51 => ?_)
      · replace hR := ti hR c_51
        have b_52 : iv 1000 2999 x_13 := iv_e2 c_51 (iv_c (1000 : Int32) (a := 1000) (b := 1000) (by decide)) b_50 (by decide)
        refine lv_aload_n hx hb dX10_reckons_64 rfl (lv_at hl 3 rfl) ?_
        refine va_get (ci := 10) (v := .ref (z 16)) (C := RX10) (T := TX10) (N := 40) hx hb hg inX10 hown hK hP 2 rfl rfl 16 (by decide) (hg _ q_6_0) (fun _ h9 => h9) rfl dX10_reckons_65 ?_
        refine lv_iload hx hb dX10_reckons_68 (lv_at hl 0 rfl) ?_
        refine lv_sipush (v := 1000) hx hb dX10_reckons_70 (by decide) ?_
        refine lv_isub hx hb dX10_reckons_73 ?_
        refine lv_topi (fun x_53 ex_53 => ?_)
        have bx_53 : iv 0 1999 x_53 := by rw [ex_53]; exact iv_subl c_51 b_52 (iv_c (1000 : Int32) (a := 1000) (b := 1000) (by decide)) (by decide)
        replace hR := tb hR ex_53
        have b_54 : iv 0 5 x_53 := by have q9 := hc_x_13.1.2; have q8 := b_52; have q7 := toInt_sub ex_53 b_52 (iv_c (1000 : Int32) (a := 1000) (b := 1000) (by decide)) (by decide); have q6 : (1000 : Int32).toInt = 1000 := (by decide); unfold iv at *; omega
        refine va_iald hx hb hK hP 1 0 rfl rfl (iv_in b_54 (by decide)) dX10_reckons_74 ?_
        refine lv_topi (fun x_55 ex_55 => ?_)
        replace hR := tb hR ex_55
        refine va_iast hx hb hK hP hD hS 0 0 rfl rfl (iv_in b_14 (by decide)) dX10_reckons_75 (fun H locs hP hD hS => ?_)
        obtain ⟨f_56, ef_56, hP, hD⟩ : ∃ f_56 : Nat → Int32, f_56 = (upd f_3 (u_2 : Int32).toNatClampNeg x_55) ∧ va_P V.1 vwCl [(z 15, aI V 900 f_56), (z 16, aI V 6 fz16), (z 0, .inr (10, mo z pz0_0 pz0_5 pz0_6 pz0_7 pz0_8 pz0_9 pz0_10 pz0_11 pz0_12 pz0_13 pz0_14 pz0_18 pz0_19 pz0_22 pz0_23 pz0_29)), (z 1, aI V 3075 fz1)] H ∧ va_D A [(z 15, aI V 900 f_56), (z 16, aI V 6 fz16), (z 0, .inr (10, mo z pz0_0 pz0_5 pz0_6 pz0_7 pz0_8 pz0_9 pz0_10 pz0_11 pz0_12 pz0_13 pz0_14 pz0_18 pz0_19 pz0_22 pz0_23 pz0_29)), (z 1, aI V 3075 fz1)] := ⟨_, rfl, hP, hD⟩
        replace hR := tb hR ef_56
        obtain ⟨x_57, ex_57⟩ : ∃ z9 : Int32, z9 = u_2 + 1 := ⟨_, rfl⟩
        have bx_57 : iv 1 900 x_57 := by rw [ex_57]; exact iv_add b_14 (iv_c (1 : Int32) (a := 1) (b := 1) (by decide)) (by decide)
        replace hR := tb hR ex_57
        refine lv_iinc (v := x_57) (lv' := [(2, .int x_57), (4, .int x_13), (3, .int u_1), (0, .ref (z 0)), (1, .int 0)]) hx hb dX10_reckons_76 hl (k := 2) rfl (by rw [ex_57]; rfl) (by decide) rfl (fun ls hl => ?_)
        refine lv_goto (tgt := 192) hx hb dX10_reckons_79 (by decide) ?_
        obtain ⟨x_58, ex_58⟩ : ∃ z9 : Int32, z9 = u_1 + 1 := ⟨_, rfl⟩
        have bx_58 : iv 1 900 x_58 := by rw [ex_58]; exact iv_add b_8 (iv_c (1 : Int32) (a := 1) (b := 1) (by decide)) (by decide)
        replace hR := tb hR ex_58
        refine lv_iinc (v := x_58) (lv' := [(3, .int x_58), (2, .int x_57), (4, .int x_13), (0, .ref (z 0)), (1, .int 0)]) hx hb dX10_reckons_192 hl (k := 2) rfl (by rw [ex_58]; rfl) (by decide) rfl (fun ls hl => ?_)
        refine lv_goto (tgt := 4) hx hb dX10_reckons_195 (by decide) ?_
        exact ihn_4 _ _ _ _ (by rw [en_4, ex_58]; exact mu_up b_8 (by decide)) ⟨x_58, x_57, f_56, (iv_w bx_58 (by decide)), (iv_w bx_57 (by decide)), (RK_s (law := (0 : Int32)) (i6 := 6) (iv_c (0 : Int32) (by decide)) b_8 inn_4_0 (by decide) ex_10 bx_10 ex_11 ex_12 ex_13 ex_58 (by have q8 := toInt_add ex_57 b_14 (iv_c (1 : Int32) (a := 1) (b := 1) (by decide)) (by decide); have q7 : (1 : Int32).toInt = 1 := (by decide); have q9 := eff_push (Int32.not_le.mp c_15); omega)), (tbk hAn_4 hR), rfl, hP, hD, hS, lv_sub hl [0, 1, 3, 4] rfl⟩
      · replace hR := te hR c_51
        have b_59 : iv (-2147483648) 999 x_13 := iv_l1 (Int32.not_le.mp c_51) b_50 (iv_c (1000 : Int32) (a := 1000) (b := 1000) (by decide)) (by decide)
        refine lv_iload hx hb dX10_reckons_59 (lv_at hl 0 rfl) ?_
        refine lv_goto (tgt := 75) hx hb dX10_reckons_61 (by decide) ?_
        refine va_iast hx hb hK hP hD hS 0 0 rfl rfl (iv_in b_14 (by decide)) dX10_reckons_75 (fun H locs hP hD hS => ?_)
        obtain ⟨f_60, ef_60, hP, hD⟩ : ∃ f_60 : Nat → Int32, f_60 = (upd f_3 (u_2 : Int32).toNatClampNeg x_13) ∧ va_P V.1 vwCl [(z 15, aI V 900 f_60), (z 16, aI V 6 fz16), (z 0, .inr (10, mo z pz0_0 pz0_5 pz0_6 pz0_7 pz0_8 pz0_9 pz0_10 pz0_11 pz0_12 pz0_13 pz0_14 pz0_18 pz0_19 pz0_22 pz0_23 pz0_29)), (z 1, aI V 3075 fz1)] H ∧ va_D A [(z 15, aI V 900 f_60), (z 16, aI V 6 fz16), (z 0, .inr (10, mo z pz0_0 pz0_5 pz0_6 pz0_7 pz0_8 pz0_9 pz0_10 pz0_11 pz0_12 pz0_13 pz0_14 pz0_18 pz0_19 pz0_22 pz0_23 pz0_29)), (z 1, aI V 3075 fz1)] := ⟨_, rfl, hP, hD⟩
        replace hR := tb hR ef_60
        obtain ⟨x_61, ex_61⟩ : ∃ z9 : Int32, z9 = u_2 + 1 := ⟨_, rfl⟩
        have bx_61 : iv 1 900 x_61 := by rw [ex_61]; exact iv_add b_14 (iv_c (1 : Int32) (a := 1) (b := 1) (by decide)) (by decide)
        replace hR := tb hR ex_61
        refine lv_iinc (v := x_61) (lv' := [(2, .int x_61), (4, .int x_13), (3, .int u_1), (0, .ref (z 0)), (1, .int 0)]) hx hb dX10_reckons_76 hl (k := 2) rfl (by rw [ex_61]; rfl) (by decide) rfl (fun ls hl => ?_)
        refine lv_goto (tgt := 192) hx hb dX10_reckons_79 (by decide) ?_
        obtain ⟨x_62, ex_62⟩ : ∃ z9 : Int32, z9 = u_1 + 1 := ⟨_, rfl⟩
        have bx_62 : iv 1 900 x_62 := by rw [ex_62]; exact iv_add b_8 (iv_c (1 : Int32) (a := 1) (b := 1) (by decide)) (by decide)
        replace hR := tb hR ex_62
        refine lv_iinc (v := x_62) (lv' := [(3, .int x_62), (2, .int x_61), (4, .int x_13), (0, .ref (z 0)), (1, .int 0)]) hx hb dX10_reckons_192 hl (k := 2) rfl (by rw [ex_62]; rfl) (by decide) rfl (fun ls hl => ?_)
        refine lv_goto (tgt := 4) hx hb dX10_reckons_195 (by decide) ?_
        exact ihn_4 _ _ _ _ (by rw [en_4, ex_62]; exact mu_up b_8 (by decide)) ⟨x_62, x_61, f_60, (iv_w bx_62 (by decide)), (iv_w bx_61 (by decide)), (RK_s (law := (0 : Int32)) (i6 := 6) (iv_c (0 : Int32) (by decide)) b_8 inn_4_0 (by decide) ex_10 bx_10 ex_11 ex_12 ex_13 ex_62 (by have q8 := toInt_add ex_61 b_14 (iv_c (1 : Int32) (a := 1) (b := 1) (by decide)) (by decide); have q7 : (1 : Int32).toInt = 1 := (by decide); have q9 := eff_push (Int32.not_le.mp c_15); omega)), (tbk hAn_4 hR), rfl, hP, hD, hS, lv_sub hl [0, 1, 3, 4] rfl⟩
