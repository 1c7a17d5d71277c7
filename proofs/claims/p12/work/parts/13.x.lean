set_option maxHeartbeats 4000000 in
set_option maxRecDepth 100000 in
theorem k_X9_putOnTape_1 (l : Launch) (V : GV) (y : Nat → Nat) (a1 : Int32) (py0_1 : Int32) (o10 : Value) (o11 : Value) (py0_12 : Int32) (py0_13 : Int32) (py0_14 : Int32) (fy1 : Nat → Int32) (bpy0_1 : iv 0 884 py0_1) (bpy0_12 : iv 0 9999 py0_12) (bpy0_13 : iv 0 9 py0_13) (tfy1 : ∀ j, iv (-128) 127 (fy1 j)) : Ct l V yX9_putOnTape (.code yX9_putOnTape cX9_putOnTape 3 none) 1 [.ref (y 0), .int a1] [(y 0, .inr (9, o9_rirrrrrrrrvviii (y 1) py0_1 (y 2) (y 10) (y 19) (y 25) (y 26) (y 30) (y 31) (y 32) o10 o11 py0_12 py0_13 py0_14)), (y 1, aB V 900 fy1)] 0 0 (QV V (fun (w : va_W) => ∃ (v0 : Int32) (g1 : Nat → Int32), iv 0 888 v0 ∧ (∀ j, iv (-128) 127 (g1 j)) ∧ (v0 = py0_1 + 4) ∧ (g1 = wC4 fy1 py0_1 a1) ∧ (v0 = p4 py0_1) ∧ w = [(y 0, .inr (9, o9_rirrrrrrrrvviii (y 1) v0 (y 2) (y 10) (y 19) (y 25) (y 26) (y 30) (y 31) (y 32) o10 o11 py0_12 py0_13 py0_14)), (y 1, aB V 900 g1)])) := by
  refine Ct.of (by decide) (Nat.le_of_ble_eq_true rfl) (fun p e s m below meth c A ls hx hb hr hml hown hlk hnm hg hP hK hD hE hA hS hl => ?_)
  have hl : lv_has ls 3 [(0, .ref (y 0)), (1, .int a1)] := hl
  refine lv_bipush (v := 24) hx hb dX9_putOnTape_0 (by decide) ?_
  refine lv_istore_n (lv' := [(2, .int 24), (0, .ref (y 0)), (1, .int a1)]) hx hb dX9_putOnTape_2 rfl hl (by decide) rfl (fun ls hl => ?_)
  refine lv_iload_n hx hb dX9_putOnTape_3 rfl (lv_at hl 0 rfl) ?_
  refine lv_if_lt (tgt := 36) hx hb dX9_putOnTape_4 (by decide) (fun c_2 => absurd c_2 (by decide)) (fun _ => ?_)
  refine lv_aload_n hx hb dX9_putOnTape_7 rfl (lv_at hl 1 rfl) ?_
  refine va_get (ci := 9) (v := .ref (y 1)) (C := RX9) (T := TX9) (N := 15) hx hb hg inX9 hown hK hP 0 rfl rfl 0 (by decide) (hg _ q_2_36) (fun _ h9 => h9) rfl dX9_putOnTape_8 ?_
  refine lv_aload_n hx hb dX9_putOnTape_11 rfl (lv_at hl 1 rfl) ?_
  refine va_get (ci := 9) (v := .int py0_1) (C := RX9) (T := TX9) (N := 15) hx hb hg inX9 hown hK hP 0 rfl rfl 1 (by decide) (hg _ q_2_37) (fun _ h9 => h9) rfl dX9_putOnTape_12 ?_
  refine lv_iload_n hx hb dX9_putOnTape_15 rfl (lv_at hl 2 rfl) ?_
  refine lv_iload_n hx hb dX9_putOnTape_16 rfl (lv_at hl 0 rfl) ?_
  refine lv_iushr hx hb dX9_putOnTape_17 rfl ?_
  refine lv_topi (fun x_3 ex_3 => ?_)
  refine lv_i2b hx hb dX9_putOnTape_18 rfl ?_
  refine lv_topi (fun x_4 ex_4 => ?_)
  refine va_bast hx hb hK hP hD hS 1 1 rfl rfl (iv_in bpy0_1 (by decide)) dX9_putOnTape_19 (fun H locs hP hD hS => ?_)
  obtain ⟨f_5, ef_5, tf_5, hP, hD⟩ : ∃ f_5 : Nat → Int32, f_5 = (upd fy1 (py0_1 : Int32).toNatClampNeg (vp_nar .byte x_4)) ∧ (∀ j, iv (-128) 127 (f_5 j)) ∧ va_P V.1 vwCl [(y 0, .inr (9, o9_rirrrrrrrrvviii (y 1) py0_1 (y 2) (y 10) (y 19) (y 25) (y 26) (y 30) (y 31) (y 32) o10 o11 py0_12 py0_13 py0_14)), (y 1, aB V 900 f_5)] H ∧ va_D A [(y 0, .inr (9, o9_rirrrrrrrrvviii (y 1) py0_1 (y 2) (y 10) (y 19) (y 25) (y 26) (y 30) (y 31) (y 32) o10 o11 py0_12 py0_13 py0_14)), (y 1, aB V 900 f_5)] := ⟨_, rfl, ivU tfy1 _ (nar8 _), hP, hD⟩
  refine lv_aload_n hx hb dX9_putOnTape_20 rfl (lv_at hl 1 rfl) ?_
  refine lv_dup hx hb dX9_putOnTape_21 rfl ?_
  refine va_get (ci := 9) (v := .int py0_1) (C := RX9) (T := TX9) (N := 15) hx hb hg inX9 hown hK hP 0 rfl rfl 1 (by decide) (hg _ q_2_37) (fun _ h9 => h9) rfl dX9_putOnTape_22 ?_
  refine lv_iconst (v := 1) hx hb dX9_putOnTape_25 (by decide) ?_
  refine lv_iadd hx hb dX9_putOnTape_26 ?_
  refine lv_topi (fun x_6 ex_6 => ?_)
  have bx_6 : iv 1 885 x_6 := by rw [ex_6]; exact iv_add bpy0_1 (iv_c (1 : Int32) (a := 1) (b := 1) (by decide)) (by decide)
  refine va_put (ci := 9) (v := .int x_6) (ty := .int) (C := RX9) (T := TX9) (N := 15) hx hb hg inX9 tyX9 tyX9_ok nmX9 hown hK hP hD hS 0 rfl rfl 1 (by decide) (hg _ q_2_37) (fun _ h9 => h9) rfl (by decide +kernel) rfl rfl (Nat.le_of_ble_eq_true rfl) dX9_putOnTape_27 (fun H locs hP hD hS => ?_)
  have hP : va_P V.1 vwCl [(y 0, .inr (9, o9_rirrrrrrrrvviii (y 1) x_6 (y 2) (y 10) (y 19) (y 25) (y 26) (y 30) (y 31) (y 32) o10 o11 py0_12 py0_13 py0_14)), (y 1, aB V 900 f_5)] H := hP
  have hD := cpD hP hD
  refine lv_iinc (v := 16) (lv' := [(2, .int 16), (0, .ref (y 0)), (1, .int a1)]) hx hb dX9_putOnTape_30 hl (k := 0) rfl (by decide +kernel) (by decide) rfl (fun ls hl => ?_)
  refine lv_goto (tgt := 3) hx hb dX9_putOnTape_33 (by decide) ?_
  refine lv_iload_n hx hb dX9_putOnTape_3 rfl (lv_at hl 0 rfl) ?_
  refine lv_if_lt (tgt := 36) hx hb dX9_putOnTape_4 (by decide) (fun c_8 => absurd c_8 (by decide)) (fun _ => ?_)
  refine lv_aload_n hx hb dX9_putOnTape_7 rfl (lv_at hl 1 rfl) ?_
  refine va_get (ci := 9) (v := .ref (y 1)) (C := RX9) (T := TX9) (N := 15) hx hb hg inX9 hown hK hP 0 rfl rfl 0 (by decide) (hg _ q_2_36) (fun _ h9 => h9) rfl dX9_putOnTape_8 ?_
  refine lv_aload_n hx hb dX9_putOnTape_11 rfl (lv_at hl 1 rfl) ?_
  refine va_get (ci := 9) (v := .int x_6) (C := RX9) (T := TX9) (N := 15) hx hb hg inX9 hown hK hP 0 rfl rfl 1 (by decide) (hg _ q_2_37) (fun _ h9 => h9) rfl dX9_putOnTape_12 ?_
  refine lv_iload_n hx hb dX9_putOnTape_15 rfl (lv_at hl 2 rfl) ?_
  refine lv_iload_n hx hb dX9_putOnTape_16 rfl (lv_at hl 0 rfl) ?_
  refine lv_iushr hx hb dX9_putOnTape_17 rfl ?_
  refine lv_topi (fun x_9 ex_9 => ?_)
  refine lv_i2b hx hb dX9_putOnTape_18 rfl ?_
  refine lv_topi (fun x_10 ex_10 => ?_)
  refine va_bast hx hb hK hP hD hS 1 1 rfl rfl (iv_in bx_6 (by decide)) dX9_putOnTape_19 (fun H locs hP hD hS => ?_)
  obtain ⟨f_11, ef_11, tf_11, hP, hD⟩ : ∃ f_11 : Nat → Int32, f_11 = (upd f_5 (x_6 : Int32).toNatClampNeg (vp_nar .byte x_10)) ∧ (∀ j, iv (-128) 127 (f_11 j)) ∧ va_P V.1 vwCl [(y 0, .inr (9, o9_rirrrrrrrrvviii (y 1) x_6 (y 2) (y 10) (y 19) (y 25) (y 26) (y 30) (y 31) (y 32) o10 o11 py0_12 py0_13 py0_14)), (y 1, aB V 900 f_11)] H ∧ va_D A [(y 0, .inr (9, o9_rirrrrrrrrvviii (y 1) x_6 (y 2) (y 10) (y 19) (y 25) (y 26) (y 30) (y 31) (y 32) o10 o11 py0_12 py0_13 py0_14)), (y 1, aB V 900 f_11)] := ⟨_, rfl, ivU tf_5 _ (nar8 _), hP, hD⟩
  refine lv_aload_n hx hb dX9_putOnTape_20 rfl (lv_at hl 1 rfl) ?_
  refine lv_dup hx hb dX9_putOnTape_21 rfl ?_
  refine va_get (ci := 9) (v := .int x_6) (C := RX9) (T := TX9) (N := 15) hx hb hg inX9 hown hK hP 0 rfl rfl 1 (by decide) (hg _ q_2_37) (fun _ h9 => h9) rfl dX9_putOnTape_22 ?_
  refine lv_iconst (v := 1) hx hb dX9_putOnTape_25 (by decide) ?_
  refine lv_iadd hx hb dX9_putOnTape_26 ?_
  refine lv_topi (fun x_12 ex_12 => ?_)
  have bx_12 : iv 2 886 x_12 := by rw [ex_12]; exact iv_add bx_6 (iv_c (1 : Int32) (a := 1) (b := 1) (by decide)) (by decide)
  refine va_put (ci := 9) (v := .int x_12) (ty := .int) (C := RX9) (T := TX9) (N := 15) hx hb hg inX9 tyX9 tyX9_ok nmX9 hown hK hP hD hS 0 rfl rfl 1 (by decide) (hg _ q_2_37) (fun _ h9 => h9) rfl (by decide +kernel) rfl rfl (Nat.le_of_ble_eq_true rfl) dX9_putOnTape_27 (fun H locs hP hD hS => ?_)
  have hP : va_P V.1 vwCl [(y 0, .inr (9, o9_rirrrrrrrrvviii (y 1) x_12 (y 2) (y 10) (y 19) (y 25) (y 26) (y 30) (y 31) (y 32) o10 o11 py0_12 py0_13 py0_14)), (y 1, aB V 900 f_11)] H := hP
  have hD := cpD hP hD
  refine lv_iinc (v := 8) (lv' := [(2, .int 8), (0, .ref (y 0)), (1, .int a1)]) hx hb dX9_putOnTape_30 hl (k := 0) rfl (by decide +kernel) (by decide) rfl (fun ls hl => ?_)
  refine lv_goto (tgt := 3) hx hb dX9_putOnTape_33 (by decide) ?_
  refine lv_iload_n hx hb dX9_putOnTape_3 rfl (lv_at hl 0 rfl) ?_
  refine lv_if_lt (tgt := 36) hx hb dX9_putOnTape_4 (by decide) (fun c_14 => absurd c_14 (by decide)) (fun _ => ?_)
  refine lv_aload_n hx hb dX9_putOnTape_7 rfl (lv_at hl 1 rfl) ?_
  refine va_get (ci := 9) (v := .ref (y 1)) (C := RX9) (T := TX9) (N := 15) hx hb hg inX9 hown hK hP 0 rfl rfl 0 (by decide) (hg _ q_2_36) (fun _ h9 => h9) rfl dX9_putOnTape_8 ?_
  refine lv_aload_n hx hb dX9_putOnTape_11 rfl (lv_at hl 1 rfl) ?_
  refine va_get (ci := 9) (v := .int x_12) (C := RX9) (T := TX9) (N := 15) hx hb hg inX9 hown hK hP 0 rfl rfl 1 (by decide) (hg _ q_2_37) (fun _ h9 => h9) rfl dX9_putOnTape_12 ?_
  refine lv_iload_n hx hb dX9_putOnTape_15 rfl (lv_at hl 2 rfl) ?_
  refine lv_iload_n hx hb dX9_putOnTape_16 rfl (lv_at hl 0 rfl) ?_
  refine lv_iushr hx hb dX9_putOnTape_17 rfl ?_
  refine lv_topi (fun x_15 ex_15 => ?_)
  refine lv_i2b hx hb dX9_putOnTape_18 rfl ?_
  refine lv_topi (fun x_16 ex_16 => ?_)
  refine va_bast hx hb hK hP hD hS 1 1 rfl rfl (iv_in bx_12 (by decide)) dX9_putOnTape_19 (fun H locs hP hD hS => ?_)
  obtain ⟨f_17, ef_17, tf_17, hP, hD⟩ : ∃ f_17 : Nat → Int32, f_17 = (upd f_11 (x_12 : Int32).toNatClampNeg (vp_nar .byte x_16)) ∧ (∀ j, iv (-128) 127 (f_17 j)) ∧ va_P V.1 vwCl [(y 0, .inr (9, o9_rirrrrrrrrvviii (y 1) x_12 (y 2) (y 10) (y 19) (y 25) (y 26) (y 30) (y 31) (y 32) o10 o11 py0_12 py0_13 py0_14)), (y 1, aB V 900 f_17)] H ∧ va_D A [(y 0, .inr (9, o9_rirrrrrrrrvviii (y 1) x_12 (y 2) (y 10) (y 19) (y 25) (y 26) (y 30) (y 31) (y 32) o10 o11 py0_12 py0_13 py0_14)), (y 1, aB V 900 f_17)] := ⟨_, rfl, ivU tf_11 _ (nar8 _), hP, hD⟩
  refine lv_aload_n hx hb dX9_putOnTape_20 rfl (lv_at hl 1 rfl) ?_
  refine lv_dup hx hb dX9_putOnTape_21 rfl ?_
  refine va_get (ci := 9) (v := .int x_12) (C := RX9) (T := TX9) (N := 15) hx hb hg inX9 hown hK hP 0 rfl rfl 1 (by decide) (hg _ q_2_37) (fun _ h9 => h9) rfl dX9_putOnTape_22 ?_
  refine lv_iconst (v := 1) hx hb dX9_putOnTape_25 (by decide) ?_
  refine lv_iadd hx hb dX9_putOnTape_26 ?_
  refine lv_topi (fun x_18 ex_18 => ?_)
  have bx_18 : iv 3 887 x_18 := by rw [ex_18]; exact iv_add bx_12 (iv_c (1 : Int32) (a := 1) (b := 1) (by decide)) (by decide)
  refine va_put (ci := 9) (v := .int x_18) (ty := .int) (C := RX9) (T := TX9) (N := 15) hx hb hg inX9 tyX9 tyX9_ok nmX9 hown hK hP hD hS 0 rfl rfl 1 (by decide) (hg _ q_2_37) (fun _ h9 => h9) rfl (by decide +kernel) rfl rfl (Nat.le_of_ble_eq_true rfl) dX9_putOnTape_27 (fun H locs hP hD hS => ?_)
  have hP : va_P V.1 vwCl [(y 0, .inr (9, o9_rirrrrrrrrvviii (y 1) x_18 (y 2) (y 10) (y 19) (y 25) (y 26) (y 30) (y 31) (y 32) o10 o11 py0_12 py0_13 py0_14)), (y 1, aB V 900 f_17)] H := hP
  have hD := cpD hP hD
  refine lv_iinc (v := 0) (lv' := [(2, .int 0), (0, .ref (y 0)), (1, .int a1)]) hx hb dX9_putOnTape_30 hl (k := 0) rfl (by decide +kernel) (by decide) rfl (fun ls hl => ?_)
  refine lv_goto (tgt := 3) hx hb dX9_putOnTape_33 (by decide) ?_
  refine lv_iload_n hx hb dX9_putOnTape_3 rfl (lv_at hl 0 rfl) ?_
  refine lv_if_lt (tgt := 36) hx hb dX9_putOnTape_4 (by decide) (fun c_20 => absurd c_20 (by decide)) (fun _ => ?_)
  refine lv_aload_n hx hb dX9_putOnTape_7 rfl (lv_at hl 1 rfl) ?_
  refine va_get (ci := 9) (v := .ref (y 1)) (C := RX9) (T := TX9) (N := 15) hx hb hg inX9 hown hK hP 0 rfl rfl 0 (by decide) (hg _ q_2_36) (fun _ h9 => h9) rfl dX9_putOnTape_8 ?_
  refine lv_aload_n hx hb dX9_putOnTape_11 rfl (lv_at hl 1 rfl) ?_
  refine va_get (ci := 9) (v := .int x_18) (C := RX9) (T := TX9) (N := 15) hx hb hg inX9 hown hK hP 0 rfl rfl 1 (by decide) (hg _ q_2_37) (fun _ h9 => h9) rfl dX9_putOnTape_12 ?_
  refine lv_iload_n hx hb dX9_putOnTape_15 rfl (lv_at hl 2 rfl) ?_
  refine lv_iload_n hx hb dX9_putOnTape_16 rfl (lv_at hl 0 rfl) ?_
  refine lv_iushr hx hb dX9_putOnTape_17 rfl ?_
  refine lv_topi (fun x_21 ex_21 => ?_)
  refine lv_i2b hx hb dX9_putOnTape_18 rfl ?_
  refine lv_topi (fun x_22 ex_22 => ?_)
  refine va_bast hx hb hK hP hD hS 1 1 rfl rfl (iv_in bx_18 (by decide)) dX9_putOnTape_19 (fun H locs hP hD hS => ?_)
  obtain ⟨f_23, ef_23, tf_23, hP, hD⟩ : ∃ f_23 : Nat → Int32, f_23 = (upd f_17 (x_18 : Int32).toNatClampNeg (vp_nar .byte x_22)) ∧ (∀ j, iv (-128) 127 (f_23 j)) ∧ va_P V.1 vwCl [(y 0, .inr (9, o9_rirrrrrrrrvviii (y 1) x_18 (y 2) (y 10) (y 19) (y 25) (y 26) (y 30) (y 31) (y 32) o10 o11 py0_12 py0_13 py0_14)), (y 1, aB V 900 f_23)] H ∧ va_D A [(y 0, .inr (9, o9_rirrrrrrrrvviii (y 1) x_18 (y 2) (y 10) (y 19) (y 25) (y 26) (y 30) (y 31) (y 32) o10 o11 py0_12 py0_13 py0_14)), (y 1, aB V 900 f_23)] := ⟨_, rfl, ivU tf_17 _ (nar8 _), hP, hD⟩
  refine lv_aload_n hx hb dX9_putOnTape_20 rfl (lv_at hl 1 rfl) ?_
  refine lv_dup hx hb dX9_putOnTape_21 rfl ?_
  refine va_get (ci := 9) (v := .int x_18) (C := RX9) (T := TX9) (N := 15) hx hb hg inX9 hown hK hP 0 rfl rfl 1 (by decide) (hg _ q_2_37) (fun _ h9 => h9) rfl dX9_putOnTape_22 ?_
  refine lv_iconst (v := 1) hx hb dX9_putOnTape_25 (by decide) ?_
  refine lv_iadd hx hb dX9_putOnTape_26 ?_
  refine lv_topi (fun x_24 ex_24 => ?_)
  have bx_24 : iv 4 888 x_24 := by rw [ex_24]; exact iv_add bx_18 (iv_c (1 : Int32) (a := 1) (b := 1) (by decide)) (by decide)
  refine va_put (ci := 9) (v := .int x_24) (ty := .int) (C := RX9) (T := TX9) (N := 15) hx hb hg inX9 tyX9 tyX9_ok nmX9 hown hK hP hD hS 0 rfl rfl 1 (by decide) (hg _ q_2_37) (fun _ h9 => h9) rfl (by decide +kernel) rfl rfl (Nat.le_of_ble_eq_true rfl) dX9_putOnTape_27 (fun H locs hP hD hS => ?_)
  have hP : va_P V.1 vwCl [(y 0, .inr (9, o9_rirrrrrrrrvviii (y 1) x_24 (y 2) (y 10) (y 19) (y 25) (y 26) (y 30) (y 31) (y 32) o10 o11 py0_12 py0_13 py0_14)), (y 1, aB V 900 f_23)] H := hP
  have hD := cpD hP hD
  refine lv_iinc (v := (-8)) (lv' := [(2, .int (-8)), (0, .ref (y 0)), (1, .int a1)]) hx hb dX9_putOnTape_30 hl (k := 0) rfl (by decide +kernel) (by decide) rfl (fun ls hl => ?_)
  refine lv_goto (tgt := 3) hx hb dX9_putOnTape_33 (by decide) ?_
  refine lv_iload_n hx hb dX9_putOnTape_3 rfl (lv_at hl 0 rfl) ?_
  refine lv_if_lt (tgt := 36) hx hb dX9_putOnTape_4 (by decide) (fun _ => ?_) (fun c_26 => absurd c_26 (by decide))
  exact fiV hx hb hr hlk hK hP hD hS dX9_putOnTape_36 (Nat.le_of_ble_eq_true rfl) (Nat.le_of_ble_eq_true rfl) (⟨x_24, f_23, (iv_w bx_24 (by decide)), tf_23, (add4 ex_6 ex_12 ex_18 ex_24), (by rw [ef_23, ef_17, ef_11, ef_5, ex_22, ex_21, ex_16, ex_15, ex_10, ex_9, ex_4, ex_3, ex_18, ex_12, ex_6]; rfl), (by rw [ex_24, ex_18, ex_12, ex_6]; rfl), rfl⟩)
set_option maxHeartbeats 4000000 in
set_option maxRecDepth 100000 in
theorem k_X9_putOnTape_2 (l : Launch) (V : GV) (y : Nat → Nat) (a1 : Int32) (py0_1 : Int32) (o10 : Value) (o11 : Value) (py0_12 : Int32) (py0_13 : Int32) (py0_14 : Int32) (fy1 : Nat → Int32) (bpy0_1 : iv 0 888 py0_1) (bpy0_12 : iv 0 9999 py0_12) (bpy0_13 : iv 0 9 py0_13) (tfy1 : ∀ j, iv (-128) 127 (fy1 j)) : Ct l V yX9_putOnTape (.code yX9_putOnTape cX9_putOnTape 3 none) 1 [.ref (y 0), .int a1] [(y 0, .inr (9, o9_rirrrrrrrrvviii (y 1) py0_1 (y 2) (y 10) (y 19) (y 25) (y 26) (y 30) (y 31) (y 32) o10 o11 py0_12 py0_13 py0_14)), (y 1, aB V 900 fy1)] 0 0 (QV V (fun (w : va_W) => ∃ (v0 : Int32) (g1 : Nat → Int32), iv 0 892 v0 ∧ (∀ j, iv (-128) 127 (g1 j)) ∧ (v0 = py0_1 + 4) ∧ (g1 = wC4 fy1 py0_1 a1) ∧ (v0 = p4 py0_1) ∧ w = [(y 0, .inr (9, o9_rirrrrrrrrvviii (y 1) v0 (y 2) (y 10) (y 19) (y 25) (y 26) (y 30) (y 31) (y 32) o10 o11 py0_12 py0_13 py0_14)), (y 1, aB V 900 g1)])) := by
  refine Ct.of (by decide) (Nat.le_of_ble_eq_true rfl) (fun p e s m below meth c A ls hx hb hr hml hown hlk hnm hg hP hK hD hE hA hS hl => ?_)
  have hl : lv_has ls 3 [(0, .ref (y 0)), (1, .int a1)] := hl
  refine lv_bipush (v := 24) hx hb dX9_putOnTape_0 (by decide) ?_
  refine lv_istore_n (lv' := [(2, .int 24), (0, .ref (y 0)), (1, .int a1)]) hx hb dX9_putOnTape_2 rfl hl (by decide) rfl (fun ls hl => ?_)
  refine lv_iload_n hx hb dX9_putOnTape_3 rfl (lv_at hl 0 rfl) ?_
  refine lv_if_lt (tgt := 36) hx hb dX9_putOnTape_4 (by decide) (fun c_2 => absurd c_2 (by decide)) (fun _ => ?_)
  refine lv_aload_n hx hb dX9_putOnTape_7 rfl (lv_at hl 1 rfl) ?_
  refine va_get (ci := 9) (v := .ref (y 1)) (C := RX9) (T := TX9) (N := 15) hx hb hg inX9 hown hK hP 0 rfl rfl 0 (by decide) (hg _ q_2_36) (fun _ h9 => h9) rfl dX9_putOnTape_8 ?_
  refine lv_aload_n hx hb dX9_putOnTape_11 rfl (lv_at hl 1 rfl) ?_
  refine va_get (ci := 9) (v := .int py0_1) (C := RX9) (T := TX9) (N := 15) hx hb hg inX9 hown hK hP 0 rfl rfl 1 (by decide) (hg _ q_2_37) (fun _ h9 => h9) rfl dX9_putOnTape_12 ?_
  refine lv_iload_n hx hb dX9_putOnTape_15 rfl (lv_at hl 2 rfl) ?_
  refine lv_iload_n hx hb dX9_putOnTape_16 rfl (lv_at hl 0 rfl) ?_
  refine lv_iushr hx hb dX9_putOnTape_17 rfl ?_
  refine lv_topi (fun x_3 ex_3 => ?_)
  refine lv_i2b hx hb dX9_putOnTape_18 rfl ?_
  refine lv_topi (fun x_4 ex_4 => ?_)
  refine va_bast hx hb hK hP hD hS 1 1 rfl rfl (iv_in bpy0_1 (by decide)) dX9_putOnTape_19 (fun H locs hP hD hS => ?_)
  obtain ⟨f_5, ef_5, tf_5, hP, hD⟩ : ∃ f_5 : Nat → Int32, f_5 = (upd fy1 (py0_1 : Int32).toNatClampNeg (vp_nar .byte x_4)) ∧ (∀ j, iv (-128) 127 (f_5 j)) ∧ va_P V.1 vwCl [(y 0, .inr (9, o9_rirrrrrrrrvviii (y 1) py0_1 (y 2) (y 10) (y 19) (y 25) (y 26) (y 30) (y 31) (y 32) o10 o11 py0_12 py0_13 py0_14)), (y 1, aB V 900 f_5)] H ∧ va_D A [(y 0, .inr (9, o9_rirrrrrrrrvviii (y 1) py0_1 (y 2) (y 10) (y 19) (y 25) (y 26) (y 30) (y 31) (y 32) o10 o11 py0_12 py0_13 py0_14)), (y 1, aB V 900 f_5)] := ⟨_, rfl, ivU tfy1 _ (nar8 _), hP, hD⟩
  refine lv_aload_n hx hb dX9_putOnTape_20 rfl (lv_at hl 1 rfl) ?_
  refine lv_dup hx hb dX9_putOnTape_21 rfl ?_
  refine va_get (ci := 9) (v := .int py0_1) (C := RX9) (T := TX9) (N := 15) hx hb hg inX9 hown hK hP 0 rfl rfl 1 (by decide) (hg _ q_2_37) (fun _ h9 => h9) rfl dX9_putOnTape_22 ?_
  refine lv_iconst (v := 1) hx hb dX9_putOnTape_25 (by decide) ?_
  refine lv_iadd hx hb dX9_putOnTape_26 ?_
  refine lv_topi (fun x_6 ex_6 => ?_)
  have bx_6 : iv 1 889 x_6 := by rw [ex_6]; exact iv_add bpy0_1 (iv_c (1 : Int32) (a := 1) (b := 1) (by decide)) (by decide)
  refine va_put (ci := 9) (v := .int x_6) (ty := .int) (C := RX9) (T := TX9) (N := 15) hx hb hg inX9 tyX9 tyX9_ok nmX9 hown hK hP hD hS 0 rfl rfl 1 (by decide) (hg _ q_2_37) (fun _ h9 => h9) rfl (by decide +kernel) rfl rfl (Nat.le_of_ble_eq_true rfl) dX9_putOnTape_27 (fun H locs hP hD hS => ?_)
  have hP : va_P V.1 vwCl [(y 0, .inr (9, o9_rirrrrrrrrvviii (y 1) x_6 (y 2) (y 10) (y 19) (y 25) (y 26) (y 30) (y 31) (y 32) o10 o11 py0_12 py0_13 py0_14)), (y 1, aB V 900 f_5)] H := hP
  have hD := cpD hP hD
  refine lv_iinc (v := 16) (lv' := [(2, .int 16), (0, .ref (y 0)), (1, .int a1)]) hx hb dX9_putOnTape_30 hl (k := 0) rfl (by decide +kernel) (by decide) rfl (fun ls hl => ?_)
  refine lv_goto (tgt := 3) hx hb dX9_putOnTape_33 (by decide) ?_
  refine lv_iload_n hx hb dX9_putOnTape_3 rfl (lv_at hl 0 rfl) ?_
  refine lv_if_lt (tgt := 36) hx hb dX9_putOnTape_4 (by decide) (fun c_8 => absurd c_8 (by decide)) (fun _ => ?_)
  refine lv_aload_n hx hb dX9_putOnTape_7 rfl (lv_at hl 1 rfl) ?_
  refine va_get (ci := 9) (v := .ref (y 1)) (C := RX9) (T := TX9) (N := 15) hx hb hg inX9 hown hK hP 0 rfl rfl 0 (by decide) (hg _ q_2_36) (fun _ h9 => h9) rfl dX9_putOnTape_8 ?_
  refine lv_aload_n hx hb dX9_putOnTape_11 rfl (lv_at hl 1 rfl) ?_
  refine va_get (ci := 9) (v := .int x_6) (C := RX9) (T := TX9) (N := 15) hx hb hg inX9 hown hK hP 0 rfl rfl 1 (by decide) (hg _ q_2_37) (fun _ h9 => h9) rfl dX9_putOnTape_12 ?_
  refine lv_iload_n hx hb dX9_putOnTape_15 rfl (lv_at hl 2 rfl) ?_
  refine lv_iload_n hx hb dX9_putOnTape_16 rfl (lv_at hl 0 rfl) ?_
  refine lv_iushr hx hb dX9_putOnTape_17 rfl ?_
  refine lv_topi (fun x_9 ex_9 => ?_)
  refine lv_i2b hx hb dX9_putOnTape_18 rfl ?_
  refine lv_topi (fun x_10 ex_10 => ?_)
  refine va_bast hx hb hK hP hD hS 1 1 rfl rfl (iv_in bx_6 (by decide)) dX9_putOnTape_19 (fun H locs hP hD hS => ?_)
  obtain ⟨f_11, ef_11, tf_11, hP, hD⟩ : ∃ f_11 : Nat → Int32, f_11 = (upd f_5 (x_6 : Int32).toNatClampNeg (vp_nar .byte x_10)) ∧ (∀ j, iv (-128) 127 (f_11 j)) ∧ va_P V.1 vwCl [(y 0, .inr (9, o9_rirrrrrrrrvviii (y 1) x_6 (y 2) (y 10) (y 19) (y 25) (y 26) (y 30) (y 31) (y 32) o10 o11 py0_12 py0_13 py0_14)), (y 1, aB V 900 f_11)] H ∧ va_D A [(y 0, .inr (9, o9_rirrrrrrrrvviii (y 1) x_6 (y 2) (y 10) (y 19) (y 25) (y 26) (y 30) (y 31) (y 32) o10 o11 py0_12 py0_13 py0_14)), (y 1, aB V 900 f_11)] := ⟨_, rfl, ivU tf_5 _ (nar8 _), hP, hD⟩
  refine lv_aload_n hx hb dX9_putOnTape_20 rfl (lv_at hl 1 rfl) ?_
  refine lv_dup hx hb dX9_putOnTape_21 rfl ?_
  refine va_get (ci := 9) (v := .int x_6) (C := RX9) (T := TX9) (N := 15) hx hb hg inX9 hown hK hP 0 rfl rfl 1 (by decide) (hg _ q_2_37) (fun _ h9 => h9) rfl dX9_putOnTape_22 ?_
  refine lv_iconst (v := 1) hx hb dX9_putOnTape_25 (by decide) ?_
  refine lv_iadd hx hb dX9_putOnTape_26 ?_
  refine lv_topi (fun x_12 ex_12 => ?_)
  have bx_12 : iv 2 890 x_12 := by rw [ex_12]; exact iv_add bx_6 (iv_c (1 : Int32) (a := 1) (b := 1) (by decide)) (by decide)
  refine va_put (ci := 9) (v := .int x_12) (ty := .int) (C := RX9) (T := TX9) (N := 15) hx hb hg inX9 tyX9 tyX9_ok nmX9 hown hK hP hD hS 0 rfl rfl 1 (by decide) (hg _ q_2_37) (fun _ h9 => h9) rfl (by decide +kernel) rfl rfl (Nat.le_of_ble_eq_true rfl) dX9_putOnTape_27 (fun H locs hP hD hS => ?_)
  have hP : va_P V.1 vwCl [(y 0, .inr (9, o9_rirrrrrrrrvviii (y 1) x_12 (y 2) (y 10) (y 19) (y 25) (y 26) (y 30) (y 31) (y 32) o10 o11 py0_12 py0_13 py0_14)), (y 1, aB V 900 f_11)] H := hP
  have hD := cpD hP hD
  refine lv_iinc (v := 8) (lv' := [(2, .int 8), (0, .ref (y 0)), (1, .int a1)]) hx hb dX9_putOnTape_30 hl (k := 0) rfl (by decide +kernel) (by decide) rfl (fun ls hl => ?_)
  refine lv_goto (tgt := 3) hx hb dX9_putOnTape_33 (by decide) ?_
  refine lv_iload_n hx hb dX9_putOnTape_3 rfl (lv_at hl 0 rfl) ?_
  refine lv_if_lt (tgt := 36) hx hb dX9_putOnTape_4 (by decide) (fun c_14 => absurd c_14 (by decide)) (fun _ => ?_)
  refine lv_aload_n hx hb dX9_putOnTape_7 rfl (lv_at hl 1 rfl) ?_
  refine va_get (ci := 9) (v := .ref (y 1)) (C := RX9) (T := TX9) (N := 15) hx hb hg inX9 hown hK hP 0 rfl rfl 0 (by decide) (hg _ q_2_36) (fun _ h9 => h9) rfl dX9_putOnTape_8 ?_
  refine lv_aload_n hx hb dX9_putOnTape_11 rfl (lv_at hl 1 rfl) ?_
  refine va_get (ci := 9) (v := .int x_12) (C := RX9) (T := TX9) (N := 15) hx hb hg inX9 hown hK hP 0 rfl rfl 1 (by decide) (hg _ q_2_37) (fun _ h9 => h9) rfl dX9_putOnTape_12 ?_
  refine lv_iload_n hx hb dX9_putOnTape_15 rfl (lv_at hl 2 rfl) ?_
  refine lv_iload_n hx hb dX9_putOnTape_16 rfl (lv_at hl 0 rfl) ?_
  refine lv_iushr hx hb dX9_putOnTape_17 rfl ?_
  refine lv_topi (fun x_15 ex_15 => ?_)
  refine lv_i2b hx hb dX9_putOnTape_18 rfl ?_
  refine lv_topi (fun x_16 ex_16 => ?_)
  refine va_bast hx hb hK hP hD hS 1 1 rfl rfl (iv_in bx_12 (by decide)) dX9_putOnTape_19 (fun H locs hP hD hS => ?_)
  obtain ⟨f_17, ef_17, tf_17, hP, hD⟩ : ∃ f_17 : Nat → Int32, f_17 = (upd f_11 (x_12 : Int32).toNatClampNeg (vp_nar .byte x_16)) ∧ (∀ j, iv (-128) 127 (f_17 j)) ∧ va_P V.1 vwCl [(y 0, .inr (9, o9_rirrrrrrrrvviii (y 1) x_12 (y 2) (y 10) (y 19) (y 25) (y 26) (y 30) (y 31) (y 32) o10 o11 py0_12 py0_13 py0_14)), (y 1, aB V 900 f_17)] H ∧ va_D A [(y 0, .inr (9, o9_rirrrrrrrrvviii (y 1) x_12 (y 2) (y 10) (y 19) (y 25) (y 26) (y 30) (y 31) (y 32) o10 o11 py0_12 py0_13 py0_14)), (y 1, aB V 900 f_17)] := ⟨_, rfl, ivU tf_11 _ (nar8 _), hP, hD⟩
  refine lv_aload_n hx hb dX9_putOnTape_20 rfl (lv_at hl 1 rfl) ?_
  refine lv_dup hx hb dX9_putOnTape_21 rfl ?_
  refine va_get (ci := 9) (v := .int x_12) (C := RX9) (T := TX9) (N := 15) hx hb hg inX9 hown hK hP 0 rfl rfl 1 (by decide) (hg _ q_2_37) (fun _ h9 => h9) rfl dX9_putOnTape_22 ?_
  refine lv_iconst (v := 1) hx hb dX9_putOnTape_25 (by decide) ?_
  refine lv_iadd hx hb dX9_putOnTape_26 ?_
  refine lv_topi (fun x_18 ex_18 => ?_)
  have bx_18 : iv 3 891 x_18 := by rw [ex_18]; exact iv_add bx_12 (iv_c (1 : Int32) (a := 1) (b := 1) (by decide)) (by decide)
  refine va_put (ci := 9) (v := .int x_18) (ty := .int) (C := RX9) (T := TX9) (N := 15) hx hb hg inX9 tyX9 tyX9_ok nmX9 hown hK hP hD hS 0 rfl rfl 1 (by decide) (hg _ q_2_37) (fun _ h9 => h9) rfl (by decide +kernel) rfl rfl (Nat.le_of_ble_eq_true rfl) dX9_putOnTape_27 (fun H locs hP hD hS => ?_)
  have hP : va_P V.1 vwCl [(y 0, .inr (9, o9_rirrrrrrrrvviii (y 1) x_18 (y 2) (y 10) (y 19) (y 25) (y 26) (y 30) (y 31) (y 32) o10 o11 py0_12 py0_13 py0_14)), (y 1, aB V 900 f_17)] H := hP
  have hD := cpD hP hD
  refine lv_iinc (v := 0) (lv' := [(2, .int 0), (0, .ref (y 0)), (1, .int a1)]) hx hb dX9_putOnTape_30 hl (k := 0) rfl (by decide +kernel) (by decide) rfl (fun ls hl => ?_)
  refine lv_goto (tgt := 3) hx hb dX9_putOnTape_33 (by decide) ?_
  refine lv_iload_n hx hb dX9_putOnTape_3 rfl (lv_at hl 0 rfl) ?_
  refine lv_if_lt (tgt := 36) hx hb dX9_putOnTape_4 (by decide) (fun c_20 => absurd c_20 (by decide)) (fun _ => ?_)
  refine lv_aload_n hx hb dX9_putOnTape_7 rfl (lv_at hl 1 rfl) ?_
  refine va_get (ci := 9) (v := .ref (y 1)) (C := RX9) (T := TX9) (N := 15) hx hb hg inX9 hown hK hP 0 rfl rfl 0 (by decide) (hg _ q_2_36) (fun _ h9 => h9) rfl dX9_putOnTape_8 ?_
  refine lv_aload_n hx hb dX9_putOnTape_11 rfl (lv_at hl 1 rfl) ?_
  refine va_get (ci := 9) (v := .int x_18) (C := RX9) (T := TX9) (N := 15) hx hb hg inX9 hown hK hP 0 rfl rfl 1 (by decide) (hg _ q_2_37) (fun _ h9 => h9) rfl dX9_putOnTape_12 ?_
  refine lv_iload_n hx hb dX9_putOnTape_15 rfl (lv_at hl 2 rfl) ?_
  refine lv_iload_n hx hb dX9_putOnTape_16 rfl (lv_at hl 0 rfl) ?_
  refine lv_iushr hx hb dX9_putOnTape_17 rfl ?_
  refine lv_topi (fun x_21 ex_21 => ?_)
  refine lv_i2b hx hb dX9_putOnTape_18 rfl ?_
  refine lv_topi (fun x_22 ex_22 => ?_)
  refine va_bast hx hb hK hP hD hS 1 1 rfl rfl (iv_in bx_18 (by decide)) dX9_putOnTape_19 (fun H locs hP hD hS => ?_)
  obtain ⟨f_23, ef_23, tf_23, hP, hD⟩ : ∃ f_23 : Nat → Int32, f_23 = (upd f_17 (x_18 : Int32).toNatClampNeg (vp_nar .byte x_22)) ∧ (∀ j, iv (-128) 127 (f_23 j)) ∧ va_P V.1 vwCl [(y 0, .inr (9, o9_rirrrrrrrrvviii (y 1) x_18 (y 2) (y 10) (y 19) (y 25) (y 26) (y 30) (y 31) (y 32) o10 o11 py0_12 py0_13 py0_14)), (y 1, aB V 900 f_23)] H ∧ va_D A [(y 0, .inr (9, o9_rirrrrrrrrvviii (y 1) x_18 (y 2) (y 10) (y 19) (y 25) (y 26) (y 30) (y 31) (y 32) o10 o11 py0_12 py0_13 py0_14)), (y 1, aB V 900 f_23)] := ⟨_, rfl, ivU tf_17 _ (nar8 _), hP, hD⟩
  refine lv_aload_n hx hb dX9_putOnTape_20 rfl (lv_at hl 1 rfl) ?_
  refine lv_dup hx hb dX9_putOnTape_21 rfl ?_
  refine va_get (ci := 9) (v := .int x_18) (C := RX9) (T := TX9) (N := 15) hx hb hg inX9 hown hK hP 0 rfl rfl 1 (by decide) (hg _ q_2_37) (fun _ h9 => h9) rfl dX9_putOnTape_22 ?_
  refine lv_iconst (v := 1) hx hb dX9_putOnTape_25 (by decide) ?_
  refine lv_iadd hx hb dX9_putOnTape_26 ?_
  refine lv_topi (fun x_24 ex_24 => ?_)
  have bx_24 : iv 4 892 x_24 := by rw [ex_24]; exact iv_add bx_18 (iv_c (1 : Int32) (a := 1) (b := 1) (by decide)) (by decide)
  refine va_put (ci := 9) (v := .int x_24) (ty := .int) (C := RX9) (T := TX9) (N := 15) hx hb hg inX9 tyX9 tyX9_ok nmX9 hown hK hP hD hS 0 rfl rfl 1 (by decide) (hg _ q_2_37) (fun _ h9 => h9) rfl (by decide +kernel) rfl rfl (Nat.le_of_ble_eq_true rfl) dX9_putOnTape_27 (fun H locs hP hD hS => ?_)
  have hP : va_P V.1 vwCl [(y 0, .inr (9, o9_rirrrrrrrrvviii (y 1) x_24 (y 2) (y 10) (y 19) (y 25) (y 26) (y 30) (y 31) (y 32) o10 o11 py0_12 py0_13 py0_14)), (y 1, aB V 900 f_23)] H := hP
  have hD := cpD hP hD
  refine lv_iinc (v := (-8)) (lv' := [(2, .int (-8)), (0, .ref (y 0)), (1, .int a1)]) hx hb dX9_putOnTape_30 hl (k := 0) rfl (by decide +kernel) (by decide) rfl (fun ls hl => ?_)
  refine lv_goto (tgt := 3) hx hb dX9_putOnTape_33 (by decide) ?_
  refine lv_iload_n hx hb dX9_putOnTape_3 rfl (lv_at hl 0 rfl) ?_
  refine lv_if_lt (tgt := 36) hx hb dX9_putOnTape_4 (by decide) (fun _ => ?_) (fun c_26 => absurd c_26 (by decide))
  exact fiV hx hb hr hlk hK hP hD hS dX9_putOnTape_36 (Nat.le_of_ble_eq_true rfl) (Nat.le_of_ble_eq_true rfl) (⟨x_24, f_23, (iv_w bx_24 (by decide)), tf_23, (add4 ex_6 ex_12 ex_18 ex_24), (by rw [ef_23, ef_17, ef_11, ef_5, ex_22, ex_21, ex_16, ex_15, ex_10, ex_9, ex_4, ex_3, ex_18, ex_12, ex_6]; rfl), (by rw [ex_24, ex_18, ex_12, ex_6]; rfl), rfl⟩)
set_option maxHeartbeats 4000000 in
set_option maxRecDepth 100000 in
theorem k_X9_putOnTape_3 (l : Launch) (V : GV) (y : Nat → Nat) (a1 : Int32) (py0_1 : Int32) (o10 : Value) (o11 : Value) (py0_12 : Int32) (py0_13 : Int32) (py0_14 : Int32) (fy1 : Nat → Int32) (bpy0_1 : iv 0 892 py0_1) (bpy0_12 : iv 0 9999 py0_12) (bpy0_13 : iv 0 9 py0_13) (tfy1 : ∀ j, iv (-128) 127 (fy1 j)) : Ct l V yX9_putOnTape (.code yX9_putOnTape cX9_putOnTape 3 none) 1 [.ref (y 0), .int a1] [(y 0, .inr (9, o9_rirrrrrrrrvviii (y 1) py0_1 (y 2) (y 10) (y 19) (y 25) (y 26) (y 30) (y 31) (y 32) o10 o11 py0_12 py0_13 py0_14)), (y 1, aB V 900 fy1)] 0 0 (QV V (fun (w : va_W) => ∃ (v0 : Int32) (g1 : Nat → Int32), iv 0 896 v0 ∧ (∀ j, iv (-128) 127 (g1 j)) ∧ (v0 = py0_1 + 4) ∧ (g1 = wC4 fy1 py0_1 a1) ∧ (v0 = p4 py0_1) ∧ w = [(y 0, .inr (9, o9_rirrrrrrrrvviii (y 1) v0 (y 2) (y 10) (y 19) (y 25) (y 26) (y 30) (y 31) (y 32) o10 o11 py0_12 py0_13 py0_14)), (y 1, aB V 900 g1)])) := by
  refine Ct.of (by decide) (Nat.le_of_ble_eq_true rfl) (fun p e s m below meth c A ls hx hb hr hml hown hlk hnm hg hP hK hD hE hA hS hl => ?_)
  have hl : lv_has ls 3 [(0, .ref (y 0)), (1, .int a1)] := hl
  refine lv_bipush (v := 24) hx hb dX9_putOnTape_0 (by decide) ?_
  refine lv_istore_n (lv' := [(2, .int 24), (0, .ref (y 0)), (1, .int a1)]) hx hb dX9_putOnTape_2 rfl hl (by decide) rfl (fun ls hl => ?_)
  refine lv_iload_n hx hb dX9_putOnTape_3 rfl (lv_at hl 0 rfl) ?_
  refine lv_if_lt (tgt := 36) hx hb dX9_putOnTape_4 (by decide) (fun c_2 => absurd c_2 (by decide)) (fun _ => ?_)
  refine lv_aload_n hx hb dX9_putOnTape_7 rfl (lv_at hl 1 rfl) ?_
  refine va_get (ci := 9) (v := .ref (y 1)) (C := RX9) (T := TX9) (N := 15) hx hb hg inX9 hown hK hP 0 rfl rfl 0 (by decide) (hg _ q_2_36) (fun _ h9 => h9) rfl dX9_putOnTape_8 ?_
  refine lv_aload_n hx hb dX9_putOnTape_11 rfl (lv_at hl 1 rfl) ?_
  refine va_get (ci := 9) (v := .int py0_1) (C := RX9) (T := TX9) (N := 15) hx hb hg inX9 hown hK hP 0 rfl rfl 1 (by decide) (hg _ q_2_37) (fun _ h9 => h9) rfl dX9_putOnTape_12 ?_
  refine lv_iload_n hx hb dX9_putOnTape_15 rfl (lv_at hl 2 rfl) ?_
  refine lv_iload_n hx hb dX9_putOnTape_16 rfl (lv_at hl 0 rfl) ?_
  refine lv_iushr hx hb dX9_putOnTape_17 rfl ?_
  refine lv_topi (fun x_3 ex_3 => ?_)
  refine lv_i2b hx hb dX9_putOnTape_18 rfl ?_
  refine lv_topi (fun x_4 ex_4 => ?_)
  refine va_bast hx hb hK hP hD hS 1 1 rfl rfl (iv_in bpy0_1 (by decide)) dX9_putOnTape_19 (fun H locs hP hD hS => ?_)
  obtain ⟨f_5, ef_5, tf_5, hP, hD⟩ : ∃ f_5 : Nat → Int32, f_5 = (upd fy1 (py0_1 : Int32).toNatClampNeg (vp_nar .byte x_4)) ∧ (∀ j, iv (-128) 127 (f_5 j)) ∧ va_P V.1 vwCl [(y 0, .inr (9, o9_rirrrrrrrrvviii (y 1) py0_1 (y 2) (y 10) (y 19) (y 25) (y 26) (y 30) (y 31) (y 32) o10 o11 py0_12 py0_13 py0_14)), (y 1, aB V 900 f_5)] H ∧ va_D A [(y 0, .inr (9, o9_rirrrrrrrrvviii (y 1) py0_1 (y 2) (y 10) (y 19) (y 25) (y 26) (y 30) (y 31) (y 32) o10 o11 py0_12 py0_13 py0_14)), (y 1, aB V 900 f_5)] := ⟨_, rfl, ivU tfy1 _ (nar8 _), hP, hD⟩
  refine lv_aload_n hx hb dX9_putOnTape_20 rfl (lv_at hl 1 rfl) ?_
  refine lv_dup hx hb dX9_putOnTape_21 rfl ?_
  refine va_get (ci := 9) (v := .int py0_1) (C := RX9) (T := TX9) (N := 15) hx hb hg inX9 hown hK hP 0 rfl rfl 1 (by decide) (hg _ q_2_37) (fun _ h9 => h9) rfl dX9_putOnTape_22 ?_
  refine lv_iconst (v := 1) hx hb dX9_putOnTape_25 (by decide) ?_
  refine lv_iadd hx hb dX9_putOnTape_26 ?_
  refine lv_topi (fun x_6 ex_6 => ?_)
  have bx_6 : iv 1 893 x_6 := by rw [ex_6]; exact iv_add bpy0_1 (iv_c (1 : Int32) (a := 1) (b := 1) (by decide)) (by decide)
  refine va_put (ci := 9) (v := .int x_6) (ty := .int) (C := RX9) (T := TX9) (N := 15) hx hb hg inX9 tyX9 tyX9_ok nmX9 hown hK hP hD hS 0 rfl rfl 1 (by decide) (hg _ q_2_37) (fun _ h9 => h9) rfl (by decide +kernel) rfl rfl (Nat.le_of_ble_eq_true rfl) dX9_putOnTape_27 (fun H locs hP hD hS => ?_)
  have hP : va_P V.1 vwCl [(y 0, .inr (9, o9_rirrrrrrrrvviii (y 1) x_6 (y 2) (y 10) (y 19) (y 25) (y 26) (y 30) (y 31) (y 32) o10 o11 py0_12 py0_13 py0_14)), (y 1, aB V 900 f_5)] H := hP
  have hD := cpD hP hD
  refine lv_iinc (v := 16) (lv' := [(2, .int 16), (0, .ref (y 0)), (1, .int a1)]) hx hb dX9_putOnTape_30 hl (k := 0) rfl (by decide +kernel) (by decide) rfl (fun ls hl => ?_)
  refine lv_goto (tgt := 3) hx hb dX9_putOnTape_33 (by decide) ?_
  refine lv_iload_n hx hb dX9_putOnTape_3 rfl (lv_at hl 0 rfl) ?_
  refine lv_if_lt (tgt := 36) hx hb dX9_putOnTape_4 (by decide) (fun c_8 => absurd c_8 (by decide)) (fun _ => ?_)
  refine lv_aload_n hx hb dX9_putOnTape_7 rfl (lv_at hl 1 rfl) ?_
  refine va_get (ci := 9) (v := .ref (y 1)) (C := RX9) (T := TX9) (N := 15) hx hb hg inX9 hown hK hP 0 rfl rfl 0 (by decide) (hg _ q_2_36) (fun _ h9 => h9) rfl dX9_putOnTape_8 ?_
  refine lv_aload_n hx hb dX9_putOnTape_11 rfl (lv_at hl 1 rfl) ?_
  refine va_get (ci := 9) (v := .int x_6) (C := RX9) (T := TX9) (N := 15) hx hb hg inX9 hown hK hP 0 rfl rfl 1 (by decide) (hg _ q_2_37) (fun _ h9 => h9) rfl dX9_putOnTape_12 ?_
  refine lv_iload_n hx hb dX9_putOnTape_15 rfl (lv_at hl 2 rfl) ?_
  refine lv_iload_n hx hb dX9_putOnTape_16 rfl (lv_at hl 0 rfl) ?_
  refine lv_iushr hx hb dX9_putOnTape_17 rfl ?_
  refine lv_topi (fun x_9 ex_9 => ?_)
  refine lv_i2b hx hb dX9_putOnTape_18 rfl ?_
  refine lv_topi (fun x_10 ex_10 => ?_)
  refine va_bast hx hb hK hP hD hS 1 1 rfl rfl (iv_in bx_6 (by decide)) dX9_putOnTape_19 (fun H locs hP hD hS => ?_)
  obtain ⟨f_11, ef_11, tf_11, hP, hD⟩ : ∃ f_11 : Nat → Int32, f_11 = (upd f_5 (x_6 : Int32).toNatClampNeg (vp_nar .byte x_10)) ∧ (∀ j, iv (-128) 127 (f_11 j)) ∧ va_P V.1 vwCl [(y 0, .inr (9, o9_rirrrrrrrrvviii (y 1) x_6 (y 2) (y 10) (y 19) (y 25) (y 26) (y 30) (y 31) (y 32) o10 o11 py0_12 py0_13 py0_14)), (y 1, aB V 900 f_11)] H ∧ va_D A [(y 0, .inr (9, o9_rirrrrrrrrvviii (y 1) x_6 (y 2) (y 10) (y 19) (y 25) (y 26) (y 30) (y 31) (y 32) o10 o11 py0_12 py0_13 py0_14)), (y 1, aB V 900 f_11)] := ⟨_, rfl, ivU tf_5 _ (nar8 _), hP, hD⟩
  refine lv_aload_n hx hb dX9_putOnTape_20 rfl (lv_at hl 1 rfl) ?_
  refine lv_dup hx hb dX9_putOnTape_21 rfl ?_
  refine va_get (ci := 9) (v := .int x_6) (C := RX9) (T := TX9) (N := 15) hx hb hg inX9 hown hK hP 0 rfl rfl 1 (by decide) (hg _ q_2_37) (fun _ h9 => h9) rfl dX9_putOnTape_22 ?_
  refine lv_iconst (v := 1) hx hb dX9_putOnTape_25 (by decide) ?_
  refine lv_iadd hx hb dX9_putOnTape_26 ?_
  refine lv_topi (fun x_12 ex_12 => ?_)
  have bx_12 : iv 2 894 x_12 := by rw [ex_12]; exact iv_add bx_6 (iv_c (1 : Int32) (a := 1) (b := 1) (by decide)) (by decide)
  refine va_put (ci := 9) (v := .int x_12) (ty := .int) (C := RX9) (T := TX9) (N := 15) hx hb hg inX9 tyX9 tyX9_ok nmX9 hown hK hP hD hS 0 rfl rfl 1 (by decide) (hg _ q_2_37) (fun _ h9 => h9) rfl (by decide +kernel) rfl rfl (Nat.le_of_ble_eq_true rfl) dX9_putOnTape_27 (fun H locs hP hD hS => ?_)
  have hP : va_P V.1 vwCl [(y 0, .inr (9, o9_rirrrrrrrrvviii (y 1) x_12 (y 2) (y 10) (y 19) (y 25) (y 26) (y 30) (y 31) (y 32) o10 o11 py0_12 py0_13 py0_14)), (y 1, aB V 900 f_11)] H := hP
  have hD := cpD hP hD
  refine lv_iinc (v := 8) (lv' := [(2, .int 8), (0, .ref (y 0)), (1, .int a1)]) hx hb dX9_putOnTape_30 hl (k := 0) rfl (by decide +kernel) (by decide) rfl (fun ls hl => ?_)
  refine lv_goto (tgt := 3) hx hb dX9_putOnTape_33 (by decide) ?_
  refine lv_iload_n hx hb dX9_putOnTape_3 rfl (lv_at hl 0 rfl) ?_
  refine lv_if_lt (tgt := 36) hx hb dX9_putOnTape_4 (by decide) (fun c_14 => absurd c_14 (by decide)) (fun _ => ?_)
  refine lv_aload_n hx hb dX9_putOnTape_7 rfl (lv_at hl 1 rfl) ?_
  refine va_get (ci := 9) (v := .ref (y 1)) (C := RX9) (T := TX9) (N := 15) hx hb hg inX9 hown hK hP 0 rfl rfl 0 (by decide) (hg _ q_2_36) (fun _ h9 => h9) rfl dX9_putOnTape_8 ?_
  refine lv_aload_n hx hb dX9_putOnTape_11 rfl (lv_at hl 1 rfl) ?_
  refine va_get (ci := 9) (v := .int x_12) (C := RX9) (T := TX9) (N := 15) hx hb hg inX9 hown hK hP 0 rfl rfl 1 (by decide) (hg _ q_2_37) (fun _ h9 => h9) rfl dX9_putOnTape_12 ?_
  refine lv_iload_n hx hb dX9_putOnTape_15 rfl (lv_at hl 2 rfl) ?_
  refine lv_iload_n hx hb dX9_putOnTape_16 rfl (lv_at hl 0 rfl) ?_
  refine lv_iushr hx hb dX9_putOnTape_17 rfl ?_
  refine lv_topi (fun x_15 ex_15 => ?_)
  refine lv_i2b hx hb dX9_putOnTape_18 rfl ?_
  refine lv_topi (fun x_16 ex_16 => ?_)
  refine va_bast hx hb hK hP hD hS 1 1 rfl rfl (iv_in bx_12 (by decide)) dX9_putOnTape_19 (fun H locs hP hD hS => ?_)
  obtain ⟨f_17, ef_17, tf_17, hP, hD⟩ : ∃ f_17 : Nat → Int32, f_17 = (upd f_11 (x_12 : Int32).toNatClampNeg (vp_nar .byte x_16)) ∧ (∀ j, iv (-128) 127 (f_17 j)) ∧ va_P V.1 vwCl [(y 0, .inr (9, o9_rirrrrrrrrvviii (y 1) x_12 (y 2) (y 10) (y 19) (y 25) (y 26) (y 30) (y 31) (y 32) o10 o11 py0_12 py0_13 py0_14)), (y 1, aB V 900 f_17)] H ∧ va_D A [(y 0, .inr (9, o9_rirrrrrrrrvviii (y 1) x_12 (y 2) (y 10) (y 19) (y 25) (y 26) (y 30) (y 31) (y 32) o10 o11 py0_12 py0_13 py0_14)), (y 1, aB V 900 f_17)] := ⟨_, rfl, ivU tf_11 _ (nar8 _), hP, hD⟩
  refine lv_aload_n hx hb dX9_putOnTape_20 rfl (lv_at hl 1 rfl) ?_
  refine lv_dup hx hb dX9_putOnTape_21 rfl ?_
  refine va_get (ci := 9) (v := .int x_12) (C := RX9) (T := TX9) (N := 15) hx hb hg inX9 hown hK hP 0 rfl rfl 1 (by decide) (hg _ q_2_37) (fun _ h9 => h9) rfl dX9_putOnTape_22 ?_
  refine lv_iconst (v := 1) hx hb dX9_putOnTape_25 (by decide) ?_
  refine lv_iadd hx hb dX9_putOnTape_26 ?_
  refine lv_topi (fun x_18 ex_18 => ?_)
  have bx_18 : iv 3 895 x_18 := by rw [ex_18]; exact iv_add bx_12 (iv_c (1 : Int32) (a := 1) (b := 1) (by decide)) (by decide)
  refine va_put (ci := 9) (v := .int x_18) (ty := .int) (C := RX9) (T := TX9) (N := 15) hx hb hg inX9 tyX9 tyX9_ok nmX9 hown hK hP hD hS 0 rfl rfl 1 (by decide) (hg _ q_2_37) (fun _ h9 => h9) rfl (by decide +kernel) rfl rfl (Nat.le_of_ble_eq_true rfl) dX9_putOnTape_27 (fun H locs hP hD hS => ?_)
  have hP : va_P V.1 vwCl [(y 0, .inr (9, o9_rirrrrrrrrvviii (y 1) x_18 (y 2) (y 10) (y 19) (y 25) (y 26) (y 30) (y 31) (y 32) o10 o11 py0_12 py0_13 py0_14)), (y 1, aB V 900 f_17)] H := hP
  have hD := cpD hP hD
  refine lv_iinc (v := 0) (lv' := [(2, .int 0), (0, .ref (y 0)), (1, .int a1)]) hx hb dX9_putOnTape_30 hl (k := 0) rfl (by decide +kernel) (by decide) rfl (fun ls hl => ?_)
  refine lv_goto (tgt := 3) hx hb dX9_putOnTape_33 (by decide) ?_
  refine lv_iload_n hx hb dX9_putOnTape_3 rfl (lv_at hl 0 rfl) ?_
  refine lv_if_lt (tgt := 36) hx hb dX9_putOnTape_4 (by decide) (fun c_20 => absurd c_20 (by decide)) (fun _ => ?_)
  refine lv_aload_n hx hb dX9_putOnTape_7 rfl (lv_at hl 1 rfl) ?_
  refine va_get (ci := 9) (v := .ref (y 1)) (C := RX9) (T := TX9) (N := 15) hx hb hg inX9 hown hK hP 0 rfl rfl 0 (by decide) (hg _ q_2_36) (fun _ h9 => h9) rfl dX9_putOnTape_8 ?_
  refine lv_aload_n hx hb dX9_putOnTape_11 rfl (lv_at hl 1 rfl) ?_
  refine va_get (ci := 9) (v := .int x_18) (C := RX9) (T := TX9) (N := 15) hx hb hg inX9 hown hK hP 0 rfl rfl 1 (by decide) (hg _ q_2_37) (fun _ h9 => h9) rfl dX9_putOnTape_12 ?_
  refine lv_iload_n hx hb dX9_putOnTape_15 rfl (lv_at hl 2 rfl) ?_
  refine lv_iload_n hx hb dX9_putOnTape_16 rfl (lv_at hl 0 rfl) ?_
  refine lv_iushr hx hb dX9_putOnTape_17 rfl ?_
  refine lv_topi (fun x_21 ex_21 => ?_)
  refine lv_i2b hx hb dX9_putOnTape_18 rfl ?_
  refine lv_topi (fun x_22 ex_22 => ?_)
  refine va_bast hx hb hK hP hD hS 1 1 rfl rfl (iv_in bx_18 (by decide)) dX9_putOnTape_19 (fun H locs hP hD hS => ?_)
  obtain ⟨f_23, ef_23, tf_23, hP, hD⟩ : ∃ f_23 : Nat → Int32, f_23 = (upd f_17 (x_18 : Int32).toNatClampNeg (vp_nar .byte x_22)) ∧ (∀ j, iv (-128) 127 (f_23 j)) ∧ va_P V.1 vwCl [(y 0, .inr (9, o9_rirrrrrrrrvviii (y 1) x_18 (y 2) (y 10) (y 19) (y 25) (y 26) (y 30) (y 31) (y 32) o10 o11 py0_12 py0_13 py0_14)), (y 1, aB V 900 f_23)] H ∧ va_D A [(y 0, .inr (9, o9_rirrrrrrrrvviii (y 1) x_18 (y 2) (y 10) (y 19) (y 25) (y 26) (y 30) (y 31) (y 32) o10 o11 py0_12 py0_13 py0_14)), (y 1, aB V 900 f_23)] := ⟨_, rfl, ivU tf_17 _ (nar8 _), hP, hD⟩
  refine lv_aload_n hx hb dX9_putOnTape_20 rfl (lv_at hl 1 rfl) ?_
  refine lv_dup hx hb dX9_putOnTape_21 rfl ?_
  refine va_get (ci := 9) (v := .int x_18) (C := RX9) (T := TX9) (N := 15) hx hb hg inX9 hown hK hP 0 rfl rfl 1 (by decide) (hg _ q_2_37) (fun _ h9 => h9) rfl dX9_putOnTape_22 ?_
  refine lv_iconst (v := 1) hx hb dX9_putOnTape_25 (by decide) ?_
  refine lv_iadd hx hb dX9_putOnTape_26 ?_
  refine lv_topi (fun x_24 ex_24 => ?_)
  have bx_24 : iv 4 896 x_24 := by rw [ex_24]; exact iv_add bx_18 (iv_c (1 : Int32) (a := 1) (b := 1) (by decide)) (by decide)
  refine va_put (ci := 9) (v := .int x_24) (ty := .int) (C := RX9) (T := TX9) (N := 15) hx hb hg inX9 tyX9 tyX9_ok nmX9 hown hK hP hD hS 0 rfl rfl 1 (by decide) (hg _ q_2_37) (fun _ h9 => h9) rfl (by decide +kernel) rfl rfl (Nat.le_of_ble_eq_true rfl) dX9_putOnTape_27 (fun H locs hP hD hS => ?_)
  have hP : va_P V.1 vwCl [(y 0, .inr (9, o9_rirrrrrrrrvviii (y 1) x_24 (y 2) (y 10) (y 19) (y 25) (y 26) (y 30) (y 31) (y 32) o10 o11 py0_12 py0_13 py0_14)), (y 1, aB V 900 f_23)] H := hP
  have hD := cpD hP hD
  refine lv_iinc (v := (-8)) (lv' := [(2, .int (-8)), (0, .ref (y 0)), (1, .int a1)]) hx hb dX9_putOnTape_30 hl (k := 0) rfl (by decide +kernel) (by decide) rfl (fun ls hl => ?_)
  refine lv_goto (tgt := 3) hx hb dX9_putOnTape_33 (by decide) ?_
  refine lv_iload_n hx hb dX9_putOnTape_3 rfl (lv_at hl 0 rfl) ?_
  refine lv_if_lt (tgt := 36) hx hb dX9_putOnTape_4 (by decide) (fun _ => ?_) (fun c_26 => absurd c_26 (by decide))
  exact fiV hx hb hr hlk hK hP hD hS dX9_putOnTape_36 (Nat.le_of_ble_eq_true rfl) (Nat.le_of_ble_eq_true rfl) (⟨x_24, f_23, (iv_w bx_24 (by decide)), tf_23, (add4 ex_6 ex_12 ex_18 ex_24), (by rw [ef_23, ef_17, ef_11, ef_5, ex_22, ex_21, ex_16, ex_15, ex_10, ex_9, ex_4, ex_3, ex_18, ex_12, ex_6]; rfl), (by rw [ex_24, ex_18, ex_12, ex_6]; rfl), rfl⟩)
set_option maxHeartbeats 4000000 in
set_option maxRecDepth 100000 in
theorem k_X9_putOnTape_4 (l : Launch) (V : GV) (y : Nat → Nat) (a1 : Int32) (py0_1 : Int32) (o10 : Value) (o11 : Value) (py0_12 : Int32) (py0_13 : Int32) (py0_14 : Int32) (fy1 : Nat → Int32) (bpy0_1 : iv 0 896 py0_1) (bpy0_12 : iv 0 9999 py0_12) (bpy0_13 : iv 0 9 py0_13) (tfy1 : ∀ j, iv (-128) 127 (fy1 j)) : Ct l V yX9_putOnTape (.code yX9_putOnTape cX9_putOnTape 3 none) 1 [.ref (y 0), .int a1] [(y 0, .inr (9, o9_rirrrrrrrrvviii (y 1) py0_1 (y 2) (y 10) (y 19) (y 25) (y 26) (y 30) (y 31) (y 32) o10 o11 py0_12 py0_13 py0_14)), (y 1, aB V 900 fy1)] 0 0 (QV V (fun (w : va_W) => ∃ (v0 : Int32) (g1 : Nat → Int32), iv 0 900 v0 ∧ (∀ j, iv (-128) 127 (g1 j)) ∧ (v0 = py0_1 + 4) ∧ (g1 = wC4 fy1 py0_1 a1) ∧ (v0 = p4 py0_1) ∧ w = [(y 0, .inr (9, o9_rirrrrrrrrvviii (y 1) v0 (y 2) (y 10) (y 19) (y 25) (y 26) (y 30) (y 31) (y 32) o10 o11 py0_12 py0_13 py0_14)), (y 1, aB V 900 g1)])) := by
  refine Ct.of (by decide) (Nat.le_of_ble_eq_true rfl) (fun p e s m below meth c A ls hx hb hr hml hown hlk hnm hg hP hK hD hE hA hS hl => ?_)
  have hl : lv_has ls 3 [(0, .ref (y 0)), (1, .int a1)] := hl
  refine lv_bipush (v := 24) hx hb dX9_putOnTape_0 (by decide) ?_
  refine lv_istore_n (lv' := [(2, .int 24), (0, .ref (y 0)), (1, .int a1)]) hx hb dX9_putOnTape_2 rfl hl (by decide) rfl (fun ls hl => ?_)
  refine lv_iload_n hx hb dX9_putOnTape_3 rfl (lv_at hl 0 rfl) ?_
  refine lv_if_lt (tgt := 36) hx hb dX9_putOnTape_4 (by decide) (fun c_2 => absurd c_2 (by decide)) (fun _ => ?_)
  refine lv_aload_n hx hb dX9_putOnTape_7 rfl (lv_at hl 1 rfl) ?_
  refine va_get (ci := 9) (v := .ref (y 1)) (C := RX9) (T := TX9) (N := 15) hx hb hg inX9 hown hK hP 0 rfl rfl 0 (by decide) (hg _ q_2_36) (fun _ h9 => h9) rfl dX9_putOnTape_8 ?_
  refine lv_aload_n hx hb dX9_putOnTape_11 rfl (lv_at hl 1 rfl) ?_
  refine va_get (ci := 9) (v := .int py0_1) (C := RX9) (T := TX9) (N := 15) hx hb hg inX9 hown hK hP 0 rfl rfl 1 (by decide) (hg _ q_2_37) (fun _ h9 => h9) rfl dX9_putOnTape_12 ?_
  refine lv_iload_n hx hb dX9_putOnTape_15 rfl (lv_at hl 2 rfl) ?_
  refine lv_iload_n hx hb dX9_putOnTape_16 rfl (lv_at hl 0 rfl) ?_
  refine lv_iushr hx hb dX9_putOnTape_17 rfl ?_
  refine lv_topi (fun x_3 ex_3 => ?_)
  refine lv_i2b hx hb dX9_putOnTape_18 rfl ?_
  refine lv_topi (fun x_4 ex_4 => ?_)
  refine va_bast hx hb hK hP hD hS 1 1 rfl rfl (iv_in bpy0_1 (by decide)) dX9_putOnTape_19 (fun H locs hP hD hS => ?_)
  obtain ⟨f_5, ef_5, tf_5, hP, hD⟩ : ∃ f_5 : Nat → Int32, f_5 = (upd fy1 (py0_1 : Int32).toNatClampNeg (vp_nar .byte x_4)) ∧ (∀ j, iv (-128) 127 (f_5 j)) ∧ va_P V.1 vwCl [(y 0, .inr (9, o9_rirrrrrrrrvviii (y 1) py0_1 (y 2) (y 10) (y 19) (y 25) (y 26) (y 30) (y 31) (y 32) o10 o11 py0_12 py0_13 py0_14)), (y 1, aB V 900 f_5)] H ∧ va_D A [(y 0, .inr (9, o9_rirrrrrrrrvviii (y 1) py0_1 (y 2) (y 10) (y 19) (y 25) (y 26) (y 30) (y 31) (y 32) o10 o11 py0_12 py0_13 py0_14)), (y 1, aB V 900 f_5)] := ⟨_, rfl, ivU tfy1 _ (nar8 _), hP, hD⟩
  refine lv_aload_n hx hb dX9_putOnTape_20 rfl (lv_at hl 1 rfl) ?_
  refine lv_dup hx hb dX9_putOnTape_21 rfl ?_
  refine va_get (ci := 9) (v := .int py0_1) (C := RX9) (T := TX9) (N := 15) hx hb hg inX9 hown hK hP 0 rfl rfl 1 (by decide) (hg _ q_2_37) (fun _ h9 => h9) rfl dX9_putOnTape_22 ?_
  refine lv_iconst (v := 1) hx hb dX9_putOnTape_25 (by decide) ?_
  refine lv_iadd hx hb dX9_putOnTape_26 ?_
  refine lv_topi (fun x_6 ex_6 => ?_)
  have bx_6 : iv 1 897 x_6 := by rw [ex_6]; exact iv_add bpy0_1 (iv_c (1 : Int32) (a := 1) (b := 1) (by decide)) (by decide)
  refine va_put (ci := 9) (v := .int x_6) (ty := .int) (C := RX9) (T := TX9) (N := 15) hx hb hg inX9 tyX9 tyX9_ok nmX9 hown hK hP hD hS 0 rfl rfl 1 (by decide) (hg _ q_2_37) (fun _ h9 => h9) rfl (by decide +kernel) rfl rfl (Nat.le_of_ble_eq_true rfl) dX9_putOnTape_27 (fun H locs hP hD hS => ?_)
  have hP : va_P V.1 vwCl [(y 0, .inr (9, o9_rirrrrrrrrvviii (y 1) x_6 (y 2) (y 10) (y 19) (y 25) (y 26) (y 30) (y 31) (y 32) o10 o11 py0_12 py0_13 py0_14)), (y 1, aB V 900 f_5)] H := hP
  have hD := cpD hP hD
  refine lv_iinc (v := 16) (lv' := [(2, .int 16), (0, .ref (y 0)), (1, .int a1)]) hx hb dX9_putOnTape_30 hl (k := 0) rfl (by decide +kernel) (by decide) rfl (fun ls hl => ?_)
  refine lv_goto (tgt := 3) hx hb dX9_putOnTape_33 (by decide) ?_
  refine lv_iload_n hx hb dX9_putOnTape_3 rfl (lv_at hl 0 rfl) ?_
  refine lv_if_lt (tgt := 36) hx hb dX9_putOnTape_4 (by decide) (fun c_8 => absurd c_8 (by decide)) (fun _ => ?_)
  refine lv_aload_n hx hb dX9_putOnTape_7 rfl (lv_at hl 1 rfl) ?_
  refine va_get (ci := 9) (v := .ref (y 1)) (C := RX9) (T := TX9) (N := 15) hx hb hg inX9 hown hK hP 0 rfl rfl 0 (by decide) (hg _ q_2_36) (fun _ h9 => h9) rfl dX9_putOnTape_8 ?_
  refine lv_aload_n hx hb dX9_putOnTape_11 rfl (lv_at hl 1 rfl) ?_
  refine va_get (ci := 9) (v := .int x_6) (C := RX9) (T := TX9) (N := 15) hx hb hg inX9 hown hK hP 0 rfl rfl 1 (by decide) (hg _ q_2_37) (fun _ h9 => h9) rfl dX9_putOnTape_12 ?_
  refine lv_iload_n hx hb dX9_putOnTape_15 rfl (lv_at hl 2 rfl) ?_
  refine lv_iload_n hx hb dX9_putOnTape_16 rfl (lv_at hl 0 rfl) ?_
  refine lv_iushr hx hb dX9_putOnTape_17 rfl ?_
  refine lv_topi (fun x_9 ex_9 => ?_)
  refine lv_i2b hx hb dX9_putOnTape_18 rfl ?_
  refine lv_topi (fun x_10 ex_10 => ?_)
  refine va_bast hx hb hK hP hD hS 1 1 rfl rfl (iv_in bx_6 (by decide)) dX9_putOnTape_19 (fun H locs hP hD hS => ?_)
  obtain ⟨f_11, ef_11, tf_11, hP, hD⟩ : ∃ f_11 : Nat → Int32, f_11 = (upd f_5 (x_6 : Int32).toNatClampNeg (vp_nar .byte x_10)) ∧ (∀ j, iv (-128) 127 (f_11 j)) ∧ va_P V.1 vwCl [(y 0, .inr (9, o9_rirrrrrrrrvviii (y 1) x_6 (y 2) (y 10) (y 19) (y 25) (y 26) (y 30) (y 31) (y 32) o10 o11 py0_12 py0_13 py0_14)), (y 1, aB V 900 f_11)] H ∧ va_D A [(y 0, .inr (9, o9_rirrrrrrrrvviii (y 1) x_6 (y 2) (y 10) (y 19) (y 25) (y 26) (y 30) (y 31) (y 32) o10 o11 py0_12 py0_13 py0_14)), (y 1, aB V 900 f_11)] := ⟨_, rfl, ivU tf_5 _ (nar8 _), hP, hD⟩
  refine lv_aload_n hx hb dX9_putOnTape_20 rfl (lv_at hl 1 rfl) ?_
  refine lv_dup hx hb dX9_putOnTape_21 rfl ?_
  refine va_get (ci := 9) (v := .int x_6) (C := RX9) (T := TX9) (N := 15) hx hb hg inX9 hown hK hP 0 rfl rfl 1 (by decide) (hg _ q_2_37) (fun _ h9 => h9) rfl dX9_putOnTape_22 ?_
  refine lv_iconst (v := 1) hx hb dX9_putOnTape_25 (by decide) ?_
  refine lv_iadd hx hb dX9_putOnTape_26 ?_
  refine lv_topi (fun x_12 ex_12 => ?_)
  have bx_12 : iv 2 898 x_12 := by rw [ex_12]; exact iv_add bx_6 (iv_c (1 : Int32) (a := 1) (b := 1) (by decide)) (by decide)
  refine va_put (ci := 9) (v := .int x_12) (ty := .int) (C := RX9) (T := TX9) (N := 15) hx hb hg inX9 tyX9 tyX9_ok nmX9 hown hK hP hD hS 0 rfl rfl 1 (by decide) (hg _ q_2_37) (fun _ h9 => h9) rfl (by decide +kernel) rfl rfl (Nat.le_of_ble_eq_true rfl) dX9_putOnTape_27 (fun H locs hP hD hS => ?_)
  have hP : va_P V.1 vwCl [(y 0, .inr (9, o9_rirrrrrrrrvviii (y 1) x_12 (y 2) (y 10) (y 19) (y 25) (y 26) (y 30) (y 31) (y 32) o10 o11 py0_12 py0_13 py0_14)), (y 1, aB V 900 f_11)] H := hP
  have hD := cpD hP hD
  refine lv_iinc (v := 8) (lv' := [(2, .int 8), (0, .ref (y 0)), (1, .int a1)]) hx hb dX9_putOnTape_30 hl (k := 0) rfl (by decide +kernel) (by decide) rfl (fun ls hl => ?_)
  refine lv_goto (tgt := 3) hx hb dX9_putOnTape_33 (by decide) ?_
  refine lv_iload_n hx hb dX9_putOnTape_3 rfl (lv_at hl 0 rfl) ?_
  refine lv_if_lt (tgt := 36) hx hb dX9_putOnTape_4 (by decide) (fun c_14 => absurd c_14 (by decide)) (fun _ => ?_)
  refine lv_aload_n hx hb dX9_putOnTape_7 rfl (lv_at hl 1 rfl) ?_
  refine va_get (ci := 9) (v := .ref (y 1)) (C := RX9) (T := TX9) (N := 15) hx hb hg inX9 hown hK hP 0 rfl rfl 0 (by decide) (hg _ q_2_36) (fun _ h9 => h9) rfl dX9_putOnTape_8 ?_
  refine lv_aload_n hx hb dX9_putOnTape_11 rfl (lv_at hl 1 rfl) ?_
  refine va_get (ci := 9) (v := .int x_12) (C := RX9) (T := TX9) (N := 15) hx hb hg inX9 hown hK hP 0 rfl rfl 1 (by decide) (hg _ q_2_37) (fun _ h9 => h9) rfl dX9_putOnTape_12 ?_
  refine lv_iload_n hx hb dX9_putOnTape_15 rfl (lv_at hl 2 rfl) ?_
  refine lv_iload_n hx hb dX9_putOnTape_16 rfl (lv_at hl 0 rfl) ?_
  refine lv_iushr hx hb dX9_putOnTape_17 rfl ?_
  refine lv_topi (fun x_15 ex_15 => ?_)
  refine lv_i2b hx hb dX9_putOnTape_18 rfl ?_
  refine lv_topi (fun x_16 ex_16 => ?_)
  refine va_bast hx hb hK hP hD hS 1 1 rfl rfl (iv_in bx_12 (by decide)) dX9_putOnTape_19 (fun H locs hP hD hS => ?_)
  obtain ⟨f_17, ef_17, tf_17, hP, hD⟩ : ∃ f_17 : Nat → Int32, f_17 = (upd f_11 (x_12 : Int32).toNatClampNeg (vp_nar .byte x_16)) ∧ (∀ j, iv (-128) 127 (f_17 j)) ∧ va_P V.1 vwCl [(y 0, .inr (9, o9_rirrrrrrrrvviii (y 1) x_12 (y 2) (y 10) (y 19) (y 25) (y 26) (y 30) (y 31) (y 32) o10 o11 py0_12 py0_13 py0_14)), (y 1, aB V 900 f_17)] H ∧ va_D A [(y 0, .inr (9, o9_rirrrrrrrrvviii (y 1) x_12 (y 2) (y 10) (y 19) (y 25) (y 26) (y 30) (y 31) (y 32) o10 o11 py0_12 py0_13 py0_14)), (y 1, aB V 900 f_17)] := ⟨_, rfl, ivU tf_11 _ (nar8 _), hP, hD⟩
  refine lv_aload_n hx hb dX9_putOnTape_20 rfl (lv_at hl 1 rfl) ?_
  refine lv_dup hx hb dX9_putOnTape_21 rfl ?_
  refine va_get (ci := 9) (v := .int x_12) (C := RX9) (T := TX9) (N := 15) hx hb hg inX9 hown hK hP 0 rfl rfl 1 (by decide) (hg _ q_2_37) (fun _ h9 => h9) rfl dX9_putOnTape_22 ?_
  refine lv_iconst (v := 1) hx hb dX9_putOnTape_25 (by decide) ?_
  refine lv_iadd hx hb dX9_putOnTape_26 ?_
  refine lv_topi (fun x_18 ex_18 => ?_)
  have bx_18 : iv 3 899 x_18 := by rw [ex_18]; exact iv_add bx_12 (iv_c (1 : Int32) (a := 1) (b := 1) (by decide)) (by decide)
  refine va_put (ci := 9) (v := .int x_18) (ty := .int) (C := RX9) (T := TX9) (N := 15) hx hb hg inX9 tyX9 tyX9_ok nmX9 hown hK hP hD hS 0 rfl rfl 1 (by decide) (hg _ q_2_37) (fun _ h9 => h9) rfl (by decide +kernel) rfl rfl (Nat.le_of_ble_eq_true rfl) dX9_putOnTape_27 (fun H locs hP hD hS => ?_)
  have hP : va_P V.1 vwCl [(y 0, .inr (9, o9_rirrrrrrrrvviii (y 1) x_18 (y 2) (y 10) (y 19) (y 25) (y 26) (y 30) (y 31) (y 32) o10 o11 py0_12 py0_13 py0_14)), (y 1, aB V 900 f_17)] H := hP
  have hD := cpD hP hD
  refine lv_iinc (v := 0) (lv' := [(2, .int 0), (0, .ref (y 0)), (1, .int a1)]) hx hb dX9_putOnTape_30 hl (k := 0) rfl (by decide +kernel) (by decide) rfl (fun ls hl => ?_)
  refine lv_goto (tgt := 3) hx hb dX9_putOnTape_33 (by decide) ?_
  refine lv_iload_n hx hb dX9_putOnTape_3 rfl (lv_at hl 0 rfl) ?_
  refine lv_if_lt (tgt := 36) hx hb dX9_putOnTape_4 (by decide) (fun c_20 => absurd c_20 (by decide)) (fun _ => ?_)
  refine lv_aload_n hx hb dX9_putOnTape_7 rfl (lv_at hl 1 rfl) ?_
  refine va_get (ci := 9) (v := .ref (y 1)) (C := RX9) (T := TX9) (N := 15) hx hb hg inX9 hown hK hP 0 rfl rfl 0 (by decide) (hg _ q_2_36) (fun _ h9 => h9) rfl dX9_putOnTape_8 ?_
  refine lv_aload_n hx hb dX9_putOnTape_11 rfl (lv_at hl 1 rfl) ?_
  refine va_get (ci := 9) (v := .int x_18) (C := RX9) (T := TX9) (N := 15) hx hb hg inX9 hown hK hP 0 rfl rfl 1 (by decide) (hg _ q_2_37) (fun _ h9 => h9) rfl dX9_putOnTape_12 ?_
  refine lv_iload_n hx hb dX9_putOnTape_15 rfl (lv_at hl 2 rfl) ?_
  refine lv_iload_n hx hb dX9_putOnTape_16 rfl (lv_at hl 0 rfl) ?_
  refine lv_iushr hx hb dX9_putOnTape_17 rfl ?_
  refine lv_topi (fun x_21 ex_21 => ?_)
  refine lv_i2b hx hb dX9_putOnTape_18 rfl ?_
  refine lv_topi (fun x_22 ex_22 => ?_)
  refine va_bast hx hb hK hP hD hS 1 1 rfl rfl (iv_in bx_18 (by decide)) dX9_putOnTape_19 (fun H locs hP hD hS => ?_)
  obtain ⟨f_23, ef_23, tf_23, hP, hD⟩ : ∃ f_23 : Nat → Int32, f_23 = (upd f_17 (x_18 : Int32).toNatClampNeg (vp_nar .byte x_22)) ∧ (∀ j, iv (-128) 127 (f_23 j)) ∧ va_P V.1 vwCl [(y 0, .inr (9, o9_rirrrrrrrrvviii (y 1) x_18 (y 2) (y 10) (y 19) (y 25) (y 26) (y 30) (y 31) (y 32) o10 o11 py0_12 py0_13 py0_14)), (y 1, aB V 900 f_23)] H ∧ va_D A [(y 0, .inr (9, o9_rirrrrrrrrvviii (y 1) x_18 (y 2) (y 10) (y 19) (y 25) (y 26) (y 30) (y 31) (y 32) o10 o11 py0_12 py0_13 py0_14)), (y 1, aB V 900 f_23)] := ⟨_, rfl, ivU tf_17 _ (nar8 _), hP, hD⟩
  refine lv_aload_n hx hb dX9_putOnTape_20 rfl (lv_at hl 1 rfl) ?_
  refine lv_dup hx hb dX9_putOnTape_21 rfl ?_
  refine va_get (ci := 9) (v := .int x_18) (C := RX9) (T := TX9) (N := 15) hx hb hg inX9 hown hK hP 0 rfl rfl 1 (by decide) (hg _ q_2_37) (fun _ h9 => h9) rfl dX9_putOnTape_22 ?_
  refine lv_iconst (v := 1) hx hb dX9_putOnTape_25 (by decide) ?_
  refine lv_iadd hx hb dX9_putOnTape_26 ?_
  refine lv_topi (fun x_24 ex_24 => ?_)
  have bx_24 : iv 4 900 x_24 := by rw [ex_24]; exact iv_add bx_18 (iv_c (1 : Int32) (a := 1) (b := 1) (by decide)) (by decide)
  refine va_put (ci := 9) (v := .int x_24) (ty := .int) (C := RX9) (T := TX9) (N := 15) hx hb hg inX9 tyX9 tyX9_ok nmX9 hown hK hP hD hS 0 rfl rfl 1 (by decide) (hg _ q_2_37) (fun _ h9 => h9) rfl (by decide +kernel) rfl rfl (Nat.le_of_ble_eq_true rfl) dX9_putOnTape_27 (fun H locs hP hD hS => ?_)
  have hP : va_P V.1 vwCl [(y 0, .inr (9, o9_rirrrrrrrrvviii (y 1) x_24 (y 2) (y 10) (y 19) (y 25) (y 26) (y 30) (y 31) (y 32) o10 o11 py0_12 py0_13 py0_14)), (y 1, aB V 900 f_23)] H := hP
  have hD := cpD hP hD
  refine lv_iinc (v := (-8)) (lv' := [(2, .int (-8)), (0, .ref (y 0)), (1, .int a1)]) hx hb dX9_putOnTape_30 hl (k := 0) rfl (by decide +kernel) (by decide) rfl (fun ls hl => ?_)
  refine lv_goto (tgt := 3) hx hb dX9_putOnTape_33 (by decide) ?_
  refine lv_iload_n hx hb dX9_putOnTape_3 rfl (lv_at hl 0 rfl) ?_
  refine lv_if_lt (tgt := 36) hx hb dX9_putOnTape_4 (by decide) (fun _ => ?_) (fun c_26 => absurd c_26 (by decide))
  exact fiV hx hb hr hlk hK hP hD hS dX9_putOnTape_36 (Nat.le_of_ble_eq_true rfl) (Nat.le_of_ble_eq_true rfl) (⟨x_24, f_23, (iv_w bx_24 (by decide)), tf_23, (add4 ex_6 ex_12 ex_18 ex_24), (by rw [ef_23, ef_17, ef_11, ef_5, ex_22, ex_21, ex_16, ex_15, ex_10, ex_9, ex_4, ex_3, ex_18, ex_12, ex_6]; rfl), (by rw [ex_24, ex_18, ex_12, ex_6]; rfl), rfl⟩)
theorem dX9_feed_0 : decode cX9_feed 0 = .ok (.aload_n 0, 1) := by decide +kernel
theorem dX9_feed_1 : decode cX9_feed 1 = .ok (.getfield 70, 3) := by decide +kernel
theorem dX9_feed_4 : decode cX9_feed 4 = .ok (.bipush 20, 2) := by decide +kernel
theorem dX9_feed_6 : decode cX9_feed 6 = .ok (.iadd, 1) := by decide +kernel
theorem dX9_feed_7 : decode cX9_feed 7 = .ok (.sipush 900, 3) := by decide +kernel
theorem dX9_feed_10 : decode cX9_feed 10 = .ok (.if_icmp .le 6, 3) := by decide +kernel
theorem dX9_feed_16 : decode cX9_feed 16 = .ok (.aload_n 0, 1) := by decide +kernel
theorem dX9_feed_17 : decode cX9_feed 17 = .ok (.iload_n 1, 1) := by decide +kernel
theorem q_2_89 : Cond.code yX9_putOnTape prog_1_method_3_code 3 none ∈ gw := gw_2 (i := 89) (rfl) rfl
theorem q_2_88 : Cond.instanceMethod yX9_putOnTape ∈ gw := gw_2 (i := 88) (by decide +kernel) rfl
theorem q_s_0 : Cond.selects "BeaconDelay" yX9_putOnTape yX9_putOnTape ∈ gw := gw_s (i := 0) (by decide +kernel) rfl
theorem mt_X9_putOnTape : MtV yX9_putOnTape cX9_putOnTape 3 none 1 := ⟨⟨q_2_89, q_1_1, by decide +kernel, by decide +kernel, by decide +kernel⟩, q_2_88, q_s_0⟩
theorem q_2_86 : Cond.methodLink "BeaconDelay" 74 yX9_putOnTape ∈ gw := gw_2 (i := 86) (by decide +kernel) rfl
theorem dX9_feed_18 : decode cX9_feed 18 = .ok (.invokevirtual 74, 3) := by decide +kernel
theorem dX9_feed_21 : decode cX9_feed 21 = .ok (.aload_n 0, 1) := by decide +kernel
theorem dX9_feed_22 : decode cX9_feed 22 = .ok (.iload_n 2, 1) := by decide +kernel
theorem dX9_feed_23 : decode cX9_feed 23 = .ok (.invokevirtual 74, 3) := by decide +kernel
theorem dX9_feed_26 : decode cX9_feed 26 = .ok (.aload_n 0, 1) := by decide +kernel
theorem dX9_feed_27 : decode cX9_feed 27 = .ok (.iload_n 3, 1) := by decide +kernel
theorem dX9_feed_28 : decode cX9_feed 28 = .ok (.invokevirtual 74, 3) := by decide +kernel
theorem dX9_feed_31 : decode cX9_feed 31 = .ok (.aload_n 0, 1) := by decide +kernel
theorem dX9_feed_32 : decode cX9_feed 32 = .ok (.iload 4, 2) := by decide +kernel
theorem dX9_feed_34 : decode cX9_feed 34 = .ok (.invokevirtual 74, 3) := by decide +kernel
theorem dX9_feed_37 : decode cX9_feed 37 = .ok (.aload_n 0, 1) := by decide +kernel
theorem dX9_feed_38 : decode cX9_feed 38 = .ok (.iload 5, 2) := by decide +kernel
theorem dX9_feed_40 : decode cX9_feed 40 = .ok (.invokevirtual 74, 3) := by decide +kernel
theorem dX9_feed_43 : decode cX9_feed 43 = .ok (.aload_n 0, 1) := by decide +kernel
theorem dX9_feed_44 : decode cX9_feed 44 = .ok (.getfield 70, 3) := by decide +kernel
theorem dX9_feed_47 : decode cX9_feed 47 = .ok (.ireturn, 1) := by decide +kernel
theorem dX9_feed_13 : decode cX9_feed 13 = .ok (.bipush (-5), 2) := by decide +kernel
theorem dX9_feed_15 : decode cX9_feed 15 = .ok (.ireturn, 1) := by decide +kernel
set_option maxHeartbeats 4000000 in
set_option maxRecDepth 100000 in
theorem k_X9_feed_0 (l : Launch) (V : GV) (y : Nat → Nat) (a1 : Int32) (a2 : Int32) (a3 : Int32) (a4 : Int32) (a5 : Int32) (py0_1 : Int32) (o10 : Value) (o11 : Value) (py0_12 : Int32) (py0_13 : Int32) (py0_14 : Int32) (fy1 : Nat → Int32) (bpy0_1 : iv 0 900 py0_1) (bpy0_12 : iv 0 9999 py0_12) (bpy0_13 : iv 0 9 py0_13) (tfy1 : ∀ j, iv (-128) 127 (fy1 j)) : Ct l V yX9_feed (.code yX9_feed cX9_feed 6 (some .int)) 2 [.ref (y 0), .int a1, .int a2, .int a3, .int a4, .int a5] [(y 0, .inr (9, o9_rirrrrrrrrvviii (y 1) py0_1 (y 2) (y 10) (y 19) (y 25) (y 26) (y 30) (y 31) (y 32) o10 o11 py0_12 py0_13 py0_14)), (y 1, aB V 900 fy1)] 0 0 (QI V (fun (r : Int32) (w : va_W) => ∃ (v0 : Int32) (g1 : Nat → Int32), iv 0 900 v0 ∧ (∀ j, iv (-128) 127 (g1 j)) ∧ iv (-5) 900 r ∧ r = feF py0_1 ∧ (v0 = feS py0_1) ∧ (g1 = feC fy1 py0_1 a1 a2 a3 a4 a5) ∧ w = [(y 0, .inr (9, o9_rirrrrrrrrvviii (y 1) v0 (y 2) (y 10) (y 19) (y 25) (y 26) (y 30) (y 31) (y 32) o10 o11 py0_12 py0_13 py0_14)), (y 1, aB V 900 g1)])) := by
  refine Ct.of (by decide) (Nat.le_of_ble_eq_true rfl) (fun p e s m below meth c A ls hx hb hr hml hown hlk hnm hg hP hK hD hE hA hS hl => ?_)
  have hl : lv_has ls 6 [(0, .ref (y 0)), (1, .int a1), (2, .int a2), (3, .int a3), (4, .int a4), (5, .int a5)] := hl
  refine lv_aload_n hx hb dX9_feed_0 rfl (lv_at hl 0 rfl) ?_
  refine va_get (ci := 9) (v := .int py0_1) (C := RX9) (T := TX9) (N := 15) hx hb hg inX9 hown hK hP 0 rfl rfl 1 (by decide) (hg _ q_2_37) (fun _ h9 => h9) rfl dX9_feed_1 ?_
  refine lv_bipush (v := 20) hx hb dX9_feed_4 (by decide) ?_
  refine lv_iadd hx hb dX9_feed_6 ?_
  refine lv_topi (fun x_1 ex_1 => ?_)
  have bx_1 : iv 20 920 x_1 := by rw [ex_1]; exact iv_add bpy0_1 (iv_c (20 : Int32) (a := 20) (b := 20) (by decide)) (by decide)
  refine lv_sipush (v := 900) hx hb dX9_feed_7 (by decide) ?_
  refine lv_icmp_le (tgt := 16) hx hb dX9_feed_10 (by decide) (fun c_2 => ?_) (fun c_2 => ?_)
  · have b_3 : iv 20 900 x_1 := iv_e1 c_2 bx_1 (iv_c (900 : Int32) (a := 900) (b := 900) (by decide)) (by decide)
    have b_4 : iv 0 880 py0_1 := iv_addb ex_1 b_3 bpy0_1 (iv_c (20 : Int32) (a := 20) (b := 20) (by decide)) (by decide)
    refine lv_aload_n hx hb dX9_feed_16 rfl (lv_at hl 0 rfl) ?_
    refine lv_iload_n hx hb dX9_feed_17 rfl (lv_at hl 1 rfl) ?_
    refine jnV (wr := []) (rnV (rest := []) ⟨hx, hb, hml, hown, hg⟩ (k_X9_putOnTape_0 l V y a1 py0_1 o10 o11 py0_12 py0_13 py0_14 fy1 b_4 bpy0_12 bpy0_13 tfy1) mt_X9_putOnTape q_2_86 ⟨Nat.le_of_ble_eq_true rfl, Nat.le_of_ble_eq_true rfl⟩ hK hP hD hS hA hE [0, 1] rfl rfl 0 rfl rfl rfl rfl hl.1 rfl (Nat.le_of_ble_eq_true rfl) dX9_feed_18 ⟨Nat.le_of_ble_eq_true rfl, Nat.le_of_ble_eq_true rfl⟩) hP hD hS hA [0, 1] [] rfl rfl rfl (by decide) (fun  w H locs hw hP hD hS => ?_)
    obtain ⟨v_5, f_6, bv_5, tf_6, g_7, g_8, g_9, rfl⟩ := hw
    have hP : va_P V.1 vwCl [(y 0, .inr (9, o9_rirrrrrrrrvviii (y 1) v_5 (y 2) (y 10) (y 19) (y 25) (y 26) (y 30) (y 31) (y 32) o10 o11 py0_12 py0_13 py0_14)), (y 1, aB V 900 f_6)] H := hP
    have hD := cpD hP hD
    have ev_5 := g_7
    refine lv_aload_n hx hb dX9_feed_21 rfl (lv_at hl 0 rfl) ?_
    refine lv_iload_n hx hb dX9_feed_22 rfl (lv_at hl 2 rfl) ?_
    refine jnV (wr := []) (rnV (rest := []) ⟨hx, hb, hml, hown, hg⟩ (k_X9_putOnTape_1 l V y a2 v_5 o10 o11 py0_12 py0_13 py0_14 f_6 bv_5 bpy0_12 bpy0_13 tf_6) mt_X9_putOnTape q_2_86 ⟨Nat.le_of_ble_eq_true rfl, Nat.le_of_ble_eq_true rfl⟩ hK hP hD hS hA hE [0, 1] rfl rfl 0 rfl rfl rfl rfl hl.1 rfl (Nat.le_of_ble_eq_true rfl) dX9_feed_23 ⟨Nat.le_of_ble_eq_true rfl, Nat.le_of_ble_eq_true rfl⟩) hP hD hS hA [0, 1] [] rfl rfl rfl (by decide) (fun  w H locs hw hP hD hS => ?_)
    obtain ⟨v_10, f_11, bv_10, tf_11, g_12, g_13, g_14, rfl⟩ := hw
    have hP : va_P V.1 vwCl [(y 0, .inr (9, o9_rirrrrrrrrvviii (y 1) v_10 (y 2) (y 10) (y 19) (y 25) (y 26) (y 30) (y 31) (y 32) o10 o11 py0_12 py0_13 py0_14)), (y 1, aB V 900 f_11)] H := hP
    have hD := cpD hP hD
    have ev_10 := g_12
    refine lv_aload_n hx hb dX9_feed_26 rfl (lv_at hl 0 rfl) ?_
    refine lv_iload_n hx hb dX9_feed_27 rfl (lv_at hl 3 rfl) ?_
    refine jnV (wr := []) (rnV (rest := []) ⟨hx, hb, hml, hown, hg⟩ (k_X9_putOnTape_2 l V y a3 v_10 o10 o11 py0_12 py0_13 py0_14 f_11 bv_10 bpy0_12 bpy0_13 tf_11) mt_X9_putOnTape q_2_86 ⟨Nat.le_of_ble_eq_true rfl, Nat.le_of_ble_eq_true rfl⟩ hK hP hD hS hA hE [0, 1] rfl rfl 0 rfl rfl rfl rfl hl.1 rfl (Nat.le_of_ble_eq_true rfl) dX9_feed_28 ⟨Nat.le_of_ble_eq_true rfl, Nat.le_of_ble_eq_true rfl⟩) hP hD hS hA [0, 1] [] rfl rfl rfl (by decide) (fun  w H locs hw hP hD hS => ?_)
    obtain ⟨v_15, f_16, bv_15, tf_16, g_17, g_18, g_19, rfl⟩ := hw
    have hP : va_P V.1 vwCl [(y 0, .inr (9, o9_rirrrrrrrrvviii (y 1) v_15 (y 2) (y 10) (y 19) (y 25) (y 26) (y 30) (y 31) (y 32) o10 o11 py0_12 py0_13 py0_14)), (y 1, aB V 900 f_16)] H := hP
    have hD := cpD hP hD
    have ev_15 := g_17
    refine lv_aload_n hx hb dX9_feed_31 rfl (lv_at hl 0 rfl) ?_
    refine lv_iload hx hb dX9_feed_32 (lv_at hl 4 rfl) ?_
    refine jnV (wr := []) (rnV (rest := []) ⟨hx, hb, hml, hown, hg⟩ (k_X9_putOnTape_3 l V y a4 v_15 o10 o11 py0_12 py0_13 py0_14 f_16 bv_15 bpy0_12 bpy0_13 tf_16) mt_X9_putOnTape q_2_86 ⟨Nat.le_of_ble_eq_true rfl, Nat.le_of_ble_eq_true rfl⟩ hK hP hD hS hA hE [0, 1] rfl rfl 0 rfl rfl rfl rfl hl.1 rfl (Nat.le_of_ble_eq_true rfl) dX9_feed_34 ⟨Nat.le_of_ble_eq_true rfl, Nat.le_of_ble_eq_true rfl⟩) hP hD hS hA [0, 1] [] rfl rfl rfl (by decide) (fun  w H locs hw hP hD hS => ?_)
    obtain ⟨v_20, f_21, bv_20, tf_21, g_22, g_23, g_24, rfl⟩ := hw
    have hP : va_P V.1 vwCl [(y 0, .inr (9, o9_rirrrrrrrrvviii (y 1) v_20 (y 2) (y 10) (y 19) (y 25) (y 26) (y 30) (y 31) (y 32) o10 o11 py0_12 py0_13 py0_14)), (y 1, aB V 900 f_21)] H := hP
    have hD := cpD hP hD
    have ev_20 := g_22
    refine lv_aload_n hx hb dX9_feed_37 rfl (lv_at hl 0 rfl) ?_
    refine lv_iload hx hb dX9_feed_38 (lv_at hl 5 rfl) ?_
    refine jnV (wr := []) (rnV (rest := []) ⟨hx, hb, hml, hown, hg⟩ (k_X9_putOnTape_4 l V y a5 v_20 o10 o11 py0_12 py0_13 py0_14 f_21 bv_20 bpy0_12 bpy0_13 tf_21) mt_X9_putOnTape q_2_86 ⟨Nat.le_of_ble_eq_true rfl, Nat.le_of_ble_eq_true rfl⟩ hK hP hD hS hA hE [0, 1] rfl rfl 0 rfl rfl rfl rfl hl.1 rfl (Nat.le_of_ble_eq_true rfl) dX9_feed_40 ⟨Nat.le_of_ble_eq_true rfl, Nat.le_of_ble_eq_true rfl⟩) hP hD hS hA [0, 1] [] rfl rfl rfl (by decide) (fun  w H locs hw hP hD hS => ?_)
    obtain ⟨v_25, f_26, bv_25, tf_26, g_27, g_28, g_29, rfl⟩ := hw
    have hP : va_P V.1 vwCl [(y 0, .inr (9, o9_rirrrrrrrrvviii (y 1) v_25 (y 2) (y 10) (y 19) (y 25) (y 26) (y 30) (y 31) (y 32) o10 o11 py0_12 py0_13 py0_14)), (y 1, aB V 900 f_26)] H := hP
    have hD := cpD hP hD
    have ev_25 := g_27
    refine lv_aload_n hx hb dX9_feed_43 rfl (lv_at hl 0 rfl) ?_
    refine va_get (ci := 9) (v := .int v_25) (C := RX9) (T := TX9) (N := 15) hx hb hg inX9 hown hK hP 0 rfl rfl 1 (by decide) (hg _ q_2_37) (fun _ h9 => h9) rfl dX9_feed_44 ?_
    exact fiI hx hb hr hlk hK hP hD hS dX9_feed_47 (Nat.le_of_ble_eq_true rfl) (Nat.le_of_ble_eq_true rfl) (⟨v_25, f_26, bv_25, tf_26, (iv_w bv_25 (by decide)), (fe_1 (by have q_v_5 := toInt_add ev_5 b_4 (iv_c (4 : Int32) (a := 4) (b := 4) (by decide)) (by decide); have k_v_5 : (4 : Int32).toInt = 4 := (by decide); have q_v_10 := toInt_add ev_10 bv_5 (iv_c (4 : Int32) (a := 4) (b := 4) (by decide)) (by decide); have k_v_10 : (4 : Int32).toInt = 4 := (by decide); have q_v_15 := toInt_add ev_15 bv_10 (iv_c (4 : Int32) (a := 4) (b := 4) (by decide)) (by decide); have k_v_15 : (4 : Int32).toInt = 4 := (by decide); have q_v_20 := toInt_add ev_20 bv_15 (iv_c (4 : Int32) (a := 4) (b := 4) (by decide)) (by decide); have k_v_20 : (4 : Int32).toInt = 4 := (by decide); have q_v_25 := toInt_add ev_25 bv_20 (iv_c (4 : Int32) (a := 4) (b := 4) (by decide)) (by decide); have k_v_25 : (4 : Int32).toInt = 4 := (by decide); omega) (by have q_x_1 := toInt_add ex_1 b_4 (iv_c (20 : Int32) (a := 20) (b := 20) (by decide)) (by decide); have k_x_1 : (20 : Int32).toInt = 20 := (by decide); have z_0 := Int32.le_iff_toInt_le.mp c_2; have k_900 : (900 : Int32).toInt = 900 := (by decide); omega)), (fs_1 (by have q_v_5 := toInt_add ev_5 b_4 (iv_c (4 : Int32) (a := 4) (b := 4) (by decide)) (by decide); have k_v_5 : (4 : Int32).toInt = 4 := (by decide); have q_v_10 := toInt_add ev_10 bv_5 (iv_c (4 : Int32) (a := 4) (b := 4) (by decide)) (by decide); have k_v_10 : (4 : Int32).toInt = 4 := (by decide); have q_v_15 := toInt_add ev_15 bv_10 (iv_c (4 : Int32) (a := 4) (b := 4) (by decide)) (by decide); have k_v_15 : (4 : Int32).toInt = 4 := (by decide); have q_v_20 := toInt_add ev_20 bv_15 (iv_c (4 : Int32) (a := 4) (b := 4) (by decide)) (by decide); have k_v_20 : (4 : Int32).toInt = 4 := (by decide); have q_v_25 := toInt_add ev_25 bv_20 (iv_c (4 : Int32) (a := 4) (b := 4) (by decide)) (by decide); have k_v_25 : (4 : Int32).toInt = 4 := (by decide); omega) (by have q_x_1 := toInt_add ex_1 b_4 (iv_c (20 : Int32) (a := 20) (b := 20) (by decide)) (by decide); have k_x_1 : (20 : Int32).toInt = 20 := (by decide); have z_0 := Int32.le_iff_toInt_le.mp c_2; have k_900 : (900 : Int32).toInt = 900 := (by decide); omega)), (by unfold feC; rw [if_neg (show ¬ 880 < (py0_1 : Int32).toInt by have q_x_1 := toInt_add ex_1 b_4 (iv_c (20 : Int32) (a := 20) (b := 20) (by decide)) (by decide); have k_x_1 : (20 : Int32).toInt = 20 := (by decide); have z_0 := Int32.le_iff_toInt_le.mp c_2; have k_900 : (900 : Int32).toInt = 900 := (by decide); omega), g_28, g_23, g_18, g_13, g_8, g_24, g_19, g_14, g_9]), rfl⟩)
  · have b_30 : iv 901 920 x_1 := iv_l2 (Int32.not_le.mp c_2) (iv_c (900 : Int32) (a := 900) (b := 900) (by decide)) bx_1 (by decide)
    have b_31 : iv 881 900 py0_1 := iv_addb ex_1 b_30 bpy0_1 (iv_c (20 : Int32) (a := 20) (b := 20) (by decide)) (by decide)
    refine lv_bipush (v := (-5)) hx hb dX9_feed_13 (by decide) ?_
    exact fiI hx hb hr hlk hK hP hD hS dX9_feed_15 (Nat.le_of_ble_eq_true rfl) (Nat.le_of_ble_eq_true rfl) (⟨py0_1, fy1, (iv_w b_31 (by decide)), tfy1, (iv_c ((-5) : Int32) (by decide)), (fe_5 (by have q_x_1 := toInt_add ex_1 b_31 (iv_c (20 : Int32) (a := 20) (b := 20) (by decide)) (by decide); have k_x_1 : (20 : Int32).toInt = 20 := (by decide); have z_0 := Int32.lt_iff_toInt_lt.mp (Int32.not_le.mp c_2); have k_900 : (900 : Int32).toInt = 900 := (by decide); omega)), (fs_5 (by have q_x_1 := toInt_add ex_1 b_31 (iv_c (20 : Int32) (a := 20) (b := 20) (by decide)) (by decide); have k_x_1 : (20 : Int32).toInt = 20 := (by decide); have z_0 := Int32.lt_iff_toInt_lt.mp (Int32.not_le.mp c_2); have k_900 : (900 : Int32).toInt = 900 := (by decide); omega)), (by unfold feC; rw [if_pos (show 880 < (py0_1 : Int32).toInt by have q_x_1 := toInt_add ex_1 b_31 (iv_c (20 : Int32) (a := 20) (b := 20) (by decide)) (by decide); have k_x_1 : (20 : Int32).toInt = 20 := (by decide); have z_0 := Int32.lt_iff_toInt_lt.mp (Int32.not_le.mp c_2); have k_900 : (900 : Int32).toInt = 900 := (by decide); omega)]), rfl⟩)
