theorem dX10_weather_0 : decode cX10_weather 0 = .ok (.aload_n 0, 1) := by decide +kernel
theorem dX10_weather_1 : decode cX10_weather 1 = .ok (.iconst 0, 1) := by decide +kernel
theorem dX10_weather_2 : decode cX10_weather 2 = .ok (.putfield 1, 3) := by decide +kernel
theorem dX10_weather_5 : decode cX10_weather 5 = .ok (.iload_n 1, 1) := by decide +kernel
theorem dX10_weather_6 : decode cX10_weather 6 = .ok (.i2l, 1) := by decide +kernel
theorem dX10_weather_7 : decode cX10_weather 7 = .ok (.lconst 0, 1) := by decide +kernel
theorem q_7_97 : Cond.constantLong "BeaconDelayModel" 296 (9 : Int64) ∈ gw := gw_7 (i := 97) (by decide +kernel) rfl
theorem dX10_weather_8 : decode cX10_weather 8 = .ok (.ldc2_w 296, 3) := by decide +kernel
theorem dX10_weather_11 : decode cX10_weather 11 = .ok (.invokestatic 159, 3) := by decide +kernel
theorem dX10_weather_14 : decode cX10_weather 14 = .ok (.ifCond .ne 6, 3) := by decide +kernel
theorem dX10_weather_17 : decode cX10_weather 17 = .ok (.bipush (-11), 2) := by decide +kernel
theorem dX10_weather_19 : decode cX10_weather 19 = .ok (.ireturn, 1) := by decide +kernel
theorem dX10_weather_20 : decode cX10_weather 20 = .ok (.aload_n 0, 1) := by decide +kernel
theorem dX10_weather_21 : decode cX10_weather 21 = .ok (.invokevirtual 278, 3) := by decide +kernel
theorem dX10_weather_24 : decode cX10_weather 24 = .ok (.aload_n 0, 1) := by decide +kernel
theorem dX10_weather_25 : decode cX10_weather 25 = .ok (.getfield 13, 3) := by decide +kernel
theorem dX10_weather_28 : decode cX10_weather 28 = .ok (.bipush 51, 2) := by decide +kernel
theorem dX10_weather_30 : decode cX10_weather 30 = .ok (.iload_n 1, 1) := by decide +kernel
theorem dX10_weather_31 : decode cX10_weather 31 = .ok (.iastore, 1) := by decide +kernel
theorem dX10_weather_32 : decode cX10_weather 32 = .ok (.aload_n 0, 1) := by decide +kernel
theorem dX10_weather_33 : decode cX10_weather 33 = .ok (.invokevirtual 284, 3) := by decide +kernel
theorem dX10_weather_36 : decode cX10_weather 36 = .ok (.aload_n 0, 1) := by decide +kernel
theorem dX10_weather_37 : decode cX10_weather 37 = .ok (.getfield 36, 3) := by decide +kernel
theorem dX10_weather_40 : decode cX10_weather 40 = .ok (.iconst 5, 1) := by decide +kernel
theorem dX10_weather_41 : decode cX10_weather 41 = .ok (.iaload, 1) := by decide +kernel
theorem dX10_weather_42 : decode cX10_weather 42 = .ok (.ireturn, 1) := by decide +kernel
set_option maxHeartbeats 4000000 in
set_option maxRecDepth 100000 in
theorem c_X10_weather_0 (l : Launch) (V : GV) (z : Nat → Nat) (p0 : Int32) : Ct l V yX10_weather (.code yX10_weather cX10_weather 2 (some .int)) 2 [.ref (z 0), .int p0] [(z 0, .inr (10, mo z 0 0 0 0 0 0 0 0 0 0 (-1) 0 0 0 0 0)), (z 17, aI V 7 (fun _ => 0)), (z 1, aI V 3075 (fun _ => 0))] 0 0 (QI V (fun (r : Int32) (w : va_W) => (p0.toInt64 < 0 ∧ r = (-11) ∧ w = [(z 0, .inr (10, mo z 0 0 0 0 0 0 0 0 0 0 (-1) 0 0 0 0 0)), (z 17, aI V 7 (fun _ => 0)), (z 1, aI V 3075 (fun _ => 0))]) ∨ ((¬ p0.toInt64 < 0) ∧ 9 < p0.toInt64 ∧ r = (-11) ∧ w = [(z 0, .inr (10, mo z 0 0 0 0 0 0 0 0 0 0 (-1) 0 0 0 0 0)), (z 17, aI V 7 (fun _ => 0)), (z 1, aI V 3075 (fun _ => 0))]) ∨ ((¬ p0.toInt64 < 0) ∧ (¬ 9 < p0.toInt64) ∧ r = 0 ∧ w = [(z 0, .inr (10, mo z 0 0 0 0 0 0 0 0 0 0 (-1) 0 0 0 0 0)), (z 17, aI V 7 (fun _ => 0)), (z 1, aI V 3075 (upd (upd (fun _ => 0) 51 p0) 53 1))]))) := by
  refine Ct.of (by decide) (Nat.le_of_ble_eq_true rfl) (fun p e s m below meth c A ls hx hb hr hml hown hlk hnm hg hP hK hD hE hA hS hl => ?_)
  have hl : lv_has ls 2 [(0, .ref (z 0)), (1, .int p0)] := hl
  refine lv_aload_n hx hb dX10_weather_0 rfl (lv_at hl 0 rfl) ?_
  refine lv_iconst (v := 0) hx hb dX10_weather_1 (by decide) ?_
  refine va_put (ci := 10) (v := .int 0) (ty := .int) (C := RX10) (T := TX10) (N := 40) hx hb hg inX10 tyX10 tyX10_ok nmX10 hown hK hP hD hS 0 rfl rfl 0 (by decide) (hg _ q_5_224) (fun _ h9 => h9) rfl (by decide +kernel) rfl rfl (Nat.le_of_ble_eq_true rfl) dX10_weather_2 (fun H locs hP hD hS => ?_)
  have hP : va_P V.1 vwCl [(z 0, .inr (10, mo z 0 0 0 0 0 0 0 0 0 0 (-1) 0 0 0 0 0)), (z 17, aI V 7 (fun _ => 0)), (z 1, aI V 3075 (fun _ => 0))] H := hP
  have hD : va_D A [(z 0, .inr (10, mo z 0 0 0 0 0 0 0 0 0 0 (-1) 0 0 0 0 0)), (z 17, aI V 7 (fun _ => 0)), (z 1, aI V 3075 (fun _ => 0))] := hD
  refine lv_iload_n hx hb dX10_weather_5 rfl (lv_at hl 1 rfl) ?_
  refine lv_i2l (v := p0.toInt64) hx hb dX10_weather_6 rfl ?_
  refine lv_lconst (v := 0) hx hb dX10_weather_7 (by decide) ?_
  refine lv_ldc2 (v := 9) hx hb hown (hg _ q_7_97) dX10_weather_8 ?_
  refine jnI (wr := [(z 0, .inr (10, mo z 0 0 0 0 0 0 0 0 0 0 (-1) 0 0 0 0 0)), (z 17, aI V 7 (fun _ => 0)), (z 1, aI V 3075 (fun _ => 0))]) (rnS (rest := []) ⟨hx, hb, hml, hown, hg⟩ (c_X10_within_0 l V p0.toInt64 0 9) mt_X10_within q_6_114 ⟨Nat.le_of_ble_eq_true rfl, Nat.le_of_ble_eq_true rfl⟩ hK hP hD hS hA hE [] rfl rfl rfl hl.1 rfl (Nat.le_of_ble_eq_true rfl) dX10_weather_11 ⟨Nat.le_of_ble_eq_true rfl, Nat.le_of_ble_eq_true rfl⟩) hP hD hS hA [] [0, 1, 2] rfl rfl rfl (by decide) (fun r_1 w H locs hw hP hD hS => ?_)
  rcases hw with ⟨c_2, rfl, rfl⟩ | ⟨c_3, c_4, rfl, rfl⟩ | ⟨c_5, c_6, rfl, rfl⟩
  · have hP : va_P V.1 vwCl [(z 0, .inr (10, mo z 0 0 0 0 0 0 0 0 0 0 (-1) 0 0 0 0 0)), (z 17, aI V 7 (fun _ => 0)), (z 1, aI V 3075 (fun _ => 0))] H := hP
    have hD : va_D A [(z 0, .inr (10, mo z 0 0 0 0 0 0 0 0 0 0 (-1) 0 0 0 0 0)), (z 17, aI V 7 (fun _ => 0)), (z 1, aI V 3075 (fun _ => 0))] := hD
    refine lv_if_ne (tgt := 20) hx hb dX10_weather_14 (by decide) (fun c_7 => absurd c_7 (by decide)) (fun _ => ?_)
    refine lv_bipush (v := (-11)) hx hb dX10_weather_17 (by decide) ?_
    exact fiI hx hb hr hlk hK hP hD hS dX10_weather_19 (Nat.le_of_ble_eq_true rfl) (Nat.le_of_ble_eq_true rfl) (Or.inl ⟨c_2, rfl, rfl⟩)
  · have hP : va_P V.1 vwCl [(z 0, .inr (10, mo z 0 0 0 0 0 0 0 0 0 0 (-1) 0 0 0 0 0)), (z 17, aI V 7 (fun _ => 0)), (z 1, aI V 3075 (fun _ => 0))] H := hP
    have hD : va_D A [(z 0, .inr (10, mo z 0 0 0 0 0 0 0 0 0 0 (-1) 0 0 0 0 0)), (z 17, aI V 7 (fun _ => 0)), (z 1, aI V 3075 (fun _ => 0))] := hD
    refine lv_if_ne (tgt := 20) hx hb dX10_weather_14 (by decide) (fun c_8 => absurd c_8 (by decide)) (fun _ => ?_)
    refine lv_bipush (v := (-11)) hx hb dX10_weather_17 (by decide) ?_
    exact fiI hx hb hr hlk hK hP hD hS dX10_weather_19 (Nat.le_of_ble_eq_true rfl) (Nat.le_of_ble_eq_true rfl) (Or.inr (Or.inl ⟨c_3, c_4, rfl, rfl⟩))
  · have hP : va_P V.1 vwCl [(z 0, .inr (10, mo z 0 0 0 0 0 0 0 0 0 0 (-1) 0 0 0 0 0)), (z 17, aI V 7 (fun _ => 0)), (z 1, aI V 3075 (fun _ => 0))] H := hP
    have hD : va_D A [(z 0, .inr (10, mo z 0 0 0 0 0 0 0 0 0 0 (-1) 0 0 0 0 0)), (z 17, aI V 7 (fun _ => 0)), (z 1, aI V 3075 (fun _ => 0))] := hD
    refine lv_if_ne (tgt := 20) hx hb dX10_weather_14 (by decide) (fun _ => ?_) (fun c_9 => absurd c_9 (by decide))
    refine lv_aload_n hx hb dX10_weather_20 rfl (lv_at hl 0 rfl) ?_
    refine jnV (wr := []) (rnV (rest := []) ⟨hx, hb, hml, hown, hg⟩ (c_X10_stores_0 l V z) mt_X10_stores q_7_60 ⟨Nat.le_of_ble_eq_true rfl, Nat.le_of_ble_eq_true rfl⟩ hK hP hD hS hA hE [1, 0, 2] rfl rfl 0 rfl rfl rfl rfl hl.1 rfl (Nat.le_of_ble_eq_true rfl) dX10_weather_21 ⟨Nat.le_of_ble_eq_true rfl, Nat.le_of_ble_eq_true rfl⟩) hP hD hS hA [1, 0, 2] [] rfl rfl rfl (by decide) (fun  w H locs hw hP hD hS => ?_)
    subst hw
    have hP : va_P V.1 vwCl [(z 17, aI V 7 (fun _ => 0)), (z 0, .inr (10, mo z 0 0 0 0 0 0 0 0 0 0 (-1) 0 0 0 0 0)), (z 1, aI V 3075 (fun _ => 0))] H := hP
    have hD : va_D A [(z 17, aI V 7 (fun _ => 0)), (z 0, .inr (10, mo z 0 0 0 0 0 0 0 0 0 0 (-1) 0 0 0 0 0)), (z 1, aI V 3075 (fun _ => 0))] := hD
    refine lv_aload_n hx hb dX10_weather_24 rfl (lv_at hl 0 rfl) ?_
    refine va_get (ci := 10) (v := .ref (z 1)) (C := RX10) (T := TX10) (N := 40) hx hb hg inX10 hown hK hP 1 rfl rfl 1 (by decide) (hg _ q_5_225) (fun _ h9 => h9) rfl dX10_weather_25 ?_
    refine lv_bipush (v := 51) hx hb dX10_weather_28 (by decide) ?_
    refine lv_iload_n hx hb dX10_weather_30 rfl (lv_at hl 1 rfl) ?_
    refine va_iast hx hb hK hP hD hS 2 0 rfl rfl (vin (by decide +kernel)) dX10_weather_31 (fun H locs hP hD hS => ?_)
    have hP : va_P V.1 vwCl [(z 17, aI V 7 (fun _ => 0)), (z 0, .inr (10, mo z 0 0 0 0 0 0 0 0 0 0 (-1) 0 0 0 0 0)), (z 1, aI V 3075 (upd (fun _ => 0) 51 p0))] H := hP
    have hD : va_D A [(z 17, aI V 7 (fun _ => 0)), (z 0, .inr (10, mo z 0 0 0 0 0 0 0 0 0 0 (-1) 0 0 0 0 0)), (z 1, aI V 3075 (upd (fun _ => 0) 51 p0))] := hD
    refine lv_aload_n hx hb dX10_weather_32 rfl (lv_at hl 0 rfl) ?_
    refine jnV (wr := []) (rnV (rest := []) ⟨hx, hb, hml, hown, hg⟩ (c_X10_notes_2 l V z p0) mt_X10_notes q_7_72 ⟨Nat.le_of_ble_eq_true rfl, Nat.le_of_ble_eq_true rfl⟩ hK hP hD hS hA hE [0, 1, 2] rfl rfl 1 rfl rfl rfl rfl hl.1 rfl (Nat.le_of_ble_eq_true rfl) dX10_weather_33 ⟨Nat.le_of_ble_eq_true rfl, Nat.le_of_ble_eq_true rfl⟩) hP hD hS hA [0, 1, 2] [] rfl rfl rfl (by decide) (fun  w H locs hw hP hD hS => ?_)
    subst hw
    have hP : va_P V.1 vwCl [(z 17, aI V 7 (fun _ => 0)), (z 0, .inr (10, mo z 0 0 0 0 0 0 0 0 0 0 (-1) 0 0 0 0 0)), (z 1, aI V 3075 (upd (upd (fun _ => 0) 51 p0) 53 1))] H := hP
    have hD : va_D A [(z 17, aI V 7 (fun _ => 0)), (z 0, .inr (10, mo z 0 0 0 0 0 0 0 0 0 0 (-1) 0 0 0 0 0)), (z 1, aI V 3075 (upd (upd (fun _ => 0) 51 p0) 53 1))] := hD
    refine lv_aload_n hx hb dX10_weather_36 rfl (lv_at hl 0 rfl) ?_
    refine va_get (ci := 10) (v := .ref (z 17)) (C := RX10) (T := TX10) (N := 40) hx hb hg inX10 hown hK hP 1 rfl rfl 17 (by decide) (hg _ q_6_1) (fun _ h9 => h9) rfl dX10_weather_37 ?_
    refine lv_iconst (v := 5) hx hb dX10_weather_40 (by decide) ?_
    refine va_iald hx hb hK hP 0 0 rfl rfl (vin (by decide +kernel)) dX10_weather_41 ?_
    refine tpi (y := 0) (rfl) ?_
    have hP := subP (ws' := [(z 0, .inr (10, mo z 0 0 0 0 0 0 0 0 0 0 (-1) 0 0 0 0 0)), (z 17, aI V 7 (fun _ => 0)), (z 1, aI V 3075 (upd (upd (fun _ => 0) 51 p0) 53 1))]) hP [1, 0, 2] rfl
    have hD := hD.sub (ws' := [(z 0, .inr (10, mo z 0 0 0 0 0 0 0 0 0 0 (-1) 0 0 0 0 0)), (z 17, aI V 7 (fun _ => 0)), (z 1, aI V 3075 (upd (upd (fun _ => 0) 51 p0) 53 1))]) [1, 0, 2] rfl rfl
    exact fiI hx hb hr hlk hK hP hD hS dX10_weather_42 (Nat.le_of_ble_eq_true rfl) (Nat.le_of_ble_eq_true rfl) (Or.inr (Or.inr (⟨c_5, c_6, rfl, rfl⟩)))
theorem dX9_weather_0 : decode cX9_weather 0 = .ok (.iload_n 1, 1) := by decide +kernel
theorem dX9_weather_1 : decode cX9_weather 1 = .ok (.ifCond .lt 9, 3) := by decide +kernel
theorem dX9_weather_10 : decode cX9_weather 10 = .ok (.bipush (-11), 2) := by decide +kernel
theorem dX9_weather_12 : decode cX9_weather 12 = .ok (.ireturn, 1) := by decide +kernel
theorem dX9_weather_4 : decode cX9_weather 4 = .ok (.iload_n 1, 1) := by decide +kernel
theorem dX9_weather_5 : decode cX9_weather 5 = .ok (.bipush 10, 2) := by decide +kernel
theorem dX9_weather_7 : decode cX9_weather 7 = .ok (.if_icmp .lt 6, 3) := by decide +kernel
theorem dX9_weather_13 : decode cX9_weather 13 = .ok (.aload_n 0, 1) := by decide +kernel
theorem dX9_weather_14 : decode cX9_weather 14 = .ok (.getfield 48, 3) := by decide +kernel
theorem dX9_weather_17 : decode cX9_weather 17 = .ok (.aload_n 0, 1) := by decide +kernel
theorem dX9_weather_18 : decode cX9_weather 18 = .ok (.getfield 113, 3) := by decide +kernel
theorem dX9_weather_21 : decode cX9_weather 21 = .ok (.aload_n 0, 1) := by decide +kernel
theorem dX9_weather_22 : decode cX9_weather 22 = .ok (.getfield 116, 3) := by decide +kernel
theorem dX9_weather_25 : decode cX9_weather 25 = .ok (.aload_n 0, 1) := by decide +kernel
theorem dX9_weather_26 : decode cX9_weather 26 = .ok (.getfield 119, 3) := by decide +kernel
theorem dX9_weather_29 : decode cX9_weather 29 = .ok (.invokevirtual 165, 3) := by decide +kernel
theorem dX9_weather_32 : decode cX9_weather 32 = .ok (.aload_n 0, 1) := by decide +kernel
theorem dX9_weather_33 : decode cX9_weather 33 = .ok (.getfield 116, 3) := by decide +kernel
theorem dX9_weather_36 : decode cX9_weather 36 = .ok (.istore_n 2, 1) := by decide +kernel
theorem dX9_weather_37 : decode cX9_weather 37 = .ok (.aload_n 0, 1) := by decide +kernel
theorem dX9_weather_38 : decode cX9_weather 38 = .ok (.iload_n 1, 1) := by decide +kernel
theorem dX9_weather_39 : decode cX9_weather 39 = .ok (.putfield 116, 3) := by decide +kernel
theorem dX9_weather_42 : decode cX9_weather 42 = .ok (.iload_n 2, 1) := by decide +kernel
theorem dX9_weather_43 : decode cX9_weather 43 = .ok (.ireturn, 1) := by decide +kernel
set_option maxHeartbeats 4000000 in
set_option maxRecDepth 100000 in
theorem c_X9_weather_0 (l : Launch) (V : GV) (y : Nat → Nat) (p0 : Int32) : Ct l V yX9_weather (.code yX9_weather cX9_weather 3 (some .int)) 2 [.ref (y 0), .int p0] [(y 0, .inr (9, [.ref (y 1), .int 0, .ref (y 2), .ref (y 10), .ref (y 19), .ref (y 25), .ref (y 26), .ref (y 30), .ref (y 31), .ref (y 32), .null, .null, .int 0, .int 0, .int 0])), (y 26, .inr (5, [.ref (y 27), .ref (y 28), .ref (y 29), .int 0])), (y 27, aI V 10 (fun _ => 0)), (y 28, aI V 10 (fun _ => 0)), (y 29, aI V 10 (fun _ => 0))] 0 0 (QI V (fun (r : Int32) (w : va_W) => (p0 < 0 ∧ r = (-11) ∧ w = [(y 0, .inr (9, [.ref (y 1), .int 0, .ref (y 2), .ref (y 10), .ref (y 19), .ref (y 25), .ref (y 26), .ref (y 30), .ref (y 31), .ref (y 32), .null, .null, .int 0, .int 0, .int 0])), (y 26, .inr (5, [.ref (y 27), .ref (y 28), .ref (y 29), .int 0])), (y 27, aI V 10 (fun _ => 0)), (y 28, aI V 10 (fun _ => 0)), (y 29, aI V 10 (fun _ => 0))]) ∨ ((¬ p0 < 0) ∧ (¬ p0 < 10) ∧ r = (-11) ∧ w = [(y 0, .inr (9, [.ref (y 1), .int 0, .ref (y 2), .ref (y 10), .ref (y 19), .ref (y 25), .ref (y 26), .ref (y 30), .ref (y 31), .ref (y 32), .null, .null, .int 0, .int 0, .int 0])), (y 26, .inr (5, [.ref (y 27), .ref (y 28), .ref (y 29), .int 0])), (y 27, aI V 10 (fun _ => 0)), (y 28, aI V 10 (fun _ => 0)), (y 29, aI V 10 (fun _ => 0))]) ∨ ((¬ p0 < 0) ∧ p0 < 10 ∧ r = 0 ∧ w = [(y 0, .inr (9, [.ref (y 1), .int 0, .ref (y 2), .ref (y 10), .ref (y 19), .ref (y 25), .ref (y 26), .ref (y 30), .ref (y 31), .ref (y 32), .null, .null, .int 0, .int p0, .int 0])), (y 26, .inr (5, [.ref (y 27), .ref (y 28), .ref (y 29), .int 1])), (y 27, aI V 10 (fun _ => 0)), (y 28, aI V 10 (fun _ => 0)), (y 29, aI V 10 (fun _ => 0))]))) := by
  refine Ct.of (by decide) (Nat.le_of_ble_eq_true rfl) (fun p e s m below meth c A ls hx hb hr hml hown hlk hnm hg hP hK hD hE hA hS hl => ?_)
  have hl : lv_has ls 3 [(0, .ref (y 0)), (1, .int p0)] := hl
  refine lv_iload_n hx hb dX9_weather_0 rfl (lv_at hl 1 rfl) ?_
  refine lv_if_lt (tgt := 10) hx hb dX9_weather_1 (by decide) (fun c_1 => ?_) (fun c_1 => ?_)
  · refine lv_bipush (v := (-11)) hx hb dX9_weather_10 (by decide) ?_
    exact fiI hx hb hr hlk hK hP hD hS dX9_weather_12 (Nat.le_of_ble_eq_true rfl) (Nat.le_of_ble_eq_true rfl) (Or.inl ⟨c_1, rfl, rfl⟩)
  · refine lv_iload_n hx hb dX9_weather_4 rfl (lv_at hl 1 rfl) ?_
    refine lv_bipush (v := 10) hx hb dX9_weather_5 (by decide) ?_
    refine lv_icmp_lt (tgt := 13) hx hb dX9_weather_7 (by decide) (fun c_2 => ?_) (fun c_2 => ?_)
    · refine lv_aload_n hx hb dX9_weather_13 rfl (lv_at hl 0 rfl) ?_
      refine va_get (ci := 9) (v := .ref (y 26)) (C := RX9) (T := TX9) (N := 15) hx hb hg inX9 hown hK hP 0 rfl rfl 6 (by decide) (hg _ q_2_42) (fun _ h9 => h9) rfl dX9_weather_14 ?_
      refine lv_aload_n hx hb dX9_weather_17 rfl (lv_at hl 0 rfl) ?_
      refine va_get (ci := 9) (v := .int 0) (C := RX9) (T := TX9) (N := 15) hx hb hg inX9 hown hK hP 0 rfl rfl 12 (by decide) (hg _ q_2_48) (fun _ h9 => h9) rfl dX9_weather_18 ?_
      refine lv_aload_n hx hb dX9_weather_21 rfl (lv_at hl 0 rfl) ?_
      refine va_get (ci := 9) (v := .int 0) (C := RX9) (T := TX9) (N := 15) hx hb hg inX9 hown hK hP 0 rfl rfl 13 (by decide) (hg _ q_2_49) (fun _ h9 => h9) rfl dX9_weather_22 ?_
      refine lv_aload_n hx hb dX9_weather_25 rfl (lv_at hl 0 rfl) ?_
      refine va_get (ci := 9) (v := .int 0) (C := RX9) (T := TX9) (N := 15) hx hb hg inX9 hown hK hP 0 rfl rfl 14 (by decide) (hg _ q_2_50) (fun _ h9 => h9) rfl dX9_weather_26 ?_
      refine jnV (wr := [(y 0, .inr (9, [.ref (y 1), .int 0, .ref (y 2), .ref (y 10), .ref (y 19), .ref (y 25), .ref (y 26), .ref (y 30), .ref (y 31), .ref (y 32), .null, .null, .int 0, .int 0, .int 0]))]) (rnV (rest := []) ⟨hx, hb, hml, hown, hg⟩ (c_X5_keep_0 l V y) mt_X5_keep q_3_177 ⟨Nat.le_of_ble_eq_true rfl, Nat.le_of_ble_eq_true rfl⟩ hK hP hD hS hA hE [1, 2, 3, 4] rfl rfl 1 rfl rfl rfl rfl hl.1 rfl (Nat.le_of_ble_eq_true rfl) dX9_weather_29 ⟨Nat.le_of_ble_eq_true rfl, Nat.le_of_ble_eq_true rfl⟩) hP hD hS hA [1, 2, 3, 4] [0] rfl rfl rfl (by decide) (fun  w H locs hw hP hD hS => ?_)
      subst hw
      have hP : va_P V.1 vwCl [(y 0, .inr (9, [.ref (y 1), .int 0, .ref (y 2), .ref (y 10), .ref (y 19), .ref (y 25), .ref (y 26), .ref (y 30), .ref (y 31), .ref (y 32), .null, .null, .int 0, .int 0, .int 0])), (y 26, .inr (5, [.ref (y 27), .ref (y 28), .ref (y 29), .int 1])), (y 27, aI V 10 (fun _ => 0)), (y 28, aI V 10 (fun _ => 0)), (y 29, aI V 10 (fun _ => 0))] H := hP
      have hD : va_D A [(y 0, .inr (9, [.ref (y 1), .int 0, .ref (y 2), .ref (y 10), .ref (y 19), .ref (y 25), .ref (y 26), .ref (y 30), .ref (y 31), .ref (y 32), .null, .null, .int 0, .int 0, .int 0])), (y 26, .inr (5, [.ref (y 27), .ref (y 28), .ref (y 29), .int 1])), (y 27, aI V 10 (fun _ => 0)), (y 28, aI V 10 (fun _ => 0)), (y 29, aI V 10 (fun _ => 0))] := hD
      refine lv_aload_n hx hb dX9_weather_32 rfl (lv_at hl 0 rfl) ?_
      refine va_get (ci := 9) (v := .int 0) (C := RX9) (T := TX9) (N := 15) hx hb hg inX9 hown hK hP 0 rfl rfl 13 (by decide) (hg _ q_2_49) (fun _ h9 => h9) rfl dX9_weather_33 ?_
      refine lv_istore_n (lv' := [(2, .int 0), (0, .ref (y 0)), (1, .int p0)]) hx hb dX9_weather_36 rfl hl (by decide) rfl (fun ls hl => ?_)
      refine lv_aload_n hx hb dX9_weather_37 rfl (lv_at hl 1 rfl) ?_
      refine lv_iload_n hx hb dX9_weather_38 rfl (lv_at hl 2 rfl) ?_
      refine va_put (ci := 9) (v := .int p0) (ty := .int) (C := RX9) (T := TX9) (N := 15) hx hb hg inX9 tyX9 tyX9_ok nmX9 hown hK hP hD hS 0 rfl rfl 13 (by decide) (hg _ q_2_49) (fun _ h9 => h9) rfl (by decide +kernel) rfl rfl (Nat.le_of_ble_eq_true rfl) dX9_weather_39 (fun H locs hP hD hS => ?_)
      have hP : va_P V.1 vwCl [(y 0, .inr (9, [.ref (y 1), .int 0, .ref (y 2), .ref (y 10), .ref (y 19), .ref (y 25), .ref (y 26), .ref (y 30), .ref (y 31), .ref (y 32), .null, .null, .int 0, .int p0, .int 0])), (y 26, .inr (5, [.ref (y 27), .ref (y 28), .ref (y 29), .int 1])), (y 27, aI V 10 (fun _ => 0)), (y 28, aI V 10 (fun _ => 0)), (y 29, aI V 10 (fun _ => 0))] H := hP
      have hD : va_D A [(y 0, .inr (9, [.ref (y 1), .int 0, .ref (y 2), .ref (y 10), .ref (y 19), .ref (y 25), .ref (y 26), .ref (y 30), .ref (y 31), .ref (y 32), .null, .null, .int 0, .int p0, .int 0])), (y 26, .inr (5, [.ref (y 27), .ref (y 28), .ref (y 29), .int 1])), (y 27, aI V 10 (fun _ => 0)), (y 28, aI V 10 (fun _ => 0)), (y 29, aI V 10 (fun _ => 0))] := hD
      refine lv_iload_n hx hb dX9_weather_42 rfl (lv_at hl 0 rfl) ?_
      exact fiI hx hb hr hlk hK hP hD hS dX9_weather_43 (Nat.le_of_ble_eq_true rfl) (Nat.le_of_ble_eq_true rfl) (Or.inr (Or.inr (⟨c_1, c_2, rfl, rfl⟩)))
    · refine lv_bipush (v := (-11)) hx hb dX9_weather_10 (by decide) ?_
      exact fiI hx hb hr hlk hK hP hD hS dX9_weather_12 (Nat.le_of_ble_eq_true rfl) (Nat.le_of_ble_eq_true rfl) (Or.inr (Or.inl ⟨c_1, c_2, rfl, rfl⟩))
theorem dX10_undo_0 : decode cX10_undo 0 = .ok (.aload_n 0, 1) := by decide +kernel
theorem dX10_undo_1 : decode cX10_undo 1 = .ok (.iconst 0, 1) := by decide +kernel
theorem dX10_undo_2 : decode cX10_undo 2 = .ok (.putfield 1, 3) := by decide +kernel
theorem dX10_undo_5 : decode cX10_undo 5 = .ok (.iload_n 1, 1) := by decide +kernel
theorem dX10_undo_6 : decode cX10_undo 6 = .ok (.i2l, 1) := by decide +kernel
theorem dX10_undo_7 : decode cX10_undo 7 = .ok (.lconst 1, 1) := by decide +kernel
theorem q_7_102 : Cond.constantLong "BeaconDelayModel" 298 (10 : Int64) ∈ gw := gw_7 (i := 102) (by decide +kernel) rfl
theorem dX10_undo_8 : decode cX10_undo 8 = .ok (.ldc2_w 298, 3) := by decide +kernel
theorem dX10_undo_11 : decode cX10_undo 11 = .ok (.invokestatic 159, 3) := by decide +kernel
theorem dX10_undo_14 : decode cX10_undo 14 = .ok (.ifCond .eq 14, 3) := by decide +kernel
theorem dX10_undo_28 : decode cX10_undo 28 = .ok (.bipush (-3), 2) := by decide +kernel
theorem dX10_undo_30 : decode cX10_undo 30 = .ok (.ireturn, 1) := by decide +kernel
theorem dX10_undo_17 : decode cX10_undo 17 = .ok (.iload_n 1, 1) := by decide +kernel
theorem dX10_undo_18 : decode cX10_undo 18 = .ok (.aload_n 0, 1) := by decide +kernel
theorem dX10_undo_19 : decode cX10_undo 19 = .ok (.getfield 13, 3) := by decide +kernel
theorem dX10_undo_22 : decode cX10_undo 22 = .ok (.bipush 53, 2) := by decide +kernel
theorem dX10_undo_24 : decode cX10_undo 24 = .ok (.iaload, 1) := by decide +kernel
theorem dX10_undo_25 : decode cX10_undo 25 = .ok (.if_icmp .le 6, 3) := by decide +kernel
set_option maxHeartbeats 4000000 in
set_option maxRecDepth 100000 in
theorem c_X10_undo_0 (l : Launch) (V : GV) (z : Nat → Nat) (p0 : Int32) : Ct l V yX10_undo (.code yX10_undo cX10_undo 3 (some .int)) 2 [.ref (z 0), .int p0] [(z 0, .inr (10, mo z 0 0 0 0 0 0 0 0 0 0 (-1) 0 0 0 0 0)), (z 1, aI V 3075 (fun _ => 0))] 0 0 (QI V (fun (r : Int32) (w : va_W) => (r = (-3) ∧ w = [(z 0, .inr (10, mo z 0 0 0 0 0 0 0 0 0 0 (-1) 0 0 0 0 0)), (z 1, aI V 3075 (fun _ => 0))]))) := by
  refine Ct.of (by decide) (Nat.le_of_ble_eq_true rfl) (fun p e s m below meth c A ls hx hb hr hml hown hlk hnm hg hP hK hD hE hA hS hl => ?_)
  have hl : lv_has ls 3 [(0, .ref (z 0)), (1, .int p0)] := hl
  refine lv_aload_n hx hb dX10_undo_0 rfl (lv_at hl 0 rfl) ?_
  refine lv_iconst (v := 0) hx hb dX10_undo_1 (by decide) ?_
  refine va_put (ci := 10) (v := .int 0) (ty := .int) (C := RX10) (T := TX10) (N := 40) hx hb hg inX10 tyX10 tyX10_ok nmX10 hown hK hP hD hS 0 rfl rfl 0 (by decide) (hg _ q_5_224) (fun _ h9 => h9) rfl (by decide +kernel) rfl rfl (Nat.le_of_ble_eq_true rfl) dX10_undo_2 (fun H locs hP hD hS => ?_)
  have hP : va_P V.1 vwCl [(z 0, .inr (10, mo z 0 0 0 0 0 0 0 0 0 0 (-1) 0 0 0 0 0)), (z 1, aI V 3075 (fun _ => 0))] H := hP
  have hD : va_D A [(z 0, .inr (10, mo z 0 0 0 0 0 0 0 0 0 0 (-1) 0 0 0 0 0)), (z 1, aI V 3075 (fun _ => 0))] := hD
  refine lv_iload_n hx hb dX10_undo_5 rfl (lv_at hl 1 rfl) ?_
  refine lv_i2l (v := p0.toInt64) hx hb dX10_undo_6 rfl ?_
  refine lv_lconst (v := 1) hx hb dX10_undo_7 (by decide) ?_
  refine lv_ldc2 (v := 10) hx hb hown (hg _ q_7_102) dX10_undo_8 ?_
  refine jnI (wr := [(z 0, .inr (10, mo z 0 0 0 0 0 0 0 0 0 0 (-1) 0 0 0 0 0)), (z 1, aI V 3075 (fun _ => 0))]) (rnS (rest := []) ⟨hx, hb, hml, hown, hg⟩ (c_X10_within_0 l V p0.toInt64 1 10) mt_X10_within q_6_114 ⟨Nat.le_of_ble_eq_true rfl, Nat.le_of_ble_eq_true rfl⟩ hK hP hD hS hA hE [] rfl rfl rfl hl.1 rfl (Nat.le_of_ble_eq_true rfl) dX10_undo_11 ⟨Nat.le_of_ble_eq_true rfl, Nat.le_of_ble_eq_true rfl⟩) hP hD hS hA [] [0, 1] rfl rfl rfl (by decide) (fun r_1 w H locs hw hP hD hS => ?_)
  rcases hw with ⟨c_2, rfl, rfl⟩ | ⟨c_3, c_4, rfl, rfl⟩ | ⟨c_5, c_6, rfl, rfl⟩
  · have hP : va_P V.1 vwCl [(z 0, .inr (10, mo z 0 0 0 0 0 0 0 0 0 0 (-1) 0 0 0 0 0)), (z 1, aI V 3075 (fun _ => 0))] H := hP
    have hD : va_D A [(z 0, .inr (10, mo z 0 0 0 0 0 0 0 0 0 0 (-1) 0 0 0 0 0)), (z 1, aI V 3075 (fun _ => 0))] := hD
    refine lv_if_eq (tgt := 28) hx hb dX10_undo_14 (by decide) (fun _ => ?_) (fun c_7 => absurd c_7 (by decide))
    refine lv_bipush (v := (-3)) hx hb dX10_undo_28 (by decide) ?_
    exact fiI hx hb hr hlk hK hP hD hS dX10_undo_30 (Nat.le_of_ble_eq_true rfl) (Nat.le_of_ble_eq_true rfl) (⟨rfl, rfl⟩)
  · have hP : va_P V.1 vwCl [(z 0, .inr (10, mo z 0 0 0 0 0 0 0 0 0 0 (-1) 0 0 0 0 0)), (z 1, aI V 3075 (fun _ => 0))] H := hP
    have hD : va_D A [(z 0, .inr (10, mo z 0 0 0 0 0 0 0 0 0 0 (-1) 0 0 0 0 0)), (z 1, aI V 3075 (fun _ => 0))] := hD
    refine lv_if_eq (tgt := 28) hx hb dX10_undo_14 (by decide) (fun _ => ?_) (fun c_8 => absurd c_8 (by decide))
    refine lv_bipush (v := (-3)) hx hb dX10_undo_28 (by decide) ?_
    exact fiI hx hb hr hlk hK hP hD hS dX10_undo_30 (Nat.le_of_ble_eq_true rfl) (Nat.le_of_ble_eq_true rfl) (⟨rfl, rfl⟩)
  · have hP : va_P V.1 vwCl [(z 0, .inr (10, mo z 0 0 0 0 0 0 0 0 0 0 (-1) 0 0 0 0 0)), (z 1, aI V 3075 (fun _ => 0))] H := hP
    have hD : va_D A [(z 0, .inr (10, mo z 0 0 0 0 0 0 0 0 0 0 (-1) 0 0 0 0 0)), (z 1, aI V 3075 (fun _ => 0))] := hD
    refine lv_if_eq (tgt := 28) hx hb dX10_undo_14 (by decide) (fun c_9 => absurd c_9 (by decide)) (fun _ => ?_)
    refine lv_iload_n hx hb dX10_undo_17 rfl (lv_at hl 1 rfl) ?_
    refine lv_aload_n hx hb dX10_undo_18 rfl (lv_at hl 0 rfl) ?_
    refine va_get (ci := 10) (v := .ref (z 1)) (C := RX10) (T := TX10) (N := 40) hx hb hg inX10 hown hK hP 0 rfl rfl 1 (by decide) (hg _ q_5_225) (fun _ h9 => h9) rfl dX10_undo_19 ?_
    refine lv_bipush (v := 53) hx hb dX10_undo_22 (by decide) ?_
    refine va_iald hx hb hK hP 1 0 rfl rfl (vin (by decide +kernel)) dX10_undo_24 ?_
    refine tpi (y := 0) (rfl) ?_
    refine lv_icmp_le (tgt := 31) hx hb dX10_undo_25 (by decide) (fun c_10 => False.elim (by have c_11 : p0 ≤ 0 := c_10; exact (by simp only [tI_lt, tI_le, tI_eq, tL_lt, tL_le, tL_eq, tWx, (by decide : (0 : Int32).toInt = 0), (by decide : (1 : Int64).toInt = 1), (by decide : (10 : Int64).toInt = 10)] at c_5 c_6 c_11; omega))) (fun _ => ?_)
    refine lv_bipush (v := (-3)) hx hb dX10_undo_28 (by decide) ?_
    exact fiI hx hb hr hlk hK hP hD hS dX10_undo_30 (Nat.le_of_ble_eq_true rfl) (Nat.le_of_ble_eq_true rfl) (⟨rfl, rfl⟩)
theorem dX9_undo_0 : decode cX9_undo 0 = .ok (.iload_n 1, 1) := by decide +kernel
theorem dX9_undo_1 : decode cX9_undo 1 = .ok (.iconst 1, 1) := by decide +kernel
theorem dX9_undo_2 : decode cX9_undo 2 = .ok (.if_icmp .lt 20, 3) := by decide +kernel
theorem dX9_undo_22 : decode cX9_undo 22 = .ok (.bipush (-3), 2) := by decide +kernel
theorem dX9_undo_24 : decode cX9_undo 24 = .ok (.ireturn, 1) := by decide +kernel
theorem dX9_undo_5 : decode cX9_undo 5 = .ok (.iload_n 1, 1) := by decide +kernel
theorem dX9_undo_6 : decode cX9_undo 6 = .ok (.bipush 10, 2) := by decide +kernel
theorem dX9_undo_8 : decode cX9_undo 8 = .ok (.if_icmp .gt 14, 3) := by decide +kernel
theorem dX9_undo_11 : decode cX9_undo 11 = .ok (.iload_n 1, 1) := by decide +kernel
theorem dX9_undo_12 : decode cX9_undo 12 = .ok (.aload_n 0, 1) := by decide +kernel
theorem dX9_undo_13 : decode cX9_undo 13 = .ok (.getfield 48, 3) := by decide +kernel
theorem q_1_218 : Cond.fieldLink "BeaconDelay" 122 "BeaconDelay$Past" "count" "I" ∈ gw := gw_1 (i := 218) (by decide +kernel) rfl
theorem dX9_undo_16 : decode cX9_undo 16 = .ok (.getfield 122, 3) := by decide +kernel
theorem dX9_undo_19 : decode cX9_undo 19 = .ok (.if_icmp .le 6, 3) := by decide +kernel
set_option maxHeartbeats 4000000 in
set_option maxRecDepth 100000 in
theorem c_X9_undo_0 (l : Launch) (V : GV) (y : Nat → Nat) (p0 : Int32) : Ct l V yX9_undo (.code yX9_undo cX9_undo 2 (some .int)) 1 [.ref (y 0), .int p0] [(y 0, .inr (9, [.ref (y 1), .int 0, .ref (y 2), .ref (y 10), .ref (y 19), .ref (y 25), .ref (y 26), .ref (y 30), .ref (y 31), .ref (y 32), .null, .null, .int 0, .int 0, .int 0])), (y 26, .inr (5, [.ref (y 27), .ref (y 28), .ref (y 29), .int 0]))] 0 0 (QI V (fun (r : Int32) (w : va_W) => (r = (-3) ∧ w = [(y 0, .inr (9, [.ref (y 1), .int 0, .ref (y 2), .ref (y 10), .ref (y 19), .ref (y 25), .ref (y 26), .ref (y 30), .ref (y 31), .ref (y 32), .null, .null, .int 0, .int 0, .int 0])), (y 26, .inr (5, [.ref (y 27), .ref (y 28), .ref (y 29), .int 0]))]))) := by
  refine Ct.of (by decide) (Nat.le_of_ble_eq_true rfl) (fun p e s m below meth c A ls hx hb hr hml hown hlk hnm hg hP hK hD hE hA hS hl => ?_)
  have hl : lv_has ls 2 [(0, .ref (y 0)), (1, .int p0)] := hl
  refine lv_iload_n hx hb dX9_undo_0 rfl (lv_at hl 1 rfl) ?_
  refine lv_iconst (v := 1) hx hb dX9_undo_1 (by decide) ?_
  refine lv_icmp_lt (tgt := 22) hx hb dX9_undo_2 (by decide) (fun c_1 => ?_) (fun c_1 => ?_)
  · refine lv_bipush (v := (-3)) hx hb dX9_undo_22 (by decide) ?_
    exact fiI hx hb hr hlk hK hP hD hS dX9_undo_24 (Nat.le_of_ble_eq_true rfl) (Nat.le_of_ble_eq_true rfl) (⟨rfl, rfl⟩)
  · refine lv_iload_n hx hb dX9_undo_5 rfl (lv_at hl 1 rfl) ?_
    refine lv_bipush (v := 10) hx hb dX9_undo_6 (by decide) ?_
    refine lv_icmp_gt (tgt := 22) hx hb dX9_undo_8 (by decide) (fun c_2 => ?_) (fun c_2 => ?_)
    · refine lv_bipush (v := (-3)) hx hb dX9_undo_22 (by decide) ?_
      exact fiI hx hb hr hlk hK hP hD hS dX9_undo_24 (Nat.le_of_ble_eq_true rfl) (Nat.le_of_ble_eq_true rfl) (⟨rfl, rfl⟩)
    · refine lv_iload_n hx hb dX9_undo_11 rfl (lv_at hl 1 rfl) ?_
      refine lv_aload_n hx hb dX9_undo_12 rfl (lv_at hl 0 rfl) ?_
      refine va_get (ci := 9) (v := .ref (y 26)) (C := RX9) (T := TX9) (N := 15) hx hb hg inX9 hown hK hP 0 rfl rfl 6 (by decide) (hg _ q_2_42) (fun _ h9 => h9) rfl dX9_undo_13 ?_
      refine va_get (ci := 5) (v := .int 0) (C := RX5) (T := TX5) (N := 4) hx hb hg inX5 hown hK hP 1 rfl rfl 3 (by decide) (hg _ q_1_218) (fun _ h9 => h9) rfl dX9_undo_16 ?_
      refine lv_icmp_le (tgt := 25) hx hb dX9_undo_19 (by decide) (fun c_3 => False.elim (by have c_4 : p0 ≤ 0 := c_3; exact (by simp only [tI_lt, tI_le, tI_eq, tL_lt, tL_le, tL_eq, tWx, (by decide : (0 : Int32).toInt = 0), (by decide : (1 : Int32).toInt = 1), (by decide : (10 : Int32).toInt = 10)] at c_1 c_2 c_4; omega))) (fun _ => ?_)
      refine lv_bipush (v := (-3)) hx hb dX9_undo_22 (by decide) ?_
      exact fiI hx hb hr hlk hK hP hD hS dX9_undo_24 (Nat.le_of_ble_eq_true rfl) (Nat.le_of_ble_eq_true rfl) (⟨rfl, rfl⟩)
theorem dX10_noTray_0 : decode cX10_noTray 0 = .ok (.iload_n 1, 1) := by decide +kernel
theorem dX10_noTray_1 : decode cX10_noTray 1 = .ok (.i2l, 1) := by decide +kernel
theorem dX10_noTray_2 : decode cX10_noTray 2 = .ok (.lconst 0, 1) := by decide +kernel
theorem q_7_107 : Cond.constantLong "BeaconDelayModel" 315 (3 : Int64) ∈ gw := gw_7 (i := 107) (by decide +kernel) rfl
theorem dX10_noTray_3 : decode cX10_noTray 3 = .ok (.ldc2_w 315, 3) := by decide +kernel
theorem dX10_noTray_6 : decode cX10_noTray 6 = .ok (.invokestatic 159, 3) := by decide +kernel
theorem dX10_noTray_9 : decode cX10_noTray 9 = .ok (.ifCond .ne 8, 3) := by decide +kernel
theorem dX10_noTray_12 : decode cX10_noTray 12 = .ok (.bipush (-2), 2) := by decide +kernel
theorem dX10_noTray_14 : decode cX10_noTray 14 = .ok (.goto 19, 3) := by decide +kernel
theorem dX10_noTray_33 : decode cX10_noTray 33 = .ok (.ireturn, 1) := by decide +kernel
theorem dX10_noTray_17 : decode cX10_noTray 17 = .ok (.aload_n 0, 1) := by decide +kernel
theorem dX10_noTray_18 : decode cX10_noTray 18 = .ok (.getfield 84, 3) := by decide +kernel
theorem dX10_noTray_21 : decode cX10_noTray 21 = .ok (.iload_n 1, 1) := by decide +kernel
theorem dX10_noTray_22 : decode cX10_noTray 22 = .ok (.iaload, 1) := by decide +kernel
theorem dX10_noTray_23 : decode cX10_noTray 23 = .ok (.iconst (-1), 1) := by decide +kernel
theorem dX10_noTray_24 : decode cX10_noTray 24 = .ok (.if_icmp .ne 8, 3) := by decide +kernel
theorem dX10_noTray_27 : decode cX10_noTray 27 = .ok (.bipush (-6), 2) := by decide +kernel
theorem dX10_noTray_29 : decode cX10_noTray 29 = .ok (.goto 4, 3) := by decide +kernel
set_option maxHeartbeats 4000000 in
set_option maxRecDepth 100000 in
theorem c_X10_noTray_0 (l : Launch) (V : GV) (z : Nat → Nat) (p0 : Int32) : Ct l V yX10_noTray (.code yX10_noTray cX10_noTray 2 (some .int)) 2 [.ref (z 0), .int p0] [(z 0, .inr (10, mo z 0 0 0 0 0 0 0 0 0 0 (-1) 0 0 0 0 0)), (z 37, aI V 4 (upd (upd (upd (upd (fun _ => 0) 0 (-1)) 1 (-1)) 2 (-1)) 3 (-1)))] 0 0 (QI V (fun (r : Int32) (w : va_W) => (p0.toInt64 < 0 ∧ r = (-2) ∧ w = [(z 0, .inr (10, mo z 0 0 0 0 0 0 0 0 0 0 (-1) 0 0 0 0 0)), (z 37, aI V 4 (upd (upd (upd (upd (fun _ => 0) 0 (-1)) 1 (-1)) 2 (-1)) 3 (-1)))]) ∨ ((¬ p0.toInt64 < 0) ∧ 3 < p0.toInt64 ∧ r = (-2) ∧ w = [(z 0, .inr (10, mo z 0 0 0 0 0 0 0 0 0 0 (-1) 0 0 0 0 0)), (z 37, aI V 4 (upd (upd (upd (upd (fun _ => 0) 0 (-1)) 1 (-1)) 2 (-1)) 3 (-1)))]) ∨ ((¬ p0.toInt64 < 0) ∧ (¬ 3 < p0.toInt64) ∧ p0 = 0 ∧ r = (-6) ∧ w = [(z 0, .inr (10, mo z 0 0 0 0 0 0 0 0 0 0 (-1) 0 0 0 0 0)), (z 37, aI V 4 (upd (upd (upd (upd (fun _ => 0) 0 (-1)) 1 (-1)) 2 (-1)) 3 (-1)))]) ∨ ((¬ p0.toInt64 < 0) ∧ (¬ 3 < p0.toInt64) ∧ p0 = 1 ∧ r = (-6) ∧ w = [(z 0, .inr (10, mo z 0 0 0 0 0 0 0 0 0 0 (-1) 0 0 0 0 0)), (z 37, aI V 4 (upd (upd (upd (upd (fun _ => 0) 0 (-1)) 1 (-1)) 2 (-1)) 3 (-1)))]) ∨ ((¬ p0.toInt64 < 0) ∧ (¬ 3 < p0.toInt64) ∧ p0 = 2 ∧ r = (-6) ∧ w = [(z 0, .inr (10, mo z 0 0 0 0 0 0 0 0 0 0 (-1) 0 0 0 0 0)), (z 37, aI V 4 (upd (upd (upd (upd (fun _ => 0) 0 (-1)) 1 (-1)) 2 (-1)) 3 (-1)))]) ∨ ((¬ p0.toInt64 < 0) ∧ (¬ 3 < p0.toInt64) ∧ p0 = 3 ∧ r = (-6) ∧ w = [(z 0, .inr (10, mo z 0 0 0 0 0 0 0 0 0 0 (-1) 0 0 0 0 0)), (z 37, aI V 4 (upd (upd (upd (upd (fun _ => 0) 0 (-1)) 1 (-1)) 2 (-1)) 3 (-1)))]))) := by
  refine Ct.of (by decide) (Nat.le_of_ble_eq_true rfl) (fun p e s m below meth c A ls hx hb hr hml hown hlk hnm hg hP hK hD hE hA hS hl => ?_)
  have hl : lv_has ls 2 [(0, .ref (z 0)), (1, .int p0)] := hl
  refine lv_iload_n hx hb dX10_noTray_0 rfl (lv_at hl 1 rfl) ?_
  refine lv_i2l (v := p0.toInt64) hx hb dX10_noTray_1 rfl ?_
  refine lv_lconst (v := 0) hx hb dX10_noTray_2 (by decide) ?_
  refine lv_ldc2 (v := 3) hx hb hown (hg _ q_7_107) dX10_noTray_3 ?_
  refine jnI (wr := [(z 0, .inr (10, mo z 0 0 0 0 0 0 0 0 0 0 (-1) 0 0 0 0 0)), (z 37, aI V 4 (upd (upd (upd (upd (fun _ => 0) 0 (-1)) 1 (-1)) 2 (-1)) 3 (-1)))]) (rnS (rest := []) ⟨hx, hb, hml, hown, hg⟩ (c_X10_within_0 l V p0.toInt64 0 3) mt_X10_within q_6_114 ⟨Nat.le_of_ble_eq_true rfl, Nat.le_of_ble_eq_true rfl⟩ hK hP hD hS hA hE [] rfl rfl rfl hl.1 rfl (Nat.le_of_ble_eq_true rfl) dX10_noTray_6 ⟨Nat.le_of_ble_eq_true rfl, Nat.le_of_ble_eq_true rfl⟩) hP hD hS hA [] [0, 1] rfl rfl rfl (by decide) (fun r_1 w H locs hw hP hD hS => ?_)
  rcases hw with ⟨c_2, rfl, rfl⟩ | ⟨c_3, c_4, rfl, rfl⟩ | ⟨c_5, c_6, rfl, rfl⟩
  · have hP : va_P V.1 vwCl [(z 0, .inr (10, mo z 0 0 0 0 0 0 0 0 0 0 (-1) 0 0 0 0 0)), (z 37, aI V 4 (upd (upd (upd (upd (fun _ => 0) 0 (-1)) 1 (-1)) 2 (-1)) 3 (-1)))] H := hP
    have hD : va_D A [(z 0, .inr (10, mo z 0 0 0 0 0 0 0 0 0 0 (-1) 0 0 0 0 0)), (z 37, aI V 4 (upd (upd (upd (upd (fun _ => 0) 0 (-1)) 1 (-1)) 2 (-1)) 3 (-1)))] := hD
    refine lv_if_ne (tgt := 17) hx hb dX10_noTray_9 (by decide) (fun c_7 => absurd c_7 (by decide)) (fun _ => ?_)
    refine lv_bipush (v := (-2)) hx hb dX10_noTray_12 (by decide) ?_
    refine lv_goto (tgt := 33) hx hb dX10_noTray_14 (by decide) ?_
    exact fiI hx hb hr hlk hK hP hD hS dX10_noTray_33 (Nat.le_of_ble_eq_true rfl) (Nat.le_of_ble_eq_true rfl) (Or.inl ⟨c_2, rfl, rfl⟩)
  · have hP : va_P V.1 vwCl [(z 0, .inr (10, mo z 0 0 0 0 0 0 0 0 0 0 (-1) 0 0 0 0 0)), (z 37, aI V 4 (upd (upd (upd (upd (fun _ => 0) 0 (-1)) 1 (-1)) 2 (-1)) 3 (-1)))] H := hP
    have hD : va_D A [(z 0, .inr (10, mo z 0 0 0 0 0 0 0 0 0 0 (-1) 0 0 0 0 0)), (z 37, aI V 4 (upd (upd (upd (upd (fun _ => 0) 0 (-1)) 1 (-1)) 2 (-1)) 3 (-1)))] := hD
    refine lv_if_ne (tgt := 17) hx hb dX10_noTray_9 (by decide) (fun c_8 => absurd c_8 (by decide)) (fun _ => ?_)
    refine lv_bipush (v := (-2)) hx hb dX10_noTray_12 (by decide) ?_
    refine lv_goto (tgt := 33) hx hb dX10_noTray_14 (by decide) ?_
    exact fiI hx hb hr hlk hK hP hD hS dX10_noTray_33 (Nat.le_of_ble_eq_true rfl) (Nat.le_of_ble_eq_true rfl) (Or.inr (Or.inl ⟨c_3, c_4, rfl, rfl⟩))
  · have hP : va_P V.1 vwCl [(z 0, .inr (10, mo z 0 0 0 0 0 0 0 0 0 0 (-1) 0 0 0 0 0)), (z 37, aI V 4 (upd (upd (upd (upd (fun _ => 0) 0 (-1)) 1 (-1)) 2 (-1)) 3 (-1)))] H := hP
    have hD : va_D A [(z 0, .inr (10, mo z 0 0 0 0 0 0 0 0 0 0 (-1) 0 0 0 0 0)), (z 37, aI V 4 (upd (upd (upd (upd (fun _ => 0) 0 (-1)) 1 (-1)) 2 (-1)) 3 (-1)))] := hD
    refine lv_if_ne (tgt := 17) hx hb dX10_noTray_9 (by decide) (fun _ => ?_) (fun c_9 => absurd c_9 (by decide))
    refine lv_aload_n hx hb dX10_noTray_17 rfl (lv_at hl 0 rfl) ?_
    refine va_get (ci := 10) (v := .ref (z 37)) (C := RX10) (T := TX10) (N := 40) hx hb hg inX10 hown hK hP 0 rfl rfl 37 (by decide) (hg _ q_6_21) (fun _ h9 => h9) rfl dX10_noTray_18 ?_
    refine lv_iload_n hx hb dX10_noTray_21 rfl (lv_at hl 1 rfl) ?_
    have c_10 : p0 = 0 ∨ p0 = 1 ∨ p0 = 2 ∨ p0 = 3 := by simp only [tI_lt, tI_le, tI_eq, tL_lt, tL_le, tL_eq, tWx, (by decide : (0 : Int32).toInt = 0), (by decide : (0 : Int64).toInt = 0), (by decide : (1 : Int32).toInt = 1), (by decide : (2 : Int32).toInt = 2), (by decide : (3 : Int32).toInt = 3), (by decide : (3 : Int64).toInt = 3)] at c_5 c_6 ⊢; omega
    rcases c_10 with rfl | rfl | rfl | rfl
    · refine va_iald hx hb hK hP 1 0 rfl rfl (vin (by decide +kernel)) dX10_noTray_22 ?_
      refine tpi (y := (-1)) (rfl) ?_
      refine lv_iconst (v := (-1)) hx hb dX10_noTray_23 (by decide) ?_
      refine lv_icmp_ne (tgt := 32) hx hb dX10_noTray_24 (by decide) (fun c_11 => absurd c_11 (by decide)) (fun _ => ?_)
      refine lv_bipush (v := (-6)) hx hb dX10_noTray_27 (by decide) ?_
      refine lv_goto (tgt := 33) hx hb dX10_noTray_29 (by decide) ?_
      exact fiI hx hb hr hlk hK hP hD hS dX10_noTray_33 (Nat.le_of_ble_eq_true rfl) (Nat.le_of_ble_eq_true rfl) (Or.inr (Or.inr (Or.inl ⟨c_5, c_6, rfl, rfl, rfl⟩)))
    · refine va_iald hx hb hK hP 1 0 rfl rfl (vin (by decide +kernel)) dX10_noTray_22 ?_
      refine tpi (y := (-1)) (rfl) ?_
      refine lv_iconst (v := (-1)) hx hb dX10_noTray_23 (by decide) ?_
      refine lv_icmp_ne (tgt := 32) hx hb dX10_noTray_24 (by decide) (fun c_12 => absurd c_12 (by decide)) (fun _ => ?_)
      refine lv_bipush (v := (-6)) hx hb dX10_noTray_27 (by decide) ?_
      refine lv_goto (tgt := 33) hx hb dX10_noTray_29 (by decide) ?_
      exact fiI hx hb hr hlk hK hP hD hS dX10_noTray_33 (Nat.le_of_ble_eq_true rfl) (Nat.le_of_ble_eq_true rfl) (Or.inr (Or.inr (Or.inr (Or.inl ⟨c_5, c_6, rfl, rfl, rfl⟩))))
    · refine va_iald hx hb hK hP 1 0 rfl rfl (vin (by decide +kernel)) dX10_noTray_22 ?_
      refine tpi (y := (-1)) (rfl) ?_
      refine lv_iconst (v := (-1)) hx hb dX10_noTray_23 (by decide) ?_
      refine lv_icmp_ne (tgt := 32) hx hb dX10_noTray_24 (by decide) (fun c_13 => absurd c_13 (by decide)) (fun _ => ?_)
      refine lv_bipush (v := (-6)) hx hb dX10_noTray_27 (by decide) ?_
      refine lv_goto (tgt := 33) hx hb dX10_noTray_29 (by decide) ?_
      exact fiI hx hb hr hlk hK hP hD hS dX10_noTray_33 (Nat.le_of_ble_eq_true rfl) (Nat.le_of_ble_eq_true rfl) (Or.inr (Or.inr (Or.inr (Or.inr (Or.inl ⟨c_5, c_6, rfl, rfl, rfl⟩)))))
    · refine va_iald hx hb hK hP 1 0 rfl rfl (vin (by decide +kernel)) dX10_noTray_22 ?_
      refine tpi (y := (-1)) (rfl) ?_
      refine lv_iconst (v := (-1)) hx hb dX10_noTray_23 (by decide) ?_
      refine lv_icmp_ne (tgt := 32) hx hb dX10_noTray_24 (by decide) (fun c_14 => absurd c_14 (by decide)) (fun _ => ?_)
      refine lv_bipush (v := (-6)) hx hb dX10_noTray_27 (by decide) ?_
      refine lv_goto (tgt := 33) hx hb dX10_noTray_29 (by decide) ?_
      exact fiI hx hb hr hlk hK hP hD hS dX10_noTray_33 (Nat.le_of_ble_eq_true rfl) (Nat.le_of_ble_eq_true rfl) (Or.inr (Or.inr (Or.inr (Or.inr (Or.inr (⟨c_5, c_6, rfl, rfl, rfl⟩))))))
theorem dX10_judge_0 : decode cX10_judge 0 = .ok (.aload_n 0, 1) := by decide +kernel
theorem dX10_judge_1 : decode cX10_judge 1 = .ok (.iconst 0, 1) := by decide +kernel
theorem dX10_judge_2 : decode cX10_judge 2 = .ok (.putfield 1, 3) := by decide +kernel
theorem dX10_judge_5 : decode cX10_judge 5 = .ok (.iload_n 2, 1) := by decide +kernel
theorem dX10_judge_6 : decode cX10_judge 6 = .ok (.i2l, 1) := by decide +kernel
theorem dX10_judge_7 : decode cX10_judge 7 = .ok (.lconst 0, 1) := by decide +kernel
theorem dX10_judge_8 : decode cX10_judge 8 = .ok (.ldc2_w 315, 3) := by decide +kernel
theorem dX10_judge_11 : decode cX10_judge 11 = .ok (.invokestatic 159, 3) := by decide +kernel
theorem dX10_judge_14 : decode cX10_judge 14 = .ok (.ifCond .ne 6, 3) := by decide +kernel
theorem dX10_judge_17 : decode cX10_judge 17 = .ok (.bipush (-2), 2) := by decide +kernel
theorem dX10_judge_19 : decode cX10_judge 19 = .ok (.ireturn, 1) := by decide +kernel
theorem dX10_judge_20 : decode cX10_judge 20 = .ok (.aload_n 0, 1) := by decide +kernel
theorem dX10_judge_21 : decode cX10_judge 21 = .ok (.iload_n 1, 1) := by decide +kernel
theorem q_7_111 : Cond.code yX10_noTray prog_12_method_70_code 2 (some FieldType.int) ∈ gw := gw_7 (i := 111) (rfl) rfl
theorem q_7_110 : Cond.instanceMethod yX10_noTray ∈ gw := gw_7 (i := 110) (by decide +kernel) rfl
theorem q_s_93 : Cond.selects "BeaconDelayModel" yX10_noTray yX10_noTray ∈ gw := gw_s (i := 93) (by decide +kernel) rfl
theorem mt_X10_noTray : MtV yX10_noTray cX10_noTray 2 (some .int) 1 := ⟨⟨q_7_111, q_1_9, by decide +kernel, by decide +kernel, by decide +kernel⟩, q_7_110, q_s_93⟩
theorem q_7_108 : Cond.methodLink "BeaconDelayModel" 317 yX10_noTray ∈ gw := gw_7 (i := 108) (by decide +kernel) rfl
theorem dX10_judge_22 : decode cX10_judge 22 = .ok (.invokevirtual 317, 3) := by decide +kernel
theorem dX10_judge_25 : decode cX10_judge 25 = .ok (.istore_n 3, 1) := by decide +kernel
theorem dX10_judge_26 : decode cX10_judge 26 = .ok (.iload_n 3, 1) := by decide +kernel
theorem dX10_judge_27 : decode cX10_judge 27 = .ok (.ifCond .eq 5, 3) := by decide +kernel
theorem dX10_judge_30 : decode cX10_judge 30 = .ok (.iload_n 3, 1) := by decide +kernel
theorem dX10_judge_31 : decode cX10_judge 31 = .ok (.ireturn, 1) := by decide +kernel
set_option maxHeartbeats 4000000 in
set_option maxRecDepth 100000 in
theorem c_X10_judge_0 (l : Launch) (V : GV) (z : Nat → Nat) (p0 : Int32) (p1 : Int32) : Ct l V yX10_judge (.code yX10_judge cX10_judge 6 (some .int)) 3 [.ref (z 0), .int p0, .int p1] [(z 0, .inr (10, mo z 0 0 0 0 0 0 0 0 0 0 (-1) 0 0 0 0 0)), (z 37, aI V 4 (upd (upd (upd (upd (fun _ => 0) 0 (-1)) 1 (-1)) 2 (-1)) 3 (-1)))] 0 0 (QI V (fun (r : Int32) (w : va_W) => (p1.toInt64 < 0 ∧ r = (-2) ∧ w = [(z 0, .inr (10, mo z 0 0 0 0 0 0 0 0 0 0 (-1) 0 0 0 0 0)), (z 37, aI V 4 (upd (upd (upd (upd (fun _ => 0) 0 (-1)) 1 (-1)) 2 (-1)) 3 (-1)))]) ∨ ((¬ p1.toInt64 < 0) ∧ 3 < p1.toInt64 ∧ r = (-2) ∧ w = [(z 0, .inr (10, mo z 0 0 0 0 0 0 0 0 0 0 (-1) 0 0 0 0 0)), (z 37, aI V 4 (upd (upd (upd (upd (fun _ => 0) 0 (-1)) 1 (-1)) 2 (-1)) 3 (-1)))]) ∨ ((¬ p1.toInt64 < 0) ∧ (¬ 3 < p1.toInt64) ∧ p0.toInt64 < 0 ∧ r = (-2) ∧ w = [(z 0, .inr (10, mo z 0 0 0 0 0 0 0 0 0 0 (-1) 0 0 0 0 0)), (z 37, aI V 4 (upd (upd (upd (upd (fun _ => 0) 0 (-1)) 1 (-1)) 2 (-1)) 3 (-1)))]) ∨ ((¬ p1.toInt64 < 0) ∧ (¬ 3 < p1.toInt64) ∧ (¬ p0.toInt64 < 0) ∧ 3 < p0.toInt64 ∧ r = (-2) ∧ w = [(z 0, .inr (10, mo z 0 0 0 0 0 0 0 0 0 0 (-1) 0 0 0 0 0)), (z 37, aI V 4 (upd (upd (upd (upd (fun _ => 0) 0 (-1)) 1 (-1)) 2 (-1)) 3 (-1)))]) ∨ ((¬ p1.toInt64 < 0) ∧ (¬ 3 < p1.toInt64) ∧ (¬ p0.toInt64 < 0) ∧ (¬ 3 < p0.toInt64) ∧ p0 = 0 ∧ r = (-6) ∧ w = [(z 0, .inr (10, mo z 0 0 0 0 0 0 0 0 0 0 (-1) 0 0 0 0 0)), (z 37, aI V 4 (upd (upd (upd (upd (fun _ => 0) 0 (-1)) 1 (-1)) 2 (-1)) 3 (-1)))]) ∨ ((¬ p1.toInt64 < 0) ∧ (¬ 3 < p1.toInt64) ∧ (¬ p0.toInt64 < 0) ∧ (¬ 3 < p0.toInt64) ∧ p0 = 1 ∧ r = (-6) ∧ w = [(z 0, .inr (10, mo z 0 0 0 0 0 0 0 0 0 0 (-1) 0 0 0 0 0)), (z 37, aI V 4 (upd (upd (upd (upd (fun _ => 0) 0 (-1)) 1 (-1)) 2 (-1)) 3 (-1)))]) ∨ ((¬ p1.toInt64 < 0) ∧ (¬ 3 < p1.toInt64) ∧ (¬ p0.toInt64 < 0) ∧ (¬ 3 < p0.toInt64) ∧ p0 = 2 ∧ r = (-6) ∧ w = [(z 0, .inr (10, mo z 0 0 0 0 0 0 0 0 0 0 (-1) 0 0 0 0 0)), (z 37, aI V 4 (upd (upd (upd (upd (fun _ => 0) 0 (-1)) 1 (-1)) 2 (-1)) 3 (-1)))]) ∨ ((¬ p1.toInt64 < 0) ∧ (¬ 3 < p1.toInt64) ∧ (¬ p0.toInt64 < 0) ∧ (¬ 3 < p0.toInt64) ∧ p0 = 3 ∧ r = (-6) ∧ w = [(z 0, .inr (10, mo z 0 0 0 0 0 0 0 0 0 0 (-1) 0 0 0 0 0)), (z 37, aI V 4 (upd (upd (upd (upd (fun _ => 0) 0 (-1)) 1 (-1)) 2 (-1)) 3 (-1)))]))) := by
  refine Ct.of (by decide) (Nat.le_of_ble_eq_true rfl) (fun p e s m below meth c A ls hx hb hr hml hown hlk hnm hg hP hK hD hE hA hS hl => ?_)
  have hl : lv_has ls 6 [(0, .ref (z 0)), (1, .int p0), (2, .int p1)] := hl
  refine lv_aload_n hx hb dX10_judge_0 rfl (lv_at hl 0 rfl) ?_
  refine lv_iconst (v := 0) hx hb dX10_judge_1 (by decide) ?_
  refine va_put (ci := 10) (v := .int 0) (ty := .int) (C := RX10) (T := TX10) (N := 40) hx hb hg inX10 tyX10 tyX10_ok nmX10 hown hK hP hD hS 0 rfl rfl 0 (by decide) (hg _ q_5_224) (fun _ h9 => h9) rfl (by decide +kernel) rfl rfl (Nat.le_of_ble_eq_true rfl) dX10_judge_2 (fun H locs hP hD hS => ?_)
  have hP : va_P V.1 vwCl [(z 0, .inr (10, mo z 0 0 0 0 0 0 0 0 0 0 (-1) 0 0 0 0 0)), (z 37, aI V 4 (upd (upd (upd (upd (fun _ => 0) 0 (-1)) 1 (-1)) 2 (-1)) 3 (-1)))] H := hP
  have hD : va_D A [(z 0, .inr (10, mo z 0 0 0 0 0 0 0 0 0 0 (-1) 0 0 0 0 0)), (z 37, aI V 4 (upd (upd (upd (upd (fun _ => 0) 0 (-1)) 1 (-1)) 2 (-1)) 3 (-1)))] := hD
  refine lv_iload_n hx hb dX10_judge_5 rfl (lv_at hl 2 rfl) ?_
  refine lv_i2l (v := p1.toInt64) hx hb dX10_judge_6 rfl ?_
  refine lv_lconst (v := 0) hx hb dX10_judge_7 (by decide) ?_
  refine lv_ldc2 (v := 3) hx hb hown (hg _ q_7_107) dX10_judge_8 ?_
  refine jnI (wr := [(z 0, .inr (10, mo z 0 0 0 0 0 0 0 0 0 0 (-1) 0 0 0 0 0)), (z 37, aI V 4 (upd (upd (upd (upd (fun _ => 0) 0 (-1)) 1 (-1)) 2 (-1)) 3 (-1)))]) (rnS (rest := []) ⟨hx, hb, hml, hown, hg⟩ (c_X10_within_0 l V p1.toInt64 0 3) mt_X10_within q_6_114 ⟨Nat.le_of_ble_eq_true rfl, Nat.le_of_ble_eq_true rfl⟩ hK hP hD hS hA hE [] rfl rfl rfl hl.1 rfl (Nat.le_of_ble_eq_true rfl) dX10_judge_11 ⟨Nat.le_of_ble_eq_true rfl, Nat.le_of_ble_eq_true rfl⟩) hP hD hS hA [] [0, 1] rfl rfl rfl (by decide) (fun r_1 w H locs hw hP hD hS => ?_)
  rcases hw with ⟨c_2, rfl, rfl⟩ | ⟨c_3, c_4, rfl, rfl⟩ | ⟨c_5, c_6, rfl, rfl⟩
  · have hP : va_P V.1 vwCl [(z 0, .inr (10, mo z 0 0 0 0 0 0 0 0 0 0 (-1) 0 0 0 0 0)), (z 37, aI V 4 (upd (upd (upd (upd (fun _ => 0) 0 (-1)) 1 (-1)) 2 (-1)) 3 (-1)))] H := hP
    have hD : va_D A [(z 0, .inr (10, mo z 0 0 0 0 0 0 0 0 0 0 (-1) 0 0 0 0 0)), (z 37, aI V 4 (upd (upd (upd (upd (fun _ => 0) 0 (-1)) 1 (-1)) 2 (-1)) 3 (-1)))] := hD
    refine lv_if_ne (tgt := 20) hx hb dX10_judge_14 (by decide) (fun c_7 => absurd c_7 (by decide)) (fun _ => ?_)
    refine lv_bipush (v := (-2)) hx hb dX10_judge_17 (by decide) ?_
    exact fiI hx hb hr hlk hK hP hD hS dX10_judge_19 (Nat.le_of_ble_eq_true rfl) (Nat.le_of_ble_eq_true rfl) (Or.inl ⟨c_2, rfl, rfl⟩)
  · have hP : va_P V.1 vwCl [(z 0, .inr (10, mo z 0 0 0 0 0 0 0 0 0 0 (-1) 0 0 0 0 0)), (z 37, aI V 4 (upd (upd (upd (upd (fun _ => 0) 0 (-1)) 1 (-1)) 2 (-1)) 3 (-1)))] H := hP
    have hD : va_D A [(z 0, .inr (10, mo z 0 0 0 0 0 0 0 0 0 0 (-1) 0 0 0 0 0)), (z 37, aI V 4 (upd (upd (upd (upd (fun _ => 0) 0 (-1)) 1 (-1)) 2 (-1)) 3 (-1)))] := hD
    refine lv_if_ne (tgt := 20) hx hb dX10_judge_14 (by decide) (fun c_8 => absurd c_8 (by decide)) (fun _ => ?_)
    refine lv_bipush (v := (-2)) hx hb dX10_judge_17 (by decide) ?_
    exact fiI hx hb hr hlk hK hP hD hS dX10_judge_19 (Nat.le_of_ble_eq_true rfl) (Nat.le_of_ble_eq_true rfl) (Or.inr (Or.inl ⟨c_3, c_4, rfl, rfl⟩))
  · have hP : va_P V.1 vwCl [(z 0, .inr (10, mo z 0 0 0 0 0 0 0 0 0 0 (-1) 0 0 0 0 0)), (z 37, aI V 4 (upd (upd (upd (upd (fun _ => 0) 0 (-1)) 1 (-1)) 2 (-1)) 3 (-1)))] H := hP
    have hD : va_D A [(z 0, .inr (10, mo z 0 0 0 0 0 0 0 0 0 0 (-1) 0 0 0 0 0)), (z 37, aI V 4 (upd (upd (upd (upd (fun _ => 0) 0 (-1)) 1 (-1)) 2 (-1)) 3 (-1)))] := hD
    refine lv_if_ne (tgt := 20) hx hb dX10_judge_14 (by decide) (fun _ => ?_) (fun c_9 => absurd c_9 (by decide))
    refine lv_aload_n hx hb dX10_judge_20 rfl (lv_at hl 0 rfl) ?_
    refine lv_iload_n hx hb dX10_judge_21 rfl (lv_at hl 1 rfl) ?_
    refine jnI (wr := []) (rnV (rest := []) ⟨hx, hb, hml, hown, hg⟩ (c_X10_noTray_0 l V z p0) mt_X10_noTray q_7_108 ⟨Nat.le_of_ble_eq_true rfl, Nat.le_of_ble_eq_true rfl⟩ hK hP hD hS hA hE [0, 1] rfl rfl 0 rfl rfl rfl rfl hl.1 rfl (Nat.le_of_ble_eq_true rfl) dX10_judge_22 ⟨Nat.le_of_ble_eq_true rfl, Nat.le_of_ble_eq_true rfl⟩) hP hD hS hA [0, 1] [] rfl rfl rfl (by decide) (fun r_10 w H locs hw hP hD hS => ?_)
    rcases hw with ⟨c_11, rfl, rfl⟩ | ⟨c_12, c_13, rfl, rfl⟩ | ⟨c_14, c_15, c_16, rfl, rfl⟩ | ⟨c_17, c_18, c_19, rfl, rfl⟩ | ⟨c_20, c_21, c_22, rfl, rfl⟩ | ⟨c_23, c_24, c_25, rfl, rfl⟩
    · have hP : va_P V.1 vwCl [(z 0, .inr (10, mo z 0 0 0 0 0 0 0 0 0 0 (-1) 0 0 0 0 0)), (z 37, aI V 4 (upd (upd (upd (upd (fun _ => 0) 0 (-1)) 1 (-1)) 2 (-1)) 3 (-1)))] H := hP
      have hD : va_D A [(z 0, .inr (10, mo z 0 0 0 0 0 0 0 0 0 0 (-1) 0 0 0 0 0)), (z 37, aI V 4 (upd (upd (upd (upd (fun _ => 0) 0 (-1)) 1 (-1)) 2 (-1)) 3 (-1)))] := hD
      refine lv_istore_n (lv' := [(3, .int (-2)), (0, .ref (z 0)), (1, .int p0), (2, .int p1)]) hx hb dX10_judge_25 rfl hl (by decide) rfl (fun ls hl => ?_)
      refine lv_iload_n hx hb dX10_judge_26 rfl (lv_at hl 0 rfl) ?_
      refine lv_if_eq (tgt := 32) hx hb dX10_judge_27 (by decide) (fun c_26 => absurd c_26 (by decide)) (fun _ => ?_)
      refine lv_iload_n hx hb dX10_judge_30 rfl (lv_at hl 0 rfl) ?_
      exact fiI hx hb hr hlk hK hP hD hS dX10_judge_31 (Nat.le_of_ble_eq_true rfl) (Nat.le_of_ble_eq_true rfl) (Or.inr (Or.inr (Or.inl ⟨c_5, c_6, c_11, rfl, rfl⟩)))
    · have hP : va_P V.1 vwCl [(z 0, .inr (10, mo z 0 0 0 0 0 0 0 0 0 0 (-1) 0 0 0 0 0)), (z 37, aI V 4 (upd (upd (upd (upd (fun _ => 0) 0 (-1)) 1 (-1)) 2 (-1)) 3 (-1)))] H := hP
      have hD : va_D A [(z 0, .inr (10, mo z 0 0 0 0 0 0 0 0 0 0 (-1) 0 0 0 0 0)), (z 37, aI V 4 (upd (upd (upd (upd (fun _ => 0) 0 (-1)) 1 (-1)) 2 (-1)) 3 (-1)))] := hD
      refine lv_istore_n (lv' := [(3, .int (-2)), (0, .ref (z 0)), (1, .int p0), (2, .int p1)]) hx hb dX10_judge_25 rfl hl (by decide) rfl (fun ls hl => ?_)
      refine lv_iload_n hx hb dX10_judge_26 rfl (lv_at hl 0 rfl) ?_
      refine lv_if_eq (tgt := 32) hx hb dX10_judge_27 (by decide) (fun c_27 => absurd c_27 (by decide)) (fun _ => ?_)
      refine lv_iload_n hx hb dX10_judge_30 rfl (lv_at hl 0 rfl) ?_
      exact fiI hx hb hr hlk hK hP hD hS dX10_judge_31 (Nat.le_of_ble_eq_true rfl) (Nat.le_of_ble_eq_true rfl) (Or.inr (Or.inr (Or.inr (Or.inl ⟨c_5, c_6, c_12, c_13, rfl, rfl⟩))))
    · have hP : va_P V.1 vwCl [(z 0, .inr (10, mo z 0 0 0 0 0 0 0 0 0 0 (-1) 0 0 0 0 0)), (z 37, aI V 4 (upd (upd (upd (upd (fun _ => 0) 0 (-1)) 1 (-1)) 2 (-1)) 3 (-1)))] H := hP
      have hD : va_D A [(z 0, .inr (10, mo z 0 0 0 0 0 0 0 0 0 0 (-1) 0 0 0 0 0)), (z 37, aI V 4 (upd (upd (upd (upd (fun _ => 0) 0 (-1)) 1 (-1)) 2 (-1)) 3 (-1)))] := hD
      refine lv_istore_n (lv' := [(3, .int (-6)), (0, .ref (z 0)), (1, .int p0), (2, .int p1)]) hx hb dX10_judge_25 rfl hl (by decide) rfl (fun ls hl => ?_)
      refine lv_iload_n hx hb dX10_judge_26 rfl (lv_at hl 0 rfl) ?_
      refine lv_if_eq (tgt := 32) hx hb dX10_judge_27 (by decide) (fun c_28 => absurd c_28 (by decide)) (fun _ => ?_)
      refine lv_iload_n hx hb dX10_judge_30 rfl (lv_at hl 0 rfl) ?_
      exact fiI hx hb hr hlk hK hP hD hS dX10_judge_31 (Nat.le_of_ble_eq_true rfl) (Nat.le_of_ble_eq_true rfl) (Or.inr (Or.inr (Or.inr (Or.inr (Or.inl ⟨c_5, c_6, c_14, c_15, c_16, rfl, rfl⟩)))))
    · have hP : va_P V.1 vwCl [(z 0, .inr (10, mo z 0 0 0 0 0 0 0 0 0 0 (-1) 0 0 0 0 0)), (z 37, aI V 4 (upd (upd (upd (upd (fun _ => 0) 0 (-1)) 1 (-1)) 2 (-1)) 3 (-1)))] H := hP
      have hD : va_D A [(z 0, .inr (10, mo z 0 0 0 0 0 0 0 0 0 0 (-1) 0 0 0 0 0)), (z 37, aI V 4 (upd (upd (upd (upd (fun _ => 0) 0 (-1)) 1 (-1)) 2 (-1)) 3 (-1)))] := hD
      refine lv_istore_n (lv' := [(3, .int (-6)), (0, .ref (z 0)), (1, .int p0), (2, .int p1)]) hx hb dX10_judge_25 rfl hl (by decide) rfl (fun ls hl => ?_)
      refine lv_iload_n hx hb dX10_judge_26 rfl (lv_at hl 0 rfl) ?_
      refine lv_if_eq (tgt := 32) hx hb dX10_judge_27 (by decide) (fun c_29 => absurd c_29 (by decide)) (fun _ => ?_)
      refine lv_iload_n hx hb dX10_judge_30 rfl (lv_at hl 0 rfl) ?_
      exact fiI hx hb hr hlk hK hP hD hS dX10_judge_31 (Nat.le_of_ble_eq_true rfl) (Nat.le_of_ble_eq_true rfl) (Or.inr (Or.inr (Or.inr (Or.inr (Or.inr (Or.inl ⟨c_5, c_6, c_17, c_18, c_19, rfl, rfl⟩))))))
    · have hP : va_P V.1 vwCl [(z 0, .inr (10, mo z 0 0 0 0 0 0 0 0 0 0 (-1) 0 0 0 0 0)), (z 37, aI V 4 (upd (upd (upd (upd (fun _ => 0) 0 (-1)) 1 (-1)) 2 (-1)) 3 (-1)))] H := hP
      have hD : va_D A [(z 0, .inr (10, mo z 0 0 0 0 0 0 0 0 0 0 (-1) 0 0 0 0 0)), (z 37, aI V 4 (upd (upd (upd (upd (fun _ => 0) 0 (-1)) 1 (-1)) 2 (-1)) 3 (-1)))] := hD
      refine lv_istore_n (lv' := [(3, .int (-6)), (0, .ref (z 0)), (1, .int p0), (2, .int p1)]) hx hb dX10_judge_25 rfl hl (by decide) rfl (fun ls hl => ?_)
      refine lv_iload_n hx hb dX10_judge_26 rfl (lv_at hl 0 rfl) ?_
      refine lv_if_eq (tgt := 32) hx hb dX10_judge_27 (by decide) (fun c_30 => absurd c_30 (by decide)) (fun _ => ?_)
      refine lv_iload_n hx hb dX10_judge_30 rfl (lv_at hl 0 rfl) ?_
      exact fiI hx hb hr hlk hK hP hD hS dX10_judge_31 (Nat.le_of_ble_eq_true rfl) (Nat.le_of_ble_eq_true rfl) (Or.inr (Or.inr (Or.inr (Or.inr (Or.inr (Or.inr (Or.inl ⟨c_5, c_6, c_20, c_21, c_22, rfl, rfl⟩)))))))
    · have hP : va_P V.1 vwCl [(z 0, .inr (10, mo z 0 0 0 0 0 0 0 0 0 0 (-1) 0 0 0 0 0)), (z 37, aI V 4 (upd (upd (upd (upd (fun _ => 0) 0 (-1)) 1 (-1)) 2 (-1)) 3 (-1)))] H := hP
      have hD : va_D A [(z 0, .inr (10, mo z 0 0 0 0 0 0 0 0 0 0 (-1) 0 0 0 0 0)), (z 37, aI V 4 (upd (upd (upd (upd (fun _ => 0) 0 (-1)) 1 (-1)) 2 (-1)) 3 (-1)))] := hD
      refine lv_istore_n (lv' := [(3, .int (-6)), (0, .ref (z 0)), (1, .int p0), (2, .int p1)]) hx hb dX10_judge_25 rfl hl (by decide) rfl (fun ls hl => ?_)
      refine lv_iload_n hx hb dX10_judge_26 rfl (lv_at hl 0 rfl) ?_
      refine lv_if_eq (tgt := 32) hx hb dX10_judge_27 (by decide) (fun c_31 => absurd c_31 (by decide)) (fun _ => ?_)
      refine lv_iload_n hx hb dX10_judge_30 rfl (lv_at hl 0 rfl) ?_
      exact fiI hx hb hr hlk hK hP hD hS dX10_judge_31 (Nat.le_of_ble_eq_true rfl) (Nat.le_of_ble_eq_true rfl) (Or.inr (Or.inr (Or.inr (Or.inr (Or.inr (Or.inr (Or.inr (⟨c_5, c_6, c_23, c_24, c_25, rfl, rfl⟩))))))))
theorem dX9_isTray_0 : decode cX9_isTray 0 = .ok (.iload_n 0, 1) := by decide +kernel
theorem dX9_isTray_1 : decode cX9_isTray 1 = .ok (.ifCond .lt 12, 3) := by decide +kernel
theorem dX9_isTray_13 : decode cX9_isTray 13 = .ok (.iconst 0, 1) := by decide +kernel
theorem dX9_isTray_14 : decode cX9_isTray 14 = .ok (.ireturn, 1) := by decide +kernel
theorem dX9_isTray_4 : decode cX9_isTray 4 = .ok (.iload_n 0, 1) := by decide +kernel
theorem dX9_isTray_5 : decode cX9_isTray 5 = .ok (.iconst 4, 1) := by decide +kernel
theorem dX9_isTray_6 : decode cX9_isTray 6 = .ok (.if_icmp .ge 7, 3) := by decide +kernel
theorem dX9_isTray_9 : decode cX9_isTray 9 = .ok (.iconst 1, 1) := by decide +kernel
theorem dX9_isTray_10 : decode cX9_isTray 10 = .ok (.goto 4, 3) := by decide +kernel
set_option maxHeartbeats 4000000 in
set_option maxRecDepth 100000 in
theorem c_X9_isTray_0 (l : Launch) (V : GV) (p0 : Int32) : Ct l V yX9_isTray (.code yX9_isTray cX9_isTray 1 (some .boolean)) 1 [.int p0] [] 0 0 (QI V (fun (r : Int32) (w : va_W) => (p0 < 0 ∧ r = 0 ∧ w = []) ∨ ((¬ p0 < 0) ∧ 4 ≤ p0 ∧ r = 0 ∧ w = []) ∨ ((¬ p0 < 0) ∧ (¬ 4 ≤ p0) ∧ r = 1 ∧ w = []))) := by
  refine Ct.of (by decide) (Nat.le_of_ble_eq_true rfl) (fun p e s m below meth c A ls hx hb hr hml hown hlk hnm hg hP hK hD hE hA hS hl => ?_)
  have hl : lv_has ls 1 [(0, .int p0)] := hl
  refine lv_iload_n hx hb dX9_isTray_0 rfl (lv_at hl 0 rfl) ?_
  refine lv_if_lt (tgt := 13) hx hb dX9_isTray_1 (by decide) (fun c_1 => ?_) (fun c_1 => ?_)
  · refine lv_iconst (v := 0) hx hb dX9_isTray_13 (by decide) ?_
    exact fiZ rfl hx hb hr hlk hK hP hD hS dX9_isTray_14 (Nat.le_of_ble_eq_true rfl) (Nat.le_of_ble_eq_true rfl) (Or.inl ⟨c_1, rfl, rfl⟩)
  · refine lv_iload_n hx hb dX9_isTray_4 rfl (lv_at hl 0 rfl) ?_
    refine lv_iconst (v := 4) hx hb dX9_isTray_5 (by decide) ?_
    refine lv_icmp_ge (tgt := 13) hx hb dX9_isTray_6 (by decide) (fun c_2 => ?_) (fun c_2 => ?_)
    · refine lv_iconst (v := 0) hx hb dX9_isTray_13 (by decide) ?_
      exact fiZ rfl hx hb hr hlk hK hP hD hS dX9_isTray_14 (Nat.le_of_ble_eq_true rfl) (Nat.le_of_ble_eq_true rfl) (Or.inr (Or.inl ⟨c_1, c_2, rfl, rfl⟩))
    · refine lv_iconst (v := 1) hx hb dX9_isTray_9 (by decide) ?_
      refine lv_goto (tgt := 14) hx hb dX9_isTray_10 (by decide) ?_
      exact fiZ rfl hx hb hr hlk hK hP hD hS dX9_isTray_14 (Nat.le_of_ble_eq_true rfl) (Nat.le_of_ble_eq_true rfl) (Or.inr (Or.inr (⟨c_1, c_2, rfl, rfl⟩)))
theorem dX7_isMissing_0 : decode cX7_isMissing 0 = .ok (.aload_n 0, 1) := by decide +kernel
theorem dX7_isMissing_1 : decode cX7_isMissing 1 = .ok (.getfield 15, 3) := by decide +kernel
theorem dX7_isMissing_4 : decode cX7_isMissing 4 = .ok (.ifCond .ge 7, 3) := by decide +kernel
theorem dX7_isMissing_7 : decode cX7_isMissing 7 = .ok (.iconst 1, 1) := by decide +kernel
theorem dX7_isMissing_8 : decode cX7_isMissing 8 = .ok (.goto 4, 3) := by decide +kernel
theorem dX7_isMissing_12 : decode cX7_isMissing 12 = .ok (.ireturn, 1) := by decide +kernel
set_option maxHeartbeats 4000000 in
set_option maxRecDepth 100000 in
theorem c_X7_isMissing_0 (l : Launch) (V : GV) (y : Nat → Nat) : Ct l V yX7_isMissing (.code yX7_isMissing cX7_isMissing 1 (some .boolean)) 1 [.ref (y 33)] [(y 33, .inr (7, [.ref (y 34), .int (-1), .int 0]))] 0 0 (QI V (fun (r : Int32) (w : va_W) => (r = 1 ∧ w = [(y 33, .inr (7, [.ref (y 34), .int (-1), .int 0]))]))) := by
  refine Ct.of (by decide) (Nat.le_of_ble_eq_true rfl) (fun p e s m below meth c A ls hx hb hr hml hown hlk hnm hg hP hK hD hE hA hS hl => ?_)
  have hl : lv_has ls 1 [(0, .ref (y 33))] := hl
  refine lv_aload_n hx hb dX7_isMissing_0 rfl (lv_at hl 0 rfl) ?_
  refine va_get (ci := 7) (v := .int (-1)) (C := RX7) (T := TX7) (N := 3) hx hb hg inX7 hown hK hP 0 rfl rfl 1 (by decide) (hg _ q_2_0) (fun _ h9 => h9) rfl dX7_isMissing_1 ?_
  refine lv_if_ge (tgt := 11) hx hb dX7_isMissing_4 (by decide) (fun c_1 => absurd c_1 (by decide)) (fun _ => ?_)
  refine lv_iconst (v := 1) hx hb dX7_isMissing_7 (by decide) ?_
  refine lv_goto (tgt := 12) hx hb dX7_isMissing_8 (by decide) ?_
  exact fiZ rfl hx hb hr hlk hK hP hD hS dX7_isMissing_12 (Nat.le_of_ble_eq_true rfl) (Nat.le_of_ble_eq_true rfl) (⟨rfl, rfl⟩)
set_option maxHeartbeats 4000000 in
set_option maxRecDepth 100000 in
theorem c_X7_isMissing_1 (l : Launch) (V : GV) (y : Nat → Nat) : Ct l V yX7_isMissing (.code yX7_isMissing cX7_isMissing 1 (some .boolean)) 1 [.ref (y 35)] [(y 35, .inr (7, [.ref (y 36), .int (-1), .int 0]))] 0 0 (QI V (fun (r : Int32) (w : va_W) => (r = 1 ∧ w = [(y 35, .inr (7, [.ref (y 36), .int (-1), .int 0]))]))) := by
  refine Ct.of (by decide) (Nat.le_of_ble_eq_true rfl) (fun p e s m below meth c A ls hx hb hr hml hown hlk hnm hg hP hK hD hE hA hS hl => ?_)
  have hl : lv_has ls 1 [(0, .ref (y 35))] := hl
  refine lv_aload_n hx hb dX7_isMissing_0 rfl (lv_at hl 0 rfl) ?_
  refine va_get (ci := 7) (v := .int (-1)) (C := RX7) (T := TX7) (N := 3) hx hb hg inX7 hown hK hP 0 rfl rfl 1 (by decide) (hg _ q_2_0) (fun _ h9 => h9) rfl dX7_isMissing_1 ?_
  refine lv_if_ge (tgt := 11) hx hb dX7_isMissing_4 (by decide) (fun c_1 => absurd c_1 (by decide)) (fun _ => ?_)
  refine lv_iconst (v := 1) hx hb dX7_isMissing_7 (by decide) ?_
  refine lv_goto (tgt := 12) hx hb dX7_isMissing_8 (by decide) ?_
  exact fiZ rfl hx hb hr hlk hK hP hD hS dX7_isMissing_12 (Nat.le_of_ble_eq_true rfl) (Nat.le_of_ble_eq_true rfl) (⟨rfl, rfl⟩)
set_option maxHeartbeats 4000000 in
set_option maxRecDepth 100000 in
theorem c_X7_isMissing_2 (l : Launch) (V : GV) (y : Nat → Nat) : Ct l V yX7_isMissing (.code yX7_isMissing cX7_isMissing 1 (some .boolean)) 1 [.ref (y 37)] [(y 37, .inr (7, [.ref (y 38), .int (-1), .int 0]))] 0 0 (QI V (fun (r : Int32) (w : va_W) => (r = 1 ∧ w = [(y 37, .inr (7, [.ref (y 38), .int (-1), .int 0]))]))) := by
  refine Ct.of (by decide) (Nat.le_of_ble_eq_true rfl) (fun p e s m below meth c A ls hx hb hr hml hown hlk hnm hg hP hK hD hE hA hS hl => ?_)
  have hl : lv_has ls 1 [(0, .ref (y 37))] := hl
  refine lv_aload_n hx hb dX7_isMissing_0 rfl (lv_at hl 0 rfl) ?_
  refine va_get (ci := 7) (v := .int (-1)) (C := RX7) (T := TX7) (N := 3) hx hb hg inX7 hown hK hP 0 rfl rfl 1 (by decide) (hg _ q_2_0) (fun _ h9 => h9) rfl dX7_isMissing_1 ?_
  refine lv_if_ge (tgt := 11) hx hb dX7_isMissing_4 (by decide) (fun c_1 => absurd c_1 (by decide)) (fun _ => ?_)
  refine lv_iconst (v := 1) hx hb dX7_isMissing_7 (by decide) ?_
  refine lv_goto (tgt := 12) hx hb dX7_isMissing_8 (by decide) ?_
  exact fiZ rfl hx hb hr hlk hK hP hD hS dX7_isMissing_12 (Nat.le_of_ble_eq_true rfl) (Nat.le_of_ble_eq_true rfl) (⟨rfl, rfl⟩)
set_option maxHeartbeats 4000000 in
set_option maxRecDepth 100000 in
theorem c_X7_isMissing_3 (l : Launch) (V : GV) (y : Nat → Nat) : Ct l V yX7_isMissing (.code yX7_isMissing cX7_isMissing 1 (some .boolean)) 1 [.ref (y 39)] [(y 39, .inr (7, [.ref (y 40), .int (-1), .int 0]))] 0 0 (QI V (fun (r : Int32) (w : va_W) => (r = 1 ∧ w = [(y 39, .inr (7, [.ref (y 40), .int (-1), .int 0]))]))) := by
  refine Ct.of (by decide) (Nat.le_of_ble_eq_true rfl) (fun p e s m below meth c A ls hx hb hr hml hown hlk hnm hg hP hK hD hE hA hS hl => ?_)
  have hl : lv_has ls 1 [(0, .ref (y 39))] := hl
  refine lv_aload_n hx hb dX7_isMissing_0 rfl (lv_at hl 0 rfl) ?_
  refine va_get (ci := 7) (v := .int (-1)) (C := RX7) (T := TX7) (N := 3) hx hb hg inX7 hown hK hP 0 rfl rfl 1 (by decide) (hg _ q_2_0) (fun _ h9 => h9) rfl dX7_isMissing_1 ?_
  refine lv_if_ge (tgt := 11) hx hb dX7_isMissing_4 (by decide) (fun c_1 => absurd c_1 (by decide)) (fun _ => ?_)
  refine lv_iconst (v := 1) hx hb dX7_isMissing_7 (by decide) ?_
  refine lv_goto (tgt := 12) hx hb dX7_isMissing_8 (by decide) ?_
  exact fiZ rfl hx hb hr hlk hK hP hD hS dX7_isMissing_12 (Nat.le_of_ble_eq_true rfl) (Nat.le_of_ble_eq_true rfl) (⟨rfl, rfl⟩)
theorem dX9_judge_0 : decode cX9_judge 0 = .ok (.iload_n 1, 1) := by decide +kernel
theorem q_3_230 : Cond.code yX9_isTray prog_1_method_68_code 1 (some FieldType.boolean) ∈ gw := gw_3 (i := 230) (rfl) rfl
theorem q_3_229 : Cond.static yX9_isTray ∈ gw := gw_3 (i := 229) (by decide +kernel) rfl
theorem mt_X9_isTray : MtS yX9_isTray cX9_isTray 1 (some .boolean) 1 := ⟨⟨q_3_230, q_1_1, by decide +kernel, by decide +kernel, by decide +kernel⟩, q_3_229⟩
theorem q_3_228 : Cond.methodLink "BeaconDelay" 205 yX9_isTray ∈ gw := gw_3 (i := 228) (by decide +kernel) rfl
theorem dX9_judge_1 : decode cX9_judge 1 = .ok (.invokestatic 205, 3) := by decide +kernel
theorem dX9_judge_4 : decode cX9_judge 4 = .ok (.ifCond .eq 12, 3) := by decide +kernel
theorem dX9_judge_16 : decode cX9_judge 16 = .ok (.bipush (-2), 2) := by decide +kernel
theorem dX9_judge_18 : decode cX9_judge 18 = .ok (.ireturn, 1) := by decide +kernel
theorem dX9_judge_7 : decode cX9_judge 7 = .ok (.iload_n 2, 1) := by decide +kernel
theorem dX9_judge_8 : decode cX9_judge 8 = .ok (.ifCond .lt 8, 3) := by decide +kernel
theorem dX9_judge_11 : decode cX9_judge 11 = .ok (.iload_n 2, 1) := by decide +kernel
theorem dX9_judge_12 : decode cX9_judge 12 = .ok (.iconst 3, 1) := by decide +kernel
theorem dX9_judge_13 : decode cX9_judge 13 = .ok (.if_icmp .le 6, 3) := by decide +kernel
theorem dX9_judge_19 : decode cX9_judge 19 = .ok (.aload_n 0, 1) := by decide +kernel
theorem dX9_judge_20 : decode cX9_judge 20 = .ok (.getfield 54, 3) := by decide +kernel
theorem dX9_judge_23 : decode cX9_judge 23 = .ok (.iload_n 1, 1) := by decide +kernel
theorem dX9_judge_24 : decode cX9_judge 24 = .ok (.aaload, 1) := by decide +kernel
theorem dX9_judge_25 : decode cX9_judge 25 = .ok (.astore_n 3, 1) := by decide +kernel
theorem dX9_judge_26 : decode cX9_judge 26 = .ok (.aload_n 3, 1) := by decide +kernel
theorem q_3_234 : Cond.code yX7_isMissing prog_9_method_2_code 1 (some FieldType.boolean) ∈ gw := gw_3 (i := 234) (rfl) rfl
theorem q_3_232 : Cond.instanceMethod yX7_isMissing ∈ gw := gw_3 (i := 232) (by decide +kernel) rfl
theorem q_3_233 : Cond.selects "BeaconDelay$Tray" yX7_isMissing yX7_isMissing ∈ gw := gw_3 (i := 233) (by decide +kernel) rfl
theorem mt_X7_isMissing : MtV yX7_isMissing cX7_isMissing 1 (some .boolean) 0 := ⟨⟨q_3_234, q_1_7, by decide +kernel, by decide +kernel, by decide +kernel⟩, q_3_232, q_3_233⟩
theorem q_3_231 : Cond.methodLink "BeaconDelay" 208 yX7_isMissing ∈ gw := gw_3 (i := 231) (by decide +kernel) rfl
theorem dX9_judge_27 : decode cX9_judge 27 = .ok (.invokevirtual 208, 3) := by decide +kernel
theorem dX9_judge_30 : decode cX9_judge 30 = .ok (.ifCond .eq 6, 3) := by decide +kernel
theorem dX9_judge_33 : decode cX9_judge 33 = .ok (.bipush (-6), 2) := by decide +kernel
theorem dX9_judge_35 : decode cX9_judge 35 = .ok (.ireturn, 1) := by decide +kernel
set_option maxHeartbeats 4000000 in
set_option maxRecDepth 100000 in
theorem c_X9_judge_0 (l : Launch) (V : GV) (y : Nat → Nat) (p0 : Int32) (p1 : Int32) : Ct l V yX9_judge (.code yX9_judge cX9_judge 11 (some .int)) 2 [.ref (y 0), .int p0, .int p1] [(y 0, .inr (9, [.ref (y 1), .int 0, .ref (y 2), .ref (y 10), .ref (y 19), .ref (y 25), .ref (y 26), .ref (y 30), .ref (y 31), .ref (y 32), .null, .null, .int 0, .int 0, .int 0])), (y 30, aT V 4 (va_up (va_up (va_up (va_up (fun _ => none) 0 (some (y 33))) 1 (some (y 35))) 2 (some (y 37))) 3 (some (y 39)))), (y 33, .inr (7, [.ref (y 34), .int (-1), .int 0])), (y 35, .inr (7, [.ref (y 36), .int (-1), .int 0])), (y 37, .inr (7, [.ref (y 38), .int (-1), .int 0])), (y 39, .inr (7, [.ref (y 40), .int (-1), .int 0]))] 0 0 (QI V (fun (r : Int32) (w : va_W) => (p0 < 0 ∧ r = (-2) ∧ w = [(y 0, .inr (9, [.ref (y 1), .int 0, .ref (y 2), .ref (y 10), .ref (y 19), .ref (y 25), .ref (y 26), .ref (y 30), .ref (y 31), .ref (y 32), .null, .null, .int 0, .int 0, .int 0])), (y 30, aT V 4 (va_up (va_up (va_up (va_up (fun _ => none) 0 (some (y 33))) 1 (some (y 35))) 2 (some (y 37))) 3 (some (y 39)))), (y 33, .inr (7, [.ref (y 34), .int (-1), .int 0])), (y 35, .inr (7, [.ref (y 36), .int (-1), .int 0])), (y 37, .inr (7, [.ref (y 38), .int (-1), .int 0])), (y 39, .inr (7, [.ref (y 40), .int (-1), .int 0]))]) ∨ ((¬ p0 < 0) ∧ 4 ≤ p0 ∧ r = (-2) ∧ w = [(y 0, .inr (9, [.ref (y 1), .int 0, .ref (y 2), .ref (y 10), .ref (y 19), .ref (y 25), .ref (y 26), .ref (y 30), .ref (y 31), .ref (y 32), .null, .null, .int 0, .int 0, .int 0])), (y 30, aT V 4 (va_up (va_up (va_up (va_up (fun _ => none) 0 (some (y 33))) 1 (some (y 35))) 2 (some (y 37))) 3 (some (y 39)))), (y 33, .inr (7, [.ref (y 34), .int (-1), .int 0])), (y 35, .inr (7, [.ref (y 36), .int (-1), .int 0])), (y 37, .inr (7, [.ref (y 38), .int (-1), .int 0])), (y 39, .inr (7, [.ref (y 40), .int (-1), .int 0]))]) ∨ ((¬ p0 < 0) ∧ (¬ 4 ≤ p0) ∧ p1 < 0 ∧ r = (-2) ∧ w = [(y 0, .inr (9, [.ref (y 1), .int 0, .ref (y 2), .ref (y 10), .ref (y 19), .ref (y 25), .ref (y 26), .ref (y 30), .ref (y 31), .ref (y 32), .null, .null, .int 0, .int 0, .int 0])), (y 30, aT V 4 (va_up (va_up (va_up (va_up (fun _ => none) 0 (some (y 33))) 1 (some (y 35))) 2 (some (y 37))) 3 (some (y 39)))), (y 33, .inr (7, [.ref (y 34), .int (-1), .int 0])), (y 35, .inr (7, [.ref (y 36), .int (-1), .int 0])), (y 37, .inr (7, [.ref (y 38), .int (-1), .int 0])), (y 39, .inr (7, [.ref (y 40), .int (-1), .int 0]))]) ∨ ((¬ p0 < 0) ∧ (¬ 4 ≤ p0) ∧ (¬ p1 < 0) ∧ (¬ p1 ≤ 3) ∧ r = (-2) ∧ w = [(y 0, .inr (9, [.ref (y 1), .int 0, .ref (y 2), .ref (y 10), .ref (y 19), .ref (y 25), .ref (y 26), .ref (y 30), .ref (y 31), .ref (y 32), .null, .null, .int 0, .int 0, .int 0])), (y 30, aT V 4 (va_up (va_up (va_up (va_up (fun _ => none) 0 (some (y 33))) 1 (some (y 35))) 2 (some (y 37))) 3 (some (y 39)))), (y 33, .inr (7, [.ref (y 34), .int (-1), .int 0])), (y 35, .inr (7, [.ref (y 36), .int (-1), .int 0])), (y 37, .inr (7, [.ref (y 38), .int (-1), .int 0])), (y 39, .inr (7, [.ref (y 40), .int (-1), .int 0]))]) ∨ ((¬ p0 < 0) ∧ (¬ 4 ≤ p0) ∧ (¬ p1 < 0) ∧ p1 ≤ 3 ∧ p0 = 0 ∧ r = (-6) ∧ w = [(y 0, .inr (9, [.ref (y 1), .int 0, .ref (y 2), .ref (y 10), .ref (y 19), .ref (y 25), .ref (y 26), .ref (y 30), .ref (y 31), .ref (y 32), .null, .null, .int 0, .int 0, .int 0])), (y 30, aT V 4 (va_up (va_up (va_up (va_up (fun _ => none) 0 (some (y 33))) 1 (some (y 35))) 2 (some (y 37))) 3 (some (y 39)))), (y 33, .inr (7, [.ref (y 34), .int (-1), .int 0])), (y 35, .inr (7, [.ref (y 36), .int (-1), .int 0])), (y 37, .inr (7, [.ref (y 38), .int (-1), .int 0])), (y 39, .inr (7, [.ref (y 40), .int (-1), .int 0]))]) ∨ ((¬ p0 < 0) ∧ (¬ 4 ≤ p0) ∧ (¬ p1 < 0) ∧ p1 ≤ 3 ∧ p0 = 1 ∧ r = (-6) ∧ w = [(y 0, .inr (9, [.ref (y 1), .int 0, .ref (y 2), .ref (y 10), .ref (y 19), .ref (y 25), .ref (y 26), .ref (y 30), .ref (y 31), .ref (y 32), .null, .null, .int 0, .int 0, .int 0])), (y 30, aT V 4 (va_up (va_up (va_up (va_up (fun _ => none) 0 (some (y 33))) 1 (some (y 35))) 2 (some (y 37))) 3 (some (y 39)))), (y 33, .inr (7, [.ref (y 34), .int (-1), .int 0])), (y 35, .inr (7, [.ref (y 36), .int (-1), .int 0])), (y 37, .inr (7, [.ref (y 38), .int (-1), .int 0])), (y 39, .inr (7, [.ref (y 40), .int (-1), .int 0]))]) ∨ ((¬ p0 < 0) ∧ (¬ 4 ≤ p0) ∧ (¬ p1 < 0) ∧ p1 ≤ 3 ∧ p0 = 2 ∧ r = (-6) ∧ w = [(y 0, .inr (9, [.ref (y 1), .int 0, .ref (y 2), .ref (y 10), .ref (y 19), .ref (y 25), .ref (y 26), .ref (y 30), .ref (y 31), .ref (y 32), .null, .null, .int 0, .int 0, .int 0])), (y 30, aT V 4 (va_up (va_up (va_up (va_up (fun _ => none) 0 (some (y 33))) 1 (some (y 35))) 2 (some (y 37))) 3 (some (y 39)))), (y 33, .inr (7, [.ref (y 34), .int (-1), .int 0])), (y 35, .inr (7, [.ref (y 36), .int (-1), .int 0])), (y 37, .inr (7, [.ref (y 38), .int (-1), .int 0])), (y 39, .inr (7, [.ref (y 40), .int (-1), .int 0]))]) ∨ ((¬ p0 < 0) ∧ (¬ 4 ≤ p0) ∧ (¬ p1 < 0) ∧ p1 ≤ 3 ∧ p0 = 3 ∧ r = (-6) ∧ w = [(y 0, .inr (9, [.ref (y 1), .int 0, .ref (y 2), .ref (y 10), .ref (y 19), .ref (y 25), .ref (y 26), .ref (y 30), .ref (y 31), .ref (y 32), .null, .null, .int 0, .int 0, .int 0])), (y 30, aT V 4 (va_up (va_up (va_up (va_up (fun _ => none) 0 (some (y 33))) 1 (some (y 35))) 2 (some (y 37))) 3 (some (y 39)))), (y 33, .inr (7, [.ref (y 34), .int (-1), .int 0])), (y 35, .inr (7, [.ref (y 36), .int (-1), .int 0])), (y 37, .inr (7, [.ref (y 38), .int (-1), .int 0])), (y 39, .inr (7, [.ref (y 40), .int (-1), .int 0]))]))) := by
  refine Ct.of (by decide) (Nat.le_of_ble_eq_true rfl) (fun p e s m below meth c A ls hx hb hr hml hown hlk hnm hg hP hK hD hE hA hS hl => ?_)
  have hl : lv_has ls 11 [(0, .ref (y 0)), (1, .int p0), (2, .int p1)] := hl
  refine lv_iload_n hx hb dX9_judge_0 rfl (lv_at hl 1 rfl) ?_
  refine jnI (wr := [(y 0, .inr (9, [.ref (y 1), .int 0, .ref (y 2), .ref (y 10), .ref (y 19), .ref (y 25), .ref (y 26), .ref (y 30), .ref (y 31), .ref (y 32), .null, .null, .int 0, .int 0, .int 0])), (y 30, aT V 4 (va_up (va_up (va_up (va_up (fun _ => none) 0 (some (y 33))) 1 (some (y 35))) 2 (some (y 37))) 3 (some (y 39)))), (y 33, .inr (7, [.ref (y 34), .int (-1), .int 0])), (y 35, .inr (7, [.ref (y 36), .int (-1), .int 0])), (y 37, .inr (7, [.ref (y 38), .int (-1), .int 0])), (y 39, .inr (7, [.ref (y 40), .int (-1), .int 0]))]) (rnS (rest := []) ⟨hx, hb, hml, hown, hg⟩ (c_X9_isTray_0 l V p0) mt_X9_isTray q_3_228 ⟨Nat.le_of_ble_eq_true rfl, Nat.le_of_ble_eq_true rfl⟩ hK hP hD hS hA hE [] rfl rfl rfl hl.1 rfl (Nat.le_of_ble_eq_true rfl) dX9_judge_1 ⟨Nat.le_of_ble_eq_true rfl, Nat.le_of_ble_eq_true rfl⟩) hP hD hS hA [] [0, 1, 2, 3, 4, 5] rfl rfl rfl (by decide) (fun r_1 w H locs hw hP hD hS => ?_)
  rcases hw with ⟨c_2, rfl, rfl⟩ | ⟨c_3, c_4, rfl, rfl⟩ | ⟨c_5, c_6, rfl, rfl⟩
  · have hP : va_P V.1 vwCl [(y 0, .inr (9, [.ref (y 1), .int 0, .ref (y 2), .ref (y 10), .ref (y 19), .ref (y 25), .ref (y 26), .ref (y 30), .ref (y 31), .ref (y 32), .null, .null, .int 0, .int 0, .int 0])), (y 30, aT V 4 (va_up (va_up (va_up (va_up (fun _ => none) 0 (some (y 33))) 1 (some (y 35))) 2 (some (y 37))) 3 (some (y 39)))), (y 33, .inr (7, [.ref (y 34), .int (-1), .int 0])), (y 35, .inr (7, [.ref (y 36), .int (-1), .int 0])), (y 37, .inr (7, [.ref (y 38), .int (-1), .int 0])), (y 39, .inr (7, [.ref (y 40), .int (-1), .int 0]))] H := hP
    have hD : va_D A [(y 0, .inr (9, [.ref (y 1), .int 0, .ref (y 2), .ref (y 10), .ref (y 19), .ref (y 25), .ref (y 26), .ref (y 30), .ref (y 31), .ref (y 32), .null, .null, .int 0, .int 0, .int 0])), (y 30, aT V 4 (va_up (va_up (va_up (va_up (fun _ => none) 0 (some (y 33))) 1 (some (y 35))) 2 (some (y 37))) 3 (some (y 39)))), (y 33, .inr (7, [.ref (y 34), .int (-1), .int 0])), (y 35, .inr (7, [.ref (y 36), .int (-1), .int 0])), (y 37, .inr (7, [.ref (y 38), .int (-1), .int 0])), (y 39, .inr (7, [.ref (y 40), .int (-1), .int 0]))] := hD
    refine lv_if_eq (tgt := 16) hx hb dX9_judge_4 (by decide) (fun _ => ?_) (fun c_7 => absurd c_7 (by decide))
    refine lv_bipush (v := (-2)) hx hb dX9_judge_16 (by decide) ?_
    exact fiI hx hb hr hlk hK hP hD hS dX9_judge_18 (Nat.le_of_ble_eq_true rfl) (Nat.le_of_ble_eq_true rfl) (Or.inl ⟨c_2, rfl, rfl⟩)
  · have hP : va_P V.1 vwCl [(y 0, .inr (9, [.ref (y 1), .int 0, .ref (y 2), .ref (y 10), .ref (y 19), .ref (y 25), .ref (y 26), .ref (y 30), .ref (y 31), .ref (y 32), .null, .null, .int 0, .int 0, .int 0])), (y 30, aT V 4 (va_up (va_up (va_up (va_up (fun _ => none) 0 (some (y 33))) 1 (some (y 35))) 2 (some (y 37))) 3 (some (y 39)))), (y 33, .inr (7, [.ref (y 34), .int (-1), .int 0])), (y 35, .inr (7, [.ref (y 36), .int (-1), .int 0])), (y 37, .inr (7, [.ref (y 38), .int (-1), .int 0])), (y 39, .inr (7, [.ref (y 40), .int (-1), .int 0]))] H := hP
    have hD : va_D A [(y 0, .inr (9, [.ref (y 1), .int 0, .ref (y 2), .ref (y 10), .ref (y 19), .ref (y 25), .ref (y 26), .ref (y 30), .ref (y 31), .ref (y 32), .null, .null, .int 0, .int 0, .int 0])), (y 30, aT V 4 (va_up (va_up (va_up (va_up (fun _ => none) 0 (some (y 33))) 1 (some (y 35))) 2 (some (y 37))) 3 (some (y 39)))), (y 33, .inr (7, [.ref (y 34), .int (-1), .int 0])), (y 35, .inr (7, [.ref (y 36), .int (-1), .int 0])), (y 37, .inr (7, [.ref (y 38), .int (-1), .int 0])), (y 39, .inr (7, [.ref (y 40), .int (-1), .int 0]))] := hD
    refine lv_if_eq (tgt := 16) hx hb dX9_judge_4 (by decide) (fun _ => ?_) (fun c_8 => absurd c_8 (by decide))
    refine lv_bipush (v := (-2)) hx hb dX9_judge_16 (by decide) ?_
    exact fiI hx hb hr hlk hK hP hD hS dX9_judge_18 (Nat.le_of_ble_eq_true rfl) (Nat.le_of_ble_eq_true rfl) (Or.inr (Or.inl ⟨c_3, c_4, rfl, rfl⟩))
  · have hP : va_P V.1 vwCl [(y 0, .inr (9, [.ref (y 1), .int 0, .ref (y 2), .ref (y 10), .ref (y 19), .ref (y 25), .ref (y 26), .ref (y 30), .ref (y 31), .ref (y 32), .null, .null, .int 0, .int 0, .int 0])), (y 30, aT V 4 (va_up (va_up (va_up (va_up (fun _ => none) 0 (some (y 33))) 1 (some (y 35))) 2 (some (y 37))) 3 (some (y 39)))), (y 33, .inr (7, [.ref (y 34), .int (-1), .int 0])), (y 35, .inr (7, [.ref (y 36), .int (-1), .int 0])), (y 37, .inr (7, [.ref (y 38), .int (-1), .int 0])), (y 39, .inr (7, [.ref (y 40), .int (-1), .int 0]))] H := hP
    have hD : va_D A [(y 0, .inr (9, [.ref (y 1), .int 0, .ref (y 2), .ref (y 10), .ref (y 19), .ref (y 25), .ref (y 26), .ref (y 30), .ref (y 31), .ref (y 32), .null, .null, .int 0, .int 0, .int 0])), (y 30, aT V 4 (va_up (va_up (va_up (va_up (fun _ => none) 0 (some (y 33))) 1 (some (y 35))) 2 (some (y 37))) 3 (some (y 39)))), (y 33, .inr (7, [.ref (y 34), .int (-1), .int 0])), (y 35, .inr (7, [.ref (y 36), .int (-1), .int 0])), (y 37, .inr (7, [.ref (y 38), .int (-1), .int 0])), (y 39, .inr (7, [.ref (y 40), .int (-1), .int 0]))] := hD
    refine lv_if_eq (tgt := 16) hx hb dX9_judge_4 (by decide) (fun c_9 => absurd c_9 (by decide)) (fun _ => ?_)
    refine lv_iload_n hx hb dX9_judge_7 rfl (lv_at hl 2 rfl) ?_
    refine lv_if_lt (tgt := 16) hx hb dX9_judge_8 (by decide) (fun c_10 => ?_) (fun c_10 => ?_)
    · refine lv_bipush (v := (-2)) hx hb dX9_judge_16 (by decide) ?_
      exact fiI hx hb hr hlk hK hP hD hS dX9_judge_18 (Nat.le_of_ble_eq_true rfl) (Nat.le_of_ble_eq_true rfl) (Or.inr (Or.inr (Or.inl ⟨c_5, c_6, c_10, rfl, rfl⟩)))
    · refine lv_iload_n hx hb dX9_judge_11 rfl (lv_at hl 2 rfl) ?_
      refine lv_iconst (v := 3) hx hb dX9_judge_12 (by decide) ?_
      refine lv_icmp_le (tgt := 19) hx hb dX9_judge_13 (by decide) (fun c_11 => ?_) (fun c_11 => ?_)
      · refine lv_aload_n hx hb dX9_judge_19 rfl (lv_at hl 0 rfl) ?_
        refine va_get (ci := 9) (v := .ref (y 30)) (C := RX9) (T := TX9) (N := 15) hx hb hg inX9 hown hK hP 0 rfl rfl 7 (by decide) (hg _ q_2_43) (fun _ h9 => h9) rfl dX9_judge_20 ?_
        refine lv_iload_n hx hb dX9_judge_23 rfl (lv_at hl 1 rfl) ?_
        have c_12 : p0 = 0 ∨ p0 = 1 ∨ p0 = 2 ∨ p0 = 3 := by simp only [tI_lt, tI_le, tI_eq, tL_lt, tL_le, tL_eq, tWx, (by decide : (0 : Int32).toInt = 0), (by decide : (1 : Int32).toInt = 1), (by decide : (2 : Int32).toInt = 2), (by decide : (3 : Int32).toInt = 3), (by decide : (4 : Int32).toInt = 4)] at c_5 c_6 ⊢; omega
        rcases c_12 with rfl | rfl | rfl | rfl
        · refine va_aldq hx hb hK hP 1 4 rfl rfl (vin (by decide +kernel)) dX9_judge_24 ?_
          refine W.eq (g2 := F0 m 25 ls (.ref (y 33) :: [])) rfl ?_
          refine lv_astore_n (lv' := [(3, .ref (y 33)), (0, .ref (y 0)), (1, .int 0), (2, .int p1)]) hx hb dX9_judge_25 rfl hl (by decide) rfl (fun ls hl => ?_)
          refine lv_aload_n hx hb dX9_judge_26 rfl (lv_at hl 0 rfl) ?_
          refine jnI (wr := [(y 0, .inr (9, [.ref (y 1), .int 0, .ref (y 2), .ref (y 10), .ref (y 19), .ref (y 25), .ref (y 26), .ref (y 30), .ref (y 31), .ref (y 32), .null, .null, .int 0, .int 0, .int 0])), (y 30, aT V 4 (va_up (va_up (va_up (va_up (fun _ => none) 0 (some (y 33))) 1 (some (y 35))) 2 (some (y 37))) 3 (some (y 39)))), (y 35, .inr (7, [.ref (y 36), .int (-1), .int 0])), (y 37, .inr (7, [.ref (y 38), .int (-1), .int 0])), (y 39, .inr (7, [.ref (y 40), .int (-1), .int 0]))]) (rnV (rest := []) ⟨hx, hb, hml, hown, hg⟩ (c_X7_isMissing_0 l V y) mt_X7_isMissing q_3_231 ⟨Nat.le_of_ble_eq_true rfl, Nat.le_of_ble_eq_true rfl⟩ hK hP hD hS hA hE [2] rfl rfl 2 rfl rfl rfl rfl hl.1 rfl (Nat.le_of_ble_eq_true rfl) dX9_judge_27 ⟨Nat.le_of_ble_eq_true rfl, Nat.le_of_ble_eq_true rfl⟩) hP hD hS hA [2] [0, 1, 3, 4, 5] rfl rfl rfl (by decide) (fun r_13 w H locs hw hP hD hS => ?_)
          obtain ⟨rfl, rfl⟩ := hw
          have hP : va_P V.1 vwCl [(y 0, .inr (9, [.ref (y 1), .int 0, .ref (y 2), .ref (y 10), .ref (y 19), .ref (y 25), .ref (y 26), .ref (y 30), .ref (y 31), .ref (y 32), .null, .null, .int 0, .int 0, .int 0])), (y 30, aT V 4 (va_up (va_up (va_up (va_up (fun _ => none) 0 (some (y 33))) 1 (some (y 35))) 2 (some (y 37))) 3 (some (y 39)))), (y 35, .inr (7, [.ref (y 36), .int (-1), .int 0])), (y 37, .inr (7, [.ref (y 38), .int (-1), .int 0])), (y 39, .inr (7, [.ref (y 40), .int (-1), .int 0])), (y 33, .inr (7, [.ref (y 34), .int (-1), .int 0]))] H := hP
          have hD : va_D A [(y 0, .inr (9, [.ref (y 1), .int 0, .ref (y 2), .ref (y 10), .ref (y 19), .ref (y 25), .ref (y 26), .ref (y 30), .ref (y 31), .ref (y 32), .null, .null, .int 0, .int 0, .int 0])), (y 30, aT V 4 (va_up (va_up (va_up (va_up (fun _ => none) 0 (some (y 33))) 1 (some (y 35))) 2 (some (y 37))) 3 (some (y 39)))), (y 35, .inr (7, [.ref (y 36), .int (-1), .int 0])), (y 37, .inr (7, [.ref (y 38), .int (-1), .int 0])), (y 39, .inr (7, [.ref (y 40), .int (-1), .int 0])), (y 33, .inr (7, [.ref (y 34), .int (-1), .int 0]))] := hD
          refine lv_if_eq (tgt := 36) hx hb dX9_judge_30 (by decide) (fun c_14 => absurd c_14 (by decide)) (fun _ => ?_)
          refine lv_bipush (v := (-6)) hx hb dX9_judge_33 (by decide) ?_
          have hP := subP (ws' := [(y 0, .inr (9, [.ref (y 1), .int 0, .ref (y 2), .ref (y 10), .ref (y 19), .ref (y 25), .ref (y 26), .ref (y 30), .ref (y 31), .ref (y 32), .null, .null, .int 0, .int 0, .int 0])), (y 30, aT V 4 (va_up (va_up (va_up (va_up (fun _ => none) 0 (some (y 33))) 1 (some (y 35))) 2 (some (y 37))) 3 (some (y 39)))), (y 33, .inr (7, [.ref (y 34), .int (-1), .int 0])), (y 35, .inr (7, [.ref (y 36), .int (-1), .int 0])), (y 37, .inr (7, [.ref (y 38), .int (-1), .int 0])), (y 39, .inr (7, [.ref (y 40), .int (-1), .int 0]))]) hP [0, 1, 5, 2, 3, 4] rfl
          have hD := hD.sub (ws' := [(y 0, .inr (9, [.ref (y 1), .int 0, .ref (y 2), .ref (y 10), .ref (y 19), .ref (y 25), .ref (y 26), .ref (y 30), .ref (y 31), .ref (y 32), .null, .null, .int 0, .int 0, .int 0])), (y 30, aT V 4 (va_up (va_up (va_up (va_up (fun _ => none) 0 (some (y 33))) 1 (some (y 35))) 2 (some (y 37))) 3 (some (y 39)))), (y 33, .inr (7, [.ref (y 34), .int (-1), .int 0])), (y 35, .inr (7, [.ref (y 36), .int (-1), .int 0])), (y 37, .inr (7, [.ref (y 38), .int (-1), .int 0])), (y 39, .inr (7, [.ref (y 40), .int (-1), .int 0]))]) [0, 1, 5, 2, 3, 4] rfl rfl
          exact fiI hx hb hr hlk hK hP hD hS dX9_judge_35 (Nat.le_of_ble_eq_true rfl) (Nat.le_of_ble_eq_true rfl) (Or.inr (Or.inr (Or.inr (Or.inr (Or.inl ⟨c_5, c_6, c_10, c_11, rfl, rfl, rfl⟩)))))
        · refine va_aldq hx hb hK hP 1 4 rfl rfl (vin (by decide +kernel)) dX9_judge_24 ?_
          refine W.eq (g2 := F0 m 25 ls (.ref (y 35) :: [])) rfl ?_
          refine lv_astore_n (lv' := [(3, .ref (y 35)), (0, .ref (y 0)), (1, .int 1), (2, .int p1)]) hx hb dX9_judge_25 rfl hl (by decide) rfl (fun ls hl => ?_)
          refine lv_aload_n hx hb dX9_judge_26 rfl (lv_at hl 0 rfl) ?_
          refine jnI (wr := [(y 0, .inr (9, [.ref (y 1), .int 0, .ref (y 2), .ref (y 10), .ref (y 19), .ref (y 25), .ref (y 26), .ref (y 30), .ref (y 31), .ref (y 32), .null, .null, .int 0, .int 0, .int 0])), (y 30, aT V 4 (va_up (va_up (va_up (va_up (fun _ => none) 0 (some (y 33))) 1 (some (y 35))) 2 (some (y 37))) 3 (some (y 39)))), (y 33, .inr (7, [.ref (y 34), .int (-1), .int 0])), (y 37, .inr (7, [.ref (y 38), .int (-1), .int 0])), (y 39, .inr (7, [.ref (y 40), .int (-1), .int 0]))]) (rnV (rest := []) ⟨hx, hb, hml, hown, hg⟩ (c_X7_isMissing_1 l V y) mt_X7_isMissing q_3_231 ⟨Nat.le_of_ble_eq_true rfl, Nat.le_of_ble_eq_true rfl⟩ hK hP hD hS hA hE [3] rfl rfl 3 rfl rfl rfl rfl hl.1 rfl (Nat.le_of_ble_eq_true rfl) dX9_judge_27 ⟨Nat.le_of_ble_eq_true rfl, Nat.le_of_ble_eq_true rfl⟩) hP hD hS hA [3] [0, 1, 2, 4, 5] rfl rfl rfl (by decide) (fun r_15 w H locs hw hP hD hS => ?_)
          obtain ⟨rfl, rfl⟩ := hw
          have hP : va_P V.1 vwCl [(y 0, .inr (9, [.ref (y 1), .int 0, .ref (y 2), .ref (y 10), .ref (y 19), .ref (y 25), .ref (y 26), .ref (y 30), .ref (y 31), .ref (y 32), .null, .null, .int 0, .int 0, .int 0])), (y 30, aT V 4 (va_up (va_up (va_up (va_up (fun _ => none) 0 (some (y 33))) 1 (some (y 35))) 2 (some (y 37))) 3 (some (y 39)))), (y 33, .inr (7, [.ref (y 34), .int (-1), .int 0])), (y 37, .inr (7, [.ref (y 38), .int (-1), .int 0])), (y 39, .inr (7, [.ref (y 40), .int (-1), .int 0])), (y 35, .inr (7, [.ref (y 36), .int (-1), .int 0]))] H := hP
          have hD : va_D A [(y 0, .inr (9, [.ref (y 1), .int 0, .ref (y 2), .ref (y 10), .ref (y 19), .ref (y 25), .ref (y 26), .ref (y 30), .ref (y 31), .ref (y 32), .null, .null, .int 0, .int 0, .int 0])), (y 30, aT V 4 (va_up (va_up (va_up (va_up (fun _ => none) 0 (some (y 33))) 1 (some (y 35))) 2 (some (y 37))) 3 (some (y 39)))), (y 33, .inr (7, [.ref (y 34), .int (-1), .int 0])), (y 37, .inr (7, [.ref (y 38), .int (-1), .int 0])), (y 39, .inr (7, [.ref (y 40), .int (-1), .int 0])), (y 35, .inr (7, [.ref (y 36), .int (-1), .int 0]))] := hD
          refine lv_if_eq (tgt := 36) hx hb dX9_judge_30 (by decide) (fun c_16 => absurd c_16 (by decide)) (fun _ => ?_)
          refine lv_bipush (v := (-6)) hx hb dX9_judge_33 (by decide) ?_
          have hP := subP (ws' := [(y 0, .inr (9, [.ref (y 1), .int 0, .ref (y 2), .ref (y 10), .ref (y 19), .ref (y 25), .ref (y 26), .ref (y 30), .ref (y 31), .ref (y 32), .null, .null, .int 0, .int 0, .int 0])), (y 30, aT V 4 (va_up (va_up (va_up (va_up (fun _ => none) 0 (some (y 33))) 1 (some (y 35))) 2 (some (y 37))) 3 (some (y 39)))), (y 33, .inr (7, [.ref (y 34), .int (-1), .int 0])), (y 35, .inr (7, [.ref (y 36), .int (-1), .int 0])), (y 37, .inr (7, [.ref (y 38), .int (-1), .int 0])), (y 39, .inr (7, [.ref (y 40), .int (-1), .int 0]))]) hP [0, 1, 2, 5, 3, 4] rfl
          have hD := hD.sub (ws' := [(y 0, .inr (9, [.ref (y 1), .int 0, .ref (y 2), .ref (y 10), .ref (y 19), .ref (y 25), .ref (y 26), .ref (y 30), .ref (y 31), .ref (y 32), .null, .null, .int 0, .int 0, .int 0])), (y 30, aT V 4 (va_up (va_up (va_up (va_up (fun _ => none) 0 (some (y 33))) 1 (some (y 35))) 2 (some (y 37))) 3 (some (y 39)))), (y 33, .inr (7, [.ref (y 34), .int (-1), .int 0])), (y 35, .inr (7, [.ref (y 36), .int (-1), .int 0])), (y 37, .inr (7, [.ref (y 38), .int (-1), .int 0])), (y 39, .inr (7, [.ref (y 40), .int (-1), .int 0]))]) [0, 1, 2, 5, 3, 4] rfl rfl
          exact fiI hx hb hr hlk hK hP hD hS dX9_judge_35 (Nat.le_of_ble_eq_true rfl) (Nat.le_of_ble_eq_true rfl) (Or.inr (Or.inr (Or.inr (Or.inr (Or.inr (Or.inl ⟨c_5, c_6, c_10, c_11, rfl, rfl, rfl⟩))))))
        · refine va_aldq hx hb hK hP 1 4 rfl rfl (vin (by decide +kernel)) dX9_judge_24 ?_
          refine W.eq (g2 := F0 m 25 ls (.ref (y 37) :: [])) rfl ?_
          refine lv_astore_n (lv' := [(3, .ref (y 37)), (0, .ref (y 0)), (1, .int 2), (2, .int p1)]) hx hb dX9_judge_25 rfl hl (by decide) rfl (fun ls hl => ?_)
          refine lv_aload_n hx hb dX9_judge_26 rfl (lv_at hl 0 rfl) ?_
          refine jnI (wr := [(y 0, .inr (9, [.ref (y 1), .int 0, .ref (y 2), .ref (y 10), .ref (y 19), .ref (y 25), .ref (y 26), .ref (y 30), .ref (y 31), .ref (y 32), .null, .null, .int 0, .int 0, .int 0])), (y 30, aT V 4 (va_up (va_up (va_up (va_up (fun _ => none) 0 (some (y 33))) 1 (some (y 35))) 2 (some (y 37))) 3 (some (y 39)))), (y 33, .inr (7, [.ref (y 34), .int (-1), .int 0])), (y 35, .inr (7, [.ref (y 36), .int (-1), .int 0])), (y 39, .inr (7, [.ref (y 40), .int (-1), .int 0]))]) (rnV (rest := []) ⟨hx, hb, hml, hown, hg⟩ (c_X7_isMissing_2 l V y) mt_X7_isMissing q_3_231 ⟨Nat.le_of_ble_eq_true rfl, Nat.le_of_ble_eq_true rfl⟩ hK hP hD hS hA hE [4] rfl rfl 4 rfl rfl rfl rfl hl.1 rfl (Nat.le_of_ble_eq_true rfl) dX9_judge_27 ⟨Nat.le_of_ble_eq_true rfl, Nat.le_of_ble_eq_true rfl⟩) hP hD hS hA [4] [0, 1, 2, 3, 5] rfl rfl rfl (by decide) (fun r_17 w H locs hw hP hD hS => ?_)
          obtain ⟨rfl, rfl⟩ := hw
          have hP : va_P V.1 vwCl [(y 0, .inr (9, [.ref (y 1), .int 0, .ref (y 2), .ref (y 10), .ref (y 19), .ref (y 25), .ref (y 26), .ref (y 30), .ref (y 31), .ref (y 32), .null, .null, .int 0, .int 0, .int 0])), (y 30, aT V 4 (va_up (va_up (va_up (va_up (fun _ => none) 0 (some (y 33))) 1 (some (y 35))) 2 (some (y 37))) 3 (some (y 39)))), (y 33, .inr (7, [.ref (y 34), .int (-1), .int 0])), (y 35, .inr (7, [.ref (y 36), .int (-1), .int 0])), (y 39, .inr (7, [.ref (y 40), .int (-1), .int 0])), (y 37, .inr (7, [.ref (y 38), .int (-1), .int 0]))] H := hP
          have hD : va_D A [(y 0, .inr (9, [.ref (y 1), .int 0, .ref (y 2), .ref (y 10), .ref (y 19), .ref (y 25), .ref (y 26), .ref (y 30), .ref (y 31), .ref (y 32), .null, .null, .int 0, .int 0, .int 0])), (y 30, aT V 4 (va_up (va_up (va_up (va_up (fun _ => none) 0 (some (y 33))) 1 (some (y 35))) 2 (some (y 37))) 3 (some (y 39)))), (y 33, .inr (7, [.ref (y 34), .int (-1), .int 0])), (y 35, .inr (7, [.ref (y 36), .int (-1), .int 0])), (y 39, .inr (7, [.ref (y 40), .int (-1), .int 0])), (y 37, .inr (7, [.ref (y 38), .int (-1), .int 0]))] := hD
          refine lv_if_eq (tgt := 36) hx hb dX9_judge_30 (by decide) (fun c_18 => absurd c_18 (by decide)) (fun _ => ?_)
          refine lv_bipush (v := (-6)) hx hb dX9_judge_33 (by decide) ?_
          have hP := subP (ws' := [(y 0, .inr (9, [.ref (y 1), .int 0, .ref (y 2), .ref (y 10), .ref (y 19), .ref (y 25), .ref (y 26), .ref (y 30), .ref (y 31), .ref (y 32), .null, .null, .int 0, .int 0, .int 0])), (y 30, aT V 4 (va_up (va_up (va_up (va_up (fun _ => none) 0 (some (y 33))) 1 (some (y 35))) 2 (some (y 37))) 3 (some (y 39)))), (y 33, .inr (7, [.ref (y 34), .int (-1), .int 0])), (y 35, .inr (7, [.ref (y 36), .int (-1), .int 0])), (y 37, .inr (7, [.ref (y 38), .int (-1), .int 0])), (y 39, .inr (7, [.ref (y 40), .int (-1), .int 0]))]) hP [0, 1, 2, 3, 5, 4] rfl
          have hD := hD.sub (ws' := [(y 0, .inr (9, [.ref (y 1), .int 0, .ref (y 2), .ref (y 10), .ref (y 19), .ref (y 25), .ref (y 26), .ref (y 30), .ref (y 31), .ref (y 32), .null, .null, .int 0, .int 0, .int 0])), (y 30, aT V 4 (va_up (va_up (va_up (va_up (fun _ => none) 0 (some (y 33))) 1 (some (y 35))) 2 (some (y 37))) 3 (some (y 39)))), (y 33, .inr (7, [.ref (y 34), .int (-1), .int 0])), (y 35, .inr (7, [.ref (y 36), .int (-1), .int 0])), (y 37, .inr (7, [.ref (y 38), .int (-1), .int 0])), (y 39, .inr (7, [.ref (y 40), .int (-1), .int 0]))]) [0, 1, 2, 3, 5, 4] rfl rfl
          exact fiI hx hb hr hlk hK hP hD hS dX9_judge_35 (Nat.le_of_ble_eq_true rfl) (Nat.le_of_ble_eq_true rfl) (Or.inr (Or.inr (Or.inr (Or.inr (Or.inr (Or.inr (Or.inl ⟨c_5, c_6, c_10, c_11, rfl, rfl, rfl⟩)))))))
        · refine va_aldq hx hb hK hP 1 4 rfl rfl (vin (by decide +kernel)) dX9_judge_24 ?_
          refine W.eq (g2 := F0 m 25 ls (.ref (y 39) :: [])) rfl ?_
          refine lv_astore_n (lv' := [(3, .ref (y 39)), (0, .ref (y 0)), (1, .int 3), (2, .int p1)]) hx hb dX9_judge_25 rfl hl (by decide) rfl (fun ls hl => ?_)
          refine lv_aload_n hx hb dX9_judge_26 rfl (lv_at hl 0 rfl) ?_
          refine jnI (wr := [(y 0, .inr (9, [.ref (y 1), .int 0, .ref (y 2), .ref (y 10), .ref (y 19), .ref (y 25), .ref (y 26), .ref (y 30), .ref (y 31), .ref (y 32), .null, .null, .int 0, .int 0, .int 0])), (y 30, aT V 4 (va_up (va_up (va_up (va_up (fun _ => none) 0 (some (y 33))) 1 (some (y 35))) 2 (some (y 37))) 3 (some (y 39)))), (y 33, .inr (7, [.ref (y 34), .int (-1), .int 0])), (y 35, .inr (7, [.ref (y 36), .int (-1), .int 0])), (y 37, .inr (7, [.ref (y 38), .int (-1), .int 0]))]) (rnV (rest := []) ⟨hx, hb, hml, hown, hg⟩ (c_X7_isMissing_3 l V y) mt_X7_isMissing q_3_231 ⟨Nat.le_of_ble_eq_true rfl, Nat.le_of_ble_eq_true rfl⟩ hK hP hD hS hA hE [5] rfl rfl 5 rfl rfl rfl rfl hl.1 rfl (Nat.le_of_ble_eq_true rfl) dX9_judge_27 ⟨Nat.le_of_ble_eq_true rfl, Nat.le_of_ble_eq_true rfl⟩) hP hD hS hA [5] [0, 1, 2, 3, 4] rfl rfl rfl (by decide) (fun r_19 w H locs hw hP hD hS => ?_)
          obtain ⟨rfl, rfl⟩ := hw
          have hP : va_P V.1 vwCl [(y 0, .inr (9, [.ref (y 1), .int 0, .ref (y 2), .ref (y 10), .ref (y 19), .ref (y 25), .ref (y 26), .ref (y 30), .ref (y 31), .ref (y 32), .null, .null, .int 0, .int 0, .int 0])), (y 30, aT V 4 (va_up (va_up (va_up (va_up (fun _ => none) 0 (some (y 33))) 1 (some (y 35))) 2 (some (y 37))) 3 (some (y 39)))), (y 33, .inr (7, [.ref (y 34), .int (-1), .int 0])), (y 35, .inr (7, [.ref (y 36), .int (-1), .int 0])), (y 37, .inr (7, [.ref (y 38), .int (-1), .int 0])), (y 39, .inr (7, [.ref (y 40), .int (-1), .int 0]))] H := hP
          have hD : va_D A [(y 0, .inr (9, [.ref (y 1), .int 0, .ref (y 2), .ref (y 10), .ref (y 19), .ref (y 25), .ref (y 26), .ref (y 30), .ref (y 31), .ref (y 32), .null, .null, .int 0, .int 0, .int 0])), (y 30, aT V 4 (va_up (va_up (va_up (va_up (fun _ => none) 0 (some (y 33))) 1 (some (y 35))) 2 (some (y 37))) 3 (some (y 39)))), (y 33, .inr (7, [.ref (y 34), .int (-1), .int 0])), (y 35, .inr (7, [.ref (y 36), .int (-1), .int 0])), (y 37, .inr (7, [.ref (y 38), .int (-1), .int 0])), (y 39, .inr (7, [.ref (y 40), .int (-1), .int 0]))] := hD
          refine lv_if_eq (tgt := 36) hx hb dX9_judge_30 (by decide) (fun c_20 => absurd c_20 (by decide)) (fun _ => ?_)
          refine lv_bipush (v := (-6)) hx hb dX9_judge_33 (by decide) ?_
          exact fiI hx hb hr hlk hK hP hD hS dX9_judge_35 (Nat.le_of_ble_eq_true rfl) (Nat.le_of_ble_eq_true rfl) (Or.inr (Or.inr (Or.inr (Or.inr (Or.inr (Or.inr (Or.inr (⟨c_5, c_6, c_10, c_11, rfl, rfl, rfl⟩))))))))
      · refine lv_bipush (v := (-2)) hx hb dX9_judge_16 (by decide) ?_
        exact fiI hx hb hr hlk hK hP hD hS dX9_judge_18 (Nat.le_of_ble_eq_true rfl) (Nat.le_of_ble_eq_true rfl) (Or.inr (Or.inr (Or.inr (Or.inl ⟨c_5, c_6, c_10, c_11, rfl, rfl⟩))))
theorem dX10_perform_0 : decode cX10_perform 0 = .ok (.aload_n 0, 1) := by decide +kernel
theorem dX10_perform_1 : decode cX10_perform 1 = .ok (.iconst 0, 1) := by decide +kernel
theorem dX10_perform_2 : decode cX10_perform 2 = .ok (.putfield 1, 3) := by decide +kernel
theorem dX10_perform_5 : decode cX10_perform 5 = .ok (.aload_n 0, 1) := by decide +kernel
theorem dX10_perform_6 : decode cX10_perform 6 = .ok (.iload_n 1, 1) := by decide +kernel
theorem dX10_perform_7 : decode cX10_perform 7 = .ok (.invokevirtual 317, 3) := by decide +kernel
theorem dX10_perform_10 : decode cX10_perform 10 = .ok (.istore_n 2, 1) := by decide +kernel
theorem dX10_perform_11 : decode cX10_perform 11 = .ok (.iload_n 2, 1) := by decide +kernel
theorem dX10_perform_12 : decode cX10_perform 12 = .ok (.ifCond .eq 5, 3) := by decide +kernel
theorem dX10_perform_15 : decode cX10_perform 15 = .ok (.iload_n 2, 1) := by decide +kernel
theorem dX10_perform_16 : decode cX10_perform 16 = .ok (.ireturn, 1) := by decide +kernel
set_option maxHeartbeats 4000000 in
set_option maxRecDepth 100000 in
theorem c_X10_perform_0 (l : Launch) (V : GV) (z : Nat → Nat) (p0 : Int32) : Ct l V yX10_perform (.code yX10_perform cX10_perform 4 (some .int)) 3 [.ref (z 0), .int p0] [(z 0, .inr (10, mo z 0 0 0 0 0 0 0 0 0 0 (-1) 0 0 0 0 0)), (z 37, aI V 4 (upd (upd (upd (upd (fun _ => 0) 0 (-1)) 1 (-1)) 2 (-1)) 3 (-1)))] 0 0 (QI V (fun (r : Int32) (w : va_W) => (p0.toInt64 < 0 ∧ r = (-2) ∧ w = [(z 0, .inr (10, mo z 0 0 0 0 0 0 0 0 0 0 (-1) 0 0 0 0 0)), (z 37, aI V 4 (upd (upd (upd (upd (fun _ => 0) 0 (-1)) 1 (-1)) 2 (-1)) 3 (-1)))]) ∨ ((¬ p0.toInt64 < 0) ∧ 3 < p0.toInt64 ∧ r = (-2) ∧ w = [(z 0, .inr (10, mo z 0 0 0 0 0 0 0 0 0 0 (-1) 0 0 0 0 0)), (z 37, aI V 4 (upd (upd (upd (upd (fun _ => 0) 0 (-1)) 1 (-1)) 2 (-1)) 3 (-1)))]) ∨ ((¬ p0.toInt64 < 0) ∧ (¬ 3 < p0.toInt64) ∧ p0 = 0 ∧ r = (-6) ∧ w = [(z 0, .inr (10, mo z 0 0 0 0 0 0 0 0 0 0 (-1) 0 0 0 0 0)), (z 37, aI V 4 (upd (upd (upd (upd (fun _ => 0) 0 (-1)) 1 (-1)) 2 (-1)) 3 (-1)))]) ∨ ((¬ p0.toInt64 < 0) ∧ (¬ 3 < p0.toInt64) ∧ p0 = 1 ∧ r = (-6) ∧ w = [(z 0, .inr (10, mo z 0 0 0 0 0 0 0 0 0 0 (-1) 0 0 0 0 0)), (z 37, aI V 4 (upd (upd (upd (upd (fun _ => 0) 0 (-1)) 1 (-1)) 2 (-1)) 3 (-1)))]) ∨ ((¬ p0.toInt64 < 0) ∧ (¬ 3 < p0.toInt64) ∧ p0 = 2 ∧ r = (-6) ∧ w = [(z 0, .inr (10, mo z 0 0 0 0 0 0 0 0 0 0 (-1) 0 0 0 0 0)), (z 37, aI V 4 (upd (upd (upd (upd (fun _ => 0) 0 (-1)) 1 (-1)) 2 (-1)) 3 (-1)))]) ∨ ((¬ p0.toInt64 < 0) ∧ (¬ 3 < p0.toInt64) ∧ p0 = 3 ∧ r = (-6) ∧ w = [(z 0, .inr (10, mo z 0 0 0 0 0 0 0 0 0 0 (-1) 0 0 0 0 0)), (z 37, aI V 4 (upd (upd (upd (upd (fun _ => 0) 0 (-1)) 1 (-1)) 2 (-1)) 3 (-1)))]))) := by
  refine Ct.of (by decide) (Nat.le_of_ble_eq_true rfl) (fun p e s m below meth c A ls hx hb hr hml hown hlk hnm hg hP hK hD hE hA hS hl => ?_)
  have hl : lv_has ls 4 [(0, .ref (z 0)), (1, .int p0)] := hl
  refine lv_aload_n hx hb dX10_perform_0 rfl (lv_at hl 0 rfl) ?_
  refine lv_iconst (v := 0) hx hb dX10_perform_1 (by decide) ?_
  refine va_put (ci := 10) (v := .int 0) (ty := .int) (C := RX10) (T := TX10) (N := 40) hx hb hg inX10 tyX10 tyX10_ok nmX10 hown hK hP hD hS 0 rfl rfl 0 (by decide) (hg _ q_5_224) (fun _ h9 => h9) rfl (by decide +kernel) rfl rfl (Nat.le_of_ble_eq_true rfl) dX10_perform_2 (fun H locs hP hD hS => ?_)
  have hP : va_P V.1 vwCl [(z 0, .inr (10, mo z 0 0 0 0 0 0 0 0 0 0 (-1) 0 0 0 0 0)), (z 37, aI V 4 (upd (upd (upd (upd (fun _ => 0) 0 (-1)) 1 (-1)) 2 (-1)) 3 (-1)))] H := hP
  have hD : va_D A [(z 0, .inr (10, mo z 0 0 0 0 0 0 0 0 0 0 (-1) 0 0 0 0 0)), (z 37, aI V 4 (upd (upd (upd (upd (fun _ => 0) 0 (-1)) 1 (-1)) 2 (-1)) 3 (-1)))] := hD
  refine lv_aload_n hx hb dX10_perform_5 rfl (lv_at hl 0 rfl) ?_
  refine lv_iload_n hx hb dX10_perform_6 rfl (lv_at hl 1 rfl) ?_
  refine jnI (wr := []) (rnV (rest := []) ⟨hx, hb, hml, hown, hg⟩ (c_X10_noTray_0 l V z p0) mt_X10_noTray q_7_108 ⟨Nat.le_of_ble_eq_true rfl, Nat.le_of_ble_eq_true rfl⟩ hK hP hD hS hA hE [0, 1] rfl rfl 0 rfl rfl rfl rfl hl.1 rfl (Nat.le_of_ble_eq_true rfl) dX10_perform_7 ⟨Nat.le_of_ble_eq_true rfl, Nat.le_of_ble_eq_true rfl⟩) hP hD hS hA [0, 1] [] rfl rfl rfl (by decide) (fun r_1 w H locs hw hP hD hS => ?_)
  rcases hw with ⟨c_2, rfl, rfl⟩ | ⟨c_3, c_4, rfl, rfl⟩ | ⟨c_5, c_6, c_7, rfl, rfl⟩ | ⟨c_8, c_9, c_10, rfl, rfl⟩ | ⟨c_11, c_12, c_13, rfl, rfl⟩ | ⟨c_14, c_15, c_16, rfl, rfl⟩
  · have hP : va_P V.1 vwCl [(z 0, .inr (10, mo z 0 0 0 0 0 0 0 0 0 0 (-1) 0 0 0 0 0)), (z 37, aI V 4 (upd (upd (upd (upd (fun _ => 0) 0 (-1)) 1 (-1)) 2 (-1)) 3 (-1)))] H := hP
    have hD : va_D A [(z 0, .inr (10, mo z 0 0 0 0 0 0 0 0 0 0 (-1) 0 0 0 0 0)), (z 37, aI V 4 (upd (upd (upd (upd (fun _ => 0) 0 (-1)) 1 (-1)) 2 (-1)) 3 (-1)))] := hD
    refine lv_istore_n (lv' := [(2, .int (-2)), (0, .ref (z 0)), (1, .int p0)]) hx hb dX10_perform_10 rfl hl (by decide) rfl (fun ls hl => ?_)
    refine lv_iload_n hx hb dX10_perform_11 rfl (lv_at hl 0 rfl) ?_
    refine lv_if_eq (tgt := 17) hx hb dX10_perform_12 (by decide) (fun c_17 => absurd c_17 (by decide)) (fun _ => ?_)
    refine lv_iload_n hx hb dX10_perform_15 rfl (lv_at hl 0 rfl) ?_
    exact fiI hx hb hr hlk hK hP hD hS dX10_perform_16 (Nat.le_of_ble_eq_true rfl) (Nat.le_of_ble_eq_true rfl) (Or.inl ⟨c_2, rfl, rfl⟩)
  · have hP : va_P V.1 vwCl [(z 0, .inr (10, mo z 0 0 0 0 0 0 0 0 0 0 (-1) 0 0 0 0 0)), (z 37, aI V 4 (upd (upd (upd (upd (fun _ => 0) 0 (-1)) 1 (-1)) 2 (-1)) 3 (-1)))] H := hP
    have hD : va_D A [(z 0, .inr (10, mo z 0 0 0 0 0 0 0 0 0 0 (-1) 0 0 0 0 0)), (z 37, aI V 4 (upd (upd (upd (upd (fun _ => 0) 0 (-1)) 1 (-1)) 2 (-1)) 3 (-1)))] := hD
    refine lv_istore_n (lv' := [(2, .int (-2)), (0, .ref (z 0)), (1, .int p0)]) hx hb dX10_perform_10 rfl hl (by decide) rfl (fun ls hl => ?_)
    refine lv_iload_n hx hb dX10_perform_11 rfl (lv_at hl 0 rfl) ?_
    refine lv_if_eq (tgt := 17) hx hb dX10_perform_12 (by decide) (fun c_18 => absurd c_18 (by decide)) (fun _ => ?_)
    refine lv_iload_n hx hb dX10_perform_15 rfl (lv_at hl 0 rfl) ?_
    exact fiI hx hb hr hlk hK hP hD hS dX10_perform_16 (Nat.le_of_ble_eq_true rfl) (Nat.le_of_ble_eq_true rfl) (Or.inr (Or.inl ⟨c_3, c_4, rfl, rfl⟩))
  · have hP : va_P V.1 vwCl [(z 0, .inr (10, mo z 0 0 0 0 0 0 0 0 0 0 (-1) 0 0 0 0 0)), (z 37, aI V 4 (upd (upd (upd (upd (fun _ => 0) 0 (-1)) 1 (-1)) 2 (-1)) 3 (-1)))] H := hP
    have hD : va_D A [(z 0, .inr (10, mo z 0 0 0 0 0 0 0 0 0 0 (-1) 0 0 0 0 0)), (z 37, aI V 4 (upd (upd (upd (upd (fun _ => 0) 0 (-1)) 1 (-1)) 2 (-1)) 3 (-1)))] := hD
    refine lv_istore_n (lv' := [(2, .int (-6)), (0, .ref (z 0)), (1, .int p0)]) hx hb dX10_perform_10 rfl hl (by decide) rfl (fun ls hl => ?_)
    refine lv_iload_n hx hb dX10_perform_11 rfl (lv_at hl 0 rfl) ?_
    refine lv_if_eq (tgt := 17) hx hb dX10_perform_12 (by decide) (fun c_19 => absurd c_19 (by decide)) (fun _ => ?_)
    refine lv_iload_n hx hb dX10_perform_15 rfl (lv_at hl 0 rfl) ?_
    exact fiI hx hb hr hlk hK hP hD hS dX10_perform_16 (Nat.le_of_ble_eq_true rfl) (Nat.le_of_ble_eq_true rfl) (Or.inr (Or.inr (Or.inl ⟨c_5, c_6, c_7, rfl, rfl⟩)))
  · have hP : va_P V.1 vwCl [(z 0, .inr (10, mo z 0 0 0 0 0 0 0 0 0 0 (-1) 0 0 0 0 0)), (z 37, aI V 4 (upd (upd (upd (upd (fun _ => 0) 0 (-1)) 1 (-1)) 2 (-1)) 3 (-1)))] H := hP
    have hD : va_D A [(z 0, .inr (10, mo z 0 0 0 0 0 0 0 0 0 0 (-1) 0 0 0 0 0)), (z 37, aI V 4 (upd (upd (upd (upd (fun _ => 0) 0 (-1)) 1 (-1)) 2 (-1)) 3 (-1)))] := hD
    refine lv_istore_n (lv' := [(2, .int (-6)), (0, .ref (z 0)), (1, .int p0)]) hx hb dX10_perform_10 rfl hl (by decide) rfl (fun ls hl => ?_)
    refine lv_iload_n hx hb dX10_perform_11 rfl (lv_at hl 0 rfl) ?_
    refine lv_if_eq (tgt := 17) hx hb dX10_perform_12 (by decide) (fun c_20 => absurd c_20 (by decide)) (fun _ => ?_)
    refine lv_iload_n hx hb dX10_perform_15 rfl (lv_at hl 0 rfl) ?_
    exact fiI hx hb hr hlk hK hP hD hS dX10_perform_16 (Nat.le_of_ble_eq_true rfl) (Nat.le_of_ble_eq_true rfl) (Or.inr (Or.inr (Or.inr (Or.inl ⟨c_8, c_9, c_10, rfl, rfl⟩))))
  · have hP : va_P V.1 vwCl [(z 0, .inr (10, mo z 0 0 0 0 0 0 0 0 0 0 (-1) 0 0 0 0 0)), (z 37, aI V 4 (upd (upd (upd (upd (fun _ => 0) 0 (-1)) 1 (-1)) 2 (-1)) 3 (-1)))] H := hP
    have hD : va_D A [(z 0, .inr (10, mo z 0 0 0 0 0 0 0 0 0 0 (-1) 0 0 0 0 0)), (z 37, aI V 4 (upd (upd (upd (upd (fun _ => 0) 0 (-1)) 1 (-1)) 2 (-1)) 3 (-1)))] := hD
    refine lv_istore_n (lv' := [(2, .int (-6)), (0, .ref (z 0)), (1, .int p0)]) hx hb dX10_perform_10 rfl hl (by decide) rfl (fun ls hl => ?_)
    refine lv_iload_n hx hb dX10_perform_11 rfl (lv_at hl 0 rfl) ?_
    refine lv_if_eq (tgt := 17) hx hb dX10_perform_12 (by decide) (fun c_21 => absurd c_21 (by decide)) (fun _ => ?_)
    refine lv_iload_n hx hb dX10_perform_15 rfl (lv_at hl 0 rfl) ?_
    exact fiI hx hb hr hlk hK hP hD hS dX10_perform_16 (Nat.le_of_ble_eq_true rfl) (Nat.le_of_ble_eq_true rfl) (Or.inr (Or.inr (Or.inr (Or.inr (Or.inl ⟨c_11, c_12, c_13, rfl, rfl⟩)))))
  · have hP : va_P V.1 vwCl [(z 0, .inr (10, mo z 0 0 0 0 0 0 0 0 0 0 (-1) 0 0 0 0 0)), (z 37, aI V 4 (upd (upd (upd (upd (fun _ => 0) 0 (-1)) 1 (-1)) 2 (-1)) 3 (-1)))] H := hP
    have hD : va_D A [(z 0, .inr (10, mo z 0 0 0 0 0 0 0 0 0 0 (-1) 0 0 0 0 0)), (z 37, aI V 4 (upd (upd (upd (upd (fun _ => 0) 0 (-1)) 1 (-1)) 2 (-1)) 3 (-1)))] := hD
    refine lv_istore_n (lv' := [(2, .int (-6)), (0, .ref (z 0)), (1, .int p0)]) hx hb dX10_perform_10 rfl hl (by decide) rfl (fun ls hl => ?_)
    refine lv_iload_n hx hb dX10_perform_11 rfl (lv_at hl 0 rfl) ?_
    refine lv_if_eq (tgt := 17) hx hb dX10_perform_12 (by decide) (fun c_22 => absurd c_22 (by decide)) (fun _ => ?_)
    refine lv_iload_n hx hb dX10_perform_15 rfl (lv_at hl 0 rfl) ?_
    exact fiI hx hb hr hlk hK hP hD hS dX10_perform_16 (Nat.le_of_ble_eq_true rfl) (Nat.le_of_ble_eq_true rfl) (Or.inr (Or.inr (Or.inr (Or.inr (Or.inr (⟨c_14, c_15, c_16, rfl, rfl⟩))))))
theorem dX9_perform_0 : decode cX9_perform 0 = .ok (.iload_n 1, 1) := by decide +kernel
theorem dX9_perform_1 : decode cX9_perform 1 = .ok (.invokestatic 205, 3) := by decide +kernel
theorem dX9_perform_4 : decode cX9_perform 4 = .ok (.ifCond .ne 6, 3) := by decide +kernel
theorem dX9_perform_7 : decode cX9_perform 7 = .ok (.bipush (-2), 2) := by decide +kernel
theorem dX9_perform_9 : decode cX9_perform 9 = .ok (.ireturn, 1) := by decide +kernel
theorem dX9_perform_10 : decode cX9_perform 10 = .ok (.aload_n 0, 1) := by decide +kernel
theorem dX9_perform_11 : decode cX9_perform 11 = .ok (.getfield 54, 3) := by decide +kernel
theorem dX9_perform_14 : decode cX9_perform 14 = .ok (.iload_n 1, 1) := by decide +kernel
theorem dX9_perform_15 : decode cX9_perform 15 = .ok (.aaload, 1) := by decide +kernel
theorem dX9_perform_16 : decode cX9_perform 16 = .ok (.invokevirtual 208, 3) := by decide +kernel
theorem dX9_perform_19 : decode cX9_perform 19 = .ok (.ifCond .eq 6, 3) := by decide +kernel
theorem dX9_perform_22 : decode cX9_perform 22 = .ok (.bipush (-6), 2) := by decide +kernel
theorem dX9_perform_24 : decode cX9_perform 24 = .ok (.ireturn, 1) := by decide +kernel
set_option maxHeartbeats 4000000 in
set_option maxRecDepth 100000 in
theorem c_X9_perform_0 (l : Launch) (V : GV) (y : Nat → Nat) (p0 : Int32) : Ct l V yX9_perform (.code yX9_perform cX9_perform 6 (some .int)) 2 [.ref (y 0), .int p0] [(y 0, .inr (9, [.ref (y 1), .int 0, .ref (y 2), .ref (y 10), .ref (y 19), .ref (y 25), .ref (y 26), .ref (y 30), .ref (y 31), .ref (y 32), .null, .null, .int 0, .int 0, .int 0])), (y 30, aT V 4 (va_up (va_up (va_up (va_up (fun _ => none) 0 (some (y 33))) 1 (some (y 35))) 2 (some (y 37))) 3 (some (y 39)))), (y 33, .inr (7, [.ref (y 34), .int (-1), .int 0])), (y 35, .inr (7, [.ref (y 36), .int (-1), .int 0])), (y 37, .inr (7, [.ref (y 38), .int (-1), .int 0])), (y 39, .inr (7, [.ref (y 40), .int (-1), .int 0]))] 0 0 (QI V (fun (r : Int32) (w : va_W) => (p0 < 0 ∧ r = (-2) ∧ w = [(y 0, .inr (9, [.ref (y 1), .int 0, .ref (y 2), .ref (y 10), .ref (y 19), .ref (y 25), .ref (y 26), .ref (y 30), .ref (y 31), .ref (y 32), .null, .null, .int 0, .int 0, .int 0])), (y 30, aT V 4 (va_up (va_up (va_up (va_up (fun _ => none) 0 (some (y 33))) 1 (some (y 35))) 2 (some (y 37))) 3 (some (y 39)))), (y 33, .inr (7, [.ref (y 34), .int (-1), .int 0])), (y 35, .inr (7, [.ref (y 36), .int (-1), .int 0])), (y 37, .inr (7, [.ref (y 38), .int (-1), .int 0])), (y 39, .inr (7, [.ref (y 40), .int (-1), .int 0]))]) ∨ ((¬ p0 < 0) ∧ 4 ≤ p0 ∧ r = (-2) ∧ w = [(y 0, .inr (9, [.ref (y 1), .int 0, .ref (y 2), .ref (y 10), .ref (y 19), .ref (y 25), .ref (y 26), .ref (y 30), .ref (y 31), .ref (y 32), .null, .null, .int 0, .int 0, .int 0])), (y 30, aT V 4 (va_up (va_up (va_up (va_up (fun _ => none) 0 (some (y 33))) 1 (some (y 35))) 2 (some (y 37))) 3 (some (y 39)))), (y 33, .inr (7, [.ref (y 34), .int (-1), .int 0])), (y 35, .inr (7, [.ref (y 36), .int (-1), .int 0])), (y 37, .inr (7, [.ref (y 38), .int (-1), .int 0])), (y 39, .inr (7, [.ref (y 40), .int (-1), .int 0]))]) ∨ ((¬ p0 < 0) ∧ (¬ 4 ≤ p0) ∧ p0 = 0 ∧ r = (-6) ∧ w = [(y 0, .inr (9, [.ref (y 1), .int 0, .ref (y 2), .ref (y 10), .ref (y 19), .ref (y 25), .ref (y 26), .ref (y 30), .ref (y 31), .ref (y 32), .null, .null, .int 0, .int 0, .int 0])), (y 30, aT V 4 (va_up (va_up (va_up (va_up (fun _ => none) 0 (some (y 33))) 1 (some (y 35))) 2 (some (y 37))) 3 (some (y 39)))), (y 33, .inr (7, [.ref (y 34), .int (-1), .int 0])), (y 35, .inr (7, [.ref (y 36), .int (-1), .int 0])), (y 37, .inr (7, [.ref (y 38), .int (-1), .int 0])), (y 39, .inr (7, [.ref (y 40), .int (-1), .int 0]))]) ∨ ((¬ p0 < 0) ∧ (¬ 4 ≤ p0) ∧ p0 = 1 ∧ r = (-6) ∧ w = [(y 0, .inr (9, [.ref (y 1), .int 0, .ref (y 2), .ref (y 10), .ref (y 19), .ref (y 25), .ref (y 26), .ref (y 30), .ref (y 31), .ref (y 32), .null, .null, .int 0, .int 0, .int 0])), (y 30, aT V 4 (va_up (va_up (va_up (va_up (fun _ => none) 0 (some (y 33))) 1 (some (y 35))) 2 (some (y 37))) 3 (some (y 39)))), (y 33, .inr (7, [.ref (y 34), .int (-1), .int 0])), (y 35, .inr (7, [.ref (y 36), .int (-1), .int 0])), (y 37, .inr (7, [.ref (y 38), .int (-1), .int 0])), (y 39, .inr (7, [.ref (y 40), .int (-1), .int 0]))]) ∨ ((¬ p0 < 0) ∧ (¬ 4 ≤ p0) ∧ p0 = 2 ∧ r = (-6) ∧ w = [(y 0, .inr (9, [.ref (y 1), .int 0, .ref (y 2), .ref (y 10), .ref (y 19), .ref (y 25), .ref (y 26), .ref (y 30), .ref (y 31), .ref (y 32), .null, .null, .int 0, .int 0, .int 0])), (y 30, aT V 4 (va_up (va_up (va_up (va_up (fun _ => none) 0 (some (y 33))) 1 (some (y 35))) 2 (some (y 37))) 3 (some (y 39)))), (y 33, .inr (7, [.ref (y 34), .int (-1), .int 0])), (y 35, .inr (7, [.ref (y 36), .int (-1), .int 0])), (y 37, .inr (7, [.ref (y 38), .int (-1), .int 0])), (y 39, .inr (7, [.ref (y 40), .int (-1), .int 0]))]) ∨ ((¬ p0 < 0) ∧ (¬ 4 ≤ p0) ∧ p0 = 3 ∧ r = (-6) ∧ w = [(y 0, .inr (9, [.ref (y 1), .int 0, .ref (y 2), .ref (y 10), .ref (y 19), .ref (y 25), .ref (y 26), .ref (y 30), .ref (y 31), .ref (y 32), .null, .null, .int 0, .int 0, .int 0])), (y 30, aT V 4 (va_up (va_up (va_up (va_up (fun _ => none) 0 (some (y 33))) 1 (some (y 35))) 2 (some (y 37))) 3 (some (y 39)))), (y 33, .inr (7, [.ref (y 34), .int (-1), .int 0])), (y 35, .inr (7, [.ref (y 36), .int (-1), .int 0])), (y 37, .inr (7, [.ref (y 38), .int (-1), .int 0])), (y 39, .inr (7, [.ref (y 40), .int (-1), .int 0]))]))) := by
  refine Ct.of (by decide) (Nat.le_of_ble_eq_true rfl) (fun p e s m below meth c A ls hx hb hr hml hown hlk hnm hg hP hK hD hE hA hS hl => ?_)
  have hl : lv_has ls 6 [(0, .ref (y 0)), (1, .int p0)] := hl
  refine lv_iload_n hx hb dX9_perform_0 rfl (lv_at hl 1 rfl) ?_
  refine jnI (wr := [(y 0, .inr (9, [.ref (y 1), .int 0, .ref (y 2), .ref (y 10), .ref (y 19), .ref (y 25), .ref (y 26), .ref (y 30), .ref (y 31), .ref (y 32), .null, .null, .int 0, .int 0, .int 0])), (y 30, aT V 4 (va_up (va_up (va_up (va_up (fun _ => none) 0 (some (y 33))) 1 (some (y 35))) 2 (some (y 37))) 3 (some (y 39)))), (y 33, .inr (7, [.ref (y 34), .int (-1), .int 0])), (y 35, .inr (7, [.ref (y 36), .int (-1), .int 0])), (y 37, .inr (7, [.ref (y 38), .int (-1), .int 0])), (y 39, .inr (7, [.ref (y 40), .int (-1), .int 0]))]) (rnS (rest := []) ⟨hx, hb, hml, hown, hg⟩ (c_X9_isTray_0 l V p0) mt_X9_isTray q_3_228 ⟨Nat.le_of_ble_eq_true rfl, Nat.le_of_ble_eq_true rfl⟩ hK hP hD hS hA hE [] rfl rfl rfl hl.1 rfl (Nat.le_of_ble_eq_true rfl) dX9_perform_1 ⟨Nat.le_of_ble_eq_true rfl, Nat.le_of_ble_eq_true rfl⟩) hP hD hS hA [] [0, 1, 2, 3, 4, 5] rfl rfl rfl (by decide) (fun r_1 w H locs hw hP hD hS => ?_)
  rcases hw with ⟨c_2, rfl, rfl⟩ | ⟨c_3, c_4, rfl, rfl⟩ | ⟨c_5, c_6, rfl, rfl⟩
  · have hP : va_P V.1 vwCl [(y 0, .inr (9, [.ref (y 1), .int 0, .ref (y 2), .ref (y 10), .ref (y 19), .ref (y 25), .ref (y 26), .ref (y 30), .ref (y 31), .ref (y 32), .null, .null, .int 0, .int 0, .int 0])), (y 30, aT V 4 (va_up (va_up (va_up (va_up (fun _ => none) 0 (some (y 33))) 1 (some (y 35))) 2 (some (y 37))) 3 (some (y 39)))), (y 33, .inr (7, [.ref (y 34), .int (-1), .int 0])), (y 35, .inr (7, [.ref (y 36), .int (-1), .int 0])), (y 37, .inr (7, [.ref (y 38), .int (-1), .int 0])), (y 39, .inr (7, [.ref (y 40), .int (-1), .int 0]))] H := hP
    have hD : va_D A [(y 0, .inr (9, [.ref (y 1), .int 0, .ref (y 2), .ref (y 10), .ref (y 19), .ref (y 25), .ref (y 26), .ref (y 30), .ref (y 31), .ref (y 32), .null, .null, .int 0, .int 0, .int 0])), (y 30, aT V 4 (va_up (va_up (va_up (va_up (fun _ => none) 0 (some (y 33))) 1 (some (y 35))) 2 (some (y 37))) 3 (some (y 39)))), (y 33, .inr (7, [.ref (y 34), .int (-1), .int 0])), (y 35, .inr (7, [.ref (y 36), .int (-1), .int 0])), (y 37, .inr (7, [.ref (y 38), .int (-1), .int 0])), (y 39, .inr (7, [.ref (y 40), .int (-1), .int 0]))] := hD
    refine lv_if_ne (tgt := 10) hx hb dX9_perform_4 (by decide) (fun c_7 => absurd c_7 (by decide)) (fun _ => ?_)
    refine lv_bipush (v := (-2)) hx hb dX9_perform_7 (by decide) ?_
    exact fiI hx hb hr hlk hK hP hD hS dX9_perform_9 (Nat.le_of_ble_eq_true rfl) (Nat.le_of_ble_eq_true rfl) (Or.inl ⟨c_2, rfl, rfl⟩)
  · have hP : va_P V.1 vwCl [(y 0, .inr (9, [.ref (y 1), .int 0, .ref (y 2), .ref (y 10), .ref (y 19), .ref (y 25), .ref (y 26), .ref (y 30), .ref (y 31), .ref (y 32), .null, .null, .int 0, .int 0, .int 0])), (y 30, aT V 4 (va_up (va_up (va_up (va_up (fun _ => none) 0 (some (y 33))) 1 (some (y 35))) 2 (some (y 37))) 3 (some (y 39)))), (y 33, .inr (7, [.ref (y 34), .int (-1), .int 0])), (y 35, .inr (7, [.ref (y 36), .int (-1), .int 0])), (y 37, .inr (7, [.ref (y 38), .int (-1), .int 0])), (y 39, .inr (7, [.ref (y 40), .int (-1), .int 0]))] H := hP
    have hD : va_D A [(y 0, .inr (9, [.ref (y 1), .int 0, .ref (y 2), .ref (y 10), .ref (y 19), .ref (y 25), .ref (y 26), .ref (y 30), .ref (y 31), .ref (y 32), .null, .null, .int 0, .int 0, .int 0])), (y 30, aT V 4 (va_up (va_up (va_up (va_up (fun _ => none) 0 (some (y 33))) 1 (some (y 35))) 2 (some (y 37))) 3 (some (y 39)))), (y 33, .inr (7, [.ref (y 34), .int (-1), .int 0])), (y 35, .inr (7, [.ref (y 36), .int (-1), .int 0])), (y 37, .inr (7, [.ref (y 38), .int (-1), .int 0])), (y 39, .inr (7, [.ref (y 40), .int (-1), .int 0]))] := hD
    refine lv_if_ne (tgt := 10) hx hb dX9_perform_4 (by decide) (fun c_8 => absurd c_8 (by decide)) (fun _ => ?_)
    refine lv_bipush (v := (-2)) hx hb dX9_perform_7 (by decide) ?_
    exact fiI hx hb hr hlk hK hP hD hS dX9_perform_9 (Nat.le_of_ble_eq_true rfl) (Nat.le_of_ble_eq_true rfl) (Or.inr (Or.inl ⟨c_3, c_4, rfl, rfl⟩))
  · have hP : va_P V.1 vwCl [(y 0, .inr (9, [.ref (y 1), .int 0, .ref (y 2), .ref (y 10), .ref (y 19), .ref (y 25), .ref (y 26), .ref (y 30), .ref (y 31), .ref (y 32), .null, .null, .int 0, .int 0, .int 0])), (y 30, aT V 4 (va_up (va_up (va_up (va_up (fun _ => none) 0 (some (y 33))) 1 (some (y 35))) 2 (some (y 37))) 3 (some (y 39)))), (y 33, .inr (7, [.ref (y 34), .int (-1), .int 0])), (y 35, .inr (7, [.ref (y 36), .int (-1), .int 0])), (y 37, .inr (7, [.ref (y 38), .int (-1), .int 0])), (y 39, .inr (7, [.ref (y 40), .int (-1), .int 0]))] H := hP
    have hD : va_D A [(y 0, .inr (9, [.ref (y 1), .int 0, .ref (y 2), .ref (y 10), .ref (y 19), .ref (y 25), .ref (y 26), .ref (y 30), .ref (y 31), .ref (y 32), .null, .null, .int 0, .int 0, .int 0])), (y 30, aT V 4 (va_up (va_up (va_up (va_up (fun _ => none) 0 (some (y 33))) 1 (some (y 35))) 2 (some (y 37))) 3 (some (y 39)))), (y 33, .inr (7, [.ref (y 34), .int (-1), .int 0])), (y 35, .inr (7, [.ref (y 36), .int (-1), .int 0])), (y 37, .inr (7, [.ref (y 38), .int (-1), .int 0])), (y 39, .inr (7, [.ref (y 40), .int (-1), .int 0]))] := hD
    refine lv_if_ne (tgt := 10) hx hb dX9_perform_4 (by decide) (fun _ => ?_) (fun c_9 => absurd c_9 (by decide))
    refine lv_aload_n hx hb dX9_perform_10 rfl (lv_at hl 0 rfl) ?_
    refine va_get (ci := 9) (v := .ref (y 30)) (C := RX9) (T := TX9) (N := 15) hx hb hg inX9 hown hK hP 0 rfl rfl 7 (by decide) (hg _ q_2_43) (fun _ h9 => h9) rfl dX9_perform_11 ?_
    refine lv_iload_n hx hb dX9_perform_14 rfl (lv_at hl 1 rfl) ?_
    have c_10 : p0 = 0 ∨ p0 = 1 ∨ p0 = 2 ∨ p0 = 3 := by simp only [tI_lt, tI_le, tI_eq, tL_lt, tL_le, tL_eq, tWx, (by decide : (0 : Int32).toInt = 0), (by decide : (1 : Int32).toInt = 1), (by decide : (2 : Int32).toInt = 2), (by decide : (3 : Int32).toInt = 3), (by decide : (4 : Int32).toInt = 4)] at c_5 c_6 ⊢; omega
    rcases c_10 with rfl | rfl | rfl | rfl
    · refine va_aldq hx hb hK hP 1 4 rfl rfl (vin (by decide +kernel)) dX9_perform_15 ?_
      refine W.eq (g2 := F0 m 16 ls (.ref (y 33) :: [])) rfl ?_
      refine jnI (wr := [(y 0, .inr (9, [.ref (y 1), .int 0, .ref (y 2), .ref (y 10), .ref (y 19), .ref (y 25), .ref (y 26), .ref (y 30), .ref (y 31), .ref (y 32), .null, .null, .int 0, .int 0, .int 0])), (y 30, aT V 4 (va_up (va_up (va_up (va_up (fun _ => none) 0 (some (y 33))) 1 (some (y 35))) 2 (some (y 37))) 3 (some (y 39)))), (y 35, .inr (7, [.ref (y 36), .int (-1), .int 0])), (y 37, .inr (7, [.ref (y 38), .int (-1), .int 0])), (y 39, .inr (7, [.ref (y 40), .int (-1), .int 0]))]) (rnV (rest := []) ⟨hx, hb, hml, hown, hg⟩ (c_X7_isMissing_0 l V y) mt_X7_isMissing q_3_231 ⟨Nat.le_of_ble_eq_true rfl, Nat.le_of_ble_eq_true rfl⟩ hK hP hD hS hA hE [2] rfl rfl 2 rfl rfl rfl rfl hl.1 rfl (Nat.le_of_ble_eq_true rfl) dX9_perform_16 ⟨Nat.le_of_ble_eq_true rfl, Nat.le_of_ble_eq_true rfl⟩) hP hD hS hA [2] [0, 1, 3, 4, 5] rfl rfl rfl (by decide) (fun r_11 w H locs hw hP hD hS => ?_)
      obtain ⟨rfl, rfl⟩ := hw
      have hP : va_P V.1 vwCl [(y 0, .inr (9, [.ref (y 1), .int 0, .ref (y 2), .ref (y 10), .ref (y 19), .ref (y 25), .ref (y 26), .ref (y 30), .ref (y 31), .ref (y 32), .null, .null, .int 0, .int 0, .int 0])), (y 30, aT V 4 (va_up (va_up (va_up (va_up (fun _ => none) 0 (some (y 33))) 1 (some (y 35))) 2 (some (y 37))) 3 (some (y 39)))), (y 35, .inr (7, [.ref (y 36), .int (-1), .int 0])), (y 37, .inr (7, [.ref (y 38), .int (-1), .int 0])), (y 39, .inr (7, [.ref (y 40), .int (-1), .int 0])), (y 33, .inr (7, [.ref (y 34), .int (-1), .int 0]))] H := hP
      have hD : va_D A [(y 0, .inr (9, [.ref (y 1), .int 0, .ref (y 2), .ref (y 10), .ref (y 19), .ref (y 25), .ref (y 26), .ref (y 30), .ref (y 31), .ref (y 32), .null, .null, .int 0, .int 0, .int 0])), (y 30, aT V 4 (va_up (va_up (va_up (va_up (fun _ => none) 0 (some (y 33))) 1 (some (y 35))) 2 (some (y 37))) 3 (some (y 39)))), (y 35, .inr (7, [.ref (y 36), .int (-1), .int 0])), (y 37, .inr (7, [.ref (y 38), .int (-1), .int 0])), (y 39, .inr (7, [.ref (y 40), .int (-1), .int 0])), (y 33, .inr (7, [.ref (y 34), .int (-1), .int 0]))] := hD
      refine lv_if_eq (tgt := 25) hx hb dX9_perform_19 (by decide) (fun c_12 => absurd c_12 (by decide)) (fun _ => ?_)
      refine lv_bipush (v := (-6)) hx hb dX9_perform_22 (by decide) ?_
      have hP := subP (ws' := [(y 0, .inr (9, [.ref (y 1), .int 0, .ref (y 2), .ref (y 10), .ref (y 19), .ref (y 25), .ref (y 26), .ref (y 30), .ref (y 31), .ref (y 32), .null, .null, .int 0, .int 0, .int 0])), (y 30, aT V 4 (va_up (va_up (va_up (va_up (fun _ => none) 0 (some (y 33))) 1 (some (y 35))) 2 (some (y 37))) 3 (some (y 39)))), (y 33, .inr (7, [.ref (y 34), .int (-1), .int 0])), (y 35, .inr (7, [.ref (y 36), .int (-1), .int 0])), (y 37, .inr (7, [.ref (y 38), .int (-1), .int 0])), (y 39, .inr (7, [.ref (y 40), .int (-1), .int 0]))]) hP [0, 1, 5, 2, 3, 4] rfl
      have hD := hD.sub (ws' := [(y 0, .inr (9, [.ref (y 1), .int 0, .ref (y 2), .ref (y 10), .ref (y 19), .ref (y 25), .ref (y 26), .ref (y 30), .ref (y 31), .ref (y 32), .null, .null, .int 0, .int 0, .int 0])), (y 30, aT V 4 (va_up (va_up (va_up (va_up (fun _ => none) 0 (some (y 33))) 1 (some (y 35))) 2 (some (y 37))) 3 (some (y 39)))), (y 33, .inr (7, [.ref (y 34), .int (-1), .int 0])), (y 35, .inr (7, [.ref (y 36), .int (-1), .int 0])), (y 37, .inr (7, [.ref (y 38), .int (-1), .int 0])), (y 39, .inr (7, [.ref (y 40), .int (-1), .int 0]))]) [0, 1, 5, 2, 3, 4] rfl rfl
      exact fiI hx hb hr hlk hK hP hD hS dX9_perform_24 (Nat.le_of_ble_eq_true rfl) (Nat.le_of_ble_eq_true rfl) (Or.inr (Or.inr (Or.inl ⟨c_5, c_6, rfl, rfl, rfl⟩)))
    · refine va_aldq hx hb hK hP 1 4 rfl rfl (vin (by decide +kernel)) dX9_perform_15 ?_
      refine W.eq (g2 := F0 m 16 ls (.ref (y 35) :: [])) rfl ?_
      refine jnI (wr := [(y 0, .inr (9, [.ref (y 1), .int 0, .ref (y 2), .ref (y 10), .ref (y 19), .ref (y 25), .ref (y 26), .ref (y 30), .ref (y 31), .ref (y 32), .null, .null, .int 0, .int 0, .int 0])), (y 30, aT V 4 (va_up (va_up (va_up (va_up (fun _ => none) 0 (some (y 33))) 1 (some (y 35))) 2 (some (y 37))) 3 (some (y 39)))), (y 33, .inr (7, [.ref (y 34), .int (-1), .int 0])), (y 37, .inr (7, [.ref (y 38), .int (-1), .int 0])), (y 39, .inr (7, [.ref (y 40), .int (-1), .int 0]))]) (rnV (rest := []) ⟨hx, hb, hml, hown, hg⟩ (c_X7_isMissing_1 l V y) mt_X7_isMissing q_3_231 ⟨Nat.le_of_ble_eq_true rfl, Nat.le_of_ble_eq_true rfl⟩ hK hP hD hS hA hE [3] rfl rfl 3 rfl rfl rfl rfl hl.1 rfl (Nat.le_of_ble_eq_true rfl) dX9_perform_16 ⟨Nat.le_of_ble_eq_true rfl, Nat.le_of_ble_eq_true rfl⟩) hP hD hS hA [3] [0, 1, 2, 4, 5] rfl rfl rfl (by decide) (fun r_13 w H locs hw hP hD hS => ?_)
      obtain ⟨rfl, rfl⟩ := hw
      have hP : va_P V.1 vwCl [(y 0, .inr (9, [.ref (y 1), .int 0, .ref (y 2), .ref (y 10), .ref (y 19), .ref (y 25), .ref (y 26), .ref (y 30), .ref (y 31), .ref (y 32), .null, .null, .int 0, .int 0, .int 0])), (y 30, aT V 4 (va_up (va_up (va_up (va_up (fun _ => none) 0 (some (y 33))) 1 (some (y 35))) 2 (some (y 37))) 3 (some (y 39)))), (y 33, .inr (7, [.ref (y 34), .int (-1), .int 0])), (y 37, .inr (7, [.ref (y 38), .int (-1), .int 0])), (y 39, .inr (7, [.ref (y 40), .int (-1), .int 0])), (y 35, .inr (7, [.ref (y 36), .int (-1), .int 0]))] H := hP
      have hD : va_D A [(y 0, .inr (9, [.ref (y 1), .int 0, .ref (y 2), .ref (y 10), .ref (y 19), .ref (y 25), .ref (y 26), .ref (y 30), .ref (y 31), .ref (y 32), .null, .null, .int 0, .int 0, .int 0])), (y 30, aT V 4 (va_up (va_up (va_up (va_up (fun _ => none) 0 (some (y 33))) 1 (some (y 35))) 2 (some (y 37))) 3 (some (y 39)))), (y 33, .inr (7, [.ref (y 34), .int (-1), .int 0])), (y 37, .inr (7, [.ref (y 38), .int (-1), .int 0])), (y 39, .inr (7, [.ref (y 40), .int (-1), .int 0])), (y 35, .inr (7, [.ref (y 36), .int (-1), .int 0]))] := hD
      refine lv_if_eq (tgt := 25) hx hb dX9_perform_19 (by decide) (fun c_14 => absurd c_14 (by decide)) (fun _ => ?_)
      refine lv_bipush (v := (-6)) hx hb dX9_perform_22 (by decide) ?_
      have hP := subP (ws' := [(y 0, .inr (9, [.ref (y 1), .int 0, .ref (y 2), .ref (y 10), .ref (y 19), .ref (y 25), .ref (y 26), .ref (y 30), .ref (y 31), .ref (y 32), .null, .null, .int 0, .int 0, .int 0])), (y 30, aT V 4 (va_up (va_up (va_up (va_up (fun _ => none) 0 (some (y 33))) 1 (some (y 35))) 2 (some (y 37))) 3 (some (y 39)))), (y 33, .inr (7, [.ref (y 34), .int (-1), .int 0])), (y 35, .inr (7, [.ref (y 36), .int (-1), .int 0])), (y 37, .inr (7, [.ref (y 38), .int (-1), .int 0])), (y 39, .inr (7, [.ref (y 40), .int (-1), .int 0]))]) hP [0, 1, 2, 5, 3, 4] rfl
      have hD := hD.sub (ws' := [(y 0, .inr (9, [.ref (y 1), .int 0, .ref (y 2), .ref (y 10), .ref (y 19), .ref (y 25), .ref (y 26), .ref (y 30), .ref (y 31), .ref (y 32), .null, .null, .int 0, .int 0, .int 0])), (y 30, aT V 4 (va_up (va_up (va_up (va_up (fun _ => none) 0 (some (y 33))) 1 (some (y 35))) 2 (some (y 37))) 3 (some (y 39)))), (y 33, .inr (7, [.ref (y 34), .int (-1), .int 0])), (y 35, .inr (7, [.ref (y 36), .int (-1), .int 0])), (y 37, .inr (7, [.ref (y 38), .int (-1), .int 0])), (y 39, .inr (7, [.ref (y 40), .int (-1), .int 0]))]) [0, 1, 2, 5, 3, 4] rfl rfl
      exact fiI hx hb hr hlk hK hP hD hS dX9_perform_24 (Nat.le_of_ble_eq_true rfl) (Nat.le_of_ble_eq_true rfl) (Or.inr (Or.inr (Or.inr (Or.inl ⟨c_5, c_6, rfl, rfl, rfl⟩))))
    · refine va_aldq hx hb hK hP 1 4 rfl rfl (vin (by decide +kernel)) dX9_perform_15 ?_
      refine W.eq (g2 := F0 m 16 ls (.ref (y 37) :: [])) rfl ?_
      refine jnI (wr := [(y 0, .inr (9, [.ref (y 1), .int 0, .ref (y 2), .ref (y 10), .ref (y 19), .ref (y 25), .ref (y 26), .ref (y 30), .ref (y 31), .ref (y 32), .null, .null, .int 0, .int 0, .int 0])), (y 30, aT V 4 (va_up (va_up (va_up (va_up (fun _ => none) 0 (some (y 33))) 1 (some (y 35))) 2 (some (y 37))) 3 (some (y 39)))), (y 33, .inr (7, [.ref (y 34), .int (-1), .int 0])), (y 35, .inr (7, [.ref (y 36), .int (-1), .int 0])), (y 39, .inr (7, [.ref (y 40), .int (-1), .int 0]))]) (rnV (rest := []) ⟨hx, hb, hml, hown, hg⟩ (c_X7_isMissing_2 l V y) mt_X7_isMissing q_3_231 ⟨Nat.le_of_ble_eq_true rfl, Nat.le_of_ble_eq_true rfl⟩ hK hP hD hS hA hE [4] rfl rfl 4 rfl rfl rfl rfl hl.1 rfl (Nat.le_of_ble_eq_true rfl) dX9_perform_16 ⟨Nat.le_of_ble_eq_true rfl, Nat.le_of_ble_eq_true rfl⟩) hP hD hS hA [4] [0, 1, 2, 3, 5] rfl rfl rfl (by decide) (fun r_15 w H locs hw hP hD hS => ?_)
      obtain ⟨rfl, rfl⟩ := hw
      have hP : va_P V.1 vwCl [(y 0, .inr (9, [.ref (y 1), .int 0, .ref (y 2), .ref (y 10), .ref (y 19), .ref (y 25), .ref (y 26), .ref (y 30), .ref (y 31), .ref (y 32), .null, .null, .int 0, .int 0, .int 0])), (y 30, aT V 4 (va_up (va_up (va_up (va_up (fun _ => none) 0 (some (y 33))) 1 (some (y 35))) 2 (some (y 37))) 3 (some (y 39)))), (y 33, .inr (7, [.ref (y 34), .int (-1), .int 0])), (y 35, .inr (7, [.ref (y 36), .int (-1), .int 0])), (y 39, .inr (7, [.ref (y 40), .int (-1), .int 0])), (y 37, .inr (7, [.ref (y 38), .int (-1), .int 0]))] H := hP
      have hD : va_D A [(y 0, .inr (9, [.ref (y 1), .int 0, .ref (y 2), .ref (y 10), .ref (y 19), .ref (y 25), .ref (y 26), .ref (y 30), .ref (y 31), .ref (y 32), .null, .null, .int 0, .int 0, .int 0])), (y 30, aT V 4 (va_up (va_up (va_up (va_up (fun _ => none) 0 (some (y 33))) 1 (some (y 35))) 2 (some (y 37))) 3 (some (y 39)))), (y 33, .inr (7, [.ref (y 34), .int (-1), .int 0])), (y 35, .inr (7, [.ref (y 36), .int (-1), .int 0])), (y 39, .inr (7, [.ref (y 40), .int (-1), .int 0])), (y 37, .inr (7, [.ref (y 38), .int (-1), .int 0]))] := hD
      refine lv_if_eq (tgt := 25) hx hb dX9_perform_19 (by decide) (fun c_16 => absurd c_16 (by decide)) (fun _ => ?_)
      refine lv_bipush (v := (-6)) hx hb dX9_perform_22 (by decide) ?_
      have hP := subP (ws' := [(y 0, .inr (9, [.ref (y 1), .int 0, .ref (y 2), .ref (y 10), .ref (y 19), .ref (y 25), .ref (y 26), .ref (y 30), .ref (y 31), .ref (y 32), .null, .null, .int 0, .int 0, .int 0])), (y 30, aT V 4 (va_up (va_up (va_up (va_up (fun _ => none) 0 (some (y 33))) 1 (some (y 35))) 2 (some (y 37))) 3 (some (y 39)))), (y 33, .inr (7, [.ref (y 34), .int (-1), .int 0])), (y 35, .inr (7, [.ref (y 36), .int (-1), .int 0])), (y 37, .inr (7, [.ref (y 38), .int (-1), .int 0])), (y 39, .inr (7, [.ref (y 40), .int (-1), .int 0]))]) hP [0, 1, 2, 3, 5, 4] rfl
      have hD := hD.sub (ws' := [(y 0, .inr (9, [.ref (y 1), .int 0, .ref (y 2), .ref (y 10), .ref (y 19), .ref (y 25), .ref (y 26), .ref (y 30), .ref (y 31), .ref (y 32), .null, .null, .int 0, .int 0, .int 0])), (y 30, aT V 4 (va_up (va_up (va_up (va_up (fun _ => none) 0 (some (y 33))) 1 (some (y 35))) 2 (some (y 37))) 3 (some (y 39)))), (y 33, .inr (7, [.ref (y 34), .int (-1), .int 0])), (y 35, .inr (7, [.ref (y 36), .int (-1), .int 0])), (y 37, .inr (7, [.ref (y 38), .int (-1), .int 0])), (y 39, .inr (7, [.ref (y 40), .int (-1), .int 0]))]) [0, 1, 2, 3, 5, 4] rfl rfl
      exact fiI hx hb hr hlk hK hP hD hS dX9_perform_24 (Nat.le_of_ble_eq_true rfl) (Nat.le_of_ble_eq_true rfl) (Or.inr (Or.inr (Or.inr (Or.inr (Or.inl ⟨c_5, c_6, rfl, rfl, rfl⟩)))))
    · refine va_aldq hx hb hK hP 1 4 rfl rfl (vin (by decide +kernel)) dX9_perform_15 ?_
      refine W.eq (g2 := F0 m 16 ls (.ref (y 39) :: [])) rfl ?_
      refine jnI (wr := [(y 0, .inr (9, [.ref (y 1), .int 0, .ref (y 2), .ref (y 10), .ref (y 19), .ref (y 25), .ref (y 26), .ref (y 30), .ref (y 31), .ref (y 32), .null, .null, .int 0, .int 0, .int 0])), (y 30, aT V 4 (va_up (va_up (va_up (va_up (fun _ => none) 0 (some (y 33))) 1 (some (y 35))) 2 (some (y 37))) 3 (some (y 39)))), (y 33, .inr (7, [.ref (y 34), .int (-1), .int 0])), (y 35, .inr (7, [.ref (y 36), .int (-1), .int 0])), (y 37, .inr (7, [.ref (y 38), .int (-1), .int 0]))]) (rnV (rest := []) ⟨hx, hb, hml, hown, hg⟩ (c_X7_isMissing_3 l V y) mt_X7_isMissing q_3_231 ⟨Nat.le_of_ble_eq_true rfl, Nat.le_of_ble_eq_true rfl⟩ hK hP hD hS hA hE [5] rfl rfl 5 rfl rfl rfl rfl hl.1 rfl (Nat.le_of_ble_eq_true rfl) dX9_perform_16 ⟨Nat.le_of_ble_eq_true rfl, Nat.le_of_ble_eq_true rfl⟩) hP hD hS hA [5] [0, 1, 2, 3, 4] rfl rfl rfl (by decide) (fun r_17 w H locs hw hP hD hS => ?_)
      obtain ⟨rfl, rfl⟩ := hw
      have hP : va_P V.1 vwCl [(y 0, .inr (9, [.ref (y 1), .int 0, .ref (y 2), .ref (y 10), .ref (y 19), .ref (y 25), .ref (y 26), .ref (y 30), .ref (y 31), .ref (y 32), .null, .null, .int 0, .int 0, .int 0])), (y 30, aT V 4 (va_up (va_up (va_up (va_up (fun _ => none) 0 (some (y 33))) 1 (some (y 35))) 2 (some (y 37))) 3 (some (y 39)))), (y 33, .inr (7, [.ref (y 34), .int (-1), .int 0])), (y 35, .inr (7, [.ref (y 36), .int (-1), .int 0])), (y 37, .inr (7, [.ref (y 38), .int (-1), .int 0])), (y 39, .inr (7, [.ref (y 40), .int (-1), .int 0]))] H := hP
      have hD : va_D A [(y 0, .inr (9, [.ref (y 1), .int 0, .ref (y 2), .ref (y 10), .ref (y 19), .ref (y 25), .ref (y 26), .ref (y 30), .ref (y 31), .ref (y 32), .null, .null, .int 0, .int 0, .int 0])), (y 30, aT V 4 (va_up (va_up (va_up (va_up (fun _ => none) 0 (some (y 33))) 1 (some (y 35))) 2 (some (y 37))) 3 (some (y 39)))), (y 33, .inr (7, [.ref (y 34), .int (-1), .int 0])), (y 35, .inr (7, [.ref (y 36), .int (-1), .int 0])), (y 37, .inr (7, [.ref (y 38), .int (-1), .int 0])), (y 39, .inr (7, [.ref (y 40), .int (-1), .int 0]))] := hD
      refine lv_if_eq (tgt := 25) hx hb dX9_perform_19 (by decide) (fun c_18 => absurd c_18 (by decide)) (fun _ => ?_)
      refine lv_bipush (v := (-6)) hx hb dX9_perform_22 (by decide) ?_
      exact fiI hx hb hr hlk hK hP hD hS dX9_perform_24 (Nat.le_of_ble_eq_true rfl) (Nat.le_of_ble_eq_true rfl) (Or.inr (Or.inr (Or.inr (Or.inr (Or.inr (⟨c_5, c_6, rfl, rfl, rfl⟩))))))
theorem dX10_lies_0 : decode cX10_lies 0 = .ok (.aload_n 0, 1) := by decide +kernel
theorem dX10_lies_1 : decode cX10_lies 1 = .ok (.iconst 0, 1) := by decide +kernel
theorem dX10_lies_2 : decode cX10_lies 2 = .ok (.putfield 1, 3) := by decide +kernel
theorem dX10_lies_5 : decode cX10_lies 5 = .ok (.aload_n 0, 1) := by decide +kernel
theorem dX10_lies_6 : decode cX10_lies 6 = .ok (.iload_n 1, 1) := by decide +kernel
theorem dX10_lies_7 : decode cX10_lies 7 = .ok (.i2l, 1) := by decide +kernel
theorem dX10_lies_8 : decode cX10_lies 8 = .ok (.invokevirtual 262, 3) := by decide +kernel
theorem dX10_lies_11 : decode cX10_lies 11 = .ok (.ifCond .ne 6, 3) := by decide +kernel
theorem dX10_lies_14 : decode cX10_lies 14 = .ok (.bipush (-2), 2) := by decide +kernel
theorem dX10_lies_16 : decode cX10_lies 16 = .ok (.ireturn, 1) := by decide +kernel
set_option maxHeartbeats 4000000 in
set_option maxRecDepth 100000 in
theorem c_X10_lies_0 (l : Launch) (V : GV) (z : Nat → Nat) (p0 : Int32) (p1 : Int32) : Ct l V yX10_lies (.code yX10_lies cX10_lies 3 (some .int)) 3 [.ref (z 0), .int p0, .int p1] [(z 0, .inr (10, mo z 0 0 0 0 0 0 0 0 0 0 (-1) 0 0 0 0 0)), (z 1, aI V 3075 (fun _ => 0))] 0 0 (QI V (fun (r : Int32) (w : va_W) => (r = (-2) ∧ w = [(z 0, .inr (10, mo z 0 0 0 0 0 0 0 0 0 0 (-1) 0 0 0 0 0)), (z 1, aI V 3075 (fun _ => 0))]))) := by
  refine Ct.of (by decide) (Nat.le_of_ble_eq_true rfl) (fun p e s m below meth c A ls hx hb hr hml hown hlk hnm hg hP hK hD hE hA hS hl => ?_)
  have hl : lv_has ls 3 [(0, .ref (z 0)), (1, .int p0), (2, .int p1)] := hl
  refine lv_aload_n hx hb dX10_lies_0 rfl (lv_at hl 0 rfl) ?_
  refine lv_iconst (v := 0) hx hb dX10_lies_1 (by decide) ?_
  refine va_put (ci := 10) (v := .int 0) (ty := .int) (C := RX10) (T := TX10) (N := 40) hx hb hg inX10 tyX10 tyX10_ok nmX10 hown hK hP hD hS 0 rfl rfl 0 (by decide) (hg _ q_5_224) (fun _ h9 => h9) rfl (by decide +kernel) rfl rfl (Nat.le_of_ble_eq_true rfl) dX10_lies_2 (fun H locs hP hD hS => ?_)
  have hP : va_P V.1 vwCl [(z 0, .inr (10, mo z 0 0 0 0 0 0 0 0 0 0 (-1) 0 0 0 0 0)), (z 1, aI V 3075 (fun _ => 0))] H := hP
  have hD : va_D A [(z 0, .inr (10, mo z 0 0 0 0 0 0 0 0 0 0 (-1) 0 0 0 0 0)), (z 1, aI V 3075 (fun _ => 0))] := hD
  refine lv_aload_n hx hb dX10_lies_5 rfl (lv_at hl 0 rfl) ?_
  refine lv_iload_n hx hb dX10_lies_6 rfl (lv_at hl 1 rfl) ?_
  refine lv_i2l (v := p0.toInt64) hx hb dX10_lies_7 rfl ?_
  refine jnI (wr := []) (rnV (rest := []) ⟨hx, hb, hml, hown, hg⟩ (c_X10_isHill_0 l V z p0.toInt64) mt_X10_isHill q_6_235 ⟨Nat.le_of_ble_eq_true rfl, Nat.le_of_ble_eq_true rfl⟩ hK hP hD hS hA hE [0, 1] rfl rfl 0 rfl rfl rfl rfl hl.1 rfl (Nat.le_of_ble_eq_true rfl) dX10_lies_8 ⟨Nat.le_of_ble_eq_true rfl, Nat.le_of_ble_eq_true rfl⟩) hP hD hS hA [0, 1] [] rfl rfl rfl (by decide) (fun r_1 w H locs hw hP hD hS => ?_)
  obtain ⟨rfl, rfl⟩ := hw
  have hP : va_P V.1 vwCl [(z 0, .inr (10, mo z 0 0 0 0 0 0 0 0 0 0 (-1) 0 0 0 0 0)), (z 1, aI V 3075 (fun _ => 0))] H := hP
  have hD : va_D A [(z 0, .inr (10, mo z 0 0 0 0 0 0 0 0 0 0 (-1) 0 0 0 0 0)), (z 1, aI V 3075 (fun _ => 0))] := hD
  refine lv_if_ne (tgt := 17) hx hb dX10_lies_11 (by decide) (fun c_2 => absurd c_2 (by decide)) (fun _ => ?_)
  refine lv_bipush (v := (-2)) hx hb dX10_lies_14 (by decide) ?_
  exact fiI hx hb hr hlk hK hP hD hS dX10_lies_16 (Nat.le_of_ble_eq_true rfl) (Nat.le_of_ble_eq_true rfl) (⟨rfl, rfl⟩)
theorem dX9_lies_0 : decode cX9_lies 0 = .ok (.aload_n 0, 1) := by decide +kernel
theorem dX9_lies_1 : decode cX9_lies 1 = .ok (.iload_n 1, 1) := by decide +kernel
theorem dX9_lies_2 : decode cX9_lies 2 = .ok (.invokevirtual 128, 3) := by decide +kernel
theorem dX9_lies_5 : decode cX9_lies 5 = .ok (.ifCond .ne 6, 3) := by decide +kernel
theorem dX9_lies_8 : decode cX9_lies 8 = .ok (.bipush (-2), 2) := by decide +kernel
theorem dX9_lies_10 : decode cX9_lies 10 = .ok (.ireturn, 1) := by decide +kernel
set_option maxHeartbeats 4000000 in
set_option maxRecDepth 100000 in
theorem c_X9_lies_0 (l : Launch) (V : GV) (y : Nat → Nat) (p0 : Int32) (p1 : Int32) : Ct l V yX9_lies (.code yX9_lies cX9_lies 6 (some .int)) 2 [.ref (y 0), .int p0, .int p1] [(y 0, .inr (9, [.ref (y 1), .int 0, .ref (y 2), .ref (y 10), .ref (y 19), .ref (y 25), .ref (y 26), .ref (y 30), .ref (y 31), .ref (y 32), .null, .null, .int 0, .int 0, .int 0])), (y 2, .inr (1, [.int 0, .int 0, .int 0, .int 0, .int 0, .int 0, .ref (y 3), .ref (y 4), .ref (y 5), .ref (y 6), .ref (y 7), .ref (y 8), .ref (y 9), .int 0, .int 0, .int 0, .int 0, .int 0]))] 0 0 (QI V (fun (r : Int32) (w : va_W) => (r = (-2) ∧ w = [(y 0, .inr (9, [.ref (y 1), .int 0, .ref (y 2), .ref (y 10), .ref (y 19), .ref (y 25), .ref (y 26), .ref (y 30), .ref (y 31), .ref (y 32), .null, .null, .int 0, .int 0, .int 0])), (y 2, .inr (1, [.int 0, .int 0, .int 0, .int 0, .int 0, .int 0, .ref (y 3), .ref (y 4), .ref (y 5), .ref (y 6), .ref (y 7), .ref (y 8), .ref (y 9), .int 0, .int 0, .int 0, .int 0, .int 0]))]))) := by
  refine Ct.of (by decide) (Nat.le_of_ble_eq_true rfl) (fun p e s m below meth c A ls hx hb hr hml hown hlk hnm hg hP hK hD hE hA hS hl => ?_)
  have hl : lv_has ls 6 [(0, .ref (y 0)), (1, .int p0), (2, .int p1)] := hl
  refine lv_aload_n hx hb dX9_lies_0 rfl (lv_at hl 0 rfl) ?_
  refine lv_iload_n hx hb dX9_lies_1 rfl (lv_at hl 1 rfl) ?_
  refine jnI (wr := []) (rnV (rest := []) ⟨hx, hb, hml, hown, hg⟩ (c_X9_isHill_0 l V y p0) mt_X9_isHill q_3_122 ⟨Nat.le_of_ble_eq_true rfl, Nat.le_of_ble_eq_true rfl⟩ hK hP hD hS hA hE [0, 1] rfl rfl 0 rfl rfl rfl rfl hl.1 rfl (Nat.le_of_ble_eq_true rfl) dX9_lies_2 ⟨Nat.le_of_ble_eq_true rfl, Nat.le_of_ble_eq_true rfl⟩) hP hD hS hA [0, 1] [] rfl rfl rfl (by decide) (fun r_1 w H locs hw hP hD hS => ?_)
  obtain ⟨rfl, rfl⟩ := hw
  have hP : va_P V.1 vwCl [(y 0, .inr (9, [.ref (y 1), .int 0, .ref (y 2), .ref (y 10), .ref (y 19), .ref (y 25), .ref (y 26), .ref (y 30), .ref (y 31), .ref (y 32), .null, .null, .int 0, .int 0, .int 0])), (y 2, .inr (1, [.int 0, .int 0, .int 0, .int 0, .int 0, .int 0, .ref (y 3), .ref (y 4), .ref (y 5), .ref (y 6), .ref (y 7), .ref (y 8), .ref (y 9), .int 0, .int 0, .int 0, .int 0, .int 0]))] H := hP
  have hD : va_D A [(y 0, .inr (9, [.ref (y 1), .int 0, .ref (y 2), .ref (y 10), .ref (y 19), .ref (y 25), .ref (y 26), .ref (y 30), .ref (y 31), .ref (y 32), .null, .null, .int 0, .int 0, .int 0])), (y 2, .inr (1, [.int 0, .int 0, .int 0, .int 0, .int 0, .int 0, .ref (y 3), .ref (y 4), .ref (y 5), .ref (y 6), .ref (y 7), .ref (y 8), .ref (y 9), .int 0, .int 0, .int 0, .int 0, .int 0]))] := hD
  refine lv_if_ne (tgt := 11) hx hb dX9_lies_5 (by decide) (fun c_2 => absurd c_2 (by decide)) (fun _ => ?_)
  refine lv_bipush (v := (-2)) hx hb dX9_lies_8 (by decide) ?_
  exact fiI hx hb hr hlk hK hP hD hS dX9_lies_10 (Nat.le_of_ble_eq_true rfl) (Nat.le_of_ble_eq_true rfl) (⟨rfl, rfl⟩)
theorem dX10_laysLine_0 : decode cX10_laysLine 0 = .ok (.iconst 0, 1) := by decide +kernel
theorem dX10_laysLine_1 : decode cX10_laysLine 1 = .ok (.istore_n 1, 1) := by decide +kernel
theorem dX10_laysLine_2 : decode cX10_laysLine 2 = .ok (.iload_n 1, 1) := by decide +kernel
theorem dX10_laysLine_3 : decode cX10_laysLine 3 = .ok (.sipush 10000, 3) := by decide +kernel
theorem dX10_laysLine_6 : decode cX10_laysLine 6 = .ok (.if_icmp .ge 16, 3) := by decide +kernel
theorem dX10_laysLine_22 : decode cX10_laysLine 22 = .ok (.aload_n 0, 1) := by decide +kernel
theorem dX10_laysLine_23 : decode cX10_laysLine 23 = .ok (.invokevirtual 269, 3) := by decide +kernel
theorem dX10_laysLine_26 : decode cX10_laysLine 26 = .ok (.istore_n 1, 1) := by decide +kernel
theorem dX10_laysLine_27 : decode cX10_laysLine 27 = .ok (.iconst 0, 1) := by decide +kernel
theorem dX10_laysLine_28 : decode cX10_laysLine 28 = .ok (.istore_n 2, 1) := by decide +kernel
theorem dX10_laysLine_29 : decode cX10_laysLine 29 = .ok (.aload_n 0, 1) := by decide +kernel
theorem dX10_laysLine_30 : decode cX10_laysLine 30 = .ok (.getfield 42, 3) := by decide +kernel
theorem dX10_laysLine_33 : decode cX10_laysLine 33 = .ok (.iload_n 1, 1) := by decide +kernel
theorem dX10_laysLine_34 : decode cX10_laysLine 34 = .ok (.iaload, 1) := by decide +kernel
theorem dX10_laysLine_35 : decode cX10_laysLine 35 = .ok (.iconst (-1), 1) := by decide +kernel
theorem dX10_laysLine_36 : decode cX10_laysLine 36 = .ok (.if_icmp .ne 37, 3) := by decide +kernel
theorem dX10_laysLine_39 : decode cX10_laysLine 39 = .ok (.aload_n 0, 1) := by decide +kernel
theorem dX10_laysLine_40 : decode cX10_laysLine 40 = .ok (.getfield 42, 3) := by decide +kernel
theorem dX10_laysLine_43 : decode cX10_laysLine 43 = .ok (.iload_n 1, 1) := by decide +kernel
theorem dX10_laysLine_44 : decode cX10_laysLine 44 = .ok (.iload_n 2, 1) := by decide +kernel
theorem dX10_laysLine_45 : decode cX10_laysLine 45 = .ok (.iastore, 1) := by decide +kernel
theorem dX10_laysLine_46 : decode cX10_laysLine 46 = .ok (.aload_n 0, 1) := by decide +kernel
theorem dX10_laysLine_47 : decode cX10_laysLine 47 = .ok (.getfield 39, 3) := by decide +kernel
theorem dX10_laysLine_50 : decode cX10_laysLine 50 = .ok (.iload_n 2, 1) := by decide +kernel
theorem dX10_laysLine_51 : decode cX10_laysLine 51 = .ok (.iload_n 1, 1) := by decide +kernel
theorem dX10_laysLine_52 : decode cX10_laysLine 52 = .ok (.iastore, 1) := by decide +kernel
theorem dX10_laysLine_53 : decode cX10_laysLine 53 = .ok (.iinc 2 1, 3) := by decide +kernel
theorem dX10_laysLine_56 : decode cX10_laysLine 56 = .ok (.aload_n 0, 1) := by decide +kernel
theorem dX10_laysLine_57 : decode cX10_laysLine 57 = .ok (.iload_n 1, 1) := by decide +kernel
theorem dX10_laysLine_58 : decode cX10_laysLine 58 = .ok (.iconst 0, 1) := by decide +kernel
theorem dX10_laysLine_59 : decode cX10_laysLine 59 = .ok (.aload_n 0, 1) := by decide +kernel
theorem dX10_laysLine_60 : decode cX10_laysLine 60 = .ok (.getfield 13, 3) := by decide +kernel
theorem dX10_laysLine_63 : decode cX10_laysLine 63 = .ok (.bipush 51, 2) := by decide +kernel
theorem dX10_laysLine_65 : decode cX10_laysLine 65 = .ok (.iaload, 1) := by decide +kernel
theorem dX10_laysLine_66 : decode cX10_laysLine 66 = .ok (.invokevirtual 272, 3) := by decide +kernel
theorem dX10_laysLine_69 : decode cX10_laysLine 69 = .ok (.istore_n 1, 1) := by decide +kernel
theorem dX10_laysLine_70 : decode cX10_laysLine 70 = .ok (.goto (-41), 3) := by decide +kernel
theorem dX10_laysLine_73 : decode cX10_laysLine 73 = .ok (.aload_n 0, 1) := by decide +kernel
theorem dX10_laysLine_74 : decode cX10_laysLine 74 = .ok (.aload_n 0, 1) := by decide +kernel
theorem dX10_laysLine_75 : decode cX10_laysLine 75 = .ok (.getfield 42, 3) := by decide +kernel
theorem dX10_laysLine_78 : decode cX10_laysLine 78 = .ok (.iload_n 1, 1) := by decide +kernel
theorem dX10_laysLine_79 : decode cX10_laysLine 79 = .ok (.iaload, 1) := by decide +kernel
theorem q_6_6 : Cond.fieldLink "BeaconDelayModel" 341 "BeaconDelayModel" "tail" "I" ∈ gw := gw_6 (i := 6) (by decide +kernel) rfl
theorem dX10_laysLine_80 : decode cX10_laysLine 80 = .ok (.putfield 341, 3) := by decide +kernel
theorem dX10_laysLine_83 : decode cX10_laysLine 83 = .ok (.aload_n 0, 1) := by decide +kernel
theorem dX10_laysLine_84 : decode cX10_laysLine 84 = .ok (.iload_n 2, 1) := by decide +kernel
theorem dX10_laysLine_85 : decode cX10_laysLine 85 = .ok (.aload_n 0, 1) := by decide +kernel
theorem dX10_laysLine_86 : decode cX10_laysLine 86 = .ok (.getfield 341, 3) := by decide +kernel
theorem dX10_laysLine_89 : decode cX10_laysLine 89 = .ok (.isub, 1) := by decide +kernel
theorem q_6_7 : Cond.fieldLink "BeaconDelayModel" 344 "BeaconDelayModel" "round1" "I" ∈ gw := gw_6 (i := 7) (by decide +kernel) rfl
theorem dX10_laysLine_90 : decode cX10_laysLine 90 = .ok (.putfield 344, 3) := by decide +kernel
theorem dX10_laysLine_93 : decode cX10_laysLine 93 = .ok (.return_, 1) := by decide +kernel
theorem dX10_laysLine_9 : decode cX10_laysLine 9 = .ok (.aload_n 0, 1) := by decide +kernel
theorem dX10_laysLine_10 : decode cX10_laysLine 10 = .ok (.getfield 42, 3) := by decide +kernel
theorem dX10_laysLine_13 : decode cX10_laysLine 13 = .ok (.iload_n 1, 1) := by decide +kernel
theorem dX10_laysLine_14 : decode cX10_laysLine 14 = .ok (.iconst (-1), 1) := by decide +kernel
theorem dX10_laysLine_15 : decode cX10_laysLine 15 = .ok (.iastore, 1) := by decide +kernel
theorem dX10_laysLine_16 : decode cX10_laysLine 16 = .ok (.iinc 1 1, 3) := by decide +kernel
theorem dX10_laysLine_19 : decode cX10_laysLine 19 = .ok (.goto (-17), 3) := by decide +kernel
set_option maxHeartbeats 4000000 in
set_option maxRecDepth 100000 in
theorem c_X10_laysLine_0 (l : Launch) (V : GV) (z : Nat → Nat) : Ct l V yX10_laysLine (.code yX10_laysLine cX10_laysLine 3 none) 2 [.ref (z 0)] [(z 0, .inr (10, mo z 0 0 0 0 0 0 0 0 0 0 (-1) 0 0 0 0 0)), (z 20, aI V 10001 (fun _ => 0)), (z 21, aI V 10000 (fun _ => 0)), (z 1, aI V 3075 (fun _ => 0))] 0 0 (QV V (fun (w : va_W) => (∃ (f_2 : Nat → Int32), w = [(z 0, .inr (10, mo z 0 0 0 0 0 0 0 0 0 0 (-1) 0 0 0 1 0)), (z 20, aI V 10001 (fun _ => 0)), (z 21, aI V 10000 (upd f_2 0 0)), (z 1, aI V 3075 (fun _ => 0))]))) := by
  refine Ct.of (by decide) (Nat.le_of_ble_eq_true rfl) (fun p e s m below meth c A ls hx hb hr hml hown hlk hnm hg hP hK hD hE hA hS hl => ?_)
  have hl : lv_has ls 3 [(0, .ref (z 0))] := hl
  refine lv_iconst (v := 0) hx hb dX10_laysLine_0 (by decide) ?_
  refine lv_istore_n (lv' := [(1, .int 0), (0, .ref (z 0))]) hx hb dX10_laysLine_1 rfl hl (by decide) rfl (fun ls hl => ?_)
  refine loopW 10000 (X := fun (i_1 : Nat) (H : Heap) (locs : List Loc) (ls : Array Slot) => ∃ (f_2 : Nat → Int32), 0 ≤ i_1 ∧ (∀ j : Nat, j < i_1 → f_2 j = (-1)) ∧ va_P V.1 vwCl [(z 0, .inr (10, mo z 0 0 0 0 0 0 0 0 0 0 (-1) 0 0 0 0 0)), (z 20, aI V 10001 (fun _ => 0)), (z 21, aI V 10000 f_2), (z 1, aI V 3075 (fun _ => 0))] H ∧ va_D A [(z 0, .inr (10, mo z 0 0 0 0 0 0 0 0 0 0 (-1) 0 0 0 0 0)), (z 20, aI V 10001 (fun _ => 0)), (z 21, aI V 10000 f_2), (z 1, aI V 3075 (fun _ => 0))] ∧ va_S A s.heap H locs ∧ lv_has ls 3 [(1, .int (nI i_1)), (0, .ref (z 0))]) (g := fun ls => F0 m 2 ls []) (fun i_1 H locs ls hi_i_1 hX ih_i_1 => ?_) 0 (Nat.le_of_ble_eq_true rfl) ⟨(fun _ => 0), Nat.le_refl _, (fun _ h9 => absurd h9 (Nat.not_lt_zero _)), hP, hD, hS, lv_sub hl [0, 1] rfl⟩
  obtain ⟨f_2, hlo_i_1, hf_2, hP, hD, hS, hl⟩ := hX
  refine lv_iload_n hx hb dX10_laysLine_2 rfl (lv_at hl 0 rfl) ?_
  refine lv_sipush (v := 10000) hx hb dX10_laysLine_3 (by decide) ?_
  refine lv_icmp_ge (tgt := 22) hx hb dX10_laysLine_6 (by decide) (fun c_3 => ?_) (fun c_3 => ?_)
  · have e_4 : i_1 = 10000 := by have q9 := (nI_leI (a := 10000) (b := i_1) (by omega) (by omega)).mp c_3; omega
    rw [e_4] at hl
    rw [e_4] at hf_2
    have hl : lv_has ls 3 [(1, .int 10000), (0, .ref (z 0))] := hl
    refine lv_aload_n hx hb dX10_laysLine_22 rfl (lv_at hl 1 rfl) ?_
    refine jnI (wr := [(z 20, aI V 10001 (fun _ => 0)), (z 21, aI V 10000 f_2)]) (rnV (rest := []) ⟨hx, hb, hml, hown, hg⟩ (c_X10_standNow_0 l V z) mt_X10_standNow q_7_11 ⟨Nat.le_of_ble_eq_true rfl, Nat.le_of_ble_eq_true rfl⟩ hK hP hD hS hA hE [0, 3] rfl rfl 0 rfl rfl rfl rfl hl.1 rfl (Nat.le_of_ble_eq_true rfl) dX10_laysLine_23 ⟨Nat.le_of_ble_eq_true rfl, Nat.le_of_ble_eq_true rfl⟩) hP hD hS hA [0, 3] [1, 2] rfl rfl rfl (by decide) (fun r_5 w H locs hw hP hD hS => ?_)
    obtain ⟨rfl, rfl⟩ := hw
    have hP : va_P V.1 vwCl [(z 20, aI V 10001 (fun _ => 0)), (z 21, aI V 10000 f_2), (z 0, .inr (10, mo z 0 0 0 0 0 0 0 0 0 0 (-1) 0 0 0 0 0)), (z 1, aI V 3075 (fun _ => 0))] H := hP
    have hD : va_D A [(z 20, aI V 10001 (fun _ => 0)), (z 21, aI V 10000 f_2), (z 0, .inr (10, mo z 0 0 0 0 0 0 0 0 0 0 (-1) 0 0 0 0 0)), (z 1, aI V 3075 (fun _ => 0))] := hD
    refine lv_istore_n (lv' := [(1, .int 0), (0, .ref (z 0))]) hx hb dX10_laysLine_26 rfl hl (by decide) rfl (fun ls hl => ?_)
    refine lv_iconst (v := 0) hx hb dX10_laysLine_27 (by decide) ?_
    refine lv_istore_n (lv' := [(2, .int 0), (1, .int 0), (0, .ref (z 0))]) hx hb dX10_laysLine_28 rfl hl (by decide) rfl (fun ls hl => ?_)
    refine lv_aload_n hx hb dX10_laysLine_29 rfl (lv_at hl 2 rfl) ?_
    refine va_get (ci := 10) (v := .ref (z 21)) (C := RX10) (T := TX10) (N := 40) hx hb hg inX10 hown hK hP 2 rfl rfl 21 (by decide) (hg _ q_6_5) (fun _ h9 => h9) rfl dX10_laysLine_30 ?_
    refine lv_iload_n hx hb dX10_laysLine_33 rfl (lv_at hl 1 rfl) ?_
    refine va_iald hx hb hK hP 1 0 rfl rfl (vin (by decide +kernel)) dX10_laysLine_34 ?_
    refine tpi (y := (-1)) (hf_2 0 (by decide)) ?_
    refine lv_iconst (v := (-1)) hx hb dX10_laysLine_35 (by decide) ?_
    refine lv_icmp_ne (tgt := 73) hx hb dX10_laysLine_36 (by decide) (fun c_6 => absurd c_6 (by decide)) (fun _ => ?_)
    refine lv_aload_n hx hb dX10_laysLine_39 rfl (lv_at hl 2 rfl) ?_
    refine va_get (ci := 10) (v := .ref (z 21)) (C := RX10) (T := TX10) (N := 40) hx hb hg inX10 hown hK hP 2 rfl rfl 21 (by decide) (hg _ q_6_5) (fun _ h9 => h9) rfl dX10_laysLine_40 ?_
    refine lv_iload_n hx hb dX10_laysLine_43 rfl (lv_at hl 1 rfl) ?_
    refine lv_iload_n hx hb dX10_laysLine_44 rfl (lv_at hl 0 rfl) ?_
    refine va_iast hx hb hK hP hD hS 1 0 rfl rfl (vin (by decide +kernel)) dX10_laysLine_45 (fun H locs hP hD hS => ?_)
    have hP : va_P V.1 vwCl [(z 20, aI V 10001 (fun _ => 0)), (z 21, aI V 10000 (upd f_2 0 0)), (z 0, .inr (10, mo z 0 0 0 0 0 0 0 0 0 0 (-1) 0 0 0 0 0)), (z 1, aI V 3075 (fun _ => 0))] H := hP
    have hD : va_D A [(z 20, aI V 10001 (fun _ => 0)), (z 21, aI V 10000 (upd f_2 0 0)), (z 0, .inr (10, mo z 0 0 0 0 0 0 0 0 0 0 (-1) 0 0 0 0 0)), (z 1, aI V 3075 (fun _ => 0))] := hD
    refine lv_aload_n hx hb dX10_laysLine_46 rfl (lv_at hl 2 rfl) ?_
    refine va_get (ci := 10) (v := .ref (z 20)) (C := RX10) (T := TX10) (N := 40) hx hb hg inX10 hown hK hP 2 rfl rfl 20 (by decide) (hg _ q_6_4) (fun _ h9 => h9) rfl dX10_laysLine_47 ?_
    refine lv_iload_n hx hb dX10_laysLine_50 rfl (lv_at hl 0 rfl) ?_
    refine lv_iload_n hx hb dX10_laysLine_51 rfl (lv_at hl 1 rfl) ?_
    refine va_iast hx hb hK hP hD hS 0 0 rfl rfl (vin (by decide +kernel)) dX10_laysLine_52 (fun H locs hP hD hS => ?_)
    have hP : va_P V.1 vwCl [(z 20, aI V 10001 (upd (fun _ => 0) 0 0)), (z 21, aI V 10000 (upd f_2 0 0)), (z 0, .inr (10, mo z 0 0 0 0 0 0 0 0 0 0 (-1) 0 0 0 0 0)), (z 1, aI V 3075 (fun _ => 0))] H := hP
    have hD : va_D A [(z 20, aI V 10001 (upd (fun _ => 0) 0 0)), (z 21, aI V 10000 (upd f_2 0 0)), (z 0, .inr (10, mo z 0 0 0 0 0 0 0 0 0 0 (-1) 0 0 0 0 0)), (z 1, aI V 3075 (fun _ => 0))] := hD
    have hP : va_P V.1 vwCl [(z 20, aI V 10001 (fun _ => 0)), (z 21, aI V 10000 (upd f_2 0 0)), (z 0, .inr (10, mo z 0 0 0 0 0 0 0 0 0 0 (-1) 0 0 0 0 0)), (z 1, aI V 3075 (fun _ => 0))] H := by rw [upd0] at hP; exact hP
    have hD : va_D A [(z 20, aI V 10001 (fun _ => 0)), (z 21, aI V 10000 (upd f_2 0 0)), (z 0, .inr (10, mo z 0 0 0 0 0 0 0 0 0 0 (-1) 0 0 0 0 0)), (z 1, aI V 3075 (fun _ => 0))] := by rw [upd0] at hD; exact hD
    refine lv_iinc (v := 1) (lv' := [(2, .int 1), (1, .int 0), (0, .ref (z 0))]) hx hb dX10_laysLine_53 hl (k := 0) rfl (by decide +kernel) (by decide) rfl (fun ls hl => ?_)
    refine lv_aload_n hx hb dX10_laysLine_56 rfl (lv_at hl 2 rfl) ?_
    refine lv_iload_n hx hb dX10_laysLine_57 rfl (lv_at hl 1 rfl) ?_
    refine lv_iconst (v := 0) hx hb dX10_laysLine_58 (by decide) ?_
    refine lv_aload_n hx hb dX10_laysLine_59 rfl (lv_at hl 2 rfl) ?_
    refine va_get (ci := 10) (v := .ref (z 1)) (C := RX10) (T := TX10) (N := 40) hx hb hg inX10 hown hK hP 2 rfl rfl 1 (by decide) (hg _ q_5_225) (fun _ h9 => h9) rfl dX10_laysLine_60 ?_
    refine lv_bipush (v := 51) hx hb dX10_laysLine_63 (by decide) ?_
    refine va_iald hx hb hK hP 3 0 rfl rfl (vin (by decide +kernel)) dX10_laysLine_65 ?_
    refine tpi (y := 0) (rfl) ?_
    refine jnI (wr := [(z 20, aI V 10001 (fun _ => 0)), (z 21, aI V 10000 (upd f_2 0 0))]) (rnV (rest := []) ⟨hx, hb, hml, hown, hg⟩ (c_X10_nightTo_1 l V z) mt_X10_nightTo q_7_18 ⟨Nat.le_of_ble_eq_true rfl, Nat.le_of_ble_eq_true rfl⟩ hK hP hD hS hA hE [2, 3] rfl rfl 2 rfl rfl rfl rfl hl.1 rfl (Nat.le_of_ble_eq_true rfl) dX10_laysLine_66 ⟨Nat.le_of_ble_eq_true rfl, Nat.le_of_ble_eq_true rfl⟩) hP hD hS hA [2, 3] [0, 1] rfl rfl rfl (by decide) (fun r_7 w H locs hw hP hD hS => ?_)
    obtain ⟨rfl, rfl⟩ := hw
    have hP : va_P V.1 vwCl [(z 20, aI V 10001 (fun _ => 0)), (z 21, aI V 10000 (upd f_2 0 0)), (z 0, .inr (10, mo z 0 0 0 0 0 0 0 0 0 0 (-1) 0 0 0 0 0)), (z 1, aI V 3075 (fun _ => 0))] H := hP
    have hD : va_D A [(z 20, aI V 10001 (fun _ => 0)), (z 21, aI V 10000 (upd f_2 0 0)), (z 0, .inr (10, mo z 0 0 0 0 0 0 0 0 0 0 (-1) 0 0 0 0 0)), (z 1, aI V 3075 (fun _ => 0))] := hD
    refine lv_istore_n (lv' := [(1, .int 0), (2, .int 1), (0, .ref (z 0))]) hx hb dX10_laysLine_69 rfl hl (by decide) rfl (fun ls hl => ?_)
    refine lv_goto (tgt := 29) hx hb dX10_laysLine_70 (by decide) ?_
    refine lv_aload_n hx hb dX10_laysLine_29 rfl (lv_at hl 2 rfl) ?_
    refine va_get (ci := 10) (v := .ref (z 21)) (C := RX10) (T := TX10) (N := 40) hx hb hg inX10 hown hK hP 2 rfl rfl 21 (by decide) (hg _ q_6_5) (fun _ h9 => h9) rfl dX10_laysLine_30 ?_
    refine lv_iload_n hx hb dX10_laysLine_33 rfl (lv_at hl 0 rfl) ?_
    refine va_iald hx hb hK hP 1 0 rfl rfl (vin (by decide +kernel)) dX10_laysLine_34 ?_
    refine tpi (y := 0) (rfl) ?_
    refine lv_iconst (v := (-1)) hx hb dX10_laysLine_35 (by decide) ?_
    refine lv_icmp_ne (tgt := 73) hx hb dX10_laysLine_36 (by decide) (fun _ => ?_) (fun c_8 => absurd c_8 (by decide))
    refine lv_aload_n hx hb dX10_laysLine_73 rfl (lv_at hl 2 rfl) ?_
    refine lv_aload_n hx hb dX10_laysLine_74 rfl (lv_at hl 2 rfl) ?_
    refine va_get (ci := 10) (v := .ref (z 21)) (C := RX10) (T := TX10) (N := 40) hx hb hg inX10 hown hK hP 2 rfl rfl 21 (by decide) (hg _ q_6_5) (fun _ h9 => h9) rfl dX10_laysLine_75 ?_
    refine lv_iload_n hx hb dX10_laysLine_78 rfl (lv_at hl 0 rfl) ?_
    refine va_iald hx hb hK hP 1 0 rfl rfl (vin (by decide +kernel)) dX10_laysLine_79 ?_
    refine tpi (y := 0) (rfl) ?_
    refine va_put (ci := 10) (v := .int 0) (ty := .int) (C := RX10) (T := TX10) (N := 40) hx hb hg inX10 tyX10 tyX10_ok nmX10 hown hK hP hD hS 2 rfl rfl 22 (by decide) (hg _ q_6_6) (fun _ h9 => h9) rfl (by decide +kernel) rfl rfl (Nat.le_of_ble_eq_true rfl) dX10_laysLine_80 (fun H locs hP hD hS => ?_)
    have hP : va_P V.1 vwCl [(z 20, aI V 10001 (fun _ => 0)), (z 21, aI V 10000 (upd f_2 0 0)), (z 0, .inr (10, mo z 0 0 0 0 0 0 0 0 0 0 (-1) 0 0 0 0 0)), (z 1, aI V 3075 (fun _ => 0))] H := hP
    have hD : va_D A [(z 20, aI V 10001 (fun _ => 0)), (z 21, aI V 10000 (upd f_2 0 0)), (z 0, .inr (10, mo z 0 0 0 0 0 0 0 0 0 0 (-1) 0 0 0 0 0)), (z 1, aI V 3075 (fun _ => 0))] := hD
    refine lv_aload_n hx hb dX10_laysLine_83 rfl (lv_at hl 2 rfl) ?_
    refine lv_iload_n hx hb dX10_laysLine_84 rfl (lv_at hl 1 rfl) ?_
    refine lv_aload_n hx hb dX10_laysLine_85 rfl (lv_at hl 2 rfl) ?_
    refine va_get (ci := 10) (v := .int 0) (C := RX10) (T := TX10) (N := 40) hx hb hg inX10 hown hK hP 2 rfl rfl 22 (by decide) (hg _ q_6_6) (fun _ h9 => h9) rfl dX10_laysLine_86 ?_
    refine lv_isub hx hb dX10_laysLine_89 ?_
    refine tpi (y := 1) (by decide +kernel) ?_
    refine va_put (ci := 10) (v := .int 1) (ty := .int) (C := RX10) (T := TX10) (N := 40) hx hb hg inX10 tyX10 tyX10_ok nmX10 hown hK hP hD hS 2 rfl rfl 23 (by decide) (hg _ q_6_7) (fun _ h9 => h9) rfl (by decide +kernel) rfl rfl (Nat.le_of_ble_eq_true rfl) dX10_laysLine_90 (fun H locs hP hD hS => ?_)
    have hP : va_P V.1 vwCl [(z 20, aI V 10001 (fun _ => 0)), (z 21, aI V 10000 (upd f_2 0 0)), (z 0, .inr (10, mo z 0 0 0 0 0 0 0 0 0 0 (-1) 0 0 0 1 0)), (z 1, aI V 3075 (fun _ => 0))] H := hP
    have hD : va_D A [(z 20, aI V 10001 (fun _ => 0)), (z 21, aI V 10000 (upd f_2 0 0)), (z 0, .inr (10, mo z 0 0 0 0 0 0 0 0 0 0 (-1) 0 0 0 1 0)), (z 1, aI V 3075 (fun _ => 0))] := hD
    have hP := subP (ws' := [(z 0, .inr (10, mo z 0 0 0 0 0 0 0 0 0 0 (-1) 0 0 0 1 0)), (z 20, aI V 10001 (fun _ => 0)), (z 21, aI V 10000 (upd f_2 0 0)), (z 1, aI V 3075 (fun _ => 0))]) hP [2, 0, 1, 3] rfl
    have hD := hD.sub (ws' := [(z 0, .inr (10, mo z 0 0 0 0 0 0 0 0 0 0 (-1) 0 0 0 1 0)), (z 20, aI V 10001 (fun _ => 0)), (z 21, aI V 10000 (upd f_2 0 0)), (z 1, aI V 3075 (fun _ => 0))]) [2, 0, 1, 3] rfl rfl
    exact fiV hx hb hr hlk hK hP hD hS dX10_laysLine_93 (Nat.le_of_ble_eq_true rfl) (Nat.le_of_ble_eq_true rfl) (⟨f_2, rfl⟩)
  · have e_4 : i_1 < 10000 := by rcases Nat.lt_or_ge i_1 10000 with q9 | q9; exact q9; exact absurd (nI_le q9 (by omega)) c_3
    refine lv_aload_n hx hb dX10_laysLine_9 rfl (lv_at hl 1 rfl) ?_
    refine va_get (ci := 10) (v := .ref (z 21)) (C := RX10) (T := TX10) (N := 40) hx hb hg inX10 hown hK hP 0 rfl rfl 21 (by decide) (hg _ q_6_5) (fun _ h9 => h9) rfl dX10_laysLine_10 ?_
    refine lv_iload_n hx hb dX10_laysLine_13 rfl (lv_at hl 0 rfl) ?_
    refine lv_iconst (v := (-1)) hx hb dX10_laysLine_14 (by decide) ?_
    refine va_iast hx hb hK hP hD hS 2 0 rfl rfl (vp_in_nI (by omega) (by decide)) dX10_laysLine_15 (fun H locs hP hD hS => ?_)
    have hP : va_P V.1 vwCl [(z 0, .inr (10, mo z 0 0 0 0 0 0 0 0 0 0 (-1) 0 0 0 0 0)), (z 20, aI V 10001 (fun _ => 0)), (z 21, aI V 10000 (upd f_2 (nI i_1).toNatClampNeg (-1))), (z 1, aI V 3075 (fun _ => 0))] H := hP
    have hD : va_D A [(z 0, .inr (10, mo z 0 0 0 0 0 0 0 0 0 0 (-1) 0 0 0 0 0)), (z 20, aI V 10001 (fun _ => 0)), (z 21, aI V 10000 (upd f_2 (nI i_1).toNatClampNeg (-1))), (z 1, aI V 3075 (fun _ => 0))] := hD
    refine lv_iinc (v := nI (i_1 + 1)) (lv' := [(1, .int (nI (i_1 + 1))), (0, .ref (z 0))]) hx hb dX10_laysLine_16 hl (k := 0) rfl (nI_add i_1 1) (by decide) rfl (fun ls hl => ?_)
    refine lv_goto (tgt := 2) hx hb dX10_laysLine_19 (by decide) ?_
    exact ih_i_1 e_4 _ _ _ ⟨(upd f_2 (nI i_1).toNatClampNeg (-1)), (by omega), (fill_s hf_2 (by omega)), hP, hD, hS, lv_sub hl [0, 1] rfl⟩
theorem dX10_round_0 : decode cX10_round 0 = .ok (.aload_n 0, 1) := by decide +kernel
theorem dX10_round_1 : decode cX10_round 1 = .ok (.iconst 0, 1) := by decide +kernel
theorem dX10_round_2 : decode cX10_round 2 = .ok (.putfield 1, 3) := by decide +kernel
theorem dX10_round_5 : decode cX10_round 5 = .ok (.iload_n 1, 1) := by decide +kernel
theorem dX10_round_6 : decode cX10_round 6 = .ok (.i2l, 1) := by decide +kernel
theorem dX10_round_7 : decode cX10_round 7 = .ok (.lconst 0, 1) := by decide +kernel
theorem dX10_round_8 : decode cX10_round 8 = .ok (.lconst 1, 1) := by decide +kernel
theorem dX10_round_9 : decode cX10_round 9 = .ok (.invokestatic 159, 3) := by decide +kernel
theorem dX10_round_12 : decode cX10_round 12 = .ok (.ifCond .ne 6, 3) := by decide +kernel
theorem dX10_round_15 : decode cX10_round 15 = .ok (.bipush (-2), 2) := by decide +kernel
theorem dX10_round_17 : decode cX10_round 17 = .ok (.ireturn, 1) := by decide +kernel
theorem dX10_round_18 : decode cX10_round 18 = .ok (.aload_n 0, 1) := by decide +kernel
theorem q_7_161 : Cond.code yX10_laysLine prog_12_method_76_code 3 none ∈ gw := gw_7 (i := 161) (rfl) rfl
theorem q_7_160 : Cond.instanceMethod yX10_laysLine ∈ gw := gw_7 (i := 160) (by decide +kernel) rfl
theorem q_s_101 : Cond.selects "BeaconDelayModel" yX10_laysLine yX10_laysLine ∈ gw := gw_s (i := 101) (by decide +kernel) rfl
theorem mt_X10_laysLine : MtV yX10_laysLine cX10_laysLine 3 none 0 := ⟨⟨q_7_161, q_1_9, by decide +kernel, by decide +kernel, by decide +kernel⟩, q_7_160, q_s_101⟩
theorem q_7_158 : Cond.methodLink "BeaconDelayModel" 349 yX10_laysLine ∈ gw := gw_7 (i := 158) (by decide +kernel) rfl
theorem dX10_round_19 : decode cX10_round 19 = .ok (.invokevirtual 349, 3) := by decide +kernel
theorem dX10_round_22 : decode cX10_round 22 = .ok (.iload_n 1, 1) := by decide +kernel
theorem dX10_round_23 : decode cX10_round 23 = .ok (.ifCond .ne 10, 3) := by decide +kernel
theorem dX10_round_33 : decode cX10_round 33 = .ok (.aload_n 0, 1) := by decide +kernel
theorem dX10_round_34 : decode cX10_round 34 = .ok (.getfield 344, 3) := by decide +kernel
theorem dX10_round_37 : decode cX10_round 37 = .ok (.ireturn, 1) := by decide +kernel
theorem dX10_round_26 : decode cX10_round 26 = .ok (.aload_n 0, 1) := by decide +kernel
theorem dX10_round_27 : decode cX10_round 27 = .ok (.getfield 341, 3) := by decide +kernel
theorem dX10_round_30 : decode cX10_round 30 = .ok (.goto 7, 3) := by decide +kernel
set_option maxHeartbeats 4000000 in
set_option maxRecDepth 100000 in
theorem c_X10_round_0 (l : Launch) (V : GV) (z : Nat → Nat) (p0 : Int32) : Ct l V yX10_round (.code yX10_round cX10_round 2 (some .int)) 3 [.ref (z 0), .int p0] [(z 0, .inr (10, mo z 0 0 0 0 0 0 0 0 0 0 (-1) 0 0 0 0 0)), (z 20, aI V 10001 (fun _ => 0)), (z 21, aI V 10000 (fun _ => 0)), (z 1, aI V 3075 (fun _ => 0))] 0 0 (QI V (fun (r : Int32) (w : va_W) => (p0.toInt64 < 0 ∧ r = (-2) ∧ w = [(z 0, .inr (10, mo z 0 0 0 0 0 0 0 0 0 0 (-1) 0 0 0 0 0)), (z 20, aI V 10001 (fun _ => 0)), (z 21, aI V 10000 (fun _ => 0)), (z 1, aI V 3075 (fun _ => 0))]) ∨ ((¬ p0.toInt64 < 0) ∧ 1 < p0.toInt64 ∧ r = (-2) ∧ w = [(z 0, .inr (10, mo z 0 0 0 0 0 0 0 0 0 0 (-1) 0 0 0 0 0)), (z 20, aI V 10001 (fun _ => 0)), (z 21, aI V 10000 (fun _ => 0)), (z 1, aI V 3075 (fun _ => 0))]) ∨ (∃ (f_10 : Nat → Int32), (¬ p0.toInt64 < 0) ∧ (¬ 1 < p0.toInt64) ∧ (¬ p0 = 0) ∧ r = 1 ∧ w = [(z 0, .inr (10, mo z 0 0 0 0 0 0 0 0 0 0 (-1) 0 0 0 1 0)), (z 20, aI V 10001 (fun _ => 0)), (z 21, aI V 10000 (upd f_10 0 0)), (z 1, aI V 3075 (fun _ => 0))]) ∨ (∃ (f_10 : Nat → Int32), (¬ p0.toInt64 < 0) ∧ (¬ 1 < p0.toInt64) ∧ p0 = 0 ∧ r = 0 ∧ w = [(z 0, .inr (10, mo z 0 0 0 0 0 0 0 0 0 0 (-1) 0 0 0 1 0)), (z 20, aI V 10001 (fun _ => 0)), (z 21, aI V 10000 (upd f_10 0 0)), (z 1, aI V 3075 (fun _ => 0))]))) := by
  refine Ct.of (by decide) (Nat.le_of_ble_eq_true rfl) (fun p e s m below meth c A ls hx hb hr hml hown hlk hnm hg hP hK hD hE hA hS hl => ?_)
  have hl : lv_has ls 2 [(0, .ref (z 0)), (1, .int p0)] := hl
  refine lv_aload_n hx hb dX10_round_0 rfl (lv_at hl 0 rfl) ?_
  refine lv_iconst (v := 0) hx hb dX10_round_1 (by decide) ?_
  refine va_put (ci := 10) (v := .int 0) (ty := .int) (C := RX10) (T := TX10) (N := 40) hx hb hg inX10 tyX10 tyX10_ok nmX10 hown hK hP hD hS 0 rfl rfl 0 (by decide) (hg _ q_5_224) (fun _ h9 => h9) rfl (by decide +kernel) rfl rfl (Nat.le_of_ble_eq_true rfl) dX10_round_2 (fun H locs hP hD hS => ?_)
  have hP : va_P V.1 vwCl [(z 0, .inr (10, mo z 0 0 0 0 0 0 0 0 0 0 (-1) 0 0 0 0 0)), (z 20, aI V 10001 (fun _ => 0)), (z 21, aI V 10000 (fun _ => 0)), (z 1, aI V 3075 (fun _ => 0))] H := hP
  have hD : va_D A [(z 0, .inr (10, mo z 0 0 0 0 0 0 0 0 0 0 (-1) 0 0 0 0 0)), (z 20, aI V 10001 (fun _ => 0)), (z 21, aI V 10000 (fun _ => 0)), (z 1, aI V 3075 (fun _ => 0))] := hD
  refine lv_iload_n hx hb dX10_round_5 rfl (lv_at hl 1 rfl) ?_
  refine lv_i2l (v := p0.toInt64) hx hb dX10_round_6 rfl ?_
  refine lv_lconst (v := 0) hx hb dX10_round_7 (by decide) ?_
  refine lv_lconst (v := 1) hx hb dX10_round_8 (by decide) ?_
  refine jnI (wr := [(z 0, .inr (10, mo z 0 0 0 0 0 0 0 0 0 0 (-1) 0 0 0 0 0)), (z 20, aI V 10001 (fun _ => 0)), (z 21, aI V 10000 (fun _ => 0)), (z 1, aI V 3075 (fun _ => 0))]) (rnS (rest := []) ⟨hx, hb, hml, hown, hg⟩ (c_X10_within_0 l V p0.toInt64 0 1) mt_X10_within q_6_114 ⟨Nat.le_of_ble_eq_true rfl, Nat.le_of_ble_eq_true rfl⟩ hK hP hD hS hA hE [] rfl rfl rfl hl.1 rfl (Nat.le_of_ble_eq_true rfl) dX10_round_9 ⟨Nat.le_of_ble_eq_true rfl, Nat.le_of_ble_eq_true rfl⟩) hP hD hS hA [] [0, 1, 2, 3] rfl rfl rfl (by decide) (fun r_1 w H locs hw hP hD hS => ?_)
  rcases hw with ⟨c_2, rfl, rfl⟩ | ⟨c_3, c_4, rfl, rfl⟩ | ⟨c_5, c_6, rfl, rfl⟩
  · have hP : va_P V.1 vwCl [(z 0, .inr (10, mo z 0 0 0 0 0 0 0 0 0 0 (-1) 0 0 0 0 0)), (z 20, aI V 10001 (fun _ => 0)), (z 21, aI V 10000 (fun _ => 0)), (z 1, aI V 3075 (fun _ => 0))] H := hP
    have hD : va_D A [(z 0, .inr (10, mo z 0 0 0 0 0 0 0 0 0 0 (-1) 0 0 0 0 0)), (z 20, aI V 10001 (fun _ => 0)), (z 21, aI V 10000 (fun _ => 0)), (z 1, aI V 3075 (fun _ => 0))] := hD
    refine lv_if_ne (tgt := 18) hx hb dX10_round_12 (by decide) (fun c_7 => absurd c_7 (by decide)) (fun _ => ?_)
    refine lv_bipush (v := (-2)) hx hb dX10_round_15 (by decide) ?_
    exact fiI hx hb hr hlk hK hP hD hS dX10_round_17 (Nat.le_of_ble_eq_true rfl) (Nat.le_of_ble_eq_true rfl) (Or.inl ⟨c_2, rfl, rfl⟩)
  · have hP : va_P V.1 vwCl [(z 0, .inr (10, mo z 0 0 0 0 0 0 0 0 0 0 (-1) 0 0 0 0 0)), (z 20, aI V 10001 (fun _ => 0)), (z 21, aI V 10000 (fun _ => 0)), (z 1, aI V 3075 (fun _ => 0))] H := hP
    have hD : va_D A [(z 0, .inr (10, mo z 0 0 0 0 0 0 0 0 0 0 (-1) 0 0 0 0 0)), (z 20, aI V 10001 (fun _ => 0)), (z 21, aI V 10000 (fun _ => 0)), (z 1, aI V 3075 (fun _ => 0))] := hD
    refine lv_if_ne (tgt := 18) hx hb dX10_round_12 (by decide) (fun c_8 => absurd c_8 (by decide)) (fun _ => ?_)
    refine lv_bipush (v := (-2)) hx hb dX10_round_15 (by decide) ?_
    exact fiI hx hb hr hlk hK hP hD hS dX10_round_17 (Nat.le_of_ble_eq_true rfl) (Nat.le_of_ble_eq_true rfl) (Or.inr (Or.inl ⟨c_3, c_4, rfl, rfl⟩))
  · have hP : va_P V.1 vwCl [(z 0, .inr (10, mo z 0 0 0 0 0 0 0 0 0 0 (-1) 0 0 0 0 0)), (z 20, aI V 10001 (fun _ => 0)), (z 21, aI V 10000 (fun _ => 0)), (z 1, aI V 3075 (fun _ => 0))] H := hP
    have hD : va_D A [(z 0, .inr (10, mo z 0 0 0 0 0 0 0 0 0 0 (-1) 0 0 0 0 0)), (z 20, aI V 10001 (fun _ => 0)), (z 21, aI V 10000 (fun _ => 0)), (z 1, aI V 3075 (fun _ => 0))] := hD
    refine lv_if_ne (tgt := 18) hx hb dX10_round_12 (by decide) (fun _ => ?_) (fun c_9 => absurd c_9 (by decide))
    refine lv_aload_n hx hb dX10_round_18 rfl (lv_at hl 0 rfl) ?_
    refine jnV (wr := []) (rnV (rest := []) ⟨hx, hb, hml, hown, hg⟩ (c_X10_laysLine_0 l V z) mt_X10_laysLine q_7_158 ⟨Nat.le_of_ble_eq_true rfl, Nat.le_of_ble_eq_true rfl⟩ hK hP hD hS hA hE [0, 1, 2, 3] rfl rfl 0 rfl rfl rfl rfl hl.1 rfl (Nat.le_of_ble_eq_true rfl) dX10_round_19 ⟨Nat.le_of_ble_eq_true rfl, Nat.le_of_ble_eq_true rfl⟩) hP hD hS hA [0, 1, 2, 3] [] rfl rfl rfl (by decide) (fun  w H locs hw hP hD hS => ?_)
    obtain ⟨f_10, rfl⟩ := hw
    have hP : va_P V.1 vwCl [(z 0, .inr (10, mo z 0 0 0 0 0 0 0 0 0 0 (-1) 0 0 0 1 0)), (z 20, aI V 10001 (fun _ => 0)), (z 21, aI V 10000 (upd f_10 0 0)), (z 1, aI V 3075 (fun _ => 0))] H := hP
    have hD : va_D A [(z 0, .inr (10, mo z 0 0 0 0 0 0 0 0 0 0 (-1) 0 0 0 1 0)), (z 20, aI V 10001 (fun _ => 0)), (z 21, aI V 10000 (upd f_10 0 0)), (z 1, aI V 3075 (fun _ => 0))] := hD
    refine lv_iload_n hx hb dX10_round_22 rfl (lv_at hl 1 rfl) ?_
    refine lv_if_ne (tgt := 33) hx hb dX10_round_23 (by decide) (fun c_11 => ?_) (fun c_11 => ?_)
    · refine lv_aload_n hx hb dX10_round_33 rfl (lv_at hl 0 rfl) ?_
      refine va_get (ci := 10) (v := .int 1) (C := RX10) (T := TX10) (N := 40) hx hb hg inX10 hown hK hP 0 rfl rfl 23 (by decide) (hg _ q_6_7) (fun _ h9 => h9) rfl dX10_round_34 ?_
      exact fiI hx hb hr hlk hK hP hD hS dX10_round_37 (Nat.le_of_ble_eq_true rfl) (Nat.le_of_ble_eq_true rfl) (Or.inr (Or.inr (Or.inl ⟨f_10, c_5, c_6, c_11, rfl, rfl⟩)))
    · refine lv_aload_n hx hb dX10_round_26 rfl (lv_at hl 0 rfl) ?_
      refine va_get (ci := 10) (v := .int 0) (C := RX10) (T := TX10) (N := 40) hx hb hg inX10 hown hK hP 0 rfl rfl 22 (by decide) (hg _ q_6_6) (fun _ h9 => h9) rfl dX10_round_27 ?_
      refine lv_goto (tgt := 37) hx hb dX10_round_30 (by decide) ?_
      exact fiI hx hb hr hlk hK hP hD hS dX10_round_37 (Nat.le_of_ble_eq_true rfl) (Nat.le_of_ble_eq_true rfl) (Or.inr (Or.inr (Or.inr (⟨f_10, c_5, c_6, c_11, rfl, rfl⟩))))
theorem dX0_follow_0 : decode cX0_follow 0 = .ok (.iload_n 2, 1) := by decide +kernel
theorem dX0_follow_1 : decode cX0_follow 1 = .ok (.istore 4, 2) := by decide +kernel
theorem dX0_follow_3 : decode cX0_follow 3 = .ok (.aload_n 1, 1) := by decide +kernel
theorem dX0_follow_4 : decode cX0_follow 4 = .ok (.iload_n 2, 1) := by decide +kernel
theorem dX0_follow_5 : decode cX0_follow 5 = .ok (.iload_n 3, 1) := by decide +kernel
theorem dX0_follow_6 : decode cX0_follow 6 = .ok (.iconst 0, 1) := by decide +kernel
theorem q_4_26 : Cond.methodLink "BeaconDelay$Calm" 9 yX4_behind ∈ gw := gw_4 (i := 26) (by decide +kernel) rfl
theorem dX0_follow_7 : decode cX0_follow 7 = .ok (.invokevirtual 9, 3) := by decide +kernel
theorem dX0_follow_10 : decode cX0_follow 10 = .ok (.istore 5, 2) := by decide +kernel
theorem dX0_follow_12 : decode cX0_follow 12 = .ok (.iconst 1, 1) := by decide +kernel
theorem dX0_follow_13 : decode cX0_follow 13 = .ok (.istore 6, 2) := by decide +kernel
theorem dX0_follow_15 : decode cX0_follow 15 = .ok (.aload_n 0, 1) := by decide +kernel
theorem dX0_follow_16 : decode cX0_follow 16 = .ok (.iconst 1, 1) := by decide +kernel
theorem q_1_198 : Cond.fieldLink "BeaconDelay$Calm" 15 "BeaconDelay$Calm" "period" "I" ∈ gw := gw_1 (i := 198) (by decide +kernel) rfl
theorem dX0_follow_17 : decode cX0_follow 17 = .ok (.putfield 15, 3) := by decide +kernel
theorem dX0_follow_20 : decode cX0_follow 20 = .ok (.iconst 0, 1) := by decide +kernel
theorem dX0_follow_21 : decode cX0_follow 21 = .ok (.istore 7, 2) := by decide +kernel
theorem dX0_follow_23 : decode cX0_follow 23 = .ok (.iload 7, 2) := by decide +kernel
theorem q_4_27 : Cond.constant "BeaconDelay$Calm" 21 (1000000 : Int32) ∈ gw := gw_4 (i := 27) (by decide +kernel) rfl
theorem dX0_follow_25 : decode cX0_follow 25 = .ok (.ldc 21, 2) := by decide +kernel
theorem dX0_follow_27 : decode cX0_follow 27 = .ok (.if_icmp .ge 60, 3) := by decide +kernel
theorem dX0_follow_30 : decode cX0_follow 30 = .ok (.iload 4, 2) := by decide +kernel
theorem dX0_follow_32 : decode cX0_follow 32 = .ok (.iload 5, 2) := by decide +kernel
theorem dX0_follow_34 : decode cX0_follow 34 = .ok (.if_icmp .eq 53, 3) := by decide +kernel
theorem dX0_follow_87 : decode cX0_follow 87 = .ok (.iload_n 2, 1) := by decide +kernel
theorem dX0_follow_88 : decode cX0_follow 88 = .ok (.istore 7, 2) := by decide +kernel
theorem dX0_follow_90 : decode cX0_follow 90 = .ok (.iconst 0, 1) := by decide +kernel
theorem dX0_follow_91 : decode cX0_follow 91 = .ok (.istore 8, 2) := by decide +kernel
theorem dX0_follow_93 : decode cX0_follow 93 = .ok (.iload 8, 2) := by decide +kernel
theorem dX0_follow_95 : decode cX0_follow 95 = .ok (.aload_n 0, 1) := by decide +kernel
theorem dX0_follow_96 : decode cX0_follow 96 = .ok (.getfield 15, 3) := by decide +kernel
theorem dX0_follow_99 : decode cX0_follow 99 = .ok (.if_icmp .ge 19, 3) := by decide +kernel
theorem dX0_follow_102 : decode cX0_follow 102 = .ok (.aload_n 1, 1) := by decide +kernel
theorem dX0_follow_103 : decode cX0_follow 103 = .ok (.iload 7, 2) := by decide +kernel
theorem dX0_follow_105 : decode cX0_follow 105 = .ok (.iload_n 3, 1) := by decide +kernel
theorem dX0_follow_106 : decode cX0_follow 106 = .ok (.iconst 0, 1) := by decide +kernel
theorem dX0_follow_107 : decode cX0_follow 107 = .ok (.invokevirtual 9, 3) := by decide +kernel
theorem dX0_follow_110 : decode cX0_follow 110 = .ok (.istore 7, 2) := by decide +kernel
theorem dX0_follow_112 : decode cX0_follow 112 = .ok (.iinc 8 1, 3) := by decide +kernel
theorem dX0_follow_115 : decode cX0_follow 115 = .ok (.goto (-22), 3) := by decide +kernel
theorem dX0_follow_118 : decode cX0_follow 118 = .ok (.iload_n 2, 1) := by decide +kernel
theorem dX0_follow_119 : decode cX0_follow 119 = .ok (.istore 8, 2) := by decide +kernel
theorem dX0_follow_121 : decode cX0_follow 121 = .ok (.aload_n 0, 1) := by decide +kernel
theorem dX0_follow_122 : decode cX0_follow 122 = .ok (.iconst 0, 1) := by decide +kernel
theorem q_1_196 : Cond.fieldLink "BeaconDelay$Calm" 22 "BeaconDelay$Calm" "tail" "I" ∈ gw := gw_1 (i := 196) (by decide +kernel) rfl
theorem dX0_follow_123 : decode cX0_follow 123 = .ok (.putfield 22, 3) := by decide +kernel
theorem dX0_follow_126 : decode cX0_follow 126 = .ok (.iconst 0, 1) := by decide +kernel
theorem dX0_follow_127 : decode cX0_follow 127 = .ok (.istore 9, 2) := by decide +kernel
theorem dX0_follow_129 : decode cX0_follow 129 = .ok (.iload 9, 2) := by decide +kernel
theorem dX0_follow_131 : decode cX0_follow 131 = .ok (.ldc 21, 2) := by decide +kernel
theorem dX0_follow_133 : decode cX0_follow 133 = .ok (.if_icmp .ge 46, 3) := by decide +kernel
theorem dX0_follow_136 : decode cX0_follow 136 = .ok (.iload 8, 2) := by decide +kernel
theorem dX0_follow_138 : decode cX0_follow 138 = .ok (.iload 7, 2) := by decide +kernel
theorem dX0_follow_140 : decode cX0_follow 140 = .ok (.if_icmp .eq 39, 3) := by decide +kernel
theorem dX0_follow_179 : decode cX0_follow 179 = .ok (.return_, 1) := by decide +kernel
set_option maxHeartbeats 4000000 in
set_option maxRecDepth 100000 in
theorem c_X0_follow_0 (l : Launch) (V : GV) (y : Nat → Nat) : Ct l V yX0_follow (.code yX0_follow cX0_follow 10 none) 2 [.ref (y 25), .ref (y 19), .int 0, .int 0] [(y 2, .inr (1, [.int 0, .int 0, .int 0, .int 0, .int 0, .int 0, .ref (y 3), .ref (y 4), .ref (y 5), .ref (y 6), .ref (y 7), .ref (y 8), .ref (y 9), .int 0, .int 0, .int 0, .int 0, .int 0])), (y 19, .inr (4, [.ref (y 2), .ref (y 20), .ref (y 21), .ref (y 22), .ref (y 23), .ref (y 24)])), (y 25, .inr (0, [.int 0, .int 0]))] 0 0 (QV V (fun (w : va_W) => (w = [(y 2, .inr (1, [.int 0, .int 0, .int 0, .int 0, .int 0, .int 0, .ref (y 3), .ref (y 4), .ref (y 5), .ref (y 6), .ref (y 7), .ref (y 8), .ref (y 9), .int 0, .int 0, .int 0, .int 0, .int 0])), (y 19, .inr (4, [.ref (y 2), .ref (y 20), .ref (y 21), .ref (y 22), .ref (y 23), .ref (y 24)])), (y 25, .inr (0, [.int 0, .int 1]))]))) := by
  refine Ct.of (by decide) (Nat.le_of_ble_eq_true rfl) (fun p e s m below meth c A ls hx hb hr hml hown hlk hnm hg hP hK hD hE hA hS hl => ?_)
  have hl : lv_has ls 10 [(0, .ref (y 25)), (1, .ref (y 19)), (2, .int 0), (3, .int 0)] := hl
  refine lv_iload_n hx hb dX0_follow_0 rfl (lv_at hl 2 rfl) ?_
  refine lv_istore (lv' := [(4, .int 0), (0, .ref (y 25)), (1, .ref (y 19)), (2, .int 0), (3, .int 0)]) hx hb dX0_follow_1 hl (by decide) rfl (fun ls hl => ?_)
  refine lv_aload_n hx hb dX0_follow_3 rfl (lv_at hl 2 rfl) ?_
  refine lv_iload_n hx hb dX0_follow_4 rfl (lv_at hl 3 rfl) ?_
  refine lv_iload_n hx hb dX0_follow_5 rfl (lv_at hl 4 rfl) ?_
  refine lv_iconst (v := 0) hx hb dX0_follow_6 (by decide) ?_
  refine jnI (wr := [(y 25, .inr (0, [.int 0, .int 0]))]) (rnV (rest := []) ⟨hx, hb, hml, hown, hg⟩ (c_X4_behind_1 l V y) mt_X4_behind q_4_26 ⟨Nat.le_of_ble_eq_true rfl, Nat.le_of_ble_eq_true rfl⟩ hK hP hD hS hA hE [0, 1] rfl rfl 1 rfl rfl rfl rfl hl.1 rfl (Nat.le_of_ble_eq_true rfl) dX0_follow_7 ⟨Nat.le_of_ble_eq_true rfl, Nat.le_of_ble_eq_true rfl⟩) hP hD hS hA [0, 1] [2] rfl rfl rfl (by decide) (fun r_1 w H locs hw hP hD hS => ?_)
  obtain ⟨rfl, rfl⟩ := hw
  have hP : va_P V.1 vwCl [(y 25, .inr (0, [.int 0, .int 0])), (y 2, .inr (1, [.int 0, .int 0, .int 0, .int 0, .int 0, .int 0, .ref (y 3), .ref (y 4), .ref (y 5), .ref (y 6), .ref (y 7), .ref (y 8), .ref (y 9), .int 0, .int 0, .int 0, .int 0, .int 0])), (y 19, .inr (4, [.ref (y 2), .ref (y 20), .ref (y 21), .ref (y 22), .ref (y 23), .ref (y 24)]))] H := hP
  have hD : va_D A [(y 25, .inr (0, [.int 0, .int 0])), (y 2, .inr (1, [.int 0, .int 0, .int 0, .int 0, .int 0, .int 0, .ref (y 3), .ref (y 4), .ref (y 5), .ref (y 6), .ref (y 7), .ref (y 8), .ref (y 9), .int 0, .int 0, .int 0, .int 0, .int 0])), (y 19, .inr (4, [.ref (y 2), .ref (y 20), .ref (y 21), .ref (y 22), .ref (y 23), .ref (y 24)]))] := hD
  refine lv_istore (lv' := [(5, .int 0), (4, .int 0), (0, .ref (y 25)), (1, .ref (y 19)), (2, .int 0), (3, .int 0)]) hx hb dX0_follow_10 hl (by decide) rfl (fun ls hl => ?_)
  refine lv_iconst (v := 1) hx hb dX0_follow_12 (by decide) ?_
  refine lv_istore (lv' := [(6, .int 1), (5, .int 0), (4, .int 0), (0, .ref (y 25)), (1, .ref (y 19)), (2, .int 0), (3, .int 0)]) hx hb dX0_follow_13 hl (by decide) rfl (fun ls hl => ?_)
  refine lv_aload_n hx hb dX0_follow_15 rfl (lv_at hl 3 rfl) ?_
  refine lv_iconst (v := 1) hx hb dX0_follow_16 (by decide) ?_
  refine va_put (ci := 0) (v := .int 1) (ty := .int) (C := RX0) (T := TX0) (N := 2) hx hb hg inX0 tyX0 tyX0_ok nmX0 hown hK hP hD hS 0 rfl rfl 1 (by decide) (hg _ q_1_198) (fun _ h9 => h9) rfl (by decide +kernel) rfl rfl (Nat.le_of_ble_eq_true rfl) dX0_follow_17 (fun H locs hP hD hS => ?_)
  have hP : va_P V.1 vwCl [(y 25, .inr (0, [.int 0, .int 1])), (y 2, .inr (1, [.int 0, .int 0, .int 0, .int 0, .int 0, .int 0, .ref (y 3), .ref (y 4), .ref (y 5), .ref (y 6), .ref (y 7), .ref (y 8), .ref (y 9), .int 0, .int 0, .int 0, .int 0, .int 0])), (y 19, .inr (4, [.ref (y 2), .ref (y 20), .ref (y 21), .ref (y 22), .ref (y 23), .ref (y 24)]))] H := hP
  have hD : va_D A [(y 25, .inr (0, [.int 0, .int 1])), (y 2, .inr (1, [.int 0, .int 0, .int 0, .int 0, .int 0, .int 0, .ref (y 3), .ref (y 4), .ref (y 5), .ref (y 6), .ref (y 7), .ref (y 8), .ref (y 9), .int 0, .int 0, .int 0, .int 0, .int 0])), (y 19, .inr (4, [.ref (y 2), .ref (y 20), .ref (y 21), .ref (y 22), .ref (y 23), .ref (y 24)]))] := hD
  refine lv_iconst (v := 0) hx hb dX0_follow_20 (by decide) ?_
  refine lv_istore (lv' := [(7, .int 0), (6, .int 1), (5, .int 0), (4, .int 0), (0, .ref (y 25)), (1, .ref (y 19)), (2, .int 0), (3, .int 0)]) hx hb dX0_follow_21 hl (by decide) rfl (fun ls hl => ?_)
  refine lv_iload hx hb dX0_follow_23 (lv_at hl 0 rfl) ?_
  refine lv_ldc (v := 1000000) hx hb hown (hg _ q_4_27) dX0_follow_25 ?_
  refine lv_icmp_ge (tgt := 87) hx hb dX0_follow_27 (by decide) (fun c_2 => absurd c_2 (by decide)) (fun _ => ?_)
  refine lv_iload hx hb dX0_follow_30 (lv_at hl 3 rfl) ?_
  refine lv_iload hx hb dX0_follow_32 (lv_at hl 2 rfl) ?_
  refine lv_icmp_eq (tgt := 87) hx hb dX0_follow_34 (by decide) (fun _ => ?_) (fun c_3 => absurd c_3 (by decide))
  refine lv_iload_n hx hb dX0_follow_87 rfl (lv_at hl 6 rfl) ?_
  refine lv_istore (lv' := [(7, .int 0), (6, .int 1), (5, .int 0), (4, .int 0), (0, .ref (y 25)), (1, .ref (y 19)), (2, .int 0), (3, .int 0)]) hx hb dX0_follow_88 hl (by decide) rfl (fun ls hl => ?_)
  refine lv_iconst (v := 0) hx hb dX0_follow_90 (by decide) ?_
  refine lv_istore (lv' := [(8, .int 0), (7, .int 0), (6, .int 1), (5, .int 0), (4, .int 0), (0, .ref (y 25)), (1, .ref (y 19)), (2, .int 0), (3, .int 0)]) hx hb dX0_follow_91 hl (by decide) rfl (fun ls hl => ?_)
  refine lv_iload hx hb dX0_follow_93 (lv_at hl 0 rfl) ?_
  refine lv_aload_n hx hb dX0_follow_95 rfl (lv_at hl 5 rfl) ?_
  refine va_get (ci := 0) (v := .int 1) (C := RX0) (T := TX0) (N := 2) hx hb hg inX0 hown hK hP 0 rfl rfl 1 (by decide) (hg _ q_1_198) (fun _ h9 => h9) rfl dX0_follow_96 ?_
  refine lv_icmp_ge (tgt := 118) hx hb dX0_follow_99 (by decide) (fun c_4 => absurd c_4 (by decide)) (fun _ => ?_)
  refine lv_aload_n hx hb dX0_follow_102 rfl (lv_at hl 6 rfl) ?_
  refine lv_iload hx hb dX0_follow_103 (lv_at hl 1 rfl) ?_
  refine lv_iload_n hx hb dX0_follow_105 rfl (lv_at hl 8 rfl) ?_
  refine lv_iconst (v := 0) hx hb dX0_follow_106 (by decide) ?_
  refine jnI (wr := [(y 25, .inr (0, [.int 0, .int 1]))]) (rnV (rest := []) ⟨hx, hb, hml, hown, hg⟩ (c_X4_behind_1 l V y) mt_X4_behind q_4_26 ⟨Nat.le_of_ble_eq_true rfl, Nat.le_of_ble_eq_true rfl⟩ hK hP hD hS hA hE [1, 2] rfl rfl 2 rfl rfl rfl rfl hl.1 rfl (Nat.le_of_ble_eq_true rfl) dX0_follow_107 ⟨Nat.le_of_ble_eq_true rfl, Nat.le_of_ble_eq_true rfl⟩) hP hD hS hA [1, 2] [0] rfl rfl rfl (by decide) (fun r_5 w H locs hw hP hD hS => ?_)
  obtain ⟨rfl, rfl⟩ := hw
  have hP : va_P V.1 vwCl [(y 25, .inr (0, [.int 0, .int 1])), (y 2, .inr (1, [.int 0, .int 0, .int 0, .int 0, .int 0, .int 0, .ref (y 3), .ref (y 4), .ref (y 5), .ref (y 6), .ref (y 7), .ref (y 8), .ref (y 9), .int 0, .int 0, .int 0, .int 0, .int 0])), (y 19, .inr (4, [.ref (y 2), .ref (y 20), .ref (y 21), .ref (y 22), .ref (y 23), .ref (y 24)]))] H := hP
  have hD : va_D A [(y 25, .inr (0, [.int 0, .int 1])), (y 2, .inr (1, [.int 0, .int 0, .int 0, .int 0, .int 0, .int 0, .ref (y 3), .ref (y 4), .ref (y 5), .ref (y 6), .ref (y 7), .ref (y 8), .ref (y 9), .int 0, .int 0, .int 0, .int 0, .int 0])), (y 19, .inr (4, [.ref (y 2), .ref (y 20), .ref (y 21), .ref (y 22), .ref (y 23), .ref (y 24)]))] := hD
  refine lv_istore (lv' := [(7, .int 0), (8, .int 0), (6, .int 1), (5, .int 0), (4, .int 0), (0, .ref (y 25)), (1, .ref (y 19)), (2, .int 0), (3, .int 0)]) hx hb dX0_follow_110 hl (by decide) rfl (fun ls hl => ?_)
  refine lv_iinc (v := 1) (lv' := [(8, .int 1), (7, .int 0), (6, .int 1), (5, .int 0), (4, .int 0), (0, .ref (y 25)), (1, .ref (y 19)), (2, .int 0), (3, .int 0)]) hx hb dX0_follow_112 hl (k := 1) rfl (by decide +kernel) (by decide) rfl (fun ls hl => ?_)
  refine lv_goto (tgt := 93) hx hb dX0_follow_115 (by decide) ?_
  refine lv_iload hx hb dX0_follow_93 (lv_at hl 0 rfl) ?_
  refine lv_aload_n hx hb dX0_follow_95 rfl (lv_at hl 5 rfl) ?_
  refine va_get (ci := 0) (v := .int 1) (C := RX0) (T := TX0) (N := 2) hx hb hg inX0 hown hK hP 0 rfl rfl 1 (by decide) (hg _ q_1_198) (fun _ h9 => h9) rfl dX0_follow_96 ?_
  refine lv_icmp_ge (tgt := 118) hx hb dX0_follow_99 (by decide) (fun _ => ?_) (fun c_6 => absurd c_6 (by decide))
  refine lv_iload_n hx hb dX0_follow_118 rfl (lv_at hl 7 rfl) ?_
  refine lv_istore (lv' := [(8, .int 0), (7, .int 0), (6, .int 1), (5, .int 0), (4, .int 0), (0, .ref (y 25)), (1, .ref (y 19)), (2, .int 0), (3, .int 0)]) hx hb dX0_follow_119 hl (by decide) rfl (fun ls hl => ?_)
  refine lv_aload_n hx hb dX0_follow_121 rfl (lv_at hl 5 rfl) ?_
  refine lv_iconst (v := 0) hx hb dX0_follow_122 (by decide) ?_
  refine va_put (ci := 0) (v := .int 0) (ty := .int) (C := RX0) (T := TX0) (N := 2) hx hb hg inX0 tyX0 tyX0_ok nmX0 hown hK hP hD hS 0 rfl rfl 0 (by decide) (hg _ q_1_196) (fun _ h9 => h9) rfl (by decide +kernel) rfl rfl (Nat.le_of_ble_eq_true rfl) dX0_follow_123 (fun H locs hP hD hS => ?_)
  have hP : va_P V.1 vwCl [(y 25, .inr (0, [.int 0, .int 1])), (y 2, .inr (1, [.int 0, .int 0, .int 0, .int 0, .int 0, .int 0, .ref (y 3), .ref (y 4), .ref (y 5), .ref (y 6), .ref (y 7), .ref (y 8), .ref (y 9), .int 0, .int 0, .int 0, .int 0, .int 0])), (y 19, .inr (4, [.ref (y 2), .ref (y 20), .ref (y 21), .ref (y 22), .ref (y 23), .ref (y 24)]))] H := hP
  have hD : va_D A [(y 25, .inr (0, [.int 0, .int 1])), (y 2, .inr (1, [.int 0, .int 0, .int 0, .int 0, .int 0, .int 0, .ref (y 3), .ref (y 4), .ref (y 5), .ref (y 6), .ref (y 7), .ref (y 8), .ref (y 9), .int 0, .int 0, .int 0, .int 0, .int 0])), (y 19, .inr (4, [.ref (y 2), .ref (y 20), .ref (y 21), .ref (y 22), .ref (y 23), .ref (y 24)]))] := hD
  refine lv_iconst (v := 0) hx hb dX0_follow_126 (by decide) ?_
  refine lv_istore (lv' := [(9, .int 0), (8, .int 0), (7, .int 0), (6, .int 1), (5, .int 0), (4, .int 0), (0, .ref (y 25)), (1, .ref (y 19)), (2, .int 0), (3, .int 0)]) hx hb dX0_follow_127 hl (by decide) rfl (fun ls hl => ?_)
  refine lv_iload hx hb dX0_follow_129 (lv_at hl 0 rfl) ?_
  refine lv_ldc (v := 1000000) hx hb hown (hg _ q_4_27) dX0_follow_131 ?_
  refine lv_icmp_ge (tgt := 179) hx hb dX0_follow_133 (by decide) (fun c_7 => absurd c_7 (by decide)) (fun _ => ?_)
  refine lv_iload hx hb dX0_follow_136 (lv_at hl 1 rfl) ?_
  refine lv_iload hx hb dX0_follow_138 (lv_at hl 2 rfl) ?_
  refine lv_icmp_eq (tgt := 179) hx hb dX0_follow_140 (by decide) (fun _ => ?_) (fun c_8 => absurd c_8 (by decide))
  have hP := subP (ws' := [(y 2, .inr (1, [.int 0, .int 0, .int 0, .int 0, .int 0, .int 0, .ref (y 3), .ref (y 4), .ref (y 5), .ref (y 6), .ref (y 7), .ref (y 8), .ref (y 9), .int 0, .int 0, .int 0, .int 0, .int 0])), (y 19, .inr (4, [.ref (y 2), .ref (y 20), .ref (y 21), .ref (y 22), .ref (y 23), .ref (y 24)])), (y 25, .inr (0, [.int 0, .int 1]))]) hP [1, 2, 0] rfl
  have hD := hD.sub (ws' := [(y 2, .inr (1, [.int 0, .int 0, .int 0, .int 0, .int 0, .int 0, .ref (y 3), .ref (y 4), .ref (y 5), .ref (y 6), .ref (y 7), .ref (y 8), .ref (y 9), .int 0, .int 0, .int 0, .int 0, .int 0])), (y 19, .inr (4, [.ref (y 2), .ref (y 20), .ref (y 21), .ref (y 22), .ref (y 23), .ref (y 24)])), (y 25, .inr (0, [.int 0, .int 1]))]) [1, 2, 0] rfl rfl
  exact fiV hx hb hr hlk hK hP hD hS dX0_follow_179 (Nat.le_of_ble_eq_true rfl) (Nat.le_of_ble_eq_true rfl) (rfl)
theorem dX9_round_0 : decode cX9_round 0 = .ok (.iload_n 1, 1) := by decide +kernel
theorem dX9_round_1 : decode cX9_round 1 = .ok (.ifCond .eq 11, 3) := by decide +kernel
theorem dX9_round_12 : decode cX9_round 12 = .ok (.aload_n 0, 1) := by decide +kernel
theorem dX9_round_13 : decode cX9_round 13 = .ok (.getfield 41, 3) := by decide +kernel
theorem dX9_round_16 : decode cX9_round 16 = .ok (.aload_n 0, 1) := by decide +kernel
theorem dX9_round_17 : decode cX9_round 17 = .ok (.getfield 34, 3) := by decide +kernel
theorem dX9_round_20 : decode cX9_round 20 = .ok (.aload_n 0, 1) := by decide +kernel
theorem dX9_round_21 : decode cX9_round 21 = .ok (.getfield 113, 3) := by decide +kernel
theorem dX9_round_24 : decode cX9_round 24 = .ok (.aload_n 0, 1) := by decide +kernel
theorem dX9_round_25 : decode cX9_round 25 = .ok (.getfield 116, 3) := by decide +kernel
theorem q_4_25 : Cond.code yX0_follow prog_2_method_2_code 10 none ∈ gw := gw_4 (i := 25) (rfl) rfl
theorem q_4_23 : Cond.instanceMethod yX0_follow ∈ gw := gw_4 (i := 23) (by decide +kernel) rfl
theorem q_4_24 : Cond.selects "BeaconDelay$Calm" yX0_follow yX0_follow ∈ gw := gw_4 (i := 24) (by decide +kernel) rfl
theorem mt_X0_follow : MtV yX0_follow cX0_follow 10 none 3 := ⟨⟨q_4_25, q_1_5, by decide +kernel, by decide +kernel, by decide +kernel⟩, q_4_23, q_4_24⟩
theorem q_4_22 : Cond.methodLink "BeaconDelay" 227 yX0_follow ∈ gw := gw_4 (i := 22) (by decide +kernel) rfl
theorem dX9_round_28 : decode cX9_round 28 = .ok (.invokevirtual 227, 3) := by decide +kernel
theorem dX9_round_31 : decode cX9_round 31 = .ok (.iload_n 1, 1) := by decide +kernel
theorem dX9_round_32 : decode cX9_round 32 = .ok (.ifCond .ne 13, 3) := by decide +kernel
theorem dX9_round_35 : decode cX9_round 35 = .ok (.aload_n 0, 1) := by decide +kernel
theorem dX9_round_36 : decode cX9_round 36 = .ok (.getfield 41, 3) := by decide +kernel
theorem q_1_197 : Cond.fieldLink "BeaconDelay" 231 "BeaconDelay$Calm" "tail" "I" ∈ gw := gw_1 (i := 197) (by decide +kernel) rfl
theorem dX9_round_39 : decode cX9_round 39 = .ok (.getfield 231, 3) := by decide +kernel
theorem dX9_round_42 : decode cX9_round 42 = .ok (.goto 10, 3) := by decide +kernel
theorem dX9_round_52 : decode cX9_round 52 = .ok (.ireturn, 1) := by decide +kernel
theorem dX9_round_4 : decode cX9_round 4 = .ok (.iload_n 1, 1) := by decide +kernel
theorem dX9_round_5 : decode cX9_round 5 = .ok (.iconst 1, 1) := by decide +kernel
theorem dX9_round_6 : decode cX9_round 6 = .ok (.if_icmp .eq 6, 3) := by decide +kernel
theorem dX9_round_45 : decode cX9_round 45 = .ok (.aload_n 0, 1) := by decide +kernel
theorem dX9_round_46 : decode cX9_round 46 = .ok (.getfield 41, 3) := by decide +kernel
theorem q_1_199 : Cond.fieldLink "BeaconDelay" 234 "BeaconDelay$Calm" "period" "I" ∈ gw := gw_1 (i := 199) (by decide +kernel) rfl
theorem dX9_round_49 : decode cX9_round 49 = .ok (.getfield 234, 3) := by decide +kernel
theorem dX9_round_9 : decode cX9_round 9 = .ok (.bipush (-2), 2) := by decide +kernel
theorem dX9_round_11 : decode cX9_round 11 = .ok (.ireturn, 1) := by decide +kernel
set_option maxHeartbeats 4000000 in
set_option maxRecDepth 100000 in
theorem c_X9_round_0 (l : Launch) (V : GV) (y : Nat → Nat) (p0 : Int32) : Ct l V yX9_round (.code yX9_round cX9_round 2 (some .int)) 3 [.ref (y 0), .int p0] [(y 0, .inr (9, [.ref (y 1), .int 0, .ref (y 2), .ref (y 10), .ref (y 19), .ref (y 25), .ref (y 26), .ref (y 30), .ref (y 31), .ref (y 32), .null, .null, .int 0, .int 0, .int 0])), (y 2, .inr (1, [.int 0, .int 0, .int 0, .int 0, .int 0, .int 0, .ref (y 3), .ref (y 4), .ref (y 5), .ref (y 6), .ref (y 7), .ref (y 8), .ref (y 9), .int 0, .int 0, .int 0, .int 0, .int 0])), (y 19, .inr (4, [.ref (y 2), .ref (y 20), .ref (y 21), .ref (y 22), .ref (y 23), .ref (y 24)])), (y 25, .inr (0, [.int 0, .int 0]))] 0 0 (QI V (fun (r : Int32) (w : va_W) => (p0 = 0 ∧ r = 0 ∧ w = [(y 0, .inr (9, [.ref (y 1), .int 0, .ref (y 2), .ref (y 10), .ref (y 19), .ref (y 25), .ref (y 26), .ref (y 30), .ref (y 31), .ref (y 32), .null, .null, .int 0, .int 0, .int 0])), (y 2, .inr (1, [.int 0, .int 0, .int 0, .int 0, .int 0, .int 0, .ref (y 3), .ref (y 4), .ref (y 5), .ref (y 6), .ref (y 7), .ref (y 8), .ref (y 9), .int 0, .int 0, .int 0, .int 0, .int 0])), (y 19, .inr (4, [.ref (y 2), .ref (y 20), .ref (y 21), .ref (y 22), .ref (y 23), .ref (y 24)])), (y 25, .inr (0, [.int 0, .int 1]))]) ∨ ((¬ p0 = 0) ∧ p0 = 1 ∧ r = 1 ∧ w = [(y 0, .inr (9, [.ref (y 1), .int 0, .ref (y 2), .ref (y 10), .ref (y 19), .ref (y 25), .ref (y 26), .ref (y 30), .ref (y 31), .ref (y 32), .null, .null, .int 0, .int 0, .int 0])), (y 2, .inr (1, [.int 0, .int 0, .int 0, .int 0, .int 0, .int 0, .ref (y 3), .ref (y 4), .ref (y 5), .ref (y 6), .ref (y 7), .ref (y 8), .ref (y 9), .int 0, .int 0, .int 0, .int 0, .int 0])), (y 19, .inr (4, [.ref (y 2), .ref (y 20), .ref (y 21), .ref (y 22), .ref (y 23), .ref (y 24)])), (y 25, .inr (0, [.int 0, .int 1]))]) ∨ ((¬ p0 = 0) ∧ (¬ p0 = 1) ∧ r = (-2) ∧ w = [(y 0, .inr (9, [.ref (y 1), .int 0, .ref (y 2), .ref (y 10), .ref (y 19), .ref (y 25), .ref (y 26), .ref (y 30), .ref (y 31), .ref (y 32), .null, .null, .int 0, .int 0, .int 0])), (y 2, .inr (1, [.int 0, .int 0, .int 0, .int 0, .int 0, .int 0, .ref (y 3), .ref (y 4), .ref (y 5), .ref (y 6), .ref (y 7), .ref (y 8), .ref (y 9), .int 0, .int 0, .int 0, .int 0, .int 0])), (y 19, .inr (4, [.ref (y 2), .ref (y 20), .ref (y 21), .ref (y 22), .ref (y 23), .ref (y 24)])), (y 25, .inr (0, [.int 0, .int 0]))]))) := by
  refine Ct.of (by decide) (Nat.le_of_ble_eq_true rfl) (fun p e s m below meth c A ls hx hb hr hml hown hlk hnm hg hP hK hD hE hA hS hl => ?_)
  have hl : lv_has ls 2 [(0, .ref (y 0)), (1, .int p0)] := hl
  refine lv_iload_n hx hb dX9_round_0 rfl (lv_at hl 1 rfl) ?_
  refine lv_if_eq (tgt := 12) hx hb dX9_round_1 (by decide) (fun c_1 => ?_) (fun c_1 => ?_)
  · refine lv_aload_n hx hb dX9_round_12 rfl (lv_at hl 0 rfl) ?_
    refine va_get (ci := 9) (v := .ref (y 25)) (C := RX9) (T := TX9) (N := 15) hx hb hg inX9 hown hK hP 0 rfl rfl 5 (by decide) (hg _ q_2_41) (fun _ h9 => h9) rfl dX9_round_13 ?_
    refine lv_aload_n hx hb dX9_round_16 rfl (lv_at hl 0 rfl) ?_
    refine va_get (ci := 9) (v := .ref (y 19)) (C := RX9) (T := TX9) (N := 15) hx hb hg inX9 hown hK hP 0 rfl rfl 4 (by decide) (hg _ q_2_40) (fun _ h9 => h9) rfl dX9_round_17 ?_
    refine lv_aload_n hx hb dX9_round_20 rfl (lv_at hl 0 rfl) ?_
    refine va_get (ci := 9) (v := .int 0) (C := RX9) (T := TX9) (N := 15) hx hb hg inX9 hown hK hP 0 rfl rfl 12 (by decide) (hg _ q_2_48) (fun _ h9 => h9) rfl dX9_round_21 ?_
    refine lv_aload_n hx hb dX9_round_24 rfl (lv_at hl 0 rfl) ?_
    refine va_get (ci := 9) (v := .int 0) (C := RX9) (T := TX9) (N := 15) hx hb hg inX9 hown hK hP 0 rfl rfl 13 (by decide) (hg _ q_2_49) (fun _ h9 => h9) rfl dX9_round_25 ?_
    refine jnV (wr := [(y 0, .inr (9, [.ref (y 1), .int 0, .ref (y 2), .ref (y 10), .ref (y 19), .ref (y 25), .ref (y 26), .ref (y 30), .ref (y 31), .ref (y 32), .null, .null, .int 0, .int 0, .int 0]))]) (rnV (rest := []) ⟨hx, hb, hml, hown, hg⟩ (c_X0_follow_0 l V y) mt_X0_follow q_4_22 ⟨Nat.le_of_ble_eq_true rfl, Nat.le_of_ble_eq_true rfl⟩ hK hP hD hS hA hE [1, 2, 3] rfl rfl 3 rfl rfl rfl rfl hl.1 rfl (Nat.le_of_ble_eq_true rfl) dX9_round_28 ⟨Nat.le_of_ble_eq_true rfl, Nat.le_of_ble_eq_true rfl⟩) hP hD hS hA [1, 2, 3] [0] rfl rfl rfl (by decide) (fun  w H locs hw hP hD hS => ?_)
    subst hw
    have hP : va_P V.1 vwCl [(y 0, .inr (9, [.ref (y 1), .int 0, .ref (y 2), .ref (y 10), .ref (y 19), .ref (y 25), .ref (y 26), .ref (y 30), .ref (y 31), .ref (y 32), .null, .null, .int 0, .int 0, .int 0])), (y 2, .inr (1, [.int 0, .int 0, .int 0, .int 0, .int 0, .int 0, .ref (y 3), .ref (y 4), .ref (y 5), .ref (y 6), .ref (y 7), .ref (y 8), .ref (y 9), .int 0, .int 0, .int 0, .int 0, .int 0])), (y 19, .inr (4, [.ref (y 2), .ref (y 20), .ref (y 21), .ref (y 22), .ref (y 23), .ref (y 24)])), (y 25, .inr (0, [.int 0, .int 1]))] H := hP
    have hD : va_D A [(y 0, .inr (9, [.ref (y 1), .int 0, .ref (y 2), .ref (y 10), .ref (y 19), .ref (y 25), .ref (y 26), .ref (y 30), .ref (y 31), .ref (y 32), .null, .null, .int 0, .int 0, .int 0])), (y 2, .inr (1, [.int 0, .int 0, .int 0, .int 0, .int 0, .int 0, .ref (y 3), .ref (y 4), .ref (y 5), .ref (y 6), .ref (y 7), .ref (y 8), .ref (y 9), .int 0, .int 0, .int 0, .int 0, .int 0])), (y 19, .inr (4, [.ref (y 2), .ref (y 20), .ref (y 21), .ref (y 22), .ref (y 23), .ref (y 24)])), (y 25, .inr (0, [.int 0, .int 1]))] := hD
    refine lv_iload_n hx hb dX9_round_31 rfl (lv_at hl 1 rfl) ?_
    refine lv_if_ne (tgt := 45) hx hb dX9_round_32 (by decide) (fun c_2 => False.elim (by have c_3 : ¬ p0 = 0 := c_2; exact (by simp only [tI_lt, tI_le, tI_eq, tL_lt, tL_le, tL_eq, tWx, (by decide : (0 : Int32).toInt = 0)] at c_1 c_3; omega))) (fun _ => ?_)
    refine lv_aload_n hx hb dX9_round_35 rfl (lv_at hl 0 rfl) ?_
    refine va_get (ci := 9) (v := .ref (y 25)) (C := RX9) (T := TX9) (N := 15) hx hb hg inX9 hown hK hP 0 rfl rfl 5 (by decide) (hg _ q_2_41) (fun _ h9 => h9) rfl dX9_round_36 ?_
    refine va_get (ci := 0) (v := .int 0) (C := RX0) (T := TX0) (N := 2) hx hb hg inX0 hown hK hP 3 rfl rfl 0 (by decide) (hg _ q_1_197) (fun _ h9 => h9) rfl dX9_round_39 ?_
    refine lv_goto (tgt := 52) hx hb dX9_round_42 (by decide) ?_
    exact fiI hx hb hr hlk hK hP hD hS dX9_round_52 (Nat.le_of_ble_eq_true rfl) (Nat.le_of_ble_eq_true rfl) (Or.inl ⟨c_1, rfl, rfl⟩)
  · refine lv_iload_n hx hb dX9_round_4 rfl (lv_at hl 1 rfl) ?_
    refine lv_iconst (v := 1) hx hb dX9_round_5 (by decide) ?_
    refine lv_icmp_eq (tgt := 12) hx hb dX9_round_6 (by decide) (fun c_4 => ?_) (fun c_4 => ?_)
    · refine lv_aload_n hx hb dX9_round_12 rfl (lv_at hl 0 rfl) ?_
      refine va_get (ci := 9) (v := .ref (y 25)) (C := RX9) (T := TX9) (N := 15) hx hb hg inX9 hown hK hP 0 rfl rfl 5 (by decide) (hg _ q_2_41) (fun _ h9 => h9) rfl dX9_round_13 ?_
      refine lv_aload_n hx hb dX9_round_16 rfl (lv_at hl 0 rfl) ?_
      refine va_get (ci := 9) (v := .ref (y 19)) (C := RX9) (T := TX9) (N := 15) hx hb hg inX9 hown hK hP 0 rfl rfl 4 (by decide) (hg _ q_2_40) (fun _ h9 => h9) rfl dX9_round_17 ?_
      refine lv_aload_n hx hb dX9_round_20 rfl (lv_at hl 0 rfl) ?_
      refine va_get (ci := 9) (v := .int 0) (C := RX9) (T := TX9) (N := 15) hx hb hg inX9 hown hK hP 0 rfl rfl 12 (by decide) (hg _ q_2_48) (fun _ h9 => h9) rfl dX9_round_21 ?_
      refine lv_aload_n hx hb dX9_round_24 rfl (lv_at hl 0 rfl) ?_
      refine va_get (ci := 9) (v := .int 0) (C := RX9) (T := TX9) (N := 15) hx hb hg inX9 hown hK hP 0 rfl rfl 13 (by decide) (hg _ q_2_49) (fun _ h9 => h9) rfl dX9_round_25 ?_
      refine jnV (wr := [(y 0, .inr (9, [.ref (y 1), .int 0, .ref (y 2), .ref (y 10), .ref (y 19), .ref (y 25), .ref (y 26), .ref (y 30), .ref (y 31), .ref (y 32), .null, .null, .int 0, .int 0, .int 0]))]) (rnV (rest := []) ⟨hx, hb, hml, hown, hg⟩ (c_X0_follow_0 l V y) mt_X0_follow q_4_22 ⟨Nat.le_of_ble_eq_true rfl, Nat.le_of_ble_eq_true rfl⟩ hK hP hD hS hA hE [1, 2, 3] rfl rfl 3 rfl rfl rfl rfl hl.1 rfl (Nat.le_of_ble_eq_true rfl) dX9_round_28 ⟨Nat.le_of_ble_eq_true rfl, Nat.le_of_ble_eq_true rfl⟩) hP hD hS hA [1, 2, 3] [0] rfl rfl rfl (by decide) (fun  w H locs hw hP hD hS => ?_)
      subst hw
      have hP : va_P V.1 vwCl [(y 0, .inr (9, [.ref (y 1), .int 0, .ref (y 2), .ref (y 10), .ref (y 19), .ref (y 25), .ref (y 26), .ref (y 30), .ref (y 31), .ref (y 32), .null, .null, .int 0, .int 0, .int 0])), (y 2, .inr (1, [.int 0, .int 0, .int 0, .int 0, .int 0, .int 0, .ref (y 3), .ref (y 4), .ref (y 5), .ref (y 6), .ref (y 7), .ref (y 8), .ref (y 9), .int 0, .int 0, .int 0, .int 0, .int 0])), (y 19, .inr (4, [.ref (y 2), .ref (y 20), .ref (y 21), .ref (y 22), .ref (y 23), .ref (y 24)])), (y 25, .inr (0, [.int 0, .int 1]))] H := hP
      have hD : va_D A [(y 0, .inr (9, [.ref (y 1), .int 0, .ref (y 2), .ref (y 10), .ref (y 19), .ref (y 25), .ref (y 26), .ref (y 30), .ref (y 31), .ref (y 32), .null, .null, .int 0, .int 0, .int 0])), (y 2, .inr (1, [.int 0, .int 0, .int 0, .int 0, .int 0, .int 0, .ref (y 3), .ref (y 4), .ref (y 5), .ref (y 6), .ref (y 7), .ref (y 8), .ref (y 9), .int 0, .int 0, .int 0, .int 0, .int 0])), (y 19, .inr (4, [.ref (y 2), .ref (y 20), .ref (y 21), .ref (y 22), .ref (y 23), .ref (y 24)])), (y 25, .inr (0, [.int 0, .int 1]))] := hD
      refine lv_iload_n hx hb dX9_round_31 rfl (lv_at hl 1 rfl) ?_
      refine lv_if_ne (tgt := 45) hx hb dX9_round_32 (by decide) (fun _ => ?_) (fun c_5 => False.elim (by have c_6 : p0 = 0 := c_5; exact (by simp only [tI_lt, tI_le, tI_eq, tL_lt, tL_le, tL_eq, tWx, (by decide : (0 : Int32).toInt = 0), (by decide : (1 : Int32).toInt = 1)] at c_1 c_4 c_6; omega)))
      refine lv_aload_n hx hb dX9_round_45 rfl (lv_at hl 0 rfl) ?_
      refine va_get (ci := 9) (v := .ref (y 25)) (C := RX9) (T := TX9) (N := 15) hx hb hg inX9 hown hK hP 0 rfl rfl 5 (by decide) (hg _ q_2_41) (fun _ h9 => h9) rfl dX9_round_46 ?_
      refine va_get (ci := 0) (v := .int 1) (C := RX0) (T := TX0) (N := 2) hx hb hg inX0 hown hK hP 3 rfl rfl 1 (by decide) (hg _ q_1_199) (fun _ h9 => h9) rfl dX9_round_49 ?_
      exact fiI hx hb hr hlk hK hP hD hS dX9_round_52 (Nat.le_of_ble_eq_true rfl) (Nat.le_of_ble_eq_true rfl) (Or.inr (Or.inl ⟨c_1, c_4, rfl, rfl⟩))
    · refine lv_bipush (v := (-2)) hx hb dX9_round_9 (by decide) ?_
      exact fiI hx hb hr hlk hK hP hD hS dX9_round_11 (Nat.le_of_ble_eq_true rfl) (Nat.le_of_ble_eq_true rfl) (Or.inr (Or.inr (⟨c_1, c_4, rfl, rfl⟩)))
theorem dX10_bare_0 : decode cX10_bare 0 = .ok (.aload_n 0, 1) := by decide +kernel
theorem dX10_bare_1 : decode cX10_bare 1 = .ok (.iconst 0, 1) := by decide +kernel
theorem dX10_bare_2 : decode cX10_bare 2 = .ok (.putfield 1, 3) := by decide +kernel
theorem dX10_bare_5 : decode cX10_bare 5 = .ok (.aload_n 0, 1) := by decide +kernel
theorem dX10_bare_6 : decode cX10_bare 6 = .ok (.invokevirtual 349, 3) := by decide +kernel
theorem dX10_bare_9 : decode cX10_bare 9 = .ok (.iconst 0, 1) := by decide +kernel
theorem dX10_bare_10 : decode cX10_bare 10 = .ok (.istore_n 1, 1) := by decide +kernel
theorem dX10_bare_11 : decode cX10_bare 11 = .ok (.iload_n 1, 1) := by decide +kernel
theorem dX10_bare_12 : decode cX10_bare 12 = .ok (.aload_n 0, 1) := by decide +kernel
theorem dX10_bare_13 : decode cX10_bare 13 = .ok (.getfield 341, 3) := by decide +kernel
theorem dX10_bare_16 : decode cX10_bare 16 = .ok (.aload_n 0, 1) := by decide +kernel
theorem dX10_bare_17 : decode cX10_bare 17 = .ok (.getfield 344, 3) := by decide +kernel
theorem dX10_bare_20 : decode cX10_bare 20 = .ok (.iadd, 1) := by decide +kernel
theorem dX10_bare_21 : decode cX10_bare 21 = .ok (.if_icmp .ge 24, 3) := by decide +kernel
theorem dX10_bare_24 : decode cX10_bare 24 = .ok (.aload_n 0, 1) := by decide +kernel
theorem dX10_bare_25 : decode cX10_bare 25 = .ok (.getfield 39, 3) := by decide +kernel
theorem dX10_bare_28 : decode cX10_bare 28 = .ok (.iload_n 1, 1) := by decide +kernel
theorem dX10_bare_29 : decode cX10_bare 29 = .ok (.iaload, 1) := by decide +kernel
theorem dX10_bare_30 : decode cX10_bare 30 = .ok (.sipush 625, 3) := by decide +kernel
theorem dX10_bare_33 : decode cX10_bare 33 = .ok (.irem, 1) := by decide +kernel
theorem dX10_bare_34 : decode cX10_bare 34 = .ok (.ifCond .ne 5, 3) := by decide +kernel
theorem dX10_bare_37 : decode cX10_bare 37 = .ok (.iload_n 1, 1) := by decide +kernel
theorem dX10_bare_38 : decode cX10_bare 38 = .ok (.ireturn, 1) := by decide +kernel
set_option maxHeartbeats 4000000 in
set_option maxRecDepth 100000 in
theorem c_X10_bare_0 (l : Launch) (V : GV) (z : Nat → Nat) : Ct l V yX10_bare (.code yX10_bare cX10_bare 2 (some .int)) 3 [.ref (z 0)] [(z 0, .inr (10, mo z 0 0 0 0 0 0 0 0 0 0 (-1) 0 0 0 0 0)), (z 20, aI V 10001 (fun _ => 0)), (z 21, aI V 10000 (fun _ => 0)), (z 1, aI V 3075 (fun _ => 0))] 0 0 (QI V (fun (r : Int32) (w : va_W) => (∃ (f_1 : Nat → Int32), r = 0 ∧ w = [(z 0, .inr (10, mo z 0 0 0 0 0 0 0 0 0 0 (-1) 0 0 0 1 0)), (z 20, aI V 10001 (fun _ => 0)), (z 21, aI V 10000 (upd f_1 0 0)), (z 1, aI V 3075 (fun _ => 0))]))) := by
  refine Ct.of (by decide) (Nat.le_of_ble_eq_true rfl) (fun p e s m below meth c A ls hx hb hr hml hown hlk hnm hg hP hK hD hE hA hS hl => ?_)
  have hl : lv_has ls 2 [(0, .ref (z 0))] := hl
  refine lv_aload_n hx hb dX10_bare_0 rfl (lv_at hl 0 rfl) ?_
  refine lv_iconst (v := 0) hx hb dX10_bare_1 (by decide) ?_
  refine va_put (ci := 10) (v := .int 0) (ty := .int) (C := RX10) (T := TX10) (N := 40) hx hb hg inX10 tyX10 tyX10_ok nmX10 hown hK hP hD hS 0 rfl rfl 0 (by decide) (hg _ q_5_224) (fun _ h9 => h9) rfl (by decide +kernel) rfl rfl (Nat.le_of_ble_eq_true rfl) dX10_bare_2 (fun H locs hP hD hS => ?_)
  have hP : va_P V.1 vwCl [(z 0, .inr (10, mo z 0 0 0 0 0 0 0 0 0 0 (-1) 0 0 0 0 0)), (z 20, aI V 10001 (fun _ => 0)), (z 21, aI V 10000 (fun _ => 0)), (z 1, aI V 3075 (fun _ => 0))] H := hP
  have hD : va_D A [(z 0, .inr (10, mo z 0 0 0 0 0 0 0 0 0 0 (-1) 0 0 0 0 0)), (z 20, aI V 10001 (fun _ => 0)), (z 21, aI V 10000 (fun _ => 0)), (z 1, aI V 3075 (fun _ => 0))] := hD
  refine lv_aload_n hx hb dX10_bare_5 rfl (lv_at hl 0 rfl) ?_
  refine jnV (wr := []) (rnV (rest := []) ⟨hx, hb, hml, hown, hg⟩ (c_X10_laysLine_0 l V z) mt_X10_laysLine q_7_158 ⟨Nat.le_of_ble_eq_true rfl, Nat.le_of_ble_eq_true rfl⟩ hK hP hD hS hA hE [0, 1, 2, 3] rfl rfl 0 rfl rfl rfl rfl hl.1 rfl (Nat.le_of_ble_eq_true rfl) dX10_bare_6 ⟨Nat.le_of_ble_eq_true rfl, Nat.le_of_ble_eq_true rfl⟩) hP hD hS hA [0, 1, 2, 3] [] rfl rfl rfl (by decide) (fun  w H locs hw hP hD hS => ?_)
  obtain ⟨f_1, rfl⟩ := hw
  have hP : va_P V.1 vwCl [(z 0, .inr (10, mo z 0 0 0 0 0 0 0 0 0 0 (-1) 0 0 0 1 0)), (z 20, aI V 10001 (fun _ => 0)), (z 21, aI V 10000 (upd f_1 0 0)), (z 1, aI V 3075 (fun _ => 0))] H := hP
  have hD : va_D A [(z 0, .inr (10, mo z 0 0 0 0 0 0 0 0 0 0 (-1) 0 0 0 1 0)), (z 20, aI V 10001 (fun _ => 0)), (z 21, aI V 10000 (upd f_1 0 0)), (z 1, aI V 3075 (fun _ => 0))] := hD
  refine lv_iconst (v := 0) hx hb dX10_bare_9 (by decide) ?_
  refine lv_istore_n (lv' := [(1, .int 0), (0, .ref (z 0))]) hx hb dX10_bare_10 rfl hl (by decide) rfl (fun ls hl => ?_)
  refine lv_iload_n hx hb dX10_bare_11 rfl (lv_at hl 0 rfl) ?_
  refine lv_aload_n hx hb dX10_bare_12 rfl (lv_at hl 1 rfl) ?_
  refine va_get (ci := 10) (v := .int 0) (C := RX10) (T := TX10) (N := 40) hx hb hg inX10 hown hK hP 0 rfl rfl 22 (by decide) (hg _ q_6_6) (fun _ h9 => h9) rfl dX10_bare_13 ?_
  refine lv_aload_n hx hb dX10_bare_16 rfl (lv_at hl 1 rfl) ?_
  refine va_get (ci := 10) (v := .int 1) (C := RX10) (T := TX10) (N := 40) hx hb hg inX10 hown hK hP 0 rfl rfl 23 (by decide) (hg _ q_6_7) (fun _ h9 => h9) rfl dX10_bare_17 ?_
  refine lv_iadd hx hb dX10_bare_20 ?_
  refine tpi (y := 1) (by decide +kernel) ?_
  refine lv_icmp_ge (tgt := 45) hx hb dX10_bare_21 (by decide) (fun c_2 => absurd c_2 (by decide)) (fun _ => ?_)
  refine lv_aload_n hx hb dX10_bare_24 rfl (lv_at hl 1 rfl) ?_
  refine va_get (ci := 10) (v := .ref (z 20)) (C := RX10) (T := TX10) (N := 40) hx hb hg inX10 hown hK hP 0 rfl rfl 20 (by decide) (hg _ q_6_4) (fun _ h9 => h9) rfl dX10_bare_25 ?_
  refine lv_iload_n hx hb dX10_bare_28 rfl (lv_at hl 0 rfl) ?_
  refine va_iald hx hb hK hP 1 0 rfl rfl (vin (by decide +kernel)) dX10_bare_29 ?_
  refine tpi (y := 0) (rfl) ?_
  refine lv_sipush (v := 625) hx hb dX10_bare_30 (by decide) ?_
  refine lv_irem hx hb dX10_bare_33 (by decide) ?_
  refine tpi (y := 0) (by decide +kernel) ?_
  refine lv_if_ne (tgt := 39) hx hb dX10_bare_34 (by decide) (fun c_3 => absurd c_3 (by decide)) (fun _ => ?_)
  refine lv_iload_n hx hb dX10_bare_37 rfl (lv_at hl 0 rfl) ?_
  exact fiI hx hb hr hlk hK hP hD hS dX10_bare_38 (Nat.le_of_ble_eq_true rfl) (Nat.le_of_ble_eq_true rfl) (⟨f_1, rfl, rfl⟩)
theorem dX9_stackIn_0 : decode cX9_stackIn 0 = .ok (.iload_n 0, 1) := by decide +kernel
theorem dX9_stackIn_1 : decode cX9_stackIn 1 = .ok (.getstatic 162, 3) := by decide +kernel
theorem dX9_stackIn_4 : decode cX9_stackIn 4 = .ok (.iload_n 1, 1) := by decide +kernel
theorem dX9_stackIn_5 : decode cX9_stackIn 5 = .ok (.iaload, 1) := by decide +kernel
theorem dX9_stackIn_6 : decode cX9_stackIn 6 = .ok (.idiv, 1) := by decide +kernel
theorem dX9_stackIn_7 : decode cX9_stackIn 7 = .ok (.bipush 10, 2) := by decide +kernel
theorem dX9_stackIn_9 : decode cX9_stackIn 9 = .ok (.irem, 1) := by decide +kernel
theorem dX9_stackIn_10 : decode cX9_stackIn 10 = .ok (.iconst 2, 1) := by decide +kernel
theorem dX9_stackIn_11 : decode cX9_stackIn 11 = .ok (.idiv, 1) := by decide +kernel
theorem dX9_stackIn_12 : decode cX9_stackIn 12 = .ok (.ireturn, 1) := by decide +kernel
set_option maxHeartbeats 4000000 in
set_option maxRecDepth 100000 in
theorem c_X9_stackIn_0 (l : Launch) (V : GV) : Ct l V yX9_stackIn (.code yX9_stackIn cX9_stackIn 2 (some .int)) 1 [.int 0, .int 0] [] 0 0 (QI V (fun (r : Int32) (w : va_W) => (r = 0 ∧ w = []))) := by
  refine Ct.of (by decide) (Nat.le_of_ble_eq_true rfl) (fun p e s m below meth c A ls hx hb hr hml hown hlk hnm hg hP hK hD hE hA hS hl => ?_)
  have hl : lv_has ls 2 [(0, .int 0), (1, .int 0)] := hl
  refine lv_iload_n hx hb dX9_stackIn_0 rfl (lv_at hl 0 rfl) ?_
  refine va_gets hx hb hE.1.1 hS hown (hg _ q_3_129) (fun _ h9 => h9) dX9_stackIn_1 ?_
  refine lv_iload_n hx hb dX9_stackIn_4 rfl (lv_at hl 1 rfl) ?_
  refine va_ti (v := .int 1) hx hb hE.1.2 hS (vin (by decide +kernel)) rfl dX9_stackIn_5 ?_
  refine lv_idiv hx hb dX9_stackIn_6 (by decide) ?_
  refine tpi (y := 0) (by decide +kernel) ?_
  refine lv_bipush (v := 10) hx hb dX9_stackIn_7 (by decide) ?_
  refine lv_irem hx hb dX9_stackIn_9 (by decide) ?_
  refine tpi (y := 0) (by decide +kernel) ?_
  refine lv_iconst (v := 2) hx hb dX9_stackIn_10 (by decide) ?_
  refine lv_idiv hx hb dX9_stackIn_11 (by decide) ?_
  refine tpi (y := 0) (by decide +kernel) ?_
  exact fiI hx hb hr hlk hK hP hD hS dX9_stackIn_12 (Nat.le_of_ble_eq_true rfl) (Nat.le_of_ble_eq_true rfl) (⟨rfl, rfl⟩)
set_option maxHeartbeats 4000000 in
set_option maxRecDepth 100000 in
theorem c_X9_stackIn_1 (l : Launch) (V : GV) : Ct l V yX9_stackIn (.code yX9_stackIn cX9_stackIn 2 (some .int)) 1 [.int 0, .int 1] [] 0 0 (QI V (fun (r : Int32) (w : va_W) => (r = 0 ∧ w = []))) := by
  refine Ct.of (by decide) (Nat.le_of_ble_eq_true rfl) (fun p e s m below meth c A ls hx hb hr hml hown hlk hnm hg hP hK hD hE hA hS hl => ?_)
  have hl : lv_has ls 2 [(0, .int 0), (1, .int 1)] := hl
  refine lv_iload_n hx hb dX9_stackIn_0 rfl (lv_at hl 0 rfl) ?_
  refine va_gets hx hb hE.1.1 hS hown (hg _ q_3_129) (fun _ h9 => h9) dX9_stackIn_1 ?_
  refine lv_iload_n hx hb dX9_stackIn_4 rfl (lv_at hl 1 rfl) ?_
  refine va_ti (v := .int 10) hx hb hE.1.2 hS (vin (by decide +kernel)) rfl dX9_stackIn_5 ?_
  refine lv_idiv hx hb dX9_stackIn_6 (by decide) ?_
  refine tpi (y := 0) (by decide +kernel) ?_
  refine lv_bipush (v := 10) hx hb dX9_stackIn_7 (by decide) ?_
  refine lv_irem hx hb dX9_stackIn_9 (by decide) ?_
  refine tpi (y := 0) (by decide +kernel) ?_
  refine lv_iconst (v := 2) hx hb dX9_stackIn_10 (by decide) ?_
  refine lv_idiv hx hb dX9_stackIn_11 (by decide) ?_
  refine tpi (y := 0) (by decide +kernel) ?_
  exact fiI hx hb hr hlk hK hP hD hS dX9_stackIn_12 (Nat.le_of_ble_eq_true rfl) (Nat.le_of_ble_eq_true rfl) (⟨rfl, rfl⟩)
set_option maxHeartbeats 4000000 in
set_option maxRecDepth 100000 in
theorem c_X9_stackIn_2 (l : Launch) (V : GV) : Ct l V yX9_stackIn (.code yX9_stackIn cX9_stackIn 2 (some .int)) 1 [.int 0, .int 2] [] 0 0 (QI V (fun (r : Int32) (w : va_W) => (r = 0 ∧ w = []))) := by
  refine Ct.of (by decide) (Nat.le_of_ble_eq_true rfl) (fun p e s m below meth c A ls hx hb hr hml hown hlk hnm hg hP hK hD hE hA hS hl => ?_)
  have hl : lv_has ls 2 [(0, .int 0), (1, .int 2)] := hl
  refine lv_iload_n hx hb dX9_stackIn_0 rfl (lv_at hl 0 rfl) ?_
  refine va_gets hx hb hE.1.1 hS hown (hg _ q_3_129) (fun _ h9 => h9) dX9_stackIn_1 ?_
  refine lv_iload_n hx hb dX9_stackIn_4 rfl (lv_at hl 1 rfl) ?_
  refine va_ti (v := .int 100) hx hb hE.1.2 hS (vin (by decide +kernel)) rfl dX9_stackIn_5 ?_
  refine lv_idiv hx hb dX9_stackIn_6 (by decide) ?_
  refine tpi (y := 0) (by decide +kernel) ?_
  refine lv_bipush (v := 10) hx hb dX9_stackIn_7 (by decide) ?_
  refine lv_irem hx hb dX9_stackIn_9 (by decide) ?_
  refine tpi (y := 0) (by decide +kernel) ?_
  refine lv_iconst (v := 2) hx hb dX9_stackIn_10 (by decide) ?_
  refine lv_idiv hx hb dX9_stackIn_11 (by decide) ?_
  refine tpi (y := 0) (by decide +kernel) ?_
  exact fiI hx hb hr hlk hK hP hD hS dX9_stackIn_12 (Nat.le_of_ble_eq_true rfl) (Nat.le_of_ble_eq_true rfl) (⟨rfl, rfl⟩)
set_option maxHeartbeats 4000000 in
set_option maxRecDepth 100000 in
theorem c_X9_stackIn_3 (l : Launch) (V : GV) : Ct l V yX9_stackIn (.code yX9_stackIn cX9_stackIn 2 (some .int)) 1 [.int 0, .int 3] [] 0 0 (QI V (fun (r : Int32) (w : va_W) => (r = 0 ∧ w = []))) := by
  refine Ct.of (by decide) (Nat.le_of_ble_eq_true rfl) (fun p e s m below meth c A ls hx hb hr hml hown hlk hnm hg hP hK hD hE hA hS hl => ?_)
  have hl : lv_has ls 2 [(0, .int 0), (1, .int 3)] := hl
  refine lv_iload_n hx hb dX9_stackIn_0 rfl (lv_at hl 0 rfl) ?_
  refine va_gets hx hb hE.1.1 hS hown (hg _ q_3_129) (fun _ h9 => h9) dX9_stackIn_1 ?_
  refine lv_iload_n hx hb dX9_stackIn_4 rfl (lv_at hl 1 rfl) ?_
  refine va_ti (v := .int 1000) hx hb hE.1.2 hS (vin (by decide +kernel)) rfl dX9_stackIn_5 ?_
  refine lv_idiv hx hb dX9_stackIn_6 (by decide) ?_
  refine tpi (y := 0) (by decide +kernel) ?_
  refine lv_bipush (v := 10) hx hb dX9_stackIn_7 (by decide) ?_
  refine lv_irem hx hb dX9_stackIn_9 (by decide) ?_
  refine tpi (y := 0) (by decide +kernel) ?_
  refine lv_iconst (v := 2) hx hb dX9_stackIn_10 (by decide) ?_
  refine lv_idiv hx hb dX9_stackIn_11 (by decide) ?_
  refine tpi (y := 0) (by decide +kernel) ?_
  exact fiI hx hb hr hlk hK hP hD hS dX9_stackIn_12 (Nat.le_of_ble_eq_true rfl) (Nat.le_of_ble_eq_true rfl) (⟨rfl, rfl⟩)
theorem dX9_stacksTogether_0 : decode cX9_stacksTogether 0 = .ok (.iconst 0, 1) := by decide +kernel
theorem dX9_stacksTogether_1 : decode cX9_stacksTogether 1 = .ok (.istore_n 1, 1) := by decide +kernel
theorem dX9_stacksTogether_2 : decode cX9_stacksTogether 2 = .ok (.iconst 0, 1) := by decide +kernel
theorem dX9_stacksTogether_3 : decode cX9_stacksTogether 3 = .ok (.istore_n 2, 1) := by decide +kernel
theorem dX9_stacksTogether_4 : decode cX9_stacksTogether 4 = .ok (.iload_n 2, 1) := by decide +kernel
theorem dX9_stacksTogether_5 : decode cX9_stacksTogether 5 = .ok (.iconst 4, 1) := by decide +kernel
theorem dX9_stacksTogether_6 : decode cX9_stacksTogether 6 = .ok (.if_icmp .ge 17, 3) := by decide +kernel
theorem dX9_stacksTogether_9 : decode cX9_stacksTogether 9 = .ok (.iload_n 1, 1) := by decide +kernel
theorem dX9_stacksTogether_10 : decode cX9_stacksTogether 10 = .ok (.iload_n 0, 1) := by decide +kernel
theorem dX9_stacksTogether_11 : decode cX9_stacksTogether 11 = .ok (.iload_n 2, 1) := by decide +kernel
theorem q_3_128 : Cond.code yX9_stackIn prog_1_method_13_code 2 (some FieldType.int) ∈ gw := gw_3 (i := 128) (rfl) rfl
theorem q_3_127 : Cond.static yX9_stackIn ∈ gw := gw_3 (i := 127) (by decide +kernel) rfl
theorem mt_X9_stackIn : MtS yX9_stackIn cX9_stackIn 2 (some .int) 2 := ⟨⟨q_3_128, q_1_1, by decide +kernel, by decide +kernel, by decide +kernel⟩, q_3_127⟩
theorem q_3_126 : Cond.methodLink "BeaconDelay" 132 yX9_stackIn ∈ gw := gw_3 (i := 126) (by decide +kernel) rfl
theorem dX9_stacksTogether_12 : decode cX9_stacksTogether 12 = .ok (.invokestatic 132, 3) := by decide +kernel
theorem dX9_stacksTogether_15 : decode cX9_stacksTogether 15 = .ok (.iadd, 1) := by decide +kernel
theorem dX9_stacksTogether_16 : decode cX9_stacksTogether 16 = .ok (.istore_n 1, 1) := by decide +kernel
theorem dX9_stacksTogether_17 : decode cX9_stacksTogether 17 = .ok (.iinc 2 1, 3) := by decide +kernel
theorem dX9_stacksTogether_20 : decode cX9_stacksTogether 20 = .ok (.goto (-16), 3) := by decide +kernel
theorem dX9_stacksTogether_23 : decode cX9_stacksTogether 23 = .ok (.iload_n 1, 1) := by decide +kernel
theorem dX9_stacksTogether_24 : decode cX9_stacksTogether 24 = .ok (.ireturn, 1) := by decide +kernel
set_option maxHeartbeats 4000000 in
set_option maxRecDepth 100000 in
theorem c_X9_stacksTogether_0 (l : Launch) (V : GV) : Ct l V yX9_stacksTogether (.code yX9_stacksTogether cX9_stacksTogether 3 (some .int)) 2 [.int 0] [] 0 0 (QI V (fun (r : Int32) (w : va_W) => (r = 0 ∧ w = []))) := by
  refine Ct.of (by decide) (Nat.le_of_ble_eq_true rfl) (fun p e s m below meth c A ls hx hb hr hml hown hlk hnm hg hP hK hD hE hA hS hl => ?_)
  have hl : lv_has ls 3 [(0, .int 0)] := hl
  refine lv_iconst (v := 0) hx hb dX9_stacksTogether_0 (by decide) ?_
  refine lv_istore_n (lv' := [(1, .int 0), (0, .int 0)]) hx hb dX9_stacksTogether_1 rfl hl (by decide) rfl (fun ls hl => ?_)
  refine lv_iconst (v := 0) hx hb dX9_stacksTogether_2 (by decide) ?_
  refine lv_istore_n (lv' := [(2, .int 0), (1, .int 0), (0, .int 0)]) hx hb dX9_stacksTogether_3 rfl hl (by decide) rfl (fun ls hl => ?_)
  refine lv_iload_n hx hb dX9_stacksTogether_4 rfl (lv_at hl 0 rfl) ?_
  refine lv_iconst (v := 4) hx hb dX9_stacksTogether_5 (by decide) ?_
  refine lv_icmp_ge (tgt := 23) hx hb dX9_stacksTogether_6 (by decide) (fun c_1 => absurd c_1 (by decide)) (fun _ => ?_)
  refine lv_iload_n hx hb dX9_stacksTogether_9 rfl (lv_at hl 1 rfl) ?_
  refine lv_iload_n hx hb dX9_stacksTogether_10 rfl (lv_at hl 2 rfl) ?_
  refine lv_iload_n hx hb dX9_stacksTogether_11 rfl (lv_at hl 0 rfl) ?_
  refine jnI (wr := []) (rnS (rest := [.int 0]) ⟨hx, hb, hml, hown, hg⟩ (c_X9_stackIn_0 l V) mt_X9_stackIn q_3_126 ⟨Nat.le_of_ble_eq_true rfl, Nat.le_of_ble_eq_true rfl⟩ hK hP hD hS hA hE [] rfl rfl rfl hl.1 rfl (Nat.le_of_ble_eq_true rfl) dX9_stacksTogether_12 ⟨Nat.le_of_ble_eq_true rfl, Nat.le_of_ble_eq_true rfl⟩) hP hD hS hA [] [] rfl rfl rfl (by decide) (fun r_2 w H locs hw hP hD hS => ?_)
  obtain ⟨rfl, rfl⟩ := hw
  have hP : va_P V.1 vwCl [] H := hP
  have hD : va_D A [] := hD
  refine lv_iadd hx hb dX9_stacksTogether_15 ?_
  refine tpi (y := 0) (by decide +kernel) ?_
  refine lv_istore_n (lv' := [(1, .int 0), (2, .int 0), (0, .int 0)]) hx hb dX9_stacksTogether_16 rfl hl (by decide) rfl (fun ls hl => ?_)
  refine lv_iinc (v := 1) (lv' := [(2, .int 1), (1, .int 0), (0, .int 0)]) hx hb dX9_stacksTogether_17 hl (k := 1) rfl (by decide +kernel) (by decide) rfl (fun ls hl => ?_)
  refine lv_goto (tgt := 4) hx hb dX9_stacksTogether_20 (by decide) ?_
  refine lv_iload_n hx hb dX9_stacksTogether_4 rfl (lv_at hl 0 rfl) ?_
  refine lv_iconst (v := 4) hx hb dX9_stacksTogether_5 (by decide) ?_
  refine lv_icmp_ge (tgt := 23) hx hb dX9_stacksTogether_6 (by decide) (fun c_3 => absurd c_3 (by decide)) (fun _ => ?_)
  refine lv_iload_n hx hb dX9_stacksTogether_9 rfl (lv_at hl 1 rfl) ?_
  refine lv_iload_n hx hb dX9_stacksTogether_10 rfl (lv_at hl 2 rfl) ?_
  refine lv_iload_n hx hb dX9_stacksTogether_11 rfl (lv_at hl 0 rfl) ?_
  refine jnI (wr := []) (rnS (rest := [.int 0]) ⟨hx, hb, hml, hown, hg⟩ (c_X9_stackIn_1 l V) mt_X9_stackIn q_3_126 ⟨Nat.le_of_ble_eq_true rfl, Nat.le_of_ble_eq_true rfl⟩ hK hP hD hS hA hE [] rfl rfl rfl hl.1 rfl (Nat.le_of_ble_eq_true rfl) dX9_stacksTogether_12 ⟨Nat.le_of_ble_eq_true rfl, Nat.le_of_ble_eq_true rfl⟩) hP hD hS hA [] [] rfl rfl rfl (by decide) (fun r_4 w H locs hw hP hD hS => ?_)
  obtain ⟨rfl, rfl⟩ := hw
  have hP : va_P V.1 vwCl [] H := hP
  have hD : va_D A [] := hD
  refine lv_iadd hx hb dX9_stacksTogether_15 ?_
  refine tpi (y := 0) (by decide +kernel) ?_
  refine lv_istore_n (lv' := [(1, .int 0), (2, .int 1), (0, .int 0)]) hx hb dX9_stacksTogether_16 rfl hl (by decide) rfl (fun ls hl => ?_)
  refine lv_iinc (v := 2) (lv' := [(2, .int 2), (1, .int 0), (0, .int 0)]) hx hb dX9_stacksTogether_17 hl (k := 1) rfl (by decide +kernel) (by decide) rfl (fun ls hl => ?_)
  refine lv_goto (tgt := 4) hx hb dX9_stacksTogether_20 (by decide) ?_
  refine lv_iload_n hx hb dX9_stacksTogether_4 rfl (lv_at hl 0 rfl) ?_
  refine lv_iconst (v := 4) hx hb dX9_stacksTogether_5 (by decide) ?_
  refine lv_icmp_ge (tgt := 23) hx hb dX9_stacksTogether_6 (by decide) (fun c_5 => absurd c_5 (by decide)) (fun _ => ?_)
  refine lv_iload_n hx hb dX9_stacksTogether_9 rfl (lv_at hl 1 rfl) ?_
  refine lv_iload_n hx hb dX9_stacksTogether_10 rfl (lv_at hl 2 rfl) ?_
  refine lv_iload_n hx hb dX9_stacksTogether_11 rfl (lv_at hl 0 rfl) ?_
  refine jnI (wr := []) (rnS (rest := [.int 0]) ⟨hx, hb, hml, hown, hg⟩ (c_X9_stackIn_2 l V) mt_X9_stackIn q_3_126 ⟨Nat.le_of_ble_eq_true rfl, Nat.le_of_ble_eq_true rfl⟩ hK hP hD hS hA hE [] rfl rfl rfl hl.1 rfl (Nat.le_of_ble_eq_true rfl) dX9_stacksTogether_12 ⟨Nat.le_of_ble_eq_true rfl, Nat.le_of_ble_eq_true rfl⟩) hP hD hS hA [] [] rfl rfl rfl (by decide) (fun r_6 w H locs hw hP hD hS => ?_)
  obtain ⟨rfl, rfl⟩ := hw
  have hP : va_P V.1 vwCl [] H := hP
  have hD : va_D A [] := hD
  refine lv_iadd hx hb dX9_stacksTogether_15 ?_
  refine tpi (y := 0) (by decide +kernel) ?_
  refine lv_istore_n (lv' := [(1, .int 0), (2, .int 2), (0, .int 0)]) hx hb dX9_stacksTogether_16 rfl hl (by decide) rfl (fun ls hl => ?_)
  refine lv_iinc (v := 3) (lv' := [(2, .int 3), (1, .int 0), (0, .int 0)]) hx hb dX9_stacksTogether_17 hl (k := 1) rfl (by decide +kernel) (by decide) rfl (fun ls hl => ?_)
  refine lv_goto (tgt := 4) hx hb dX9_stacksTogether_20 (by decide) ?_
  refine lv_iload_n hx hb dX9_stacksTogether_4 rfl (lv_at hl 0 rfl) ?_
  refine lv_iconst (v := 4) hx hb dX9_stacksTogether_5 (by decide) ?_
  refine lv_icmp_ge (tgt := 23) hx hb dX9_stacksTogether_6 (by decide) (fun c_7 => absurd c_7 (by decide)) (fun _ => ?_)
  refine lv_iload_n hx hb dX9_stacksTogether_9 rfl (lv_at hl 1 rfl) ?_
  refine lv_iload_n hx hb dX9_stacksTogether_10 rfl (lv_at hl 2 rfl) ?_
  refine lv_iload_n hx hb dX9_stacksTogether_11 rfl (lv_at hl 0 rfl) ?_
  refine jnI (wr := []) (rnS (rest := [.int 0]) ⟨hx, hb, hml, hown, hg⟩ (c_X9_stackIn_3 l V) mt_X9_stackIn q_3_126 ⟨Nat.le_of_ble_eq_true rfl, Nat.le_of_ble_eq_true rfl⟩ hK hP hD hS hA hE [] rfl rfl rfl hl.1 rfl (Nat.le_of_ble_eq_true rfl) dX9_stacksTogether_12 ⟨Nat.le_of_ble_eq_true rfl, Nat.le_of_ble_eq_true rfl⟩) hP hD hS hA [] [] rfl rfl rfl (by decide) (fun r_8 w H locs hw hP hD hS => ?_)
  obtain ⟨rfl, rfl⟩ := hw
  have hP : va_P V.1 vwCl [] H := hP
  have hD : va_D A [] := hD
  refine lv_iadd hx hb dX9_stacksTogether_15 ?_
  refine tpi (y := 0) (by decide +kernel) ?_
  refine lv_istore_n (lv' := [(1, .int 0), (2, .int 3), (0, .int 0)]) hx hb dX9_stacksTogether_16 rfl hl (by decide) rfl (fun ls hl => ?_)
  refine lv_iinc (v := 4) (lv' := [(2, .int 4), (1, .int 0), (0, .int 0)]) hx hb dX9_stacksTogether_17 hl (k := 1) rfl (by decide +kernel) (by decide) rfl (fun ls hl => ?_)
  refine lv_goto (tgt := 4) hx hb dX9_stacksTogether_20 (by decide) ?_
  refine lv_iload_n hx hb dX9_stacksTogether_4 rfl (lv_at hl 0 rfl) ?_
  refine lv_iconst (v := 4) hx hb dX9_stacksTogether_5 (by decide) ?_
  refine lv_icmp_ge (tgt := 23) hx hb dX9_stacksTogether_6 (by decide) (fun _ => ?_) (fun c_9 => absurd c_9 (by decide))
  refine lv_iload_n hx hb dX9_stacksTogether_23 rfl (lv_at hl 1 rfl) ?_
  exact fiI hx hb hr hlk hK hP hD hS dX9_stacksTogether_24 (Nat.le_of_ble_eq_true rfl) (Nat.le_of_ble_eq_true rfl) (⟨rfl, rfl⟩)
theorem dX9_bare_0 : decode cX9_bare 0 = .ok (.aload_n 0, 1) := by decide +kernel
theorem dX9_bare_1 : decode cX9_bare 1 = .ok (.getfield 41, 3) := by decide +kernel
theorem dX9_bare_4 : decode cX9_bare 4 = .ok (.aload_n 0, 1) := by decide +kernel
theorem dX9_bare_5 : decode cX9_bare 5 = .ok (.getfield 34, 3) := by decide +kernel
theorem dX9_bare_8 : decode cX9_bare 8 = .ok (.aload_n 0, 1) := by decide +kernel
theorem dX9_bare_9 : decode cX9_bare 9 = .ok (.getfield 113, 3) := by decide +kernel
theorem dX9_bare_12 : decode cX9_bare 12 = .ok (.aload_n 0, 1) := by decide +kernel
theorem dX9_bare_13 : decode cX9_bare 13 = .ok (.getfield 116, 3) := by decide +kernel
theorem dX9_bare_16 : decode cX9_bare 16 = .ok (.invokevirtual 227, 3) := by decide +kernel
theorem dX9_bare_19 : decode cX9_bare 19 = .ok (.aload_n 0, 1) := by decide +kernel
theorem dX9_bare_20 : decode cX9_bare 20 = .ok (.getfield 113, 3) := by decide +kernel
theorem dX9_bare_23 : decode cX9_bare 23 = .ok (.istore_n 1, 1) := by decide +kernel
theorem dX9_bare_24 : decode cX9_bare 24 = .ok (.iconst 0, 1) := by decide +kernel
theorem dX9_bare_25 : decode cX9_bare 25 = .ok (.istore_n 2, 1) := by decide +kernel
theorem dX9_bare_26 : decode cX9_bare 26 = .ok (.iload_n 2, 1) := by decide +kernel
theorem dX9_bare_27 : decode cX9_bare 27 = .ok (.aload_n 0, 1) := by decide +kernel
theorem dX9_bare_28 : decode cX9_bare 28 = .ok (.getfield 41, 3) := by decide +kernel
theorem dX9_bare_31 : decode cX9_bare 31 = .ok (.getfield 231, 3) := by decide +kernel
theorem dX9_bare_34 : decode cX9_bare 34 = .ok (.aload_n 0, 1) := by decide +kernel
theorem dX9_bare_35 : decode cX9_bare 35 = .ok (.getfield 41, 3) := by decide +kernel
theorem dX9_bare_38 : decode cX9_bare 38 = .ok (.getfield 234, 3) := by decide +kernel
theorem dX9_bare_41 : decode cX9_bare 41 = .ok (.iadd, 1) := by decide +kernel
theorem dX9_bare_42 : decode cX9_bare 42 = .ok (.if_icmp .ge 32, 3) := by decide +kernel
theorem dX9_bare_45 : decode cX9_bare 45 = .ok (.iload_n 1, 1) := by decide +kernel
theorem q_4_1 : Cond.code yX9_stacksTogether prog_1_method_15_code 3 (some FieldType.int) ∈ gw := gw_4 (i := 1) (rfl) rfl
theorem q_4_0 : Cond.static yX9_stacksTogether ∈ gw := gw_4 (i := 0) (by decide +kernel) rfl
theorem mt_X9_stacksTogether : MtS yX9_stacksTogether cX9_stacksTogether 3 (some .int) 1 := ⟨⟨q_4_1, q_1_1, by decide +kernel, by decide +kernel, by decide +kernel⟩, q_4_0⟩
theorem q_3_239 : Cond.methodLink "BeaconDelay" 216 yX9_stacksTogether ∈ gw := gw_3 (i := 239) (by decide +kernel) rfl
theorem dX9_bare_46 : decode cX9_bare 46 = .ok (.invokestatic 216, 3) := by decide +kernel
theorem dX9_bare_49 : decode cX9_bare 49 = .ok (.ifCond .ne 5, 3) := by decide +kernel
theorem dX9_bare_52 : decode cX9_bare 52 = .ok (.iload_n 2, 1) := by decide +kernel
theorem dX9_bare_53 : decode cX9_bare 53 = .ok (.ireturn, 1) := by decide +kernel
set_option maxHeartbeats 4000000 in
set_option maxRecDepth 100000 in
theorem c_X9_bare_0 (l : Launch) (V : GV) (y : Nat → Nat) : Ct l V yX9_bare (.code yX9_bare cX9_bare 3 (some .int)) 3 [.ref (y 0)] [(y 0, .inr (9, [.ref (y 1), .int 0, .ref (y 2), .ref (y 10), .ref (y 19), .ref (y 25), .ref (y 26), .ref (y 30), .ref (y 31), .ref (y 32), .null, .null, .int 0, .int 0, .int 0])), (y 2, .inr (1, [.int 0, .int 0, .int 0, .int 0, .int 0, .int 0, .ref (y 3), .ref (y 4), .ref (y 5), .ref (y 6), .ref (y 7), .ref (y 8), .ref (y 9), .int 0, .int 0, .int 0, .int 0, .int 0])), (y 19, .inr (4, [.ref (y 2), .ref (y 20), .ref (y 21), .ref (y 22), .ref (y 23), .ref (y 24)])), (y 25, .inr (0, [.int 0, .int 0]))] 0 0 (QI V (fun (r : Int32) (w : va_W) => (r = 0 ∧ w = [(y 0, .inr (9, [.ref (y 1), .int 0, .ref (y 2), .ref (y 10), .ref (y 19), .ref (y 25), .ref (y 26), .ref (y 30), .ref (y 31), .ref (y 32), .null, .null, .int 0, .int 0, .int 0])), (y 2, .inr (1, [.int 0, .int 0, .int 0, .int 0, .int 0, .int 0, .ref (y 3), .ref (y 4), .ref (y 5), .ref (y 6), .ref (y 7), .ref (y 8), .ref (y 9), .int 0, .int 0, .int 0, .int 0, .int 0])), (y 19, .inr (4, [.ref (y 2), .ref (y 20), .ref (y 21), .ref (y 22), .ref (y 23), .ref (y 24)])), (y 25, .inr (0, [.int 0, .int 1]))]))) := by
  refine Ct.of (by decide) (Nat.le_of_ble_eq_true rfl) (fun p e s m below meth c A ls hx hb hr hml hown hlk hnm hg hP hK hD hE hA hS hl => ?_)
  have hl : lv_has ls 3 [(0, .ref (y 0))] := hl
  refine lv_aload_n hx hb dX9_bare_0 rfl (lv_at hl 0 rfl) ?_
  refine va_get (ci := 9) (v := .ref (y 25)) (C := RX9) (T := TX9) (N := 15) hx hb hg inX9 hown hK hP 0 rfl rfl 5 (by decide) (hg _ q_2_41) (fun _ h9 => h9) rfl dX9_bare_1 ?_
  refine lv_aload_n hx hb dX9_bare_4 rfl (lv_at hl 0 rfl) ?_
  refine va_get (ci := 9) (v := .ref (y 19)) (C := RX9) (T := TX9) (N := 15) hx hb hg inX9 hown hK hP 0 rfl rfl 4 (by decide) (hg _ q_2_40) (fun _ h9 => h9) rfl dX9_bare_5 ?_
  refine lv_aload_n hx hb dX9_bare_8 rfl (lv_at hl 0 rfl) ?_
  refine va_get (ci := 9) (v := .int 0) (C := RX9) (T := TX9) (N := 15) hx hb hg inX9 hown hK hP 0 rfl rfl 12 (by decide) (hg _ q_2_48) (fun _ h9 => h9) rfl dX9_bare_9 ?_
  refine lv_aload_n hx hb dX9_bare_12 rfl (lv_at hl 0 rfl) ?_
  refine va_get (ci := 9) (v := .int 0) (C := RX9) (T := TX9) (N := 15) hx hb hg inX9 hown hK hP 0 rfl rfl 13 (by decide) (hg _ q_2_49) (fun _ h9 => h9) rfl dX9_bare_13 ?_
  refine jnV (wr := [(y 0, .inr (9, [.ref (y 1), .int 0, .ref (y 2), .ref (y 10), .ref (y 19), .ref (y 25), .ref (y 26), .ref (y 30), .ref (y 31), .ref (y 32), .null, .null, .int 0, .int 0, .int 0]))]) (rnV (rest := []) ⟨hx, hb, hml, hown, hg⟩ (c_X0_follow_0 l V y) mt_X0_follow q_4_22 ⟨Nat.le_of_ble_eq_true rfl, Nat.le_of_ble_eq_true rfl⟩ hK hP hD hS hA hE [1, 2, 3] rfl rfl 3 rfl rfl rfl rfl hl.1 rfl (Nat.le_of_ble_eq_true rfl) dX9_bare_16 ⟨Nat.le_of_ble_eq_true rfl, Nat.le_of_ble_eq_true rfl⟩) hP hD hS hA [1, 2, 3] [0] rfl rfl rfl (by decide) (fun  w H locs hw hP hD hS => ?_)
  subst hw
  have hP : va_P V.1 vwCl [(y 0, .inr (9, [.ref (y 1), .int 0, .ref (y 2), .ref (y 10), .ref (y 19), .ref (y 25), .ref (y 26), .ref (y 30), .ref (y 31), .ref (y 32), .null, .null, .int 0, .int 0, .int 0])), (y 2, .inr (1, [.int 0, .int 0, .int 0, .int 0, .int 0, .int 0, .ref (y 3), .ref (y 4), .ref (y 5), .ref (y 6), .ref (y 7), .ref (y 8), .ref (y 9), .int 0, .int 0, .int 0, .int 0, .int 0])), (y 19, .inr (4, [.ref (y 2), .ref (y 20), .ref (y 21), .ref (y 22), .ref (y 23), .ref (y 24)])), (y 25, .inr (0, [.int 0, .int 1]))] H := hP
  have hD : va_D A [(y 0, .inr (9, [.ref (y 1), .int 0, .ref (y 2), .ref (y 10), .ref (y 19), .ref (y 25), .ref (y 26), .ref (y 30), .ref (y 31), .ref (y 32), .null, .null, .int 0, .int 0, .int 0])), (y 2, .inr (1, [.int 0, .int 0, .int 0, .int 0, .int 0, .int 0, .ref (y 3), .ref (y 4), .ref (y 5), .ref (y 6), .ref (y 7), .ref (y 8), .ref (y 9), .int 0, .int 0, .int 0, .int 0, .int 0])), (y 19, .inr (4, [.ref (y 2), .ref (y 20), .ref (y 21), .ref (y 22), .ref (y 23), .ref (y 24)])), (y 25, .inr (0, [.int 0, .int 1]))] := hD
  refine lv_aload_n hx hb dX9_bare_19 rfl (lv_at hl 0 rfl) ?_
  refine va_get (ci := 9) (v := .int 0) (C := RX9) (T := TX9) (N := 15) hx hb hg inX9 hown hK hP 0 rfl rfl 12 (by decide) (hg _ q_2_48) (fun _ h9 => h9) rfl dX9_bare_20 ?_
  refine lv_istore_n (lv' := [(1, .int 0), (0, .ref (y 0))]) hx hb dX9_bare_23 rfl hl (by decide) rfl (fun ls hl => ?_)
  refine lv_iconst (v := 0) hx hb dX9_bare_24 (by decide) ?_
  refine lv_istore_n (lv' := [(2, .int 0), (1, .int 0), (0, .ref (y 0))]) hx hb dX9_bare_25 rfl hl (by decide) rfl (fun ls hl => ?_)
  refine lv_iload_n hx hb dX9_bare_26 rfl (lv_at hl 0 rfl) ?_
  refine lv_aload_n hx hb dX9_bare_27 rfl (lv_at hl 2 rfl) ?_
  refine va_get (ci := 9) (v := .ref (y 25)) (C := RX9) (T := TX9) (N := 15) hx hb hg inX9 hown hK hP 0 rfl rfl 5 (by decide) (hg _ q_2_41) (fun _ h9 => h9) rfl dX9_bare_28 ?_
  refine va_get (ci := 0) (v := .int 0) (C := RX0) (T := TX0) (N := 2) hx hb hg inX0 hown hK hP 3 rfl rfl 0 (by decide) (hg _ q_1_197) (fun _ h9 => h9) rfl dX9_bare_31 ?_
  refine lv_aload_n hx hb dX9_bare_34 rfl (lv_at hl 2 rfl) ?_
  refine va_get (ci := 9) (v := .ref (y 25)) (C := RX9) (T := TX9) (N := 15) hx hb hg inX9 hown hK hP 0 rfl rfl 5 (by decide) (hg _ q_2_41) (fun _ h9 => h9) rfl dX9_bare_35 ?_
  refine va_get (ci := 0) (v := .int 1) (C := RX0) (T := TX0) (N := 2) hx hb hg inX0 hown hK hP 3 rfl rfl 1 (by decide) (hg _ q_1_199) (fun _ h9 => h9) rfl dX9_bare_38 ?_
  refine lv_iadd hx hb dX9_bare_41 ?_
  refine tpi (y := 1) (by decide +kernel) ?_
  refine lv_icmp_ge (tgt := 74) hx hb dX9_bare_42 (by decide) (fun c_1 => absurd c_1 (by decide)) (fun _ => ?_)
  refine lv_iload_n hx hb dX9_bare_45 rfl (lv_at hl 1 rfl) ?_
  refine jnI (wr := [(y 0, .inr (9, [.ref (y 1), .int 0, .ref (y 2), .ref (y 10), .ref (y 19), .ref (y 25), .ref (y 26), .ref (y 30), .ref (y 31), .ref (y 32), .null, .null, .int 0, .int 0, .int 0])), (y 2, .inr (1, [.int 0, .int 0, .int 0, .int 0, .int 0, .int 0, .ref (y 3), .ref (y 4), .ref (y 5), .ref (y 6), .ref (y 7), .ref (y 8), .ref (y 9), .int 0, .int 0, .int 0, .int 0, .int 0])), (y 19, .inr (4, [.ref (y 2), .ref (y 20), .ref (y 21), .ref (y 22), .ref (y 23), .ref (y 24)])), (y 25, .inr (0, [.int 0, .int 1]))]) (rnS (rest := []) ⟨hx, hb, hml, hown, hg⟩ (c_X9_stacksTogether_0 l V) mt_X9_stacksTogether q_3_239 ⟨Nat.le_of_ble_eq_true rfl, Nat.le_of_ble_eq_true rfl⟩ hK hP hD hS hA hE [] rfl rfl rfl hl.1 rfl (Nat.le_of_ble_eq_true rfl) dX9_bare_46 ⟨Nat.le_of_ble_eq_true rfl, Nat.le_of_ble_eq_true rfl⟩) hP hD hS hA [] [0, 1, 2, 3] rfl rfl rfl (by decide) (fun r_2 w H locs hw hP hD hS => ?_)
  obtain ⟨rfl, rfl⟩ := hw
  have hP : va_P V.1 vwCl [(y 0, .inr (9, [.ref (y 1), .int 0, .ref (y 2), .ref (y 10), .ref (y 19), .ref (y 25), .ref (y 26), .ref (y 30), .ref (y 31), .ref (y 32), .null, .null, .int 0, .int 0, .int 0])), (y 2, .inr (1, [.int 0, .int 0, .int 0, .int 0, .int 0, .int 0, .ref (y 3), .ref (y 4), .ref (y 5), .ref (y 6), .ref (y 7), .ref (y 8), .ref (y 9), .int 0, .int 0, .int 0, .int 0, .int 0])), (y 19, .inr (4, [.ref (y 2), .ref (y 20), .ref (y 21), .ref (y 22), .ref (y 23), .ref (y 24)])), (y 25, .inr (0, [.int 0, .int 1]))] H := hP
  have hD : va_D A [(y 0, .inr (9, [.ref (y 1), .int 0, .ref (y 2), .ref (y 10), .ref (y 19), .ref (y 25), .ref (y 26), .ref (y 30), .ref (y 31), .ref (y 32), .null, .null, .int 0, .int 0, .int 0])), (y 2, .inr (1, [.int 0, .int 0, .int 0, .int 0, .int 0, .int 0, .ref (y 3), .ref (y 4), .ref (y 5), .ref (y 6), .ref (y 7), .ref (y 8), .ref (y 9), .int 0, .int 0, .int 0, .int 0, .int 0])), (y 19, .inr (4, [.ref (y 2), .ref (y 20), .ref (y 21), .ref (y 22), .ref (y 23), .ref (y 24)])), (y 25, .inr (0, [.int 0, .int 1]))] := hD
  refine lv_if_ne (tgt := 54) hx hb dX9_bare_49 (by decide) (fun c_3 => absurd c_3 (by decide)) (fun _ => ?_)
  refine lv_iload_n hx hb dX9_bare_52 rfl (lv_at hl 0 rfl) ?_
  exact fiI hx hb hr hlk hK hP hD hS dX9_bare_53 (Nat.le_of_ble_eq_true rfl) (Nat.le_of_ble_eq_true rfl) (⟨rfl, rfl⟩)
