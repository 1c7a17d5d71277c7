theorem dX10_night_0 : decode cX10_night 0 = .ok (.aload_n 0, 1) := by decide +kernel
theorem dX10_night_1 : decode cX10_night 1 = .ok (.iconst 0, 1) := by decide +kernel
theorem dX10_night_2 : decode cX10_night 2 = .ok (.putfield 1, 3) := by decide +kernel
theorem dX10_night_5 : decode cX10_night 5 = .ok (.aload_n 0, 1) := by decide +kernel
theorem dX10_night_6 : decode cX10_night 6 = .ok (.iload_n 1, 1) := by decide +kernel
theorem dX10_night_7 : decode cX10_night 7 = .ok (.i2l, 1) := by decide +kernel
theorem q_7_10 : Cond.code yX10_isNight prog_12_method_51_code 3 (some FieldType.boolean) ∈ gw := gw_7 (i := 10) (rfl) rfl
theorem q_7_9 : Cond.instanceMethod yX10_isNight ∈ gw := gw_7 (i := 9) (by decide +kernel) rfl
theorem q_s_80 : Cond.selects "BeaconDelayModel" yX10_isNight yX10_isNight ∈ gw := gw_s (i := 80) (by decide +kernel) rfl
theorem mt_X10_isNight : MtV yX10_isNight cX10_isNight 3 (some .boolean) 1 := ⟨⟨q_7_10, q_1_9, by decide +kernel, by decide +kernel, by decide +kernel⟩, q_7_9, q_s_80⟩
theorem q_7_7 : Cond.methodLink "BeaconDelayModel" 266 yX10_isNight ∈ gw := gw_7 (i := 7) (by decide +kernel) rfl
theorem dX10_night_8 : decode cX10_night 8 = .ok (.invokevirtual 266, 3) := by decide +kernel
theorem dX10_night_11 : decode cX10_night 11 = .ok (.ifCond .ne 6, 3) := by decide +kernel
theorem dX10_night_17 : decode cX10_night 17 = .ok (.aload_n 0, 1) := by decide +kernel
theorem q_7_63 : Cond.code yX10_stores prog_12_method_56_code 2 none ∈ gw := gw_7 (i := 63) (rfl) rfl
theorem q_7_62 : Cond.instanceMethod yX10_stores ∈ gw := gw_7 (i := 62) (by decide +kernel) rfl
theorem q_s_87 : Cond.selects "BeaconDelayModel" yX10_stores yX10_stores ∈ gw := gw_s (i := 87) (by decide +kernel) rfl
theorem mt_X10_stores : MtV yX10_stores cX10_stores 2 none 0 := ⟨⟨q_7_63, q_1_9, by decide +kernel, by decide +kernel, by decide +kernel⟩, q_7_62, q_s_87⟩
theorem q_7_60 : Cond.methodLink "BeaconDelayModel" 278 yX10_stores ∈ gw := gw_7 (i := 60) (by decide +kernel) rfl
theorem dX10_night_18 : decode cX10_night 18 = .ok (.invokevirtual 278, 3) := by decide +kernel
theorem dX10_night_21 : decode cX10_night 21 = .ok (.aload_n 0, 1) := by decide +kernel
theorem dX10_night_22 : decode cX10_night 22 = .ok (.iload_n 1, 1) := by decide +kernel
theorem q_7_67 : Cond.code yX10_goesNight prog_12_method_59_code 2 none ∈ gw := gw_7 (i := 67) (rfl) rfl
theorem q_7_66 : Cond.instanceMethod yX10_goesNight ∈ gw := gw_7 (i := 66) (by decide +kernel) rfl
theorem q_s_88 : Cond.selects "BeaconDelayModel" yX10_goesNight yX10_goesNight ∈ gw := gw_s (i := 88) (by decide +kernel) rfl
theorem mt_X10_goesNight : MtV yX10_goesNight cX10_goesNight 2 none 1 := ⟨⟨q_7_67, q_1_9, by decide +kernel, by decide +kernel, by decide +kernel⟩, q_7_66, q_s_88⟩
theorem q_7_64 : Cond.methodLink "BeaconDelayModel" 281 yX10_goesNight ∈ gw := gw_7 (i := 64) (by decide +kernel) rfl
theorem dX10_night_23 : decode cX10_night 23 = .ok (.invokevirtual 281, 3) := by decide +kernel
theorem dX10_night_26 : decode cX10_night 26 = .ok (.aload_n 0, 1) := by decide +kernel
theorem q_7_75 : Cond.code yX10_notes prog_12_method_58_code 2 none ∈ gw := gw_7 (i := 75) (rfl) rfl
theorem q_7_74 : Cond.instanceMethod yX10_notes ∈ gw := gw_7 (i := 74) (by decide +kernel) rfl
theorem q_s_90 : Cond.selects "BeaconDelayModel" yX10_notes yX10_notes ∈ gw := gw_s (i := 90) (by decide +kernel) rfl
theorem mt_X10_notes : MtV yX10_notes cX10_notes 2 none 0 := ⟨⟨q_7_75, q_1_9, by decide +kernel, by decide +kernel, by decide +kernel⟩, q_7_74, q_s_90⟩
theorem q_7_72 : Cond.methodLink "BeaconDelayModel" 284 yX10_notes ∈ gw := gw_7 (i := 72) (by decide +kernel) rfl
theorem dX10_night_27 : decode cX10_night 27 = .ok (.invokevirtual 284, 3) := by decide +kernel
theorem dX10_night_30 : decode cX10_night 30 = .ok (.aload_n 0, 1) := by decide +kernel
theorem dX10_night_31 : decode cX10_night 31 = .ok (.getfield 13, 3) := by decide +kernel
theorem dX10_night_34 : decode cX10_night 34 = .ok (.bipush 50, 2) := by decide +kernel
theorem dX10_night_36 : decode cX10_night 36 = .ok (.iaload, 1) := by decide +kernel
theorem dX10_night_37 : decode cX10_night 37 = .ok (.ireturn, 1) := by decide +kernel
theorem dX10_night_14 : decode cX10_night 14 = .ok (.bipush (-11), 2) := by decide +kernel
theorem dX10_night_16 : decode cX10_night 16 = .ok (.ireturn, 1) := by decide +kernel
set_option maxHeartbeats 4000000 in
set_option maxRecDepth 100000 in
theorem c_X10_night_0 (l : Launch) (V : GV) (z : Nat → Nat) (p0 : Int32) : Ct l V yX10_night (.code yX10_night cX10_night 2 (some .int)) 4 [.ref (z 0), .int p0] [(z 0, .inr (10, mo z 0 0 0 0 0 0 0 0 0 0 (-1) 0 0 0 0 0)), (z 17, aI V 7 (fun _ => 0)), (z 1, aI V 3075 (fun _ => 0))] 0 0 (QI V (fun (r : Int32) (w : va_W) => (p0.toInt64 = 0 ∧ r = 0 ∧ w = [(z 0, .inr (10, mo z 0 0 0 0 0 0 0 0 0 0 (-1) 0 0 0 0 0)), (z 17, aI V 7 (fun _ => 0)), (z 1, aI V 3075 (upd (upd (fun _ => 0) 52 1) 53 1))]) ∨ ((¬ p0.toInt64 = 0) ∧ p0.toInt64 < 1 ∧ r = (-11) ∧ w = [(z 0, .inr (10, mo z 0 0 0 0 0 0 0 0 0 0 (-1) 0 0 0 0 0)), (z 17, aI V 7 (fun _ => 0)), (z 1, aI V 3075 (fun _ => 0))]) ∨ ((¬ p0.toInt64 = 0) ∧ (¬ p0.toInt64 < 1) ∧ (-1) < p0.toInt64 ∧ r = (-11) ∧ w = [(z 0, .inr (10, mo z 0 0 0 0 0 0 0 0 0 0 (-1) 0 0 0 0 0)), (z 17, aI V 7 (fun _ => 0)), (z 1, aI V 3075 (fun _ => 0))]))) := by
  refine Ct.of (by decide) (Nat.le_of_ble_eq_true rfl) (fun p e s m below meth c A ls hx hb hr hml hown hlk hnm hg hP hK hD hE hA hS hl => ?_)
  have hl : lv_has ls 2 [(0, .ref (z 0)), (1, .int p0)] := hl
  refine lv_aload_n hx hb dX10_night_0 rfl (lv_at hl 0 rfl) ?_
  refine lv_iconst (v := 0) hx hb dX10_night_1 (by decide) ?_
  refine va_put (ci := 10) (v := .int 0) (ty := .int) (C := RX10) (T := TX10) (N := 40) hx hb hg inX10 tyX10 tyX10_ok nmX10 hown hK hP hD hS 0 rfl rfl 0 (by decide) (hg _ q_5_224) (fun _ h9 => h9) rfl (by decide +kernel) rfl rfl (Nat.le_of_ble_eq_true rfl) dX10_night_2 (fun H locs hP hD hS => ?_)
  have hP : va_P V.1 vwCl [(z 0, .inr (10, mo z 0 0 0 0 0 0 0 0 0 0 (-1) 0 0 0 0 0)), (z 17, aI V 7 (fun _ => 0)), (z 1, aI V 3075 (fun _ => 0))] H := hP
  have hD : va_D A [(z 0, .inr (10, mo z 0 0 0 0 0 0 0 0 0 0 (-1) 0 0 0 0 0)), (z 17, aI V 7 (fun _ => 0)), (z 1, aI V 3075 (fun _ => 0))] := hD
  refine lv_aload_n hx hb dX10_night_5 rfl (lv_at hl 0 rfl) ?_
  refine lv_iload_n hx hb dX10_night_6 rfl (lv_at hl 1 rfl) ?_
  refine lv_i2l (v := p0.toInt64) hx hb dX10_night_7 rfl ?_
  refine jnI (wr := [(z 17, aI V 7 (fun _ => 0))]) (rnV (rest := []) ⟨hx, hb, hml, hown, hg⟩ (c_X10_isNight_0 l V z p0.toInt64) mt_X10_isNight q_7_7 ⟨Nat.le_of_ble_eq_true rfl, Nat.le_of_ble_eq_true rfl⟩ hK hP hD hS hA hE [0, 2] rfl rfl 0 rfl rfl rfl rfl hl.1 rfl (Nat.le_of_ble_eq_true rfl) dX10_night_8 ⟨Nat.le_of_ble_eq_true rfl, Nat.le_of_ble_eq_true rfl⟩) hP hD hS hA [0, 2] [1] rfl rfl rfl (by decide) (fun r_1 w H locs hw hP hD hS => ?_)
  rcases hw with ⟨c_2, rfl, rfl⟩ | ⟨c_3, c_4, rfl, rfl⟩ | ⟨c_5, c_6, c_7, rfl, rfl⟩
  · have hP : va_P V.1 vwCl [(z 17, aI V 7 (fun _ => 0)), (z 0, .inr (10, mo z 0 0 0 0 0 0 0 0 0 0 (-1) 0 0 0 0 0)), (z 1, aI V 3075 (fun _ => 0))] H := hP
    have hD : va_D A [(z 17, aI V 7 (fun _ => 0)), (z 0, .inr (10, mo z 0 0 0 0 0 0 0 0 0 0 (-1) 0 0 0 0 0)), (z 1, aI V 3075 (fun _ => 0))] := hD
    refine lv_if_ne (tgt := 17) hx hb dX10_night_11 (by decide) (fun _ => ?_) (fun c_8 => absurd c_8 (by decide))
    refine lv_aload_n hx hb dX10_night_17 rfl (lv_at hl 0 rfl) ?_
    refine jnV (wr := []) (rnV (rest := []) ⟨hx, hb, hml, hown, hg⟩ (c_X10_stores_0 l V z) mt_X10_stores q_7_60 ⟨Nat.le_of_ble_eq_true rfl, Nat.le_of_ble_eq_true rfl⟩ hK hP hD hS hA hE [0, 1, 2] rfl rfl 1 rfl rfl rfl rfl hl.1 rfl (Nat.le_of_ble_eq_true rfl) dX10_night_18 ⟨Nat.le_of_ble_eq_true rfl, Nat.le_of_ble_eq_true rfl⟩) hP hD hS hA [0, 1, 2] [] rfl rfl rfl (by decide) (fun  w H locs hw hP hD hS => ?_)
    subst hw
    have hP : va_P V.1 vwCl [(z 17, aI V 7 (fun _ => 0)), (z 0, .inr (10, mo z 0 0 0 0 0 0 0 0 0 0 (-1) 0 0 0 0 0)), (z 1, aI V 3075 (fun _ => 0))] H := hP
    have hD : va_D A [(z 17, aI V 7 (fun _ => 0)), (z 0, .inr (10, mo z 0 0 0 0 0 0 0 0 0 0 (-1) 0 0 0 0 0)), (z 1, aI V 3075 (fun _ => 0))] := hD
    refine lv_aload_n hx hb dX10_night_21 rfl (lv_at hl 0 rfl) ?_
    refine lv_iload_n hx hb dX10_night_22 rfl (lv_at hl 1 rfl) ?_
    refine jnV (wr := [(z 17, aI V 7 (fun _ => 0))]) (rnV (rest := []) ⟨hx, hb, hml, hown, hg⟩ (c_X10_goesNight_0 l V z p0) mt_X10_goesNight q_7_64 ⟨Nat.le_of_ble_eq_true rfl, Nat.le_of_ble_eq_true rfl⟩ hK hP hD hS hA hE [1, 2] rfl rfl 1 rfl rfl rfl rfl hl.1 rfl (Nat.le_of_ble_eq_true rfl) dX10_night_23 ⟨Nat.le_of_ble_eq_true rfl, Nat.le_of_ble_eq_true rfl⟩) hP hD hS hA [1, 2] [0] rfl rfl rfl (by decide) (fun  w H locs hw hP hD hS => ?_)
    subst hw
    have hP : va_P V.1 vwCl [(z 17, aI V 7 (fun _ => 0)), (z 0, .inr (10, mo z 0 0 0 0 0 0 0 0 0 0 (-1) 0 0 0 0 0)), (z 1, aI V 3075 (upd (fun _ => 0) 52 1))] H := hP
    have hD : va_D A [(z 17, aI V 7 (fun _ => 0)), (z 0, .inr (10, mo z 0 0 0 0 0 0 0 0 0 0 (-1) 0 0 0 0 0)), (z 1, aI V 3075 (upd (fun _ => 0) 52 1))] := hD
    refine lv_aload_n hx hb dX10_night_26 rfl (lv_at hl 0 rfl) ?_
    refine jnV (wr := []) (rnV (rest := []) ⟨hx, hb, hml, hown, hg⟩ (c_X10_notes_0 l V z) mt_X10_notes q_7_72 ⟨Nat.le_of_ble_eq_true rfl, Nat.le_of_ble_eq_true rfl⟩ hK hP hD hS hA hE [0, 1, 2] rfl rfl 1 rfl rfl rfl rfl hl.1 rfl (Nat.le_of_ble_eq_true rfl) dX10_night_27 ⟨Nat.le_of_ble_eq_true rfl, Nat.le_of_ble_eq_true rfl⟩) hP hD hS hA [0, 1, 2] [] rfl rfl rfl (by decide) (fun  w H locs hw hP hD hS => ?_)
    subst hw
    have hP : va_P V.1 vwCl [(z 17, aI V 7 (fun _ => 0)), (z 0, .inr (10, mo z 0 0 0 0 0 0 0 0 0 0 (-1) 0 0 0 0 0)), (z 1, aI V 3075 (upd (upd (fun _ => 0) 52 1) 53 1))] H := hP
    have hD : va_D A [(z 17, aI V 7 (fun _ => 0)), (z 0, .inr (10, mo z 0 0 0 0 0 0 0 0 0 0 (-1) 0 0 0 0 0)), (z 1, aI V 3075 (upd (upd (fun _ => 0) 52 1) 53 1))] := hD
    refine lv_aload_n hx hb dX10_night_30 rfl (lv_at hl 0 rfl) ?_
    refine va_get (ci := 10) (v := .ref (z 1)) (C := RX10) (T := TX10) (N := 40) hx hb hg inX10 hown hK hP 1 rfl rfl 1 (by decide) (hg _ q_5_225) (fun _ h9 => h9) rfl dX10_night_31 ?_
    refine lv_bipush (v := 50) hx hb dX10_night_34 (by decide) ?_
    refine va_iald hx hb hK hP 2 0 rfl rfl (vin (by decide +kernel)) dX10_night_36 ?_
    refine tpi (y := 0) (rfl) ?_
    have hP := subP (ws' := [(z 0, .inr (10, mo z 0 0 0 0 0 0 0 0 0 0 (-1) 0 0 0 0 0)), (z 17, aI V 7 (fun _ => 0)), (z 1, aI V 3075 (upd (upd (fun _ => 0) 52 1) 53 1))]) hP [1, 0, 2] rfl
    have hD := hD.sub (ws' := [(z 0, .inr (10, mo z 0 0 0 0 0 0 0 0 0 0 (-1) 0 0 0 0 0)), (z 17, aI V 7 (fun _ => 0)), (z 1, aI V 3075 (upd (upd (fun _ => 0) 52 1) 53 1))]) [1, 0, 2] rfl rfl
    exact fiI hx hb hr hlk hK hP hD hS dX10_night_37 (Nat.le_of_ble_eq_true rfl) (Nat.le_of_ble_eq_true rfl) (Or.inl ⟨c_2, rfl, rfl⟩)
  · have hP : va_P V.1 vwCl [(z 17, aI V 7 (fun _ => 0)), (z 0, .inr (10, mo z 0 0 0 0 0 0 0 0 0 0 (-1) 0 0 0 0 0)), (z 1, aI V 3075 (fun _ => 0))] H := hP
    have hD : va_D A [(z 17, aI V 7 (fun _ => 0)), (z 0, .inr (10, mo z 0 0 0 0 0 0 0 0 0 0 (-1) 0 0 0 0 0)), (z 1, aI V 3075 (fun _ => 0))] := hD
    refine lv_if_ne (tgt := 17) hx hb dX10_night_11 (by decide) (fun c_9 => absurd c_9 (by decide)) (fun _ => ?_)
    refine lv_bipush (v := (-11)) hx hb dX10_night_14 (by decide) ?_
    have hP := subP (ws' := [(z 0, .inr (10, mo z 0 0 0 0 0 0 0 0 0 0 (-1) 0 0 0 0 0)), (z 17, aI V 7 (fun _ => 0)), (z 1, aI V 3075 (fun _ => 0))]) hP [1, 0, 2] rfl
    have hD := hD.sub (ws' := [(z 0, .inr (10, mo z 0 0 0 0 0 0 0 0 0 0 (-1) 0 0 0 0 0)), (z 17, aI V 7 (fun _ => 0)), (z 1, aI V 3075 (fun _ => 0))]) [1, 0, 2] rfl rfl
    exact fiI hx hb hr hlk hK hP hD hS dX10_night_16 (Nat.le_of_ble_eq_true rfl) (Nat.le_of_ble_eq_true rfl) (Or.inr (Or.inl ⟨c_3, c_4, rfl, rfl⟩))
  · have hP : va_P V.1 vwCl [(z 17, aI V 7 (fun _ => 0)), (z 0, .inr (10, mo z 0 0 0 0 0 0 0 0 0 0 (-1) 0 0 0 0 0)), (z 1, aI V 3075 (fun _ => 0))] H := hP
    have hD : va_D A [(z 17, aI V 7 (fun _ => 0)), (z 0, .inr (10, mo z 0 0 0 0 0 0 0 0 0 0 (-1) 0 0 0 0 0)), (z 1, aI V 3075 (fun _ => 0))] := hD
    refine lv_if_ne (tgt := 17) hx hb dX10_night_11 (by decide) (fun c_10 => absurd c_10 (by decide)) (fun _ => ?_)
    refine lv_bipush (v := (-11)) hx hb dX10_night_14 (by decide) ?_
    have hP := subP (ws' := [(z 0, .inr (10, mo z 0 0 0 0 0 0 0 0 0 0 (-1) 0 0 0 0 0)), (z 17, aI V 7 (fun _ => 0)), (z 1, aI V 3075 (fun _ => 0))]) hP [1, 0, 2] rfl
    have hD := hD.sub (ws' := [(z 0, .inr (10, mo z 0 0 0 0 0 0 0 0 0 0 (-1) 0 0 0 0 0)), (z 17, aI V 7 (fun _ => 0)), (z 1, aI V 3075 (fun _ => 0))]) [1, 0, 2] rfl rfl
    exact fiI hx hb hr hlk hK hP hD hS dX10_night_16 (Nat.le_of_ble_eq_true rfl) (Nat.le_of_ble_eq_true rfl) (Or.inr (Or.inr (⟨c_5, c_6, c_7, rfl, rfl⟩)))
theorem dX9_isNight_0 : decode cX9_isNight 0 = .ok (.lload_n 1, 1) := by decide +kernel
theorem dX9_isNight_1 : decode cX9_isNight 1 = .ok (.lconst 0, 1) := by decide +kernel
theorem dX9_isNight_2 : decode cX9_isNight 2 = .ok (.lcmp, 1) := by decide +kernel
theorem dX9_isNight_3 : decode cX9_isNight 3 = .ok (.ifCond .eq 22, 3) := by decide +kernel
theorem dX9_isNight_25 : decode cX9_isNight 25 = .ok (.iconst 1, 1) := by decide +kernel
theorem dX9_isNight_26 : decode cX9_isNight 26 = .ok (.goto 4, 3) := by decide +kernel
theorem dX9_isNight_30 : decode cX9_isNight 30 = .ok (.ireturn, 1) := by decide +kernel
theorem dX9_isNight_6 : decode cX9_isNight 6 = .ok (.lload_n 1, 1) := by decide +kernel
theorem dX9_isNight_7 : decode cX9_isNight 7 = .ok (.lconst 0, 1) := by decide +kernel
theorem dX9_isNight_8 : decode cX9_isNight 8 = .ok (.lcmp, 1) := by decide +kernel
theorem dX9_isNight_9 : decode cX9_isNight 9 = .ok (.ifCond .le 20, 3) := by decide +kernel
theorem dX9_isNight_29 : decode cX9_isNight 29 = .ok (.iconst 0, 1) := by decide +kernel
theorem dX9_isNight_12 : decode cX9_isNight 12 = .ok (.lload_n 1, 1) := by decide +kernel
theorem dX9_isNight_13 : decode cX9_isNight 13 = .ok (.aload_n 0, 1) := by decide +kernel
theorem dX9_isNight_14 : decode cX9_isNight 14 = .ok (.getfield 16, 3) := by decide +kernel
theorem dX9_isNight_17 : decode cX9_isNight 17 = .ok (.getfield 159, 3) := by decide +kernel
theorem dX9_isNight_20 : decode cX9_isNight 20 = .ok (.i2l, 1) := by decide +kernel
theorem dX9_isNight_21 : decode cX9_isNight 21 = .ok (.lcmp, 1) := by decide +kernel
theorem dX9_isNight_22 : decode cX9_isNight 22 = .ok (.ifCond .ge 7, 3) := by decide +kernel
set_option maxHeartbeats 4000000 in
set_option maxRecDepth 100000 in
theorem c_X9_isNight_0 (l : Launch) (V : GV) (y : Nat → Nat) (j0 : Int64) : Ct l V yX9_isNight (.code yX9_isNight cX9_isNight 3 (some .boolean)) 1 [.ref (y 0), .long j0] [(y 0, .inr (9, [.ref (y 1), .int 0, .ref (y 2), .ref (y 10), .ref (y 19), .ref (y 25), .ref (y 26), .ref (y 30), .ref (y 31), .ref (y 32), .null, .null, .int 0, .int 0, .int 0])), (y 2, .inr (1, [.int 0, .int 0, .int 0, .int 0, .int 0, .int 0, .ref (y 3), .ref (y 4), .ref (y 5), .ref (y 6), .ref (y 7), .ref (y 8), .ref (y 9), .int 0, .int 0, .int 0, .int 0, .int 0]))] 0 0 (QI V (fun (r : Int32) (w : va_W) => (j0 = 0 ∧ r = 1 ∧ w = [(y 0, .inr (9, [.ref (y 1), .int 0, .ref (y 2), .ref (y 10), .ref (y 19), .ref (y 25), .ref (y 26), .ref (y 30), .ref (y 31), .ref (y 32), .null, .null, .int 0, .int 0, .int 0])), (y 2, .inr (1, [.int 0, .int 0, .int 0, .int 0, .int 0, .int 0, .ref (y 3), .ref (y 4), .ref (y 5), .ref (y 6), .ref (y 7), .ref (y 8), .ref (y 9), .int 0, .int 0, .int 0, .int 0, .int 0]))]) ∨ ((¬ j0 = 0) ∧ j0 ≤ 0 ∧ r = 0 ∧ w = [(y 0, .inr (9, [.ref (y 1), .int 0, .ref (y 2), .ref (y 10), .ref (y 19), .ref (y 25), .ref (y 26), .ref (y 30), .ref (y 31), .ref (y 32), .null, .null, .int 0, .int 0, .int 0])), (y 2, .inr (1, [.int 0, .int 0, .int 0, .int 0, .int 0, .int 0, .ref (y 3), .ref (y 4), .ref (y 5), .ref (y 6), .ref (y 7), .ref (y 8), .ref (y 9), .int 0, .int 0, .int 0, .int 0, .int 0]))]) ∨ ((¬ j0 = 0) ∧ (¬ j0 ≤ 0) ∧ r = 0 ∧ w = [(y 0, .inr (9, [.ref (y 1), .int 0, .ref (y 2), .ref (y 10), .ref (y 19), .ref (y 25), .ref (y 26), .ref (y 30), .ref (y 31), .ref (y 32), .null, .null, .int 0, .int 0, .int 0])), (y 2, .inr (1, [.int 0, .int 0, .int 0, .int 0, .int 0, .int 0, .ref (y 3), .ref (y 4), .ref (y 5), .ref (y 6), .ref (y 7), .ref (y 8), .ref (y 9), .int 0, .int 0, .int 0, .int 0, .int 0]))]))) := by
  refine Ct.of (by decide) (Nat.le_of_ble_eq_true rfl) (fun p e s m below meth c A ls hx hb hr hml hown hlk hnm hg hP hK hD hE hA hS hl => ?_)
  have hl : lv_has ls 3 [(0, .ref (y 0)), (1, .long j0)] := hl
  refine lv_lload_n hx hb dX9_isNight_0 rfl (lv_at hl 1 rfl) ?_
  refine lv_lconst (v := 0) hx hb dX9_isNight_1 (by decide) ?_
  refine W.lcmp hx hb dX9_isNight_2 ?_
  refine lv_if_eq (tgt := 25) hx hb dX9_isNight_3 (by decide) (fun c_1 => ?_) (fun c_1 => ?_)
  · replace c_1 : j0 = 0 := (lg_cmp_eq _ _).mp c_1
    refine lv_iconst (v := 1) hx hb dX9_isNight_25 (by decide) ?_
    refine lv_goto (tgt := 30) hx hb dX9_isNight_26 (by decide) ?_
    exact fiZ rfl hx hb hr hlk hK hP hD hS dX9_isNight_30 (Nat.le_of_ble_eq_true rfl) (Nat.le_of_ble_eq_true rfl) (Or.inl ⟨c_1, rfl, rfl⟩)
  · replace c_1 : ¬ j0 = 0 := fun z => c_1 ((lg_cmp_eq _ _).mpr z)
    refine lv_lload_n hx hb dX9_isNight_6 rfl (lv_at hl 1 rfl) ?_
    refine lv_lconst (v := 0) hx hb dX9_isNight_7 (by decide) ?_
    refine W.lcmp hx hb dX9_isNight_8 ?_
    refine lv_if_le (tgt := 29) hx hb dX9_isNight_9 (by decide) (fun c_2 => ?_) (fun c_2 => ?_)
    · replace c_2 : j0 ≤ 0 := (lg_cmp_le _ _).mp c_2
      refine lv_iconst (v := 0) hx hb dX9_isNight_29 (by decide) ?_
      exact fiZ rfl hx hb hr hlk hK hP hD hS dX9_isNight_30 (Nat.le_of_ble_eq_true rfl) (Nat.le_of_ble_eq_true rfl) (Or.inr (Or.inl ⟨c_1, c_2, rfl, rfl⟩))
    · replace c_2 : ¬ j0 ≤ 0 := fun z => c_2 ((lg_cmp_le _ _).mpr z)
      refine lv_lload_n hx hb dX9_isNight_12 rfl (lv_at hl 1 rfl) ?_
      refine lv_aload_n hx hb dX9_isNight_13 rfl (lv_at hl 0 rfl) ?_
      refine va_get (ci := 9) (v := .ref (y 2)) (C := RX9) (T := TX9) (N := 15) hx hb hg inX9 hown hK hP 0 rfl rfl 2 (by decide) (hg _ q_2_38) (fun _ h9 => h9) rfl dX9_isNight_14 ?_
      refine va_get (ci := 1) (v := .int 0) (C := RX1) (T := TX1) (N := 18) hx hb hg inX1 hown hK hP 1 rfl rfl 1 (by decide) (hg _ q_1_41) (fun _ h9 => h9) rfl dX9_isNight_17 ?_
      refine lv_i2l (v := 0) hx hb dX9_isNight_20 (by decide +kernel) ?_
      refine W.lcmp hx hb dX9_isNight_21 ?_
      refine lv_if_ge (tgt := 29) hx hb dX9_isNight_22 (by decide) (fun _ => ?_) (fun c_3 => False.elim (by have c_4 : ¬ 0 ≤ j0 := (fun z => c_3 ((lg_cmp_ge _ _).mpr z)); exact (by simp only [tI_lt, tI_le, tI_eq, tL_lt, tL_le, tL_eq, tWx, (by decide : (0 : Int64).toInt = 0)] at c_1 c_2 c_4; omega)))
      refine lv_iconst (v := 0) hx hb dX9_isNight_29 (by decide) ?_
      exact fiZ rfl hx hb hr hlk hK hP hD hS dX9_isNight_30 (Nat.le_of_ble_eq_true rfl) (Nat.le_of_ble_eq_true rfl) (Or.inr (Or.inr (⟨c_1, c_2, rfl, rfl⟩)))
theorem dX5_keep_0 : decode cX5_keep 0 = .ok (.aload_n 0, 1) := by decide +kernel
theorem q_1_217 : Cond.fieldLink "BeaconDelay$Past" 21 "BeaconDelay$Past" "count" "I" ∈ gw := gw_1 (i := 217) (by decide +kernel) rfl
theorem dX5_keep_1 : decode cX5_keep 1 = .ok (.getfield 21, 3) := by decide +kernel
theorem dX5_keep_4 : decode cX5_keep 4 = .ok (.bipush 10, 2) := by decide +kernel
theorem dX5_keep_6 : decode cX5_keep 6 = .ok (.if_icmp .ne 34, 3) := by decide +kernel
theorem dX5_keep_40 : decode cX5_keep 40 = .ok (.aload_n 0, 1) := by decide +kernel
theorem dX5_keep_41 : decode cX5_keep 41 = .ok (.getfield 9, 3) := by decide +kernel
theorem dX5_keep_44 : decode cX5_keep 44 = .ok (.aload_n 0, 1) := by decide +kernel
theorem dX5_keep_45 : decode cX5_keep 45 = .ok (.getfield 21, 3) := by decide +kernel
theorem dX5_keep_48 : decode cX5_keep 48 = .ok (.iload_n 1, 1) := by decide +kernel
theorem dX5_keep_49 : decode cX5_keep 49 = .ok (.iastore, 1) := by decide +kernel
theorem dX5_keep_50 : decode cX5_keep 50 = .ok (.aload_n 0, 1) := by decide +kernel
theorem dX5_keep_51 : decode cX5_keep 51 = .ok (.getfield 15, 3) := by decide +kernel
theorem dX5_keep_54 : decode cX5_keep 54 = .ok (.aload_n 0, 1) := by decide +kernel
theorem dX5_keep_55 : decode cX5_keep 55 = .ok (.getfield 21, 3) := by decide +kernel
theorem dX5_keep_58 : decode cX5_keep 58 = .ok (.iload_n 2, 1) := by decide +kernel
theorem dX5_keep_59 : decode cX5_keep 59 = .ok (.iastore, 1) := by decide +kernel
theorem dX5_keep_60 : decode cX5_keep 60 = .ok (.aload_n 0, 1) := by decide +kernel
theorem dX5_keep_61 : decode cX5_keep 61 = .ok (.getfield 18, 3) := by decide +kernel
theorem dX5_keep_64 : decode cX5_keep 64 = .ok (.aload_n 0, 1) := by decide +kernel
theorem dX5_keep_65 : decode cX5_keep 65 = .ok (.getfield 21, 3) := by decide +kernel
theorem dX5_keep_68 : decode cX5_keep 68 = .ok (.iload_n 3, 1) := by decide +kernel
theorem dX5_keep_69 : decode cX5_keep 69 = .ok (.iastore, 1) := by decide +kernel
theorem dX5_keep_70 : decode cX5_keep 70 = .ok (.aload_n 0, 1) := by decide +kernel
theorem dX5_keep_71 : decode cX5_keep 71 = .ok (.dup, 1) := by decide +kernel
theorem dX5_keep_72 : decode cX5_keep 72 = .ok (.getfield 21, 3) := by decide +kernel
theorem dX5_keep_75 : decode cX5_keep 75 = .ok (.iconst 1, 1) := by decide +kernel
theorem dX5_keep_76 : decode cX5_keep 76 = .ok (.iadd, 1) := by decide +kernel
theorem dX5_keep_77 : decode cX5_keep 77 = .ok (.putfield 21, 3) := by decide +kernel
theorem dX5_keep_80 : decode cX5_keep 80 = .ok (.return_, 1) := by decide +kernel
set_option maxHeartbeats 4000000 in
set_option maxRecDepth 100000 in
theorem c_X5_keep_0 (l : Launch) (V : GV) (y : Nat → Nat) : Ct l V yX5_keep (.code yX5_keep cX5_keep 4 none) 1 [.ref (y 26), .int 0, .int 0, .int 0] [(y 26, .inr (5, [.ref (y 27), .ref (y 28), .ref (y 29), .int 0])), (y 27, aI V 10 (fun _ => 0)), (y 28, aI V 10 (fun _ => 0)), (y 29, aI V 10 (fun _ => 0))] 0 0 (QV V (fun (w : va_W) => (w = [(y 26, .inr (5, [.ref (y 27), .ref (y 28), .ref (y 29), .int 1])), (y 27, aI V 10 (fun _ => 0)), (y 28, aI V 10 (fun _ => 0)), (y 29, aI V 10 (fun _ => 0))]))) := by
  refine Ct.of (by decide) (Nat.le_of_ble_eq_true rfl) (fun p e s m below meth c A ls hx hb hr hml hown hlk hnm hg hP hK hD hE hA hS hl => ?_)
  have hl : lv_has ls 4 [(0, .ref (y 26)), (1, .int 0), (2, .int 0), (3, .int 0)] := hl
  refine lv_aload_n hx hb dX5_keep_0 rfl (lv_at hl 0 rfl) ?_
  refine va_get (ci := 5) (v := .int 0) (C := RX5) (T := TX5) (N := 4) hx hb hg inX5 hown hK hP 0 rfl rfl 3 (by decide) (hg _ q_1_217) (fun _ h9 => h9) rfl dX5_keep_1 ?_
  refine lv_bipush (v := 10) hx hb dX5_keep_4 (by decide) ?_
  refine lv_icmp_ne (tgt := 40) hx hb dX5_keep_6 (by decide) (fun _ => ?_) (fun c_1 => absurd c_1 (by decide))
  refine lv_aload_n hx hb dX5_keep_40 rfl (lv_at hl 0 rfl) ?_
  refine va_get (ci := 5) (v := .ref (y 27)) (C := RX5) (T := TX5) (N := 4) hx hb hg inX5 hown hK hP 0 rfl rfl 0 (by decide) (hg _ q_1_211) (fun _ h9 => h9) rfl dX5_keep_41 ?_
  refine lv_aload_n hx hb dX5_keep_44 rfl (lv_at hl 0 rfl) ?_
  refine va_get (ci := 5) (v := .int 0) (C := RX5) (T := TX5) (N := 4) hx hb hg inX5 hown hK hP 0 rfl rfl 3 (by decide) (hg _ q_1_217) (fun _ h9 => h9) rfl dX5_keep_45 ?_
  refine lv_iload_n hx hb dX5_keep_48 rfl (lv_at hl 1 rfl) ?_
  refine va_iast hx hb hK hP hD hS 1 0 rfl rfl (vin (by decide +kernel)) dX5_keep_49 (fun H locs hP hD hS => ?_)
  have hP : va_P V.1 vwCl [(y 26, .inr (5, [.ref (y 27), .ref (y 28), .ref (y 29), .int 0])), (y 27, aI V 10 (upd (fun _ => 0) 0 0)), (y 28, aI V 10 (fun _ => 0)), (y 29, aI V 10 (fun _ => 0))] H := hP
  have hD : va_D A [(y 26, .inr (5, [.ref (y 27), .ref (y 28), .ref (y 29), .int 0])), (y 27, aI V 10 (upd (fun _ => 0) 0 0)), (y 28, aI V 10 (fun _ => 0)), (y 29, aI V 10 (fun _ => 0))] := hD
  have hP : va_P V.1 vwCl [(y 26, .inr (5, [.ref (y 27), .ref (y 28), .ref (y 29), .int 0])), (y 27, aI V 10 (fun _ => 0)), (y 28, aI V 10 (fun _ => 0)), (y 29, aI V 10 (fun _ => 0))] H := by rw [upd0] at hP; exact hP
  have hD : va_D A [(y 26, .inr (5, [.ref (y 27), .ref (y 28), .ref (y 29), .int 0])), (y 27, aI V 10 (fun _ => 0)), (y 28, aI V 10 (fun _ => 0)), (y 29, aI V 10 (fun _ => 0))] := by rw [upd0] at hD; exact hD
  refine lv_aload_n hx hb dX5_keep_50 rfl (lv_at hl 0 rfl) ?_
  refine va_get (ci := 5) (v := .ref (y 28)) (C := RX5) (T := TX5) (N := 4) hx hb hg inX5 hown hK hP 0 rfl rfl 1 (by decide) (hg _ q_1_213) (fun _ h9 => h9) rfl dX5_keep_51 ?_
  refine lv_aload_n hx hb dX5_keep_54 rfl (lv_at hl 0 rfl) ?_
  refine va_get (ci := 5) (v := .int 0) (C := RX5) (T := TX5) (N := 4) hx hb hg inX5 hown hK hP 0 rfl rfl 3 (by decide) (hg _ q_1_217) (fun _ h9 => h9) rfl dX5_keep_55 ?_
  refine lv_iload_n hx hb dX5_keep_58 rfl (lv_at hl 2 rfl) ?_
  refine va_iast hx hb hK hP hD hS 2 0 rfl rfl (vin (by decide +kernel)) dX5_keep_59 (fun H locs hP hD hS => ?_)
  have hP : va_P V.1 vwCl [(y 26, .inr (5, [.ref (y 27), .ref (y 28), .ref (y 29), .int 0])), (y 27, aI V 10 (fun _ => 0)), (y 28, aI V 10 (upd (fun _ => 0) 0 0)), (y 29, aI V 10 (fun _ => 0))] H := hP
  have hD : va_D A [(y 26, .inr (5, [.ref (y 27), .ref (y 28), .ref (y 29), .int 0])), (y 27, aI V 10 (fun _ => 0)), (y 28, aI V 10 (upd (fun _ => 0) 0 0)), (y 29, aI V 10 (fun _ => 0))] := hD
  have hP : va_P V.1 vwCl [(y 26, .inr (5, [.ref (y 27), .ref (y 28), .ref (y 29), .int 0])), (y 27, aI V 10 (fun _ => 0)), (y 28, aI V 10 (fun _ => 0)), (y 29, aI V 10 (fun _ => 0))] H := by rw [upd0] at hP; exact hP
  have hD : va_D A [(y 26, .inr (5, [.ref (y 27), .ref (y 28), .ref (y 29), .int 0])), (y 27, aI V 10 (fun _ => 0)), (y 28, aI V 10 (fun _ => 0)), (y 29, aI V 10 (fun _ => 0))] := by rw [upd0] at hD; exact hD
  refine lv_aload_n hx hb dX5_keep_60 rfl (lv_at hl 0 rfl) ?_
  refine va_get (ci := 5) (v := .ref (y 29)) (C := RX5) (T := TX5) (N := 4) hx hb hg inX5 hown hK hP 0 rfl rfl 2 (by decide) (hg _ q_1_215) (fun _ h9 => h9) rfl dX5_keep_61 ?_
  refine lv_aload_n hx hb dX5_keep_64 rfl (lv_at hl 0 rfl) ?_
  refine va_get (ci := 5) (v := .int 0) (C := RX5) (T := TX5) (N := 4) hx hb hg inX5 hown hK hP 0 rfl rfl 3 (by decide) (hg _ q_1_217) (fun _ h9 => h9) rfl dX5_keep_65 ?_
  refine lv_iload_n hx hb dX5_keep_68 rfl (lv_at hl 3 rfl) ?_
  refine va_iast hx hb hK hP hD hS 3 0 rfl rfl (vin (by decide +kernel)) dX5_keep_69 (fun H locs hP hD hS => ?_)
  have hP : va_P V.1 vwCl [(y 26, .inr (5, [.ref (y 27), .ref (y 28), .ref (y 29), .int 0])), (y 27, aI V 10 (fun _ => 0)), (y 28, aI V 10 (fun _ => 0)), (y 29, aI V 10 (upd (fun _ => 0) 0 0))] H := hP
  have hD : va_D A [(y 26, .inr (5, [.ref (y 27), .ref (y 28), .ref (y 29), .int 0])), (y 27, aI V 10 (fun _ => 0)), (y 28, aI V 10 (fun _ => 0)), (y 29, aI V 10 (upd (fun _ => 0) 0 0))] := hD
  have hP : va_P V.1 vwCl [(y 26, .inr (5, [.ref (y 27), .ref (y 28), .ref (y 29), .int 0])), (y 27, aI V 10 (fun _ => 0)), (y 28, aI V 10 (fun _ => 0)), (y 29, aI V 10 (fun _ => 0))] H := by rw [upd0] at hP; exact hP
  have hD : va_D A [(y 26, .inr (5, [.ref (y 27), .ref (y 28), .ref (y 29), .int 0])), (y 27, aI V 10 (fun _ => 0)), (y 28, aI V 10 (fun _ => 0)), (y 29, aI V 10 (fun _ => 0))] := by rw [upd0] at hD; exact hD
  refine lv_aload_n hx hb dX5_keep_70 rfl (lv_at hl 0 rfl) ?_
  refine lv_dup hx hb dX5_keep_71 rfl ?_
  refine va_get (ci := 5) (v := .int 0) (C := RX5) (T := TX5) (N := 4) hx hb hg inX5 hown hK hP 0 rfl rfl 3 (by decide) (hg _ q_1_217) (fun _ h9 => h9) rfl dX5_keep_72 ?_
  refine lv_iconst (v := 1) hx hb dX5_keep_75 (by decide) ?_
  refine lv_iadd hx hb dX5_keep_76 ?_
  refine tpi (y := 1) (by decide +kernel) ?_
  refine va_put (ci := 5) (v := .int 1) (ty := .int) (C := RX5) (T := TX5) (N := 4) hx hb hg inX5 tyX5 tyX5_ok nmX5 hown hK hP hD hS 0 rfl rfl 3 (by decide) (hg _ q_1_217) (fun _ h9 => h9) rfl (by decide +kernel) rfl rfl (Nat.le_of_ble_eq_true rfl) dX5_keep_77 (fun H locs hP hD hS => ?_)
  have hP : va_P V.1 vwCl [(y 26, .inr (5, [.ref (y 27), .ref (y 28), .ref (y 29), .int 1])), (y 27, aI V 10 (fun _ => 0)), (y 28, aI V 10 (fun _ => 0)), (y 29, aI V 10 (fun _ => 0))] H := hP
  have hD : va_D A [(y 26, .inr (5, [.ref (y 27), .ref (y 28), .ref (y 29), .int 1])), (y 27, aI V 10 (fun _ => 0)), (y 28, aI V 10 (fun _ => 0)), (y 29, aI V 10 (fun _ => 0))] := hD
  exact fiV hx hb hr hlk hK hP hD hS dX5_keep_80 (Nat.le_of_ble_eq_true rfl) (Nat.le_of_ble_eq_true rfl) (rfl)
theorem dX4_behind_0 : decode cX4_behind 0 = .ok (.iconst 0, 1) := by decide +kernel
theorem dX4_behind_1 : decode cX4_behind 1 = .ok (.istore 4, 2) := by decide +kernel
theorem dX4_behind_3 : decode cX4_behind 3 = .ok (.iconst 0, 1) := by decide +kernel
theorem dX4_behind_4 : decode cX4_behind 4 = .ok (.istore 5, 2) := by decide +kernel
theorem dX4_behind_6 : decode cX4_behind 6 = .ok (.iconst 0, 1) := by decide +kernel
theorem dX4_behind_7 : decode cX4_behind 7 = .ok (.istore 6, 2) := by decide +kernel
theorem dX4_behind_9 : decode cX4_behind 9 = .ok (.iload 6, 2) := by decide +kernel
theorem dX4_behind_11 : decode cX4_behind 11 = .ok (.aload_n 0, 1) := by decide +kernel
theorem dX4_behind_12 : decode cX4_behind 12 = .ok (.getfield 27, 3) := by decide +kernel
theorem q_1_39 : Cond.fieldLink "BeaconDelay$Laws" 37 "BeaconDelay$Coast" "hills" "I" ∈ gw := gw_1 (i := 39) (by decide +kernel) rfl
theorem dX4_behind_15 : decode cX4_behind 15 = .ok (.getfield 37, 3) := by decide +kernel
theorem dX4_behind_18 : decode cX4_behind 18 = .ok (.if_icmp .ge 71, 3) := by decide +kernel
theorem dX4_behind_89 : decode cX4_behind 89 = .ok (.iload 4, 2) := by decide +kernel
theorem dX4_behind_91 : decode cX4_behind 91 = .ok (.ireturn, 1) := by decide +kernel
set_option maxHeartbeats 4000000 in
set_option maxRecDepth 100000 in
theorem c_X4_behind_0 (l : Launch) (V : GV) (y : Nat → Nat) (p0 : Int32) : Ct l V yX4_behind (.code yX4_behind cX4_behind 9 (some .int)) 1 [.ref (y 19), .int 0, .int 0, .int p0] [(y 19, .inr (4, [.ref (y 2), .ref (y 20), .ref (y 21), .ref (y 22), .ref (y 23), .ref (y 24)])), (y 2, .inr (1, [.int 0, .int 0, .int 0, .int 0, .int 0, .int 0, .ref (y 3), .ref (y 4), .ref (y 5), .ref (y 6), .ref (y 7), .ref (y 8), .ref (y 9), .int 0, .int 0, .int 0, .int 0, .int 0]))] 0 0 (QI V (fun (r : Int32) (w : va_W) => (r = 0 ∧ w = [(y 19, .inr (4, [.ref (y 2), .ref (y 20), .ref (y 21), .ref (y 22), .ref (y 23), .ref (y 24)])), (y 2, .inr (1, [.int 0, .int 0, .int 0, .int 0, .int 0, .int 0, .ref (y 3), .ref (y 4), .ref (y 5), .ref (y 6), .ref (y 7), .ref (y 8), .ref (y 9), .int 0, .int 0, .int 0, .int 0, .int 0]))]))) := by
  refine Ct.of (by decide) (Nat.le_of_ble_eq_true rfl) (fun p e s m below meth c A ls hx hb hr hml hown hlk hnm hg hP hK hD hE hA hS hl => ?_)
  have hl : lv_has ls 9 [(0, .ref (y 19)), (1, .int 0), (2, .int 0), (3, .int p0)] := hl
  refine lv_iconst (v := 0) hx hb dX4_behind_0 (by decide) ?_
  refine lv_istore (lv' := [(4, .int 0), (0, .ref (y 19)), (1, .int 0), (2, .int 0), (3, .int p0)]) hx hb dX4_behind_1 hl (by decide) rfl (fun ls hl => ?_)
  refine lv_iconst (v := 0) hx hb dX4_behind_3 (by decide) ?_
  refine lv_istore (lv' := [(5, .int 0), (4, .int 0), (0, .ref (y 19)), (1, .int 0), (2, .int 0), (3, .int p0)]) hx hb dX4_behind_4 hl (by decide) rfl (fun ls hl => ?_)
  refine lv_iconst (v := 0) hx hb dX4_behind_6 (by decide) ?_
  refine lv_istore (lv' := [(6, .int 0), (5, .int 0), (4, .int 0), (0, .ref (y 19)), (1, .int 0), (2, .int 0), (3, .int p0)]) hx hb dX4_behind_7 hl (by decide) rfl (fun ls hl => ?_)
  refine lv_iload hx hb dX4_behind_9 (lv_at hl 0 rfl) ?_
  refine lv_aload_n hx hb dX4_behind_11 rfl (lv_at hl 3 rfl) ?_
  refine va_get (ci := 4) (v := .ref (y 2)) (C := RX4) (T := TX4) (N := 6) hx hb hg inX4 hown hK hP 0 rfl rfl 0 (by decide) (hg _ q_1_171) (fun _ h9 => h9) rfl dX4_behind_12 ?_
  refine va_get (ci := 1) (v := .int 0) (C := RX1) (T := TX1) (N := 18) hx hb hg inX1 hown hK hP 1 rfl rfl 1 (by decide) (hg _ q_1_39) (fun _ h9 => h9) rfl dX4_behind_15 ?_
  refine lv_icmp_ge (tgt := 89) hx hb dX4_behind_18 (by decide) (fun _ => ?_) (fun c_1 => absurd c_1 (by decide))
  refine lv_iload hx hb dX4_behind_89 (lv_at hl 2 rfl) ?_
  exact fiI hx hb hr hlk hK hP hD hS dX4_behind_91 (Nat.le_of_ble_eq_true rfl) (Nat.le_of_ble_eq_true rfl) (⟨rfl, rfl⟩)
theorem dX9_whyNoStealing_0 : decode cX9_whyNoStealing 0 = .ok (.aload_n 0, 1) := by decide +kernel
theorem dX9_whyNoStealing_1 : decode cX9_whyNoStealing 1 = .ok (.iload_n 1, 1) := by decide +kernel
theorem dX9_whyNoStealing_2 : decode cX9_whyNoStealing 2 = .ok (.invokevirtual 128, 3) := by decide +kernel
theorem dX9_whyNoStealing_5 : decode cX9_whyNoStealing 5 = .ok (.ifCond .ne 5, 3) := by decide +kernel
theorem dX9_whyNoStealing_8 : decode cX9_whyNoStealing 8 = .ok (.iconst 1, 1) := by decide +kernel
theorem dX9_whyNoStealing_9 : decode cX9_whyNoStealing 9 = .ok (.ireturn, 1) := by decide +kernel
set_option maxHeartbeats 4000000 in
set_option maxRecDepth 100000 in
theorem c_X9_whyNoStealing_0 (l : Launch) (V : GV) (y : Nat → Nat) (p0 : Int32) : Ct l V yX9_whyNoStealing (.code yX9_whyNoStealing cX9_whyNoStealing 2 (some .int)) 2 [.ref (y 0), .int p0] [(y 0, .inr (9, [.ref (y 1), .int 0, .ref (y 2), .ref (y 10), .ref (y 19), .ref (y 25), .ref (y 26), .ref (y 30), .ref (y 31), .ref (y 32), .null, .null, .int 0, .int 0, .int 0])), (y 2, .inr (1, [.int 0, .int 0, .int 0, .int 0, .int 0, .int 0, .ref (y 3), .ref (y 4), .ref (y 5), .ref (y 6), .ref (y 7), .ref (y 8), .ref (y 9), .int 0, .int 0, .int 0, .int 0, .int 0]))] 0 0 (QI V (fun (r : Int32) (w : va_W) => (r = 1 ∧ w = [(y 0, .inr (9, [.ref (y 1), .int 0, .ref (y 2), .ref (y 10), .ref (y 19), .ref (y 25), .ref (y 26), .ref (y 30), .ref (y 31), .ref (y 32), .null, .null, .int 0, .int 0, .int 0])), (y 2, .inr (1, [.int 0, .int 0, .int 0, .int 0, .int 0, .int 0, .ref (y 3), .ref (y 4), .ref (y 5), .ref (y 6), .ref (y 7), .ref (y 8), .ref (y 9), .int 0, .int 0, .int 0, .int 0, .int 0]))]))) := by
  refine Ct.of (by decide) (Nat.le_of_ble_eq_true rfl) (fun p e s m below meth c A ls hx hb hr hml hown hlk hnm hg hP hK hD hE hA hS hl => ?_)
  have hl : lv_has ls 2 [(0, .ref (y 0)), (1, .int p0)] := hl
  refine lv_aload_n hx hb dX9_whyNoStealing_0 rfl (lv_at hl 0 rfl) ?_
  refine lv_iload_n hx hb dX9_whyNoStealing_1 rfl (lv_at hl 1 rfl) ?_
  refine jnI (wr := []) (rnV (rest := []) ⟨hx, hb, hml, hown, hg⟩ (c_X9_isHill_0 l V y p0) mt_X9_isHill q_3_122 ⟨Nat.le_of_ble_eq_true rfl, Nat.le_of_ble_eq_true rfl⟩ hK hP hD hS hA hE [0, 1] rfl rfl 0 rfl rfl rfl rfl hl.1 rfl (Nat.le_of_ble_eq_true rfl) dX9_whyNoStealing_2 ⟨Nat.le_of_ble_eq_true rfl, Nat.le_of_ble_eq_true rfl⟩) hP hD hS hA [0, 1] [] rfl rfl rfl (by decide) (fun r_1 w H locs hw hP hD hS => ?_)
  obtain ⟨rfl, rfl⟩ := hw
  have hP : va_P V.1 vwCl [(y 0, .inr (9, [.ref (y 1), .int 0, .ref (y 2), .ref (y 10), .ref (y 19), .ref (y 25), .ref (y 26), .ref (y 30), .ref (y 31), .ref (y 32), .null, .null, .int 0, .int 0, .int 0])), (y 2, .inr (1, [.int 0, .int 0, .int 0, .int 0, .int 0, .int 0, .ref (y 3), .ref (y 4), .ref (y 5), .ref (y 6), .ref (y 7), .ref (y 8), .ref (y 9), .int 0, .int 0, .int 0, .int 0, .int 0]))] H := hP
  have hD : va_D A [(y 0, .inr (9, [.ref (y 1), .int 0, .ref (y 2), .ref (y 10), .ref (y 19), .ref (y 25), .ref (y 26), .ref (y 30), .ref (y 31), .ref (y 32), .null, .null, .int 0, .int 0, .int 0])), (y 2, .inr (1, [.int 0, .int 0, .int 0, .int 0, .int 0, .int 0, .ref (y 3), .ref (y 4), .ref (y 5), .ref (y 6), .ref (y 7), .ref (y 8), .ref (y 9), .int 0, .int 0, .int 0, .int 0, .int 0]))] := hD
  refine lv_if_ne (tgt := 10) hx hb dX9_whyNoStealing_5 (by decide) (fun c_2 => absurd c_2 (by decide)) (fun _ => ?_)
  refine lv_iconst (v := 1) hx hb dX9_whyNoStealing_8 (by decide) ?_
  exact fiI hx hb hr hlk hK hP hD hS dX9_whyNoStealing_9 (Nat.le_of_ble_eq_true rfl) (Nat.le_of_ble_eq_true rfl) (⟨rfl, rfl⟩)
theorem dX9_tryDeed_0 : decode cX9_tryDeed 0 = .ok (.lload_n 1, 1) := by decide +kernel
theorem q_3_189 : Cond.constantLong "BeaconDelay" 192 (10 : Int64) ∈ gw := gw_3 (i := 189) (by decide +kernel) rfl
theorem dX9_tryDeed_1 : decode cX9_tryDeed 1 = .ok (.ldc2_w 192, 3) := by decide +kernel
theorem dX9_tryDeed_4 : decode cX9_tryDeed 4 = .ok (.lcmp, 1) := by decide +kernel
theorem dX9_tryDeed_5 : decode cX9_tryDeed 5 = .ok (.ifCond .lt 36, 3) := by decide +kernel
theorem dX9_tryDeed_41 : decode cX9_tryDeed 41 = .ok (.lload_n 1, 1) := by decide +kernel
theorem q_3_199 : Cond.constantLong "BeaconDelay" 196 (20 : Int64) ∈ gw := gw_3 (i := 199) (by decide +kernel) rfl
theorem dX9_tryDeed_42 : decode cX9_tryDeed 42 = .ok (.ldc2_w 196, 3) := by decide +kernel
theorem dX9_tryDeed_45 : decode cX9_tryDeed 45 = .ok (.lcmp, 1) := by decide +kernel
theorem dX9_tryDeed_46 : decode cX9_tryDeed 46 = .ok (.ifCond .lt 22, 3) := by decide +kernel
theorem dX9_tryDeed_68 : decode cX9_tryDeed 68 = .ok (.aload_n 0, 1) := by decide +kernel
theorem dX9_tryDeed_69 : decode cX9_tryDeed 69 = .ok (.lload_n 1, 1) := by decide +kernel
theorem q_3_144 : Cond.code yX9_isNight prog_1_method_12_code 3 (some FieldType.boolean) ∈ gw := gw_3 (i := 144) (rfl) rfl
theorem q_3_143 : Cond.instanceMethod yX9_isNight ∈ gw := gw_3 (i := 143) (by decide +kernel) rfl
theorem q_s_24 : Cond.selects "BeaconDelay" yX9_isNight yX9_isNight ∈ gw := gw_s (i := 24) (by decide +kernel) rfl
theorem mt_X9_isNight : MtV yX9_isNight cX9_isNight 3 (some .boolean) 1 := ⟨⟨q_3_144, q_1_1, by decide +kernel, by decide +kernel, by decide +kernel⟩, q_3_143, q_s_24⟩
theorem q_3_141 : Cond.methodLink "BeaconDelay" 151 yX9_isNight ∈ gw := gw_3 (i := 141) (by decide +kernel) rfl
theorem dX9_tryDeed_70 : decode cX9_tryDeed 70 = .ok (.invokevirtual 151, 3) := by decide +kernel
theorem dX9_tryDeed_73 : decode cX9_tryDeed 73 = .ok (.ifCond .ne 5, 3) := by decide +kernel
theorem dX9_tryDeed_78 : decode cX9_tryDeed 78 = .ok (.aload_n 0, 1) := by decide +kernel
theorem dX9_tryDeed_79 : decode cX9_tryDeed 79 = .ok (.aload_n 0, 1) := by decide +kernel
theorem dX9_tryDeed_80 : decode cX9_tryDeed 80 = .ok (.getfield 34, 3) := by decide +kernel
theorem dX9_tryDeed_83 : decode cX9_tryDeed 83 = .ok (.aload_n 0, 1) := by decide +kernel
theorem q_2_48 : Cond.fieldLink "BeaconDelay" 113 "BeaconDelay" "standing" "I" ∈ gw := gw_2 (i := 48) (by decide +kernel) rfl
theorem dX9_tryDeed_84 : decode cX9_tryDeed 84 = .ok (.getfield 113, 3) := by decide +kernel
theorem dX9_tryDeed_87 : decode cX9_tryDeed 87 = .ok (.aload_n 0, 1) := by decide +kernel
theorem q_2_49 : Cond.fieldLink "BeaconDelay" 116 "BeaconDelay" "weather" "I" ∈ gw := gw_2 (i := 49) (by decide +kernel) rfl
theorem dX9_tryDeed_88 : decode cX9_tryDeed 88 = .ok (.getfield 116, 3) := by decide +kernel
theorem dX9_tryDeed_91 : decode cX9_tryDeed 91 = .ok (.lload_n 1, 1) := by decide +kernel
theorem dX9_tryDeed_92 : decode cX9_tryDeed 92 = .ok (.l2i, 1) := by decide +kernel
theorem q_3_148 : Cond.code yX4_behind prog_6_method_3_code 9 (some FieldType.int) ∈ gw := gw_3 (i := 148) (rfl) rfl
theorem q_3_146 : Cond.instanceMethod yX4_behind ∈ gw := gw_3 (i := 146) (by decide +kernel) rfl
theorem q_3_147 : Cond.selects "BeaconDelay$Laws" yX4_behind yX4_behind ∈ gw := gw_3 (i := 147) (by decide +kernel) rfl
theorem mt_X4_behind : MtV yX4_behind cX4_behind 9 (some .int) 3 := ⟨⟨q_3_148, q_1_4, by decide +kernel, by decide +kernel, by decide +kernel⟩, q_3_146, q_3_147⟩
theorem q_3_145 : Cond.methodLink "BeaconDelay" 155 yX4_behind ∈ gw := gw_3 (i := 145) (by decide +kernel) rfl
theorem dX9_tryDeed_93 : decode cX9_tryDeed 93 = .ok (.invokevirtual 155, 3) := by decide +kernel
theorem dX9_tryDeed_96 : decode cX9_tryDeed 96 = .ok (.putfield 113, 3) := by decide +kernel
theorem dX9_tryDeed_99 : decode cX9_tryDeed 99 = .ok (.aload_n 0, 1) := by decide +kernel
theorem dX9_tryDeed_100 : decode cX9_tryDeed 100 = .ok (.dup, 1) := by decide +kernel
theorem q_2_50 : Cond.fieldLink "BeaconDelay" 119 "BeaconDelay" "nights" "I" ∈ gw := gw_2 (i := 50) (by decide +kernel) rfl
theorem dX9_tryDeed_101 : decode cX9_tryDeed 101 = .ok (.getfield 119, 3) := by decide +kernel
theorem dX9_tryDeed_104 : decode cX9_tryDeed 104 = .ok (.iconst 1, 1) := by decide +kernel
theorem dX9_tryDeed_105 : decode cX9_tryDeed 105 = .ok (.iadd, 1) := by decide +kernel
theorem dX9_tryDeed_106 : decode cX9_tryDeed 106 = .ok (.putfield 119, 3) := by decide +kernel
theorem dX9_tryDeed_109 : decode cX9_tryDeed 109 = .ok (.iconst 0, 1) := by decide +kernel
theorem dX9_tryDeed_110 : decode cX9_tryDeed 110 = .ok (.ireturn, 1) := by decide +kernel
theorem dX9_tryDeed_76 : decode cX9_tryDeed 76 = .ok (.iconst 1, 1) := by decide +kernel
theorem dX9_tryDeed_77 : decode cX9_tryDeed 77 = .ok (.ireturn, 1) := by decide +kernel
theorem dX9_tryDeed_8 : decode cX9_tryDeed 8 = .ok (.lload_n 1, 1) := by decide +kernel
theorem q_3_190 : Cond.constantLong "BeaconDelay" 194 (19 : Int64) ∈ gw := gw_3 (i := 190) (by decide +kernel) rfl
theorem dX9_tryDeed_9 : decode cX9_tryDeed 9 = .ok (.ldc2_w 194, 3) := by decide +kernel
theorem dX9_tryDeed_12 : decode cX9_tryDeed 12 = .ok (.lcmp, 1) := by decide +kernel
theorem dX9_tryDeed_13 : decode cX9_tryDeed 13 = .ok (.ifCond .gt 28, 3) := by decide +kernel
theorem dX9_tryDeed_49 : decode cX9_tryDeed 49 = .ok (.lload_n 1, 1) := by decide +kernel
theorem q_3_200 : Cond.constantLong "BeaconDelay" 198 (29 : Int64) ∈ gw := gw_3 (i := 200) (by decide +kernel) rfl
theorem dX9_tryDeed_50 : decode cX9_tryDeed 50 = .ok (.ldc2_w 198, 3) := by decide +kernel
theorem dX9_tryDeed_53 : decode cX9_tryDeed 53 = .ok (.lcmp, 1) := by decide +kernel
theorem dX9_tryDeed_54 : decode cX9_tryDeed 54 = .ok (.ifCond .gt 14, 3) := by decide +kernel
theorem dX9_tryDeed_57 : decode cX9_tryDeed 57 = .ok (.aload_n 0, 1) := by decide +kernel
theorem dX9_tryDeed_58 : decode cX9_tryDeed 58 = .ok (.lload_n 1, 1) := by decide +kernel
theorem dX9_tryDeed_59 : decode cX9_tryDeed 59 = .ok (.l2i, 1) := by decide +kernel
theorem dX9_tryDeed_60 : decode cX9_tryDeed 60 = .ok (.bipush 20, 2) := by decide +kernel
theorem dX9_tryDeed_62 : decode cX9_tryDeed 62 = .ok (.isub, 1) := by decide +kernel
theorem dX9_tryDeed_63 : decode cX9_tryDeed 63 = .ok (.putfield 116, 3) := by decide +kernel
theorem dX9_tryDeed_66 : decode cX9_tryDeed 66 = .ok (.iconst 0, 1) := by decide +kernel
theorem dX9_tryDeed_67 : decode cX9_tryDeed 67 = .ok (.ireturn, 1) := by decide +kernel
theorem dX9_tryDeed_16 : decode cX9_tryDeed 16 = .ok (.aload_n 0, 1) := by decide +kernel
theorem dX9_tryDeed_17 : decode cX9_tryDeed 17 = .ok (.lload_n 1, 1) := by decide +kernel
theorem dX9_tryDeed_18 : decode cX9_tryDeed 18 = .ok (.l2i, 1) := by decide +kernel
theorem dX9_tryDeed_19 : decode cX9_tryDeed 19 = .ok (.bipush 10, 2) := by decide +kernel
theorem dX9_tryDeed_21 : decode cX9_tryDeed 21 = .ok (.isub, 1) := by decide +kernel
theorem q_3_194 : Cond.code yX9_whyNoStealing prog_1_method_24_code 2 (some FieldType.int) ∈ gw := gw_3 (i := 194) (rfl) rfl
theorem q_3_193 : Cond.instanceMethod yX9_whyNoStealing ∈ gw := gw_3 (i := 193) (by decide +kernel) rfl
theorem q_s_28 : Cond.selects "BeaconDelay" yX9_whyNoStealing yX9_whyNoStealing ∈ gw := gw_s (i := 28) (by decide +kernel) rfl
theorem mt_X9_whyNoStealing : MtV yX9_whyNoStealing cX9_whyNoStealing 2 (some .int) 1 := ⟨⟨q_3_194, q_1_1, by decide +kernel, by decide +kernel, by decide +kernel⟩, q_3_193, q_s_28⟩
theorem q_3_191 : Cond.methodLink "BeaconDelay" 177 yX9_whyNoStealing ∈ gw := gw_3 (i := 191) (by decide +kernel) rfl
theorem dX9_tryDeed_22 : decode cX9_tryDeed 22 = .ok (.invokevirtual 177, 3) := by decide +kernel
theorem dX9_tryDeed_25 : decode cX9_tryDeed 25 = .ok (.istore_n 3, 1) := by decide +kernel
theorem dX9_tryDeed_26 : decode cX9_tryDeed 26 = .ok (.iload_n 3, 1) := by decide +kernel
theorem dX9_tryDeed_27 : decode cX9_tryDeed 27 = .ok (.ifCond .ne 12, 3) := by decide +kernel
theorem dX9_tryDeed_39 : decode cX9_tryDeed 39 = .ok (.iload_n 3, 1) := by decide +kernel
theorem dX9_tryDeed_40 : decode cX9_tryDeed 40 = .ok (.ireturn, 1) := by decide +kernel
set_option maxHeartbeats 4000000 in
set_option maxRecDepth 100000 in
theorem c_X9_tryDeed_0 (l : Launch) (V : GV) (y : Nat → Nat) (j0 : Int64) : Ct l V yX9_tryDeed (.code yX9_tryDeed cX9_tryDeed 4 (some .int)) 3 [.ref (y 0), .long j0] [(y 19, .inr (4, [.ref (y 2), .ref (y 20), .ref (y 21), .ref (y 22), .ref (y 23), .ref (y 24)])), (y 0, .inr (9, [.ref (y 1), .int 0, .ref (y 2), .ref (y 10), .ref (y 19), .ref (y 25), .ref (y 26), .ref (y 30), .ref (y 31), .ref (y 32), .null, .null, .int 0, .int 0, .int 0])), (y 2, .inr (1, [.int 0, .int 0, .int 0, .int 0, .int 0, .int 0, .ref (y 3), .ref (y 4), .ref (y 5), .ref (y 6), .ref (y 7), .ref (y 8), .ref (y 9), .int 0, .int 0, .int 0, .int 0, .int 0]))] 0 0 (QI V (fun (r : Int32) (w : va_W) => (j0 < 10 ∧ j0 = 0 ∧ r = 0 ∧ w = [(y 19, .inr (4, [.ref (y 2), .ref (y 20), .ref (y 21), .ref (y 22), .ref (y 23), .ref (y 24)])), (y 0, .inr (9, [.ref (y 1), .int 0, .ref (y 2), .ref (y 10), .ref (y 19), .ref (y 25), .ref (y 26), .ref (y 30), .ref (y 31), .ref (y 32), .null, .null, .int 0, .int 0, .int 1])), (y 2, .inr (1, [.int 0, .int 0, .int 0, .int 0, .int 0, .int 0, .ref (y 3), .ref (y 4), .ref (y 5), .ref (y 6), .ref (y 7), .ref (y 8), .ref (y 9), .int 0, .int 0, .int 0, .int 0, .int 0]))]) ∨ (j0 < 10 ∧ (¬ j0 = 0) ∧ j0 ≤ 0 ∧ r = 1 ∧ w = [(y 19, .inr (4, [.ref (y 2), .ref (y 20), .ref (y 21), .ref (y 22), .ref (y 23), .ref (y 24)])), (y 0, .inr (9, [.ref (y 1), .int 0, .ref (y 2), .ref (y 10), .ref (y 19), .ref (y 25), .ref (y 26), .ref (y 30), .ref (y 31), .ref (y 32), .null, .null, .int 0, .int 0, .int 0])), (y 2, .inr (1, [.int 0, .int 0, .int 0, .int 0, .int 0, .int 0, .ref (y 3), .ref (y 4), .ref (y 5), .ref (y 6), .ref (y 7), .ref (y 8), .ref (y 9), .int 0, .int 0, .int 0, .int 0, .int 0]))]) ∨ (j0 < 10 ∧ (¬ j0 = 0) ∧ (¬ j0 ≤ 0) ∧ r = 1 ∧ w = [(y 19, .inr (4, [.ref (y 2), .ref (y 20), .ref (y 21), .ref (y 22), .ref (y 23), .ref (y 24)])), (y 0, .inr (9, [.ref (y 1), .int 0, .ref (y 2), .ref (y 10), .ref (y 19), .ref (y 25), .ref (y 26), .ref (y 30), .ref (y 31), .ref (y 32), .null, .null, .int 0, .int 0, .int 0])), (y 2, .inr (1, [.int 0, .int 0, .int 0, .int 0, .int 0, .int 0, .ref (y 3), .ref (y 4), .ref (y 5), .ref (y 6), .ref (y 7), .ref (y 8), .ref (y 9), .int 0, .int 0, .int 0, .int 0, .int 0]))]) ∨ ((¬ j0 < 10) ∧ 19 < j0 ∧ 29 < j0 ∧ (¬ j0 = 0) ∧ (¬ j0 ≤ 0) ∧ r = 1 ∧ w = [(y 19, .inr (4, [.ref (y 2), .ref (y 20), .ref (y 21), .ref (y 22), .ref (y 23), .ref (y 24)])), (y 0, .inr (9, [.ref (y 1), .int 0, .ref (y 2), .ref (y 10), .ref (y 19), .ref (y 25), .ref (y 26), .ref (y 30), .ref (y 31), .ref (y 32), .null, .null, .int 0, .int 0, .int 0])), (y 2, .inr (1, [.int 0, .int 0, .int 0, .int 0, .int 0, .int 0, .ref (y 3), .ref (y 4), .ref (y 5), .ref (y 6), .ref (y 7), .ref (y 8), .ref (y 9), .int 0, .int 0, .int 0, .int 0, .int 0]))]) ∨ ((¬ j0 < 10) ∧ (¬ 19 < j0) ∧ r = 1 ∧ w = [(y 19, .inr (4, [.ref (y 2), .ref (y 20), .ref (y 21), .ref (y 22), .ref (y 23), .ref (y 24)])), (y 0, .inr (9, [.ref (y 1), .int 0, .ref (y 2), .ref (y 10), .ref (y 19), .ref (y 25), .ref (y 26), .ref (y 30), .ref (y 31), .ref (y 32), .null, .null, .int 0, .int 0, .int 0])), (y 2, .inr (1, [.int 0, .int 0, .int 0, .int 0, .int 0, .int 0, .ref (y 3), .ref (y 4), .ref (y 5), .ref (y 6), .ref (y 7), .ref (y 8), .ref (y 9), .int 0, .int 0, .int 0, .int 0, .int 0]))]) ∨ ((¬ j0 < 10) ∧ 19 < j0 ∧ (¬ 29 < j0) ∧ r = 0 ∧ w = [(y 19, .inr (4, [.ref (y 2), .ref (y 20), .ref (y 21), .ref (y 22), .ref (y 23), .ref (y 24)])), (y 0, .inr (9, [.ref (y 1), .int 0, .ref (y 2), .ref (y 10), .ref (y 19), .ref (y 25), .ref (y 26), .ref (y 30), .ref (y 31), .ref (y 32), .null, .null, .int 0, .int (j0.toInt32 - 20), .int 0])), (y 2, .inr (1, [.int 0, .int 0, .int 0, .int 0, .int 0, .int 0, .ref (y 3), .ref (y 4), .ref (y 5), .ref (y 6), .ref (y 7), .ref (y 8), .ref (y 9), .int 0, .int 0, .int 0, .int 0, .int 0]))]))) := by
  refine Ct.of (by decide) (Nat.le_of_ble_eq_true rfl) (fun p e s m below meth c A ls hx hb hr hml hown hlk hnm hg hP hK hD hE hA hS hl => ?_)
  have hl : lv_has ls 4 [(0, .ref (y 0)), (1, .long j0)] := hl
  refine lv_lload_n hx hb dX9_tryDeed_0 rfl (lv_at hl 1 rfl) ?_
  refine lv_ldc2 (v := 10) hx hb hown (hg _ q_3_189) dX9_tryDeed_1 ?_
  refine W.lcmp hx hb dX9_tryDeed_4 ?_
  refine lv_if_lt (tgt := 41) hx hb dX9_tryDeed_5 (by decide) (fun c_1 => ?_) (fun c_1 => ?_)
  · replace c_1 : j0 < 10 := (lg_cmp_lt _ _).mp c_1
    refine lv_lload_n hx hb dX9_tryDeed_41 rfl (lv_at hl 1 rfl) ?_
    refine lv_ldc2 (v := 20) hx hb hown (hg _ q_3_199) dX9_tryDeed_42 ?_
    refine W.lcmp hx hb dX9_tryDeed_45 ?_
    refine lv_if_lt (tgt := 68) hx hb dX9_tryDeed_46 (by decide) (fun _ => ?_) (fun c_2 => False.elim (by have c_3 : ¬ j0 < 20 := (fun z => c_2 ((lg_cmp_lt _ _).mpr z)); exact (by simp only [tI_lt, tI_le, tI_eq, tL_lt, tL_le, tL_eq, tWx, (by decide : (10 : Int64).toInt = 10), (by decide : (20 : Int64).toInt = 20)] at c_1 c_3; omega)))
    refine lv_aload_n hx hb dX9_tryDeed_68 rfl (lv_at hl 0 rfl) ?_
    refine lv_lload_n hx hb dX9_tryDeed_69 rfl (lv_at hl 1 rfl) ?_
    refine jnI (wr := [(y 19, .inr (4, [.ref (y 2), .ref (y 20), .ref (y 21), .ref (y 22), .ref (y 23), .ref (y 24)]))]) (rnV (rest := []) ⟨hx, hb, hml, hown, hg⟩ (c_X9_isNight_0 l V y j0) mt_X9_isNight q_3_141 ⟨Nat.le_of_ble_eq_true rfl, Nat.le_of_ble_eq_true rfl⟩ hK hP hD hS hA hE [1, 2] rfl rfl 1 rfl rfl rfl rfl hl.1 rfl (Nat.le_of_ble_eq_true rfl) dX9_tryDeed_70 ⟨Nat.le_of_ble_eq_true rfl, Nat.le_of_ble_eq_true rfl⟩) hP hD hS hA [1, 2] [0] rfl rfl rfl (by decide) (fun r_4 w H locs hw hP hD hS => ?_)
    rcases hw with ⟨c_5, rfl, rfl⟩ | ⟨c_6, c_7, rfl, rfl⟩ | ⟨c_8, c_9, rfl, rfl⟩
    · have hP : va_P V.1 vwCl [(y 19, .inr (4, [.ref (y 2), .ref (y 20), .ref (y 21), .ref (y 22), .ref (y 23), .ref (y 24)])), (y 0, .inr (9, [.ref (y 1), .int 0, .ref (y 2), .ref (y 10), .ref (y 19), .ref (y 25), .ref (y 26), .ref (y 30), .ref (y 31), .ref (y 32), .null, .null, .int 0, .int 0, .int 0])), (y 2, .inr (1, [.int 0, .int 0, .int 0, .int 0, .int 0, .int 0, .ref (y 3), .ref (y 4), .ref (y 5), .ref (y 6), .ref (y 7), .ref (y 8), .ref (y 9), .int 0, .int 0, .int 0, .int 0, .int 0]))] H := hP
      have hD : va_D A [(y 19, .inr (4, [.ref (y 2), .ref (y 20), .ref (y 21), .ref (y 22), .ref (y 23), .ref (y 24)])), (y 0, .inr (9, [.ref (y 1), .int 0, .ref (y 2), .ref (y 10), .ref (y 19), .ref (y 25), .ref (y 26), .ref (y 30), .ref (y 31), .ref (y 32), .null, .null, .int 0, .int 0, .int 0])), (y 2, .inr (1, [.int 0, .int 0, .int 0, .int 0, .int 0, .int 0, .ref (y 3), .ref (y 4), .ref (y 5), .ref (y 6), .ref (y 7), .ref (y 8), .ref (y 9), .int 0, .int 0, .int 0, .int 0, .int 0]))] := hD
      refine lv_if_ne (tgt := 78) hx hb dX9_tryDeed_73 (by decide) (fun _ => ?_) (fun c_10 => absurd c_10 (by decide))
      refine lv_aload_n hx hb dX9_tryDeed_78 rfl (lv_at hl 0 rfl) ?_
      refine lv_aload_n hx hb dX9_tryDeed_79 rfl (lv_at hl 0 rfl) ?_
      refine va_get (ci := 9) (v := .ref (y 19)) (C := RX9) (T := TX9) (N := 15) hx hb hg inX9 hown hK hP 1 rfl rfl 4 (by decide) (hg _ q_2_40) (fun _ h9 => h9) rfl dX9_tryDeed_80 ?_
      refine lv_aload_n hx hb dX9_tryDeed_83 rfl (lv_at hl 0 rfl) ?_
      refine va_get (ci := 9) (v := .int 0) (C := RX9) (T := TX9) (N := 15) hx hb hg inX9 hown hK hP 1 rfl rfl 12 (by decide) (hg _ q_2_48) (fun _ h9 => h9) rfl dX9_tryDeed_84 ?_
      refine lv_aload_n hx hb dX9_tryDeed_87 rfl (lv_at hl 0 rfl) ?_
      refine va_get (ci := 9) (v := .int 0) (C := RX9) (T := TX9) (N := 15) hx hb hg inX9 hown hK hP 1 rfl rfl 13 (by decide) (hg _ q_2_49) (fun _ h9 => h9) rfl dX9_tryDeed_88 ?_
      refine lv_lload_n hx hb dX9_tryDeed_91 rfl (lv_at hl 1 rfl) ?_
      refine lv_l2i (v := j0.toInt32) hx hb dX9_tryDeed_92 rfl ?_
      refine jnI (wr := [(y 0, .inr (9, [.ref (y 1), .int 0, .ref (y 2), .ref (y 10), .ref (y 19), .ref (y 25), .ref (y 26), .ref (y 30), .ref (y 31), .ref (y 32), .null, .null, .int 0, .int 0, .int 0]))]) (rnV (rest := [.ref (y 0)]) ⟨hx, hb, hml, hown, hg⟩ (c_X4_behind_0 l V y j0.toInt32) mt_X4_behind q_3_145 ⟨Nat.le_of_ble_eq_true rfl, Nat.le_of_ble_eq_true rfl⟩ hK hP hD hS hA hE [0, 2] rfl rfl 0 rfl rfl rfl rfl hl.1 rfl (Nat.le_of_ble_eq_true rfl) dX9_tryDeed_93 ⟨Nat.le_of_ble_eq_true rfl, Nat.le_of_ble_eq_true rfl⟩) hP hD hS hA [0, 2] [1] rfl rfl rfl (by decide) (fun r_11 w H locs hw hP hD hS => ?_)
      obtain ⟨rfl, rfl⟩ := hw
      have hP : va_P V.1 vwCl [(y 0, .inr (9, [.ref (y 1), .int 0, .ref (y 2), .ref (y 10), .ref (y 19), .ref (y 25), .ref (y 26), .ref (y 30), .ref (y 31), .ref (y 32), .null, .null, .int 0, .int 0, .int 0])), (y 19, .inr (4, [.ref (y 2), .ref (y 20), .ref (y 21), .ref (y 22), .ref (y 23), .ref (y 24)])), (y 2, .inr (1, [.int 0, .int 0, .int 0, .int 0, .int 0, .int 0, .ref (y 3), .ref (y 4), .ref (y 5), .ref (y 6), .ref (y 7), .ref (y 8), .ref (y 9), .int 0, .int 0, .int 0, .int 0, .int 0]))] H := hP
      have hD : va_D A [(y 0, .inr (9, [.ref (y 1), .int 0, .ref (y 2), .ref (y 10), .ref (y 19), .ref (y 25), .ref (y 26), .ref (y 30), .ref (y 31), .ref (y 32), .null, .null, .int 0, .int 0, .int 0])), (y 19, .inr (4, [.ref (y 2), .ref (y 20), .ref (y 21), .ref (y 22), .ref (y 23), .ref (y 24)])), (y 2, .inr (1, [.int 0, .int 0, .int 0, .int 0, .int 0, .int 0, .ref (y 3), .ref (y 4), .ref (y 5), .ref (y 6), .ref (y 7), .ref (y 8), .ref (y 9), .int 0, .int 0, .int 0, .int 0, .int 0]))] := hD
      refine va_put (ci := 9) (v := .int 0) (ty := .int) (C := RX9) (T := TX9) (N := 15) hx hb hg inX9 tyX9 tyX9_ok nmX9 hown hK hP hD hS 0 rfl rfl 12 (by decide) (hg _ q_2_48) (fun _ h9 => h9) rfl (by decide +kernel) rfl rfl (Nat.le_of_ble_eq_true rfl) dX9_tryDeed_96 (fun H locs hP hD hS => ?_)
      have hP : va_P V.1 vwCl [(y 0, .inr (9, [.ref (y 1), .int 0, .ref (y 2), .ref (y 10), .ref (y 19), .ref (y 25), .ref (y 26), .ref (y 30), .ref (y 31), .ref (y 32), .null, .null, .int 0, .int 0, .int 0])), (y 19, .inr (4, [.ref (y 2), .ref (y 20), .ref (y 21), .ref (y 22), .ref (y 23), .ref (y 24)])), (y 2, .inr (1, [.int 0, .int 0, .int 0, .int 0, .int 0, .int 0, .ref (y 3), .ref (y 4), .ref (y 5), .ref (y 6), .ref (y 7), .ref (y 8), .ref (y 9), .int 0, .int 0, .int 0, .int 0, .int 0]))] H := hP
      have hD : va_D A [(y 0, .inr (9, [.ref (y 1), .int 0, .ref (y 2), .ref (y 10), .ref (y 19), .ref (y 25), .ref (y 26), .ref (y 30), .ref (y 31), .ref (y 32), .null, .null, .int 0, .int 0, .int 0])), (y 19, .inr (4, [.ref (y 2), .ref (y 20), .ref (y 21), .ref (y 22), .ref (y 23), .ref (y 24)])), (y 2, .inr (1, [.int 0, .int 0, .int 0, .int 0, .int 0, .int 0, .ref (y 3), .ref (y 4), .ref (y 5), .ref (y 6), .ref (y 7), .ref (y 8), .ref (y 9), .int 0, .int 0, .int 0, .int 0, .int 0]))] := hD
      refine lv_aload_n hx hb dX9_tryDeed_99 rfl (lv_at hl 0 rfl) ?_
      refine lv_dup hx hb dX9_tryDeed_100 rfl ?_
      refine va_get (ci := 9) (v := .int 0) (C := RX9) (T := TX9) (N := 15) hx hb hg inX9 hown hK hP 0 rfl rfl 14 (by decide) (hg _ q_2_50) (fun _ h9 => h9) rfl dX9_tryDeed_101 ?_
      refine lv_iconst (v := 1) hx hb dX9_tryDeed_104 (by decide) ?_
      refine lv_iadd hx hb dX9_tryDeed_105 ?_
      refine tpi (y := 1) (by decide +kernel) ?_
      refine va_put (ci := 9) (v := .int 1) (ty := .int) (C := RX9) (T := TX9) (N := 15) hx hb hg inX9 tyX9 tyX9_ok nmX9 hown hK hP hD hS 0 rfl rfl 14 (by decide) (hg _ q_2_50) (fun _ h9 => h9) rfl (by decide +kernel) rfl rfl (Nat.le_of_ble_eq_true rfl) dX9_tryDeed_106 (fun H locs hP hD hS => ?_)
      have hP : va_P V.1 vwCl [(y 0, .inr (9, [.ref (y 1), .int 0, .ref (y 2), .ref (y 10), .ref (y 19), .ref (y 25), .ref (y 26), .ref (y 30), .ref (y 31), .ref (y 32), .null, .null, .int 0, .int 0, .int 1])), (y 19, .inr (4, [.ref (y 2), .ref (y 20), .ref (y 21), .ref (y 22), .ref (y 23), .ref (y 24)])), (y 2, .inr (1, [.int 0, .int 0, .int 0, .int 0, .int 0, .int 0, .ref (y 3), .ref (y 4), .ref (y 5), .ref (y 6), .ref (y 7), .ref (y 8), .ref (y 9), .int 0, .int 0, .int 0, .int 0, .int 0]))] H := hP
      have hD : va_D A [(y 0, .inr (9, [.ref (y 1), .int 0, .ref (y 2), .ref (y 10), .ref (y 19), .ref (y 25), .ref (y 26), .ref (y 30), .ref (y 31), .ref (y 32), .null, .null, .int 0, .int 0, .int 1])), (y 19, .inr (4, [.ref (y 2), .ref (y 20), .ref (y 21), .ref (y 22), .ref (y 23), .ref (y 24)])), (y 2, .inr (1, [.int 0, .int 0, .int 0, .int 0, .int 0, .int 0, .ref (y 3), .ref (y 4), .ref (y 5), .ref (y 6), .ref (y 7), .ref (y 8), .ref (y 9), .int 0, .int 0, .int 0, .int 0, .int 0]))] := hD
      refine lv_iconst (v := 0) hx hb dX9_tryDeed_109 (by decide) ?_
      have hP := subP (ws' := [(y 19, .inr (4, [.ref (y 2), .ref (y 20), .ref (y 21), .ref (y 22), .ref (y 23), .ref (y 24)])), (y 0, .inr (9, [.ref (y 1), .int 0, .ref (y 2), .ref (y 10), .ref (y 19), .ref (y 25), .ref (y 26), .ref (y 30), .ref (y 31), .ref (y 32), .null, .null, .int 0, .int 0, .int 1])), (y 2, .inr (1, [.int 0, .int 0, .int 0, .int 0, .int 0, .int 0, .ref (y 3), .ref (y 4), .ref (y 5), .ref (y 6), .ref (y 7), .ref (y 8), .ref (y 9), .int 0, .int 0, .int 0, .int 0, .int 0]))]) hP [1, 0, 2] rfl
      have hD := hD.sub (ws' := [(y 19, .inr (4, [.ref (y 2), .ref (y 20), .ref (y 21), .ref (y 22), .ref (y 23), .ref (y 24)])), (y 0, .inr (9, [.ref (y 1), .int 0, .ref (y 2), .ref (y 10), .ref (y 19), .ref (y 25), .ref (y 26), .ref (y 30), .ref (y 31), .ref (y 32), .null, .null, .int 0, .int 0, .int 1])), (y 2, .inr (1, [.int 0, .int 0, .int 0, .int 0, .int 0, .int 0, .ref (y 3), .ref (y 4), .ref (y 5), .ref (y 6), .ref (y 7), .ref (y 8), .ref (y 9), .int 0, .int 0, .int 0, .int 0, .int 0]))]) [1, 0, 2] rfl rfl
      exact fiI hx hb hr hlk hK hP hD hS dX9_tryDeed_110 (Nat.le_of_ble_eq_true rfl) (Nat.le_of_ble_eq_true rfl) (Or.inl ⟨c_1, c_5, rfl, rfl⟩)
    · have hP : va_P V.1 vwCl [(y 19, .inr (4, [.ref (y 2), .ref (y 20), .ref (y 21), .ref (y 22), .ref (y 23), .ref (y 24)])), (y 0, .inr (9, [.ref (y 1), .int 0, .ref (y 2), .ref (y 10), .ref (y 19), .ref (y 25), .ref (y 26), .ref (y 30), .ref (y 31), .ref (y 32), .null, .null, .int 0, .int 0, .int 0])), (y 2, .inr (1, [.int 0, .int 0, .int 0, .int 0, .int 0, .int 0, .ref (y 3), .ref (y 4), .ref (y 5), .ref (y 6), .ref (y 7), .ref (y 8), .ref (y 9), .int 0, .int 0, .int 0, .int 0, .int 0]))] H := hP
      have hD : va_D A [(y 19, .inr (4, [.ref (y 2), .ref (y 20), .ref (y 21), .ref (y 22), .ref (y 23), .ref (y 24)])), (y 0, .inr (9, [.ref (y 1), .int 0, .ref (y 2), .ref (y 10), .ref (y 19), .ref (y 25), .ref (y 26), .ref (y 30), .ref (y 31), .ref (y 32), .null, .null, .int 0, .int 0, .int 0])), (y 2, .inr (1, [.int 0, .int 0, .int 0, .int 0, .int 0, .int 0, .ref (y 3), .ref (y 4), .ref (y 5), .ref (y 6), .ref (y 7), .ref (y 8), .ref (y 9), .int 0, .int 0, .int 0, .int 0, .int 0]))] := hD
      refine lv_if_ne (tgt := 78) hx hb dX9_tryDeed_73 (by decide) (fun c_12 => absurd c_12 (by decide)) (fun _ => ?_)
      refine lv_iconst (v := 1) hx hb dX9_tryDeed_76 (by decide) ?_
      exact fiI hx hb hr hlk hK hP hD hS dX9_tryDeed_77 (Nat.le_of_ble_eq_true rfl) (Nat.le_of_ble_eq_true rfl) (Or.inr (Or.inl ⟨c_1, c_6, c_7, rfl, rfl⟩))
    · have hP : va_P V.1 vwCl [(y 19, .inr (4, [.ref (y 2), .ref (y 20), .ref (y 21), .ref (y 22), .ref (y 23), .ref (y 24)])), (y 0, .inr (9, [.ref (y 1), .int 0, .ref (y 2), .ref (y 10), .ref (y 19), .ref (y 25), .ref (y 26), .ref (y 30), .ref (y 31), .ref (y 32), .null, .null, .int 0, .int 0, .int 0])), (y 2, .inr (1, [.int 0, .int 0, .int 0, .int 0, .int 0, .int 0, .ref (y 3), .ref (y 4), .ref (y 5), .ref (y 6), .ref (y 7), .ref (y 8), .ref (y 9), .int 0, .int 0, .int 0, .int 0, .int 0]))] H := hP
      have hD : va_D A [(y 19, .inr (4, [.ref (y 2), .ref (y 20), .ref (y 21), .ref (y 22), .ref (y 23), .ref (y 24)])), (y 0, .inr (9, [.ref (y 1), .int 0, .ref (y 2), .ref (y 10), .ref (y 19), .ref (y 25), .ref (y 26), .ref (y 30), .ref (y 31), .ref (y 32), .null, .null, .int 0, .int 0, .int 0])), (y 2, .inr (1, [.int 0, .int 0, .int 0, .int 0, .int 0, .int 0, .ref (y 3), .ref (y 4), .ref (y 5), .ref (y 6), .ref (y 7), .ref (y 8), .ref (y 9), .int 0, .int 0, .int 0, .int 0, .int 0]))] := hD
      refine lv_if_ne (tgt := 78) hx hb dX9_tryDeed_73 (by decide) (fun c_13 => absurd c_13 (by decide)) (fun _ => ?_)
      refine lv_iconst (v := 1) hx hb dX9_tryDeed_76 (by decide) ?_
      exact fiI hx hb hr hlk hK hP hD hS dX9_tryDeed_77 (Nat.le_of_ble_eq_true rfl) (Nat.le_of_ble_eq_true rfl) (Or.inr (Or.inr (Or.inl ⟨c_1, c_8, c_9, rfl, rfl⟩)))
  · replace c_1 : ¬ j0 < 10 := fun z => c_1 ((lg_cmp_lt _ _).mpr z)
    refine lv_lload_n hx hb dX9_tryDeed_8 rfl (lv_at hl 1 rfl) ?_
    refine lv_ldc2 (v := 19) hx hb hown (hg _ q_3_190) dX9_tryDeed_9 ?_
    refine W.lcmp hx hb dX9_tryDeed_12 ?_
    refine lv_if_gt (tgt := 41) hx hb dX9_tryDeed_13 (by decide) (fun c_14 => ?_) (fun c_14 => ?_)
    · replace c_14 : 19 < j0 := (lg_cmp_gt _ _).mp c_14
      refine lv_lload_n hx hb dX9_tryDeed_41 rfl (lv_at hl 1 rfl) ?_
      refine lv_ldc2 (v := 20) hx hb hown (hg _ q_3_199) dX9_tryDeed_42 ?_
      refine W.lcmp hx hb dX9_tryDeed_45 ?_
      refine lv_if_lt (tgt := 68) hx hb dX9_tryDeed_46 (by decide) (fun c_15 => False.elim (by have c_16 : j0 < 20 := ((lg_cmp_lt _ _).mp c_15); exact (by simp only [tI_lt, tI_le, tI_eq, tL_lt, tL_le, tL_eq, tWx, (by decide : (10 : Int64).toInt = 10), (by decide : (19 : Int64).toInt = 19), (by decide : (20 : Int64).toInt = 20)] at c_1 c_14 c_16; omega))) (fun _ => ?_)
      refine lv_lload_n hx hb dX9_tryDeed_49 rfl (lv_at hl 1 rfl) ?_
      refine lv_ldc2 (v := 29) hx hb hown (hg _ q_3_200) dX9_tryDeed_50 ?_
      refine W.lcmp hx hb dX9_tryDeed_53 ?_
      refine lv_if_gt (tgt := 68) hx hb dX9_tryDeed_54 (by decide) (fun c_17 => ?_) (fun c_17 => ?_)
      · replace c_17 : 29 < j0 := (lg_cmp_gt _ _).mp c_17
        refine lv_aload_n hx hb dX9_tryDeed_68 rfl (lv_at hl 0 rfl) ?_
        refine lv_lload_n hx hb dX9_tryDeed_69 rfl (lv_at hl 1 rfl) ?_
        refine jnI (wr := [(y 19, .inr (4, [.ref (y 2), .ref (y 20), .ref (y 21), .ref (y 22), .ref (y 23), .ref (y 24)]))]) (rnV (rest := []) ⟨hx, hb, hml, hown, hg⟩ (c_X9_isNight_0 l V y j0) mt_X9_isNight q_3_141 ⟨Nat.le_of_ble_eq_true rfl, Nat.le_of_ble_eq_true rfl⟩ hK hP hD hS hA hE [1, 2] rfl rfl 1 rfl rfl rfl rfl hl.1 rfl (Nat.le_of_ble_eq_true rfl) dX9_tryDeed_70 ⟨Nat.le_of_ble_eq_true rfl, Nat.le_of_ble_eq_true rfl⟩) hP hD hS hA [1, 2] [0] rfl rfl rfl (by decide) (fun r_18 w H locs hw hP hD hS => ?_)
        rcases hw with ⟨c_19, rfl, rfl⟩ | ⟨c_20, c_21, rfl, rfl⟩ | ⟨c_22, c_23, rfl, rfl⟩
        · exact False.elim (by simp only [tI_lt, tI_le, tI_eq, tL_lt, tL_le, tL_eq, tWx, (by decide : (0 : Int64).toInt = 0), (by decide : (10 : Int64).toInt = 10), (by decide : (19 : Int64).toInt = 19), (by decide : (29 : Int64).toInt = 29)] at c_1 c_14 c_17 c_19; omega)
        · exact False.elim (by simp only [tI_lt, tI_le, tI_eq, tL_lt, tL_le, tL_eq, tWx, (by decide : (0 : Int64).toInt = 0), (by decide : (10 : Int64).toInt = 10), (by decide : (19 : Int64).toInt = 19), (by decide : (29 : Int64).toInt = 29)] at c_1 c_14 c_17 c_20 c_21; omega)
        · have hP : va_P V.1 vwCl [(y 19, .inr (4, [.ref (y 2), .ref (y 20), .ref (y 21), .ref (y 22), .ref (y 23), .ref (y 24)])), (y 0, .inr (9, [.ref (y 1), .int 0, .ref (y 2), .ref (y 10), .ref (y 19), .ref (y 25), .ref (y 26), .ref (y 30), .ref (y 31), .ref (y 32), .null, .null, .int 0, .int 0, .int 0])), (y 2, .inr (1, [.int 0, .int 0, .int 0, .int 0, .int 0, .int 0, .ref (y 3), .ref (y 4), .ref (y 5), .ref (y 6), .ref (y 7), .ref (y 8), .ref (y 9), .int 0, .int 0, .int 0, .int 0, .int 0]))] H := hP
          have hD : va_D A [(y 19, .inr (4, [.ref (y 2), .ref (y 20), .ref (y 21), .ref (y 22), .ref (y 23), .ref (y 24)])), (y 0, .inr (9, [.ref (y 1), .int 0, .ref (y 2), .ref (y 10), .ref (y 19), .ref (y 25), .ref (y 26), .ref (y 30), .ref (y 31), .ref (y 32), .null, .null, .int 0, .int 0, .int 0])), (y 2, .inr (1, [.int 0, .int 0, .int 0, .int 0, .int 0, .int 0, .ref (y 3), .ref (y 4), .ref (y 5), .ref (y 6), .ref (y 7), .ref (y 8), .ref (y 9), .int 0, .int 0, .int 0, .int 0, .int 0]))] := hD
          refine lv_if_ne (tgt := 78) hx hb dX9_tryDeed_73 (by decide) (fun c_24 => absurd c_24 (by decide)) (fun _ => ?_)
          refine lv_iconst (v := 1) hx hb dX9_tryDeed_76 (by decide) ?_
          exact fiI hx hb hr hlk hK hP hD hS dX9_tryDeed_77 (Nat.le_of_ble_eq_true rfl) (Nat.le_of_ble_eq_true rfl) (Or.inr (Or.inr (Or.inr (Or.inl ⟨c_1, c_14, c_17, c_22, c_23, rfl, rfl⟩))))
      · replace c_17 : ¬ 29 < j0 := fun z => c_17 ((lg_cmp_gt _ _).mpr z)
        refine lv_aload_n hx hb dX9_tryDeed_57 rfl (lv_at hl 0 rfl) ?_
        refine lv_lload_n hx hb dX9_tryDeed_58 rfl (lv_at hl 1 rfl) ?_
        refine lv_l2i (v := j0.toInt32) hx hb dX9_tryDeed_59 rfl ?_
        refine lv_bipush (v := 20) hx hb dX9_tryDeed_60 (by decide) ?_
        refine lv_isub hx hb dX9_tryDeed_62 ?_
        refine va_put (ci := 9) (v := .int (j0.toInt32 - 20)) (ty := .int) (C := RX9) (T := TX9) (N := 15) hx hb hg inX9 tyX9 tyX9_ok nmX9 hown hK hP hD hS 1 rfl rfl 13 (by decide) (hg _ q_2_49) (fun _ h9 => h9) rfl (by decide +kernel) rfl rfl (Nat.le_of_ble_eq_true rfl) dX9_tryDeed_63 (fun H locs hP hD hS => ?_)
        have hP : va_P V.1 vwCl [(y 19, .inr (4, [.ref (y 2), .ref (y 20), .ref (y 21), .ref (y 22), .ref (y 23), .ref (y 24)])), (y 0, .inr (9, [.ref (y 1), .int 0, .ref (y 2), .ref (y 10), .ref (y 19), .ref (y 25), .ref (y 26), .ref (y 30), .ref (y 31), .ref (y 32), .null, .null, .int 0, .int (j0.toInt32 - 20), .int 0])), (y 2, .inr (1, [.int 0, .int 0, .int 0, .int 0, .int 0, .int 0, .ref (y 3), .ref (y 4), .ref (y 5), .ref (y 6), .ref (y 7), .ref (y 8), .ref (y 9), .int 0, .int 0, .int 0, .int 0, .int 0]))] H := hP
        have hD : va_D A [(y 19, .inr (4, [.ref (y 2), .ref (y 20), .ref (y 21), .ref (y 22), .ref (y 23), .ref (y 24)])), (y 0, .inr (9, [.ref (y 1), .int 0, .ref (y 2), .ref (y 10), .ref (y 19), .ref (y 25), .ref (y 26), .ref (y 30), .ref (y 31), .ref (y 32), .null, .null, .int 0, .int (j0.toInt32 - 20), .int 0])), (y 2, .inr (1, [.int 0, .int 0, .int 0, .int 0, .int 0, .int 0, .ref (y 3), .ref (y 4), .ref (y 5), .ref (y 6), .ref (y 7), .ref (y 8), .ref (y 9), .int 0, .int 0, .int 0, .int 0, .int 0]))] := hD
        refine lv_iconst (v := 0) hx hb dX9_tryDeed_66 (by decide) ?_
        exact fiI hx hb hr hlk hK hP hD hS dX9_tryDeed_67 (Nat.le_of_ble_eq_true rfl) (Nat.le_of_ble_eq_true rfl) (Or.inr (Or.inr (Or.inr (Or.inr (Or.inr (⟨c_1, c_14, c_17, rfl, rfl⟩))))))
    · replace c_14 : ¬ 19 < j0 := fun z => c_14 ((lg_cmp_gt _ _).mpr z)
      refine lv_aload_n hx hb dX9_tryDeed_16 rfl (lv_at hl 0 rfl) ?_
      refine lv_lload_n hx hb dX9_tryDeed_17 rfl (lv_at hl 1 rfl) ?_
      refine lv_l2i (v := j0.toInt32) hx hb dX9_tryDeed_18 rfl ?_
      refine lv_bipush (v := 10) hx hb dX9_tryDeed_19 (by decide) ?_
      refine lv_isub hx hb dX9_tryDeed_21 ?_
      refine jnI (wr := [(y 19, .inr (4, [.ref (y 2), .ref (y 20), .ref (y 21), .ref (y 22), .ref (y 23), .ref (y 24)]))]) (rnV (rest := []) ⟨hx, hb, hml, hown, hg⟩ (c_X9_whyNoStealing_0 l V y ((j0.toInt32 - 10))) mt_X9_whyNoStealing q_3_191 ⟨Nat.le_of_ble_eq_true rfl, Nat.le_of_ble_eq_true rfl⟩ hK hP hD hS hA hE [1, 2] rfl rfl 1 rfl rfl rfl rfl hl.1 rfl (Nat.le_of_ble_eq_true rfl) dX9_tryDeed_22 ⟨Nat.le_of_ble_eq_true rfl, Nat.le_of_ble_eq_true rfl⟩) hP hD hS hA [1, 2] [0] rfl rfl rfl (by decide) (fun r_25 w H locs hw hP hD hS => ?_)
      obtain ⟨rfl, rfl⟩ := hw
      have hP : va_P V.1 vwCl [(y 19, .inr (4, [.ref (y 2), .ref (y 20), .ref (y 21), .ref (y 22), .ref (y 23), .ref (y 24)])), (y 0, .inr (9, [.ref (y 1), .int 0, .ref (y 2), .ref (y 10), .ref (y 19), .ref (y 25), .ref (y 26), .ref (y 30), .ref (y 31), .ref (y 32), .null, .null, .int 0, .int 0, .int 0])), (y 2, .inr (1, [.int 0, .int 0, .int 0, .int 0, .int 0, .int 0, .ref (y 3), .ref (y 4), .ref (y 5), .ref (y 6), .ref (y 7), .ref (y 8), .ref (y 9), .int 0, .int 0, .int 0, .int 0, .int 0]))] H := hP
      have hD : va_D A [(y 19, .inr (4, [.ref (y 2), .ref (y 20), .ref (y 21), .ref (y 22), .ref (y 23), .ref (y 24)])), (y 0, .inr (9, [.ref (y 1), .int 0, .ref (y 2), .ref (y 10), .ref (y 19), .ref (y 25), .ref (y 26), .ref (y 30), .ref (y 31), .ref (y 32), .null, .null, .int 0, .int 0, .int 0])), (y 2, .inr (1, [.int 0, .int 0, .int 0, .int 0, .int 0, .int 0, .ref (y 3), .ref (y 4), .ref (y 5), .ref (y 6), .ref (y 7), .ref (y 8), .ref (y 9), .int 0, .int 0, .int 0, .int 0, .int 0]))] := hD
      refine lv_istore_n (lv' := [(3, .int 1), (0, .ref (y 0)), (1, .long j0)]) hx hb dX9_tryDeed_25 rfl hl (by decide) rfl (fun ls hl => ?_)
      refine lv_iload_n hx hb dX9_tryDeed_26 rfl (lv_at hl 0 rfl) ?_
      refine lv_if_ne (tgt := 39) hx hb dX9_tryDeed_27 (by decide) (fun _ => ?_) (fun c_26 => absurd c_26 (by decide))
      refine lv_iload_n hx hb dX9_tryDeed_39 rfl (lv_at hl 0 rfl) ?_
      exact fiI hx hb hr hlk hK hP hD hS dX9_tryDeed_40 (Nat.le_of_ble_eq_true rfl) (Nat.le_of_ble_eq_true rfl) (Or.inr (Or.inr (Or.inr (Or.inr (Or.inl ⟨c_1, c_14, rfl, rfl⟩)))))
theorem dX9_tookIn_0 : decode cX9_tookIn 0 = .ok (.iload_n 0, 1) := by decide +kernel
theorem q_3_129 : Cond.fieldLink "BeaconDelay" 162 "BeaconDelay" "POWER" "[I" ∈ gw := gw_3 (i := 129) (by decide +kernel) rfl
theorem dX9_tookIn_1 : decode cX9_tookIn 1 = .ok (.getstatic 162, 3) := by decide +kernel
theorem dX9_tookIn_4 : decode cX9_tookIn 4 = .ok (.iload_n 1, 1) := by decide +kernel
theorem dX9_tookIn_5 : decode cX9_tookIn 5 = .ok (.iaload, 1) := by decide +kernel
theorem dX9_tookIn_6 : decode cX9_tookIn 6 = .ok (.idiv, 1) := by decide +kernel
theorem dX9_tookIn_7 : decode cX9_tookIn 7 = .ok (.iconst 2, 1) := by decide +kernel
theorem dX9_tookIn_8 : decode cX9_tookIn 8 = .ok (.irem, 1) := by decide +kernel
theorem dX9_tookIn_9 : decode cX9_tookIn 9 = .ok (.ireturn, 1) := by decide +kernel
set_option maxHeartbeats 4000000 in
set_option maxRecDepth 100000 in
theorem c_X9_tookIn_0 (l : Launch) (V : GV) : Ct l V yX9_tookIn (.code yX9_tookIn cX9_tookIn 2 (some .int)) 1 [.int 0, .int 0] [] 0 0 (QI V (fun (r : Int32) (w : va_W) => (r = 0 ∧ w = []))) := by
  refine Ct.of (by decide) (Nat.le_of_ble_eq_true rfl) (fun p e s m below meth c A ls hx hb hr hml hown hlk hnm hg hP hK hD hE hA hS hl => ?_)
  have hl : lv_has ls 2 [(0, .int 0), (1, .int 0)] := hl
  refine lv_iload_n hx hb dX9_tookIn_0 rfl (lv_at hl 0 rfl) ?_
  refine va_gets hx hb hE.1.1 hS hown (hg _ q_3_129) (fun _ h9 => h9) dX9_tookIn_1 ?_
  refine lv_iload_n hx hb dX9_tookIn_4 rfl (lv_at hl 1 rfl) ?_
  refine va_ti (v := .int 1) hx hb hE.1.2 hS (vin (by decide +kernel)) rfl dX9_tookIn_5 ?_
  refine lv_idiv hx hb dX9_tookIn_6 (by decide) ?_
  refine tpi (y := 0) (by decide +kernel) ?_
  refine lv_iconst (v := 2) hx hb dX9_tookIn_7 (by decide) ?_
  refine lv_irem hx hb dX9_tookIn_8 (by decide) ?_
  refine tpi (y := 0) (by decide +kernel) ?_
  exact fiI hx hb hr hlk hK hP hD hS dX9_tookIn_9 (Nat.le_of_ble_eq_true rfl) (Nat.le_of_ble_eq_true rfl) (⟨rfl, rfl⟩)
set_option maxHeartbeats 4000000 in
set_option maxRecDepth 100000 in
theorem c_X9_tookIn_1 (l : Launch) (V : GV) : Ct l V yX9_tookIn (.code yX9_tookIn cX9_tookIn 2 (some .int)) 1 [.int 0, .int 1] [] 0 0 (QI V (fun (r : Int32) (w : va_W) => (r = 0 ∧ w = []))) := by
  refine Ct.of (by decide) (Nat.le_of_ble_eq_true rfl) (fun p e s m below meth c A ls hx hb hr hml hown hlk hnm hg hP hK hD hE hA hS hl => ?_)
  have hl : lv_has ls 2 [(0, .int 0), (1, .int 1)] := hl
  refine lv_iload_n hx hb dX9_tookIn_0 rfl (lv_at hl 0 rfl) ?_
  refine va_gets hx hb hE.1.1 hS hown (hg _ q_3_129) (fun _ h9 => h9) dX9_tookIn_1 ?_
  refine lv_iload_n hx hb dX9_tookIn_4 rfl (lv_at hl 1 rfl) ?_
  refine va_ti (v := .int 10) hx hb hE.1.2 hS (vin (by decide +kernel)) rfl dX9_tookIn_5 ?_
  refine lv_idiv hx hb dX9_tookIn_6 (by decide) ?_
  refine tpi (y := 0) (by decide +kernel) ?_
  refine lv_iconst (v := 2) hx hb dX9_tookIn_7 (by decide) ?_
  refine lv_irem hx hb dX9_tookIn_8 (by decide) ?_
  refine tpi (y := 0) (by decide +kernel) ?_
  exact fiI hx hb hr hlk hK hP hD hS dX9_tookIn_9 (Nat.le_of_ble_eq_true rfl) (Nat.le_of_ble_eq_true rfl) (⟨rfl, rfl⟩)
set_option maxHeartbeats 4000000 in
set_option maxRecDepth 100000 in
theorem c_X9_tookIn_2 (l : Launch) (V : GV) : Ct l V yX9_tookIn (.code yX9_tookIn cX9_tookIn 2 (some .int)) 1 [.int 0, .int 2] [] 0 0 (QI V (fun (r : Int32) (w : va_W) => (r = 0 ∧ w = []))) := by
  refine Ct.of (by decide) (Nat.le_of_ble_eq_true rfl) (fun p e s m below meth c A ls hx hb hr hml hown hlk hnm hg hP hK hD hE hA hS hl => ?_)
  have hl : lv_has ls 2 [(0, .int 0), (1, .int 2)] := hl
  refine lv_iload_n hx hb dX9_tookIn_0 rfl (lv_at hl 0 rfl) ?_
  refine va_gets hx hb hE.1.1 hS hown (hg _ q_3_129) (fun _ h9 => h9) dX9_tookIn_1 ?_
  refine lv_iload_n hx hb dX9_tookIn_4 rfl (lv_at hl 1 rfl) ?_
  refine va_ti (v := .int 100) hx hb hE.1.2 hS (vin (by decide +kernel)) rfl dX9_tookIn_5 ?_
  refine lv_idiv hx hb dX9_tookIn_6 (by decide) ?_
  refine tpi (y := 0) (by decide +kernel) ?_
  refine lv_iconst (v := 2) hx hb dX9_tookIn_7 (by decide) ?_
  refine lv_irem hx hb dX9_tookIn_8 (by decide) ?_
  refine tpi (y := 0) (by decide +kernel) ?_
  exact fiI hx hb hr hlk hK hP hD hS dX9_tookIn_9 (Nat.le_of_ble_eq_true rfl) (Nat.le_of_ble_eq_true rfl) (⟨rfl, rfl⟩)
set_option maxHeartbeats 4000000 in
set_option maxRecDepth 100000 in
theorem c_X9_tookIn_3 (l : Launch) (V : GV) : Ct l V yX9_tookIn (.code yX9_tookIn cX9_tookIn 2 (some .int)) 1 [.int 0, .int 3] [] 0 0 (QI V (fun (r : Int32) (w : va_W) => (r = 0 ∧ w = []))) := by
  refine Ct.of (by decide) (Nat.le_of_ble_eq_true rfl) (fun p e s m below meth c A ls hx hb hr hml hown hlk hnm hg hP hK hD hE hA hS hl => ?_)
  have hl : lv_has ls 2 [(0, .int 0), (1, .int 3)] := hl
  refine lv_iload_n hx hb dX9_tookIn_0 rfl (lv_at hl 0 rfl) ?_
  refine va_gets hx hb hE.1.1 hS hown (hg _ q_3_129) (fun _ h9 => h9) dX9_tookIn_1 ?_
  refine lv_iload_n hx hb dX9_tookIn_4 rfl (lv_at hl 1 rfl) ?_
  refine va_ti (v := .int 1000) hx hb hE.1.2 hS (vin (by decide +kernel)) rfl dX9_tookIn_5 ?_
  refine lv_idiv hx hb dX9_tookIn_6 (by decide) ?_
  refine tpi (y := 0) (by decide +kernel) ?_
  refine lv_iconst (v := 2) hx hb dX9_tookIn_7 (by decide) ?_
  refine lv_irem hx hb dX9_tookIn_8 (by decide) ?_
  refine tpi (y := 0) (by decide +kernel) ?_
  exact fiI hx hb hr hlk hK hP hD hS dX9_tookIn_9 (Nat.le_of_ble_eq_true rfl) (Nat.le_of_ble_eq_true rfl) (⟨rfl, rfl⟩)
theorem dX9_tookBits_0 : decode cX9_tookBits 0 = .ok (.iconst 0, 1) := by decide +kernel
theorem dX9_tookBits_1 : decode cX9_tookBits 1 = .ok (.istore_n 1, 1) := by decide +kernel
theorem dX9_tookBits_2 : decode cX9_tookBits 2 = .ok (.iconst 0, 1) := by decide +kernel
theorem dX9_tookBits_3 : decode cX9_tookBits 3 = .ok (.istore_n 2, 1) := by decide +kernel
theorem dX9_tookBits_4 : decode cX9_tookBits 4 = .ok (.iload_n 2, 1) := by decide +kernel
theorem dX9_tookBits_5 : decode cX9_tookBits 5 = .ok (.iconst 4, 1) := by decide +kernel
theorem dX9_tookBits_6 : decode cX9_tookBits 6 = .ok (.if_icmp .ge 19, 3) := by decide +kernel
theorem dX9_tookBits_9 : decode cX9_tookBits 9 = .ok (.iload_n 1, 1) := by decide +kernel
theorem dX9_tookBits_10 : decode cX9_tookBits 10 = .ok (.iload_n 0, 1) := by decide +kernel
theorem dX9_tookBits_11 : decode cX9_tookBits 11 = .ok (.iload_n 2, 1) := by decide +kernel
theorem q_3_132 : Cond.code yX9_tookIn prog_1_method_14_code 2 (some FieldType.int) ∈ gw := gw_3 (i := 132) (rfl) rfl
theorem q_3_131 : Cond.static yX9_tookIn ∈ gw := gw_3 (i := 131) (by decide +kernel) rfl
theorem mt_X9_tookIn : MtS yX9_tookIn cX9_tookIn 2 (some .int) 2 := ⟨⟨q_3_132, q_1_1, by decide +kernel, by decide +kernel, by decide +kernel⟩, q_3_131⟩
theorem q_3_130 : Cond.methodLink "BeaconDelay" 139 yX9_tookIn ∈ gw := gw_3 (i := 130) (by decide +kernel) rfl
theorem dX9_tookBits_12 : decode cX9_tookBits 12 = .ok (.invokestatic 139, 3) := by decide +kernel
theorem dX9_tookBits_15 : decode cX9_tookBits 15 = .ok (.iload_n 2, 1) := by decide +kernel
theorem dX9_tookBits_16 : decode cX9_tookBits 16 = .ok (.ishl, 1) := by decide +kernel
theorem dX9_tookBits_17 : decode cX9_tookBits 17 = .ok (.ior, 1) := by decide +kernel
theorem dX9_tookBits_18 : decode cX9_tookBits 18 = .ok (.istore_n 1, 1) := by decide +kernel
theorem dX9_tookBits_19 : decode cX9_tookBits 19 = .ok (.iinc 2 1, 3) := by decide +kernel
theorem dX9_tookBits_22 : decode cX9_tookBits 22 = .ok (.goto (-18), 3) := by decide +kernel
theorem dX9_tookBits_25 : decode cX9_tookBits 25 = .ok (.iload_n 1, 1) := by decide +kernel
theorem dX9_tookBits_26 : decode cX9_tookBits 26 = .ok (.ireturn, 1) := by decide +kernel
set_option maxHeartbeats 4000000 in
set_option maxRecDepth 100000 in
theorem c_X9_tookBits_0 (l : Launch) (V : GV) : Ct l V yX9_tookBits (.code yX9_tookBits cX9_tookBits 3 (some .int)) 2 [.int 0] [] 0 0 (QI V (fun (r : Int32) (w : va_W) => (r = 0 ∧ w = []))) := by
  refine Ct.of (by decide) (Nat.le_of_ble_eq_true rfl) (fun p e s m below meth c A ls hx hb hr hml hown hlk hnm hg hP hK hD hE hA hS hl => ?_)
  have hl : lv_has ls 3 [(0, .int 0)] := hl
  refine lv_iconst (v := 0) hx hb dX9_tookBits_0 (by decide) ?_
  refine lv_istore_n (lv' := [(1, .int 0), (0, .int 0)]) hx hb dX9_tookBits_1 rfl hl (by decide) rfl (fun ls hl => ?_)
  refine lv_iconst (v := 0) hx hb dX9_tookBits_2 (by decide) ?_
  refine lv_istore_n (lv' := [(2, .int 0), (1, .int 0), (0, .int 0)]) hx hb dX9_tookBits_3 rfl hl (by decide) rfl (fun ls hl => ?_)
  refine lv_iload_n hx hb dX9_tookBits_4 rfl (lv_at hl 0 rfl) ?_
  refine lv_iconst (v := 4) hx hb dX9_tookBits_5 (by decide) ?_
  refine lv_icmp_ge (tgt := 25) hx hb dX9_tookBits_6 (by decide) (fun c_1 => absurd c_1 (by decide)) (fun _ => ?_)
  refine lv_iload_n hx hb dX9_tookBits_9 rfl (lv_at hl 1 rfl) ?_
  refine lv_iload_n hx hb dX9_tookBits_10 rfl (lv_at hl 2 rfl) ?_
  refine lv_iload_n hx hb dX9_tookBits_11 rfl (lv_at hl 0 rfl) ?_
  refine jnI (wr := []) (rnS (rest := [.int 0]) ⟨hx, hb, hml, hown, hg⟩ (c_X9_tookIn_0 l V) mt_X9_tookIn q_3_130 ⟨Nat.le_of_ble_eq_true rfl, Nat.le_of_ble_eq_true rfl⟩ hK hP hD hS hA hE [] rfl rfl rfl hl.1 rfl (Nat.le_of_ble_eq_true rfl) dX9_tookBits_12 ⟨Nat.le_of_ble_eq_true rfl, Nat.le_of_ble_eq_true rfl⟩) hP hD hS hA [] [] rfl rfl rfl (by decide) (fun r_2 w H locs hw hP hD hS => ?_)
  obtain ⟨rfl, rfl⟩ := hw
  have hP : va_P V.1 vwCl [] H := hP
  have hD : va_D A [] := hD
  refine lv_iload_n hx hb dX9_tookBits_15 rfl (lv_at hl 0 rfl) ?_
  refine lv_ishl hx hb dX9_tookBits_16 ?_
  refine tpi (y := 0) (by decide +kernel) ?_
  refine lv_ior hx hb dX9_tookBits_17 ?_
  refine tpi (y := 0) (by decide +kernel) ?_
  refine lv_istore_n (lv' := [(1, .int 0), (2, .int 0), (0, .int 0)]) hx hb dX9_tookBits_18 rfl hl (by decide) rfl (fun ls hl => ?_)
  refine lv_iinc (v := 1) (lv' := [(2, .int 1), (1, .int 0), (0, .int 0)]) hx hb dX9_tookBits_19 hl (k := 1) rfl (by decide +kernel) (by decide) rfl (fun ls hl => ?_)
  refine lv_goto (tgt := 4) hx hb dX9_tookBits_22 (by decide) ?_
  refine lv_iload_n hx hb dX9_tookBits_4 rfl (lv_at hl 0 rfl) ?_
  refine lv_iconst (v := 4) hx hb dX9_tookBits_5 (by decide) ?_
  refine lv_icmp_ge (tgt := 25) hx hb dX9_tookBits_6 (by decide) (fun c_3 => absurd c_3 (by decide)) (fun _ => ?_)
  refine lv_iload_n hx hb dX9_tookBits_9 rfl (lv_at hl 1 rfl) ?_
  refine lv_iload_n hx hb dX9_tookBits_10 rfl (lv_at hl 2 rfl) ?_
  refine lv_iload_n hx hb dX9_tookBits_11 rfl (lv_at hl 0 rfl) ?_
  refine jnI (wr := []) (rnS (rest := [.int 0]) ⟨hx, hb, hml, hown, hg⟩ (c_X9_tookIn_1 l V) mt_X9_tookIn q_3_130 ⟨Nat.le_of_ble_eq_true rfl, Nat.le_of_ble_eq_true rfl⟩ hK hP hD hS hA hE [] rfl rfl rfl hl.1 rfl (Nat.le_of_ble_eq_true rfl) dX9_tookBits_12 ⟨Nat.le_of_ble_eq_true rfl, Nat.le_of_ble_eq_true rfl⟩) hP hD hS hA [] [] rfl rfl rfl (by decide) (fun r_4 w H locs hw hP hD hS => ?_)
  obtain ⟨rfl, rfl⟩ := hw
  have hP : va_P V.1 vwCl [] H := hP
  have hD : va_D A [] := hD
  refine lv_iload_n hx hb dX9_tookBits_15 rfl (lv_at hl 0 rfl) ?_
  refine lv_ishl hx hb dX9_tookBits_16 ?_
  refine tpi (y := 0) (by decide +kernel) ?_
  refine lv_ior hx hb dX9_tookBits_17 ?_
  refine tpi (y := 0) (by decide +kernel) ?_
  refine lv_istore_n (lv' := [(1, .int 0), (2, .int 1), (0, .int 0)]) hx hb dX9_tookBits_18 rfl hl (by decide) rfl (fun ls hl => ?_)
  refine lv_iinc (v := 2) (lv' := [(2, .int 2), (1, .int 0), (0, .int 0)]) hx hb dX9_tookBits_19 hl (k := 1) rfl (by decide +kernel) (by decide) rfl (fun ls hl => ?_)
  refine lv_goto (tgt := 4) hx hb dX9_tookBits_22 (by decide) ?_
  refine lv_iload_n hx hb dX9_tookBits_4 rfl (lv_at hl 0 rfl) ?_
  refine lv_iconst (v := 4) hx hb dX9_tookBits_5 (by decide) ?_
  refine lv_icmp_ge (tgt := 25) hx hb dX9_tookBits_6 (by decide) (fun c_5 => absurd c_5 (by decide)) (fun _ => ?_)
  refine lv_iload_n hx hb dX9_tookBits_9 rfl (lv_at hl 1 rfl) ?_
  refine lv_iload_n hx hb dX9_tookBits_10 rfl (lv_at hl 2 rfl) ?_
  refine lv_iload_n hx hb dX9_tookBits_11 rfl (lv_at hl 0 rfl) ?_
  refine jnI (wr := []) (rnS (rest := [.int 0]) ⟨hx, hb, hml, hown, hg⟩ (c_X9_tookIn_2 l V) mt_X9_tookIn q_3_130 ⟨Nat.le_of_ble_eq_true rfl, Nat.le_of_ble_eq_true rfl⟩ hK hP hD hS hA hE [] rfl rfl rfl hl.1 rfl (Nat.le_of_ble_eq_true rfl) dX9_tookBits_12 ⟨Nat.le_of_ble_eq_true rfl, Nat.le_of_ble_eq_true rfl⟩) hP hD hS hA [] [] rfl rfl rfl (by decide) (fun r_6 w H locs hw hP hD hS => ?_)
  obtain ⟨rfl, rfl⟩ := hw
  have hP : va_P V.1 vwCl [] H := hP
  have hD : va_D A [] := hD
  refine lv_iload_n hx hb dX9_tookBits_15 rfl (lv_at hl 0 rfl) ?_
  refine lv_ishl hx hb dX9_tookBits_16 ?_
  refine tpi (y := 0) (by decide +kernel) ?_
  refine lv_ior hx hb dX9_tookBits_17 ?_
  refine tpi (y := 0) (by decide +kernel) ?_
  refine lv_istore_n (lv' := [(1, .int 0), (2, .int 2), (0, .int 0)]) hx hb dX9_tookBits_18 rfl hl (by decide) rfl (fun ls hl => ?_)
  refine lv_iinc (v := 3) (lv' := [(2, .int 3), (1, .int 0), (0, .int 0)]) hx hb dX9_tookBits_19 hl (k := 1) rfl (by decide +kernel) (by decide) rfl (fun ls hl => ?_)
  refine lv_goto (tgt := 4) hx hb dX9_tookBits_22 (by decide) ?_
  refine lv_iload_n hx hb dX9_tookBits_4 rfl (lv_at hl 0 rfl) ?_
  refine lv_iconst (v := 4) hx hb dX9_tookBits_5 (by decide) ?_
  refine lv_icmp_ge (tgt := 25) hx hb dX9_tookBits_6 (by decide) (fun c_7 => absurd c_7 (by decide)) (fun _ => ?_)
  refine lv_iload_n hx hb dX9_tookBits_9 rfl (lv_at hl 1 rfl) ?_
  refine lv_iload_n hx hb dX9_tookBits_10 rfl (lv_at hl 2 rfl) ?_
  refine lv_iload_n hx hb dX9_tookBits_11 rfl (lv_at hl 0 rfl) ?_
  refine jnI (wr := []) (rnS (rest := [.int 0]) ⟨hx, hb, hml, hown, hg⟩ (c_X9_tookIn_3 l V) mt_X9_tookIn q_3_130 ⟨Nat.le_of_ble_eq_true rfl, Nat.le_of_ble_eq_true rfl⟩ hK hP hD hS hA hE [] rfl rfl rfl hl.1 rfl (Nat.le_of_ble_eq_true rfl) dX9_tookBits_12 ⟨Nat.le_of_ble_eq_true rfl, Nat.le_of_ble_eq_true rfl⟩) hP hD hS hA [] [] rfl rfl rfl (by decide) (fun r_8 w H locs hw hP hD hS => ?_)
  obtain ⟨rfl, rfl⟩ := hw
  have hP : va_P V.1 vwCl [] H := hP
  have hD : va_D A [] := hD
  refine lv_iload_n hx hb dX9_tookBits_15 rfl (lv_at hl 0 rfl) ?_
  refine lv_ishl hx hb dX9_tookBits_16 ?_
  refine tpi (y := 0) (by decide +kernel) ?_
  refine lv_ior hx hb dX9_tookBits_17 ?_
  refine tpi (y := 0) (by decide +kernel) ?_
  refine lv_istore_n (lv' := [(1, .int 0), (2, .int 3), (0, .int 0)]) hx hb dX9_tookBits_18 rfl hl (by decide) rfl (fun ls hl => ?_)
  refine lv_iinc (v := 4) (lv' := [(2, .int 4), (1, .int 0), (0, .int 0)]) hx hb dX9_tookBits_19 hl (k := 1) rfl (by decide +kernel) (by decide) rfl (fun ls hl => ?_)
  refine lv_goto (tgt := 4) hx hb dX9_tookBits_22 (by decide) ?_
  refine lv_iload_n hx hb dX9_tookBits_4 rfl (lv_at hl 0 rfl) ?_
  refine lv_iconst (v := 4) hx hb dX9_tookBits_5 (by decide) ?_
  refine lv_icmp_ge (tgt := 25) hx hb dX9_tookBits_6 (by decide) (fun _ => ?_) (fun c_9 => absurd c_9 (by decide))
  refine lv_iload_n hx hb dX9_tookBits_25 rfl (lv_at hl 1 rfl) ?_
  exact fiI hx hb hr hlk hK hP hD hS dX9_tookBits_26 (Nat.le_of_ble_eq_true rfl) (Nat.le_of_ble_eq_true rfl) (⟨rfl, rfl⟩)
theorem dX9_night_0 : decode cX9_night 0 = .ok (.aload_n 0, 1) := by decide +kernel
theorem dX9_night_1 : decode cX9_night 1 = .ok (.iload_n 1, 1) := by decide +kernel
theorem dX9_night_2 : decode cX9_night 2 = .ok (.i2l, 1) := by decide +kernel
theorem dX9_night_3 : decode cX9_night 3 = .ok (.invokevirtual 151, 3) := by decide +kernel
theorem dX9_night_6 : decode cX9_night 6 = .ok (.ifCond .ne 6, 3) := by decide +kernel
theorem dX9_night_12 : decode cX9_night 12 = .ok (.aload_n 0, 1) := by decide +kernel
theorem dX9_night_13 : decode cX9_night 13 = .ok (.getfield 48, 3) := by decide +kernel
theorem dX9_night_16 : decode cX9_night 16 = .ok (.aload_n 0, 1) := by decide +kernel
theorem dX9_night_17 : decode cX9_night 17 = .ok (.getfield 113, 3) := by decide +kernel
theorem dX9_night_20 : decode cX9_night 20 = .ok (.aload_n 0, 1) := by decide +kernel
theorem dX9_night_21 : decode cX9_night 21 = .ok (.getfield 116, 3) := by decide +kernel
theorem dX9_night_24 : decode cX9_night 24 = .ok (.aload_n 0, 1) := by decide +kernel
theorem dX9_night_25 : decode cX9_night 25 = .ok (.getfield 119, 3) := by decide +kernel
theorem q_3_180 : Cond.code yX5_keep prog_7_method_2_code 4 none ∈ gw := gw_3 (i := 180) (rfl) rfl
theorem q_3_178 : Cond.instanceMethod yX5_keep ∈ gw := gw_3 (i := 178) (by decide +kernel) rfl
theorem q_3_179 : Cond.selects "BeaconDelay$Past" yX5_keep yX5_keep ∈ gw := gw_3 (i := 179) (by decide +kernel) rfl
theorem mt_X5_keep : MtV yX5_keep cX5_keep 4 none 3 := ⟨⟨q_3_180, q_1_6, by decide +kernel, by decide +kernel, by decide +kernel⟩, q_3_178, q_3_179⟩
theorem q_3_177 : Cond.methodLink "BeaconDelay" 165 yX5_keep ∈ gw := gw_3 (i := 177) (by decide +kernel) rfl
theorem dX9_night_28 : decode cX9_night 28 = .ok (.invokevirtual 165, 3) := by decide +kernel
theorem dX9_night_31 : decode cX9_night 31 = .ok (.aload_n 0, 1) := by decide +kernel
theorem dX9_night_32 : decode cX9_night 32 = .ok (.iload_n 1, 1) := by decide +kernel
theorem dX9_night_33 : decode cX9_night 33 = .ok (.i2l, 1) := by decide +kernel
theorem q_3_188 : Cond.code yX9_tryDeed prog_1_method_26_code 4 (some FieldType.int) ∈ gw := gw_3 (i := 188) (rfl) rfl
theorem q_3_187 : Cond.instanceMethod yX9_tryDeed ∈ gw := gw_3 (i := 187) (by decide +kernel) rfl
theorem q_s_27 : Cond.selects "BeaconDelay" yX9_tryDeed yX9_tryDeed ∈ gw := gw_s (i := 27) (by decide +kernel) rfl
theorem mt_X9_tryDeed : MtV yX9_tryDeed cX9_tryDeed 4 (some .int) 1 := ⟨⟨q_3_188, q_1_1, by decide +kernel, by decide +kernel, by decide +kernel⟩, q_3_187, q_s_27⟩
theorem q_3_185 : Cond.methodLink "BeaconDelay" 169 yX9_tryDeed ∈ gw := gw_3 (i := 185) (by decide +kernel) rfl
theorem dX9_night_34 : decode cX9_night 34 = .ok (.invokevirtual 169, 3) := by decide +kernel
theorem dX9_night_37 : decode cX9_night 37 = .ok (.pop, 1) := by decide +kernel
theorem dX9_night_38 : decode cX9_night 38 = .ok (.aload_n 0, 1) := by decide +kernel
theorem dX9_night_39 : decode cX9_night 39 = .ok (.getfield 113, 3) := by decide +kernel
theorem q_3_203 : Cond.code yX9_tookBits prog_1_method_16_code 3 (some FieldType.int) ∈ gw := gw_3 (i := 203) (rfl) rfl
theorem q_3_202 : Cond.static yX9_tookBits ∈ gw := gw_3 (i := 202) (by decide +kernel) rfl
theorem mt_X9_tookBits : MtS yX9_tookBits cX9_tookBits 3 (some .int) 1 := ⟨⟨q_3_203, q_1_1, by decide +kernel, by decide +kernel, by decide +kernel⟩, q_3_202⟩
theorem q_3_201 : Cond.methodLink "BeaconDelay" 173 yX9_tookBits ∈ gw := gw_3 (i := 201) (by decide +kernel) rfl
theorem dX9_night_42 : decode cX9_night 42 = .ok (.invokestatic 173, 3) := by decide +kernel
theorem dX9_night_45 : decode cX9_night 45 = .ok (.ireturn, 1) := by decide +kernel
theorem dX9_night_9 : decode cX9_night 9 = .ok (.bipush (-11), 2) := by decide +kernel
theorem dX9_night_11 : decode cX9_night 11 = .ok (.ireturn, 1) := by decide +kernel
set_option maxHeartbeats 4000000 in
set_option maxRecDepth 100000 in
theorem c_X9_night_0 (l : Launch) (V : GV) (y : Nat → Nat) (p0 : Int32) : Ct l V yX9_night (.code yX9_night cX9_night 2 (some .int)) 4 [.ref (y 0), .int p0] [(y 0, .inr (9, [.ref (y 1), .int 0, .ref (y 2), .ref (y 10), .ref (y 19), .ref (y 25), .ref (y 26), .ref (y 30), .ref (y 31), .ref (y 32), .null, .null, .int 0, .int 0, .int 0])), (y 2, .inr (1, [.int 0, .int 0, .int 0, .int 0, .int 0, .int 0, .ref (y 3), .ref (y 4), .ref (y 5), .ref (y 6), .ref (y 7), .ref (y 8), .ref (y 9), .int 0, .int 0, .int 0, .int 0, .int 0])), (y 19, .inr (4, [.ref (y 2), .ref (y 20), .ref (y 21), .ref (y 22), .ref (y 23), .ref (y 24)])), (y 26, .inr (5, [.ref (y 27), .ref (y 28), .ref (y 29), .int 0])), (y 27, aI V 10 (fun _ => 0)), (y 28, aI V 10 (fun _ => 0)), (y 29, aI V 10 (fun _ => 0))] 0 0 (QI V (fun (r : Int32) (w : va_W) => (p0.toInt64 = 0 ∧ p0.toInt64 < 10 ∧ p0.toInt64 = 0 ∧ r = 0 ∧ w = [(y 0, .inr (9, [.ref (y 1), .int 0, .ref (y 2), .ref (y 10), .ref (y 19), .ref (y 25), .ref (y 26), .ref (y 30), .ref (y 31), .ref (y 32), .null, .null, .int 0, .int 0, .int 1])), (y 2, .inr (1, [.int 0, .int 0, .int 0, .int 0, .int 0, .int 0, .ref (y 3), .ref (y 4), .ref (y 5), .ref (y 6), .ref (y 7), .ref (y 8), .ref (y 9), .int 0, .int 0, .int 0, .int 0, .int 0])), (y 19, .inr (4, [.ref (y 2), .ref (y 20), .ref (y 21), .ref (y 22), .ref (y 23), .ref (y 24)])), (y 26, .inr (5, [.ref (y 27), .ref (y 28), .ref (y 29), .int 1])), (y 27, aI V 10 (fun _ => 0)), (y 28, aI V 10 (fun _ => 0)), (y 29, aI V 10 (fun _ => 0))]) ∨ ((¬ p0.toInt64 = 0) ∧ p0.toInt64 ≤ 0 ∧ r = (-11) ∧ w = [(y 0, .inr (9, [.ref (y 1), .int 0, .ref (y 2), .ref (y 10), .ref (y 19), .ref (y 25), .ref (y 26), .ref (y 30), .ref (y 31), .ref (y 32), .null, .null, .int 0, .int 0, .int 0])), (y 2, .inr (1, [.int 0, .int 0, .int 0, .int 0, .int 0, .int 0, .ref (y 3), .ref (y 4), .ref (y 5), .ref (y 6), .ref (y 7), .ref (y 8), .ref (y 9), .int 0, .int 0, .int 0, .int 0, .int 0])), (y 19, .inr (4, [.ref (y 2), .ref (y 20), .ref (y 21), .ref (y 22), .ref (y 23), .ref (y 24)])), (y 26, .inr (5, [.ref (y 27), .ref (y 28), .ref (y 29), .int 0])), (y 27, aI V 10 (fun _ => 0)), (y 28, aI V 10 (fun _ => 0)), (y 29, aI V 10 (fun _ => 0))]) ∨ ((¬ p0.toInt64 = 0) ∧ (¬ p0.toInt64 ≤ 0) ∧ r = (-11) ∧ w = [(y 0, .inr (9, [.ref (y 1), .int 0, .ref (y 2), .ref (y 10), .ref (y 19), .ref (y 25), .ref (y 26), .ref (y 30), .ref (y 31), .ref (y 32), .null, .null, .int 0, .int 0, .int 0])), (y 2, .inr (1, [.int 0, .int 0, .int 0, .int 0, .int 0, .int 0, .ref (y 3), .ref (y 4), .ref (y 5), .ref (y 6), .ref (y 7), .ref (y 8), .ref (y 9), .int 0, .int 0, .int 0, .int 0, .int 0])), (y 19, .inr (4, [.ref (y 2), .ref (y 20), .ref (y 21), .ref (y 22), .ref (y 23), .ref (y 24)])), (y 26, .inr (5, [.ref (y 27), .ref (y 28), .ref (y 29), .int 0])), (y 27, aI V 10 (fun _ => 0)), (y 28, aI V 10 (fun _ => 0)), (y 29, aI V 10 (fun _ => 0))]))) := by
  refine Ct.of (by decide) (Nat.le_of_ble_eq_true rfl) (fun p e s m below meth c A ls hx hb hr hml hown hlk hnm hg hP hK hD hE hA hS hl => ?_)
  have hl : lv_has ls 2 [(0, .ref (y 0)), (1, .int p0)] := hl
  refine lv_aload_n hx hb dX9_night_0 rfl (lv_at hl 0 rfl) ?_
  refine lv_iload_n hx hb dX9_night_1 rfl (lv_at hl 1 rfl) ?_
  refine lv_i2l (v := p0.toInt64) hx hb dX9_night_2 rfl ?_
  refine jnI (wr := [(y 19, .inr (4, [.ref (y 2), .ref (y 20), .ref (y 21), .ref (y 22), .ref (y 23), .ref (y 24)])), (y 26, .inr (5, [.ref (y 27), .ref (y 28), .ref (y 29), .int 0])), (y 27, aI V 10 (fun _ => 0)), (y 28, aI V 10 (fun _ => 0)), (y 29, aI V 10 (fun _ => 0))]) (rnV (rest := []) ⟨hx, hb, hml, hown, hg⟩ (c_X9_isNight_0 l V y p0.toInt64) mt_X9_isNight q_3_141 ⟨Nat.le_of_ble_eq_true rfl, Nat.le_of_ble_eq_true rfl⟩ hK hP hD hS hA hE [0, 1] rfl rfl 0 rfl rfl rfl rfl hl.1 rfl (Nat.le_of_ble_eq_true rfl) dX9_night_3 ⟨Nat.le_of_ble_eq_true rfl, Nat.le_of_ble_eq_true rfl⟩) hP hD hS hA [0, 1] [2, 3, 4, 5, 6] rfl rfl rfl (by decide) (fun r_1 w H locs hw hP hD hS => ?_)
  rcases hw with ⟨c_2, rfl, rfl⟩ | ⟨c_3, c_4, rfl, rfl⟩ | ⟨c_5, c_6, rfl, rfl⟩
  · have hP : va_P V.1 vwCl [(y 19, .inr (4, [.ref (y 2), .ref (y 20), .ref (y 21), .ref (y 22), .ref (y 23), .ref (y 24)])), (y 26, .inr (5, [.ref (y 27), .ref (y 28), .ref (y 29), .int 0])), (y 27, aI V 10 (fun _ => 0)), (y 28, aI V 10 (fun _ => 0)), (y 29, aI V 10 (fun _ => 0)), (y 0, .inr (9, [.ref (y 1), .int 0, .ref (y 2), .ref (y 10), .ref (y 19), .ref (y 25), .ref (y 26), .ref (y 30), .ref (y 31), .ref (y 32), .null, .null, .int 0, .int 0, .int 0])), (y 2, .inr (1, [.int 0, .int 0, .int 0, .int 0, .int 0, .int 0, .ref (y 3), .ref (y 4), .ref (y 5), .ref (y 6), .ref (y 7), .ref (y 8), .ref (y 9), .int 0, .int 0, .int 0, .int 0, .int 0]))] H := hP
    have hD : va_D A [(y 19, .inr (4, [.ref (y 2), .ref (y 20), .ref (y 21), .ref (y 22), .ref (y 23), .ref (y 24)])), (y 26, .inr (5, [.ref (y 27), .ref (y 28), .ref (y 29), .int 0])), (y 27, aI V 10 (fun _ => 0)), (y 28, aI V 10 (fun _ => 0)), (y 29, aI V 10 (fun _ => 0)), (y 0, .inr (9, [.ref (y 1), .int 0, .ref (y 2), .ref (y 10), .ref (y 19), .ref (y 25), .ref (y 26), .ref (y 30), .ref (y 31), .ref (y 32), .null, .null, .int 0, .int 0, .int 0])), (y 2, .inr (1, [.int 0, .int 0, .int 0, .int 0, .int 0, .int 0, .ref (y 3), .ref (y 4), .ref (y 5), .ref (y 6), .ref (y 7), .ref (y 8), .ref (y 9), .int 0, .int 0, .int 0, .int 0, .int 0]))] := hD
    refine lv_if_ne (tgt := 12) hx hb dX9_night_6 (by decide) (fun _ => ?_) (fun c_7 => absurd c_7 (by decide))
    refine lv_aload_n hx hb dX9_night_12 rfl (lv_at hl 0 rfl) ?_
    refine va_get (ci := 9) (v := .ref (y 26)) (C := RX9) (T := TX9) (N := 15) hx hb hg inX9 hown hK hP 5 rfl rfl 6 (by decide) (hg _ q_2_42) (fun _ h9 => h9) rfl dX9_night_13 ?_
    refine lv_aload_n hx hb dX9_night_16 rfl (lv_at hl 0 rfl) ?_
    refine va_get (ci := 9) (v := .int 0) (C := RX9) (T := TX9) (N := 15) hx hb hg inX9 hown hK hP 5 rfl rfl 12 (by decide) (hg _ q_2_48) (fun _ h9 => h9) rfl dX9_night_17 ?_
    refine lv_aload_n hx hb dX9_night_20 rfl (lv_at hl 0 rfl) ?_
    refine va_get (ci := 9) (v := .int 0) (C := RX9) (T := TX9) (N := 15) hx hb hg inX9 hown hK hP 5 rfl rfl 13 (by decide) (hg _ q_2_49) (fun _ h9 => h9) rfl dX9_night_21 ?_
    refine lv_aload_n hx hb dX9_night_24 rfl (lv_at hl 0 rfl) ?_
    refine va_get (ci := 9) (v := .int 0) (C := RX9) (T := TX9) (N := 15) hx hb hg inX9 hown hK hP 5 rfl rfl 14 (by decide) (hg _ q_2_50) (fun _ h9 => h9) rfl dX9_night_25 ?_
    refine jnV (wr := [(y 19, .inr (4, [.ref (y 2), .ref (y 20), .ref (y 21), .ref (y 22), .ref (y 23), .ref (y 24)])), (y 0, .inr (9, [.ref (y 1), .int 0, .ref (y 2), .ref (y 10), .ref (y 19), .ref (y 25), .ref (y 26), .ref (y 30), .ref (y 31), .ref (y 32), .null, .null, .int 0, .int 0, .int 0])), (y 2, .inr (1, [.int 0, .int 0, .int 0, .int 0, .int 0, .int 0, .ref (y 3), .ref (y 4), .ref (y 5), .ref (y 6), .ref (y 7), .ref (y 8), .ref (y 9), .int 0, .int 0, .int 0, .int 0, .int 0]))]) (rnV (rest := []) ⟨hx, hb, hml, hown, hg⟩ (c_X5_keep_0 l V y) mt_X5_keep q_3_177 ⟨Nat.le_of_ble_eq_true rfl, Nat.le_of_ble_eq_true rfl⟩ hK hP hD hS hA hE [1, 2, 3, 4] rfl rfl 1 rfl rfl rfl rfl hl.1 rfl (Nat.le_of_ble_eq_true rfl) dX9_night_28 ⟨Nat.le_of_ble_eq_true rfl, Nat.le_of_ble_eq_true rfl⟩) hP hD hS hA [1, 2, 3, 4] [0, 5, 6] rfl rfl rfl (by decide) (fun  w H locs hw hP hD hS => ?_)
    subst hw
    have hP : va_P V.1 vwCl [(y 19, .inr (4, [.ref (y 2), .ref (y 20), .ref (y 21), .ref (y 22), .ref (y 23), .ref (y 24)])), (y 0, .inr (9, [.ref (y 1), .int 0, .ref (y 2), .ref (y 10), .ref (y 19), .ref (y 25), .ref (y 26), .ref (y 30), .ref (y 31), .ref (y 32), .null, .null, .int 0, .int 0, .int 0])), (y 2, .inr (1, [.int 0, .int 0, .int 0, .int 0, .int 0, .int 0, .ref (y 3), .ref (y 4), .ref (y 5), .ref (y 6), .ref (y 7), .ref (y 8), .ref (y 9), .int 0, .int 0, .int 0, .int 0, .int 0])), (y 26, .inr (5, [.ref (y 27), .ref (y 28), .ref (y 29), .int 1])), (y 27, aI V 10 (fun _ => 0)), (y 28, aI V 10 (fun _ => 0)), (y 29, aI V 10 (fun _ => 0))] H := hP
    have hD : va_D A [(y 19, .inr (4, [.ref (y 2), .ref (y 20), .ref (y 21), .ref (y 22), .ref (y 23), .ref (y 24)])), (y 0, .inr (9, [.ref (y 1), .int 0, .ref (y 2), .ref (y 10), .ref (y 19), .ref (y 25), .ref (y 26), .ref (y 30), .ref (y 31), .ref (y 32), .null, .null, .int 0, .int 0, .int 0])), (y 2, .inr (1, [.int 0, .int 0, .int 0, .int 0, .int 0, .int 0, .ref (y 3), .ref (y 4), .ref (y 5), .ref (y 6), .ref (y 7), .ref (y 8), .ref (y 9), .int 0, .int 0, .int 0, .int 0, .int 0])), (y 26, .inr (5, [.ref (y 27), .ref (y 28), .ref (y 29), .int 1])), (y 27, aI V 10 (fun _ => 0)), (y 28, aI V 10 (fun _ => 0)), (y 29, aI V 10 (fun _ => 0))] := hD
    refine lv_aload_n hx hb dX9_night_31 rfl (lv_at hl 0 rfl) ?_
    refine lv_iload_n hx hb dX9_night_32 rfl (lv_at hl 1 rfl) ?_
    refine lv_i2l (v := p0.toInt64) hx hb dX9_night_33 rfl ?_
    refine jnI (wr := [(y 26, .inr (5, [.ref (y 27), .ref (y 28), .ref (y 29), .int 1])), (y 27, aI V 10 (fun _ => 0)), (y 28, aI V 10 (fun _ => 0)), (y 29, aI V 10 (fun _ => 0))]) (rnV (rest := []) ⟨hx, hb, hml, hown, hg⟩ (c_X9_tryDeed_0 l V y p0.toInt64) mt_X9_tryDeed q_3_185 ⟨Nat.le_of_ble_eq_true rfl, Nat.le_of_ble_eq_true rfl⟩ hK hP hD hS hA hE [0, 1, 2] rfl rfl 1 rfl rfl rfl rfl hl.1 rfl (Nat.le_of_ble_eq_true rfl) dX9_night_34 ⟨Nat.le_of_ble_eq_true rfl, Nat.le_of_ble_eq_true rfl⟩) hP hD hS hA [0, 1, 2] [3, 4, 5, 6] rfl rfl rfl (by decide) (fun r_8 w H locs hw hP hD hS => ?_)
    rcases hw with ⟨c_9, c_10, rfl, rfl⟩ | ⟨c_11, c_12, c_13, rfl, rfl⟩ | ⟨c_14, c_15, c_16, rfl, rfl⟩ | ⟨c_17, c_18, c_19, c_20, c_21, rfl, rfl⟩ | ⟨c_22, c_23, rfl, rfl⟩ | ⟨c_24, c_25, c_26, rfl, rfl⟩
    · have hP : va_P V.1 vwCl [(y 26, .inr (5, [.ref (y 27), .ref (y 28), .ref (y 29), .int 1])), (y 27, aI V 10 (fun _ => 0)), (y 28, aI V 10 (fun _ => 0)), (y 29, aI V 10 (fun _ => 0)), (y 19, .inr (4, [.ref (y 2), .ref (y 20), .ref (y 21), .ref (y 22), .ref (y 23), .ref (y 24)])), (y 0, .inr (9, [.ref (y 1), .int 0, .ref (y 2), .ref (y 10), .ref (y 19), .ref (y 25), .ref (y 26), .ref (y 30), .ref (y 31), .ref (y 32), .null, .null, .int 0, .int 0, .int 1])), (y 2, .inr (1, [.int 0, .int 0, .int 0, .int 0, .int 0, .int 0, .ref (y 3), .ref (y 4), .ref (y 5), .ref (y 6), .ref (y 7), .ref (y 8), .ref (y 9), .int 0, .int 0, .int 0, .int 0, .int 0]))] H := hP
      have hD : va_D A [(y 26, .inr (5, [.ref (y 27), .ref (y 28), .ref (y 29), .int 1])), (y 27, aI V 10 (fun _ => 0)), (y 28, aI V 10 (fun _ => 0)), (y 29, aI V 10 (fun _ => 0)), (y 19, .inr (4, [.ref (y 2), .ref (y 20), .ref (y 21), .ref (y 22), .ref (y 23), .ref (y 24)])), (y 0, .inr (9, [.ref (y 1), .int 0, .ref (y 2), .ref (y 10), .ref (y 19), .ref (y 25), .ref (y 26), .ref (y 30), .ref (y 31), .ref (y 32), .null, .null, .int 0, .int 0, .int 1])), (y 2, .inr (1, [.int 0, .int 0, .int 0, .int 0, .int 0, .int 0, .ref (y 3), .ref (y 4), .ref (y 5), .ref (y 6), .ref (y 7), .ref (y 8), .ref (y 9), .int 0, .int 0, .int 0, .int 0, .int 0]))] := hD
      refine lv_pop hx hb dX9_night_37 rfl ?_
      refine lv_aload_n hx hb dX9_night_38 rfl (lv_at hl 0 rfl) ?_
      refine va_get (ci := 9) (v := .int 0) (C := RX9) (T := TX9) (N := 15) hx hb hg inX9 hown hK hP 5 rfl rfl 12 (by decide) (hg _ q_2_48) (fun _ h9 => h9) rfl dX9_night_39 ?_
      refine jnI (wr := [(y 26, .inr (5, [.ref (y 27), .ref (y 28), .ref (y 29), .int 1])), (y 27, aI V 10 (fun _ => 0)), (y 28, aI V 10 (fun _ => 0)), (y 29, aI V 10 (fun _ => 0)), (y 19, .inr (4, [.ref (y 2), .ref (y 20), .ref (y 21), .ref (y 22), .ref (y 23), .ref (y 24)])), (y 0, .inr (9, [.ref (y 1), .int 0, .ref (y 2), .ref (y 10), .ref (y 19), .ref (y 25), .ref (y 26), .ref (y 30), .ref (y 31), .ref (y 32), .null, .null, .int 0, .int 0, .int 1])), (y 2, .inr (1, [.int 0, .int 0, .int 0, .int 0, .int 0, .int 0, .ref (y 3), .ref (y 4), .ref (y 5), .ref (y 6), .ref (y 7), .ref (y 8), .ref (y 9), .int 0, .int 0, .int 0, .int 0, .int 0]))]) (rnS (rest := []) ⟨hx, hb, hml, hown, hg⟩ (c_X9_tookBits_0 l V) mt_X9_tookBits q_3_201 ⟨Nat.le_of_ble_eq_true rfl, Nat.le_of_ble_eq_true rfl⟩ hK hP hD hS hA hE [] rfl rfl rfl hl.1 rfl (Nat.le_of_ble_eq_true rfl) dX9_night_42 ⟨Nat.le_of_ble_eq_true rfl, Nat.le_of_ble_eq_true rfl⟩) hP hD hS hA [] [0, 1, 2, 3, 4, 5, 6] rfl rfl rfl (by decide) (fun r_27 w H locs hw hP hD hS => ?_)
      obtain ⟨rfl, rfl⟩ := hw
      have hP : va_P V.1 vwCl [(y 26, .inr (5, [.ref (y 27), .ref (y 28), .ref (y 29), .int 1])), (y 27, aI V 10 (fun _ => 0)), (y 28, aI V 10 (fun _ => 0)), (y 29, aI V 10 (fun _ => 0)), (y 19, .inr (4, [.ref (y 2), .ref (y 20), .ref (y 21), .ref (y 22), .ref (y 23), .ref (y 24)])), (y 0, .inr (9, [.ref (y 1), .int 0, .ref (y 2), .ref (y 10), .ref (y 19), .ref (y 25), .ref (y 26), .ref (y 30), .ref (y 31), .ref (y 32), .null, .null, .int 0, .int 0, .int 1])), (y 2, .inr (1, [.int 0, .int 0, .int 0, .int 0, .int 0, .int 0, .ref (y 3), .ref (y 4), .ref (y 5), .ref (y 6), .ref (y 7), .ref (y 8), .ref (y 9), .int 0, .int 0, .int 0, .int 0, .int 0]))] H := hP
      have hD : va_D A [(y 26, .inr (5, [.ref (y 27), .ref (y 28), .ref (y 29), .int 1])), (y 27, aI V 10 (fun _ => 0)), (y 28, aI V 10 (fun _ => 0)), (y 29, aI V 10 (fun _ => 0)), (y 19, .inr (4, [.ref (y 2), .ref (y 20), .ref (y 21), .ref (y 22), .ref (y 23), .ref (y 24)])), (y 0, .inr (9, [.ref (y 1), .int 0, .ref (y 2), .ref (y 10), .ref (y 19), .ref (y 25), .ref (y 26), .ref (y 30), .ref (y 31), .ref (y 32), .null, .null, .int 0, .int 0, .int 1])), (y 2, .inr (1, [.int 0, .int 0, .int 0, .int 0, .int 0, .int 0, .ref (y 3), .ref (y 4), .ref (y 5), .ref (y 6), .ref (y 7), .ref (y 8), .ref (y 9), .int 0, .int 0, .int 0, .int 0, .int 0]))] := hD
      have hP := subP (ws' := [(y 0, .inr (9, [.ref (y 1), .int 0, .ref (y 2), .ref (y 10), .ref (y 19), .ref (y 25), .ref (y 26), .ref (y 30), .ref (y 31), .ref (y 32), .null, .null, .int 0, .int 0, .int 1])), (y 2, .inr (1, [.int 0, .int 0, .int 0, .int 0, .int 0, .int 0, .ref (y 3), .ref (y 4), .ref (y 5), .ref (y 6), .ref (y 7), .ref (y 8), .ref (y 9), .int 0, .int 0, .int 0, .int 0, .int 0])), (y 19, .inr (4, [.ref (y 2), .ref (y 20), .ref (y 21), .ref (y 22), .ref (y 23), .ref (y 24)])), (y 26, .inr (5, [.ref (y 27), .ref (y 28), .ref (y 29), .int 1])), (y 27, aI V 10 (fun _ => 0)), (y 28, aI V 10 (fun _ => 0)), (y 29, aI V 10 (fun _ => 0))]) hP [5, 6, 4, 0, 1, 2, 3] rfl
      have hD := hD.sub (ws' := [(y 0, .inr (9, [.ref (y 1), .int 0, .ref (y 2), .ref (y 10), .ref (y 19), .ref (y 25), .ref (y 26), .ref (y 30), .ref (y 31), .ref (y 32), .null, .null, .int 0, .int 0, .int 1])), (y 2, .inr (1, [.int 0, .int 0, .int 0, .int 0, .int 0, .int 0, .ref (y 3), .ref (y 4), .ref (y 5), .ref (y 6), .ref (y 7), .ref (y 8), .ref (y 9), .int 0, .int 0, .int 0, .int 0, .int 0])), (y 19, .inr (4, [.ref (y 2), .ref (y 20), .ref (y 21), .ref (y 22), .ref (y 23), .ref (y 24)])), (y 26, .inr (5, [.ref (y 27), .ref (y 28), .ref (y 29), .int 1])), (y 27, aI V 10 (fun _ => 0)), (y 28, aI V 10 (fun _ => 0)), (y 29, aI V 10 (fun _ => 0))]) [5, 6, 4, 0, 1, 2, 3] rfl rfl
      exact fiI hx hb hr hlk hK hP hD hS dX9_night_45 (Nat.le_of_ble_eq_true rfl) (Nat.le_of_ble_eq_true rfl) (Or.inl ⟨c_2, c_9, c_10, rfl, rfl⟩)
    · exact False.elim (by simp only [tI_lt, tI_le, tI_eq, tL_lt, tL_le, tL_eq, tWx, (by decide : (0 : Int64).toInt = 0), (by decide : (10 : Int64).toInt = 10)] at c_2 c_11 c_12 c_13; omega)
    · exact False.elim (by simp only [tI_lt, tI_le, tI_eq, tL_lt, tL_le, tL_eq, tWx, (by decide : (0 : Int64).toInt = 0), (by decide : (10 : Int64).toInt = 10)] at c_2 c_14 c_15 c_16; omega)
    · exact False.elim (by simp only [tI_lt, tI_le, tI_eq, tL_lt, tL_le, tL_eq, tWx, (by decide : (0 : Int64).toInt = 0), (by decide : (10 : Int64).toInt = 10), (by decide : (19 : Int64).toInt = 19), (by decide : (29 : Int64).toInt = 29)] at c_2 c_17 c_18 c_19 c_20 c_21; omega)
    · exact False.elim (by simp only [tI_lt, tI_le, tI_eq, tL_lt, tL_le, tL_eq, tWx, (by decide : (0 : Int64).toInt = 0), (by decide : (10 : Int64).toInt = 10), (by decide : (19 : Int64).toInt = 19)] at c_2 c_22 c_23; omega)
    · exact False.elim (by simp only [tI_lt, tI_le, tI_eq, tL_lt, tL_le, tL_eq, tWx, (by decide : (0 : Int64).toInt = 0), (by decide : (10 : Int64).toInt = 10), (by decide : (19 : Int64).toInt = 19), (by decide : (29 : Int64).toInt = 29)] at c_2 c_24 c_25 c_26; omega)
  · have hP : va_P V.1 vwCl [(y 19, .inr (4, [.ref (y 2), .ref (y 20), .ref (y 21), .ref (y 22), .ref (y 23), .ref (y 24)])), (y 26, .inr (5, [.ref (y 27), .ref (y 28), .ref (y 29), .int 0])), (y 27, aI V 10 (fun _ => 0)), (y 28, aI V 10 (fun _ => 0)), (y 29, aI V 10 (fun _ => 0)), (y 0, .inr (9, [.ref (y 1), .int 0, .ref (y 2), .ref (y 10), .ref (y 19), .ref (y 25), .ref (y 26), .ref (y 30), .ref (y 31), .ref (y 32), .null, .null, .int 0, .int 0, .int 0])), (y 2, .inr (1, [.int 0, .int 0, .int 0, .int 0, .int 0, .int 0, .ref (y 3), .ref (y 4), .ref (y 5), .ref (y 6), .ref (y 7), .ref (y 8), .ref (y 9), .int 0, .int 0, .int 0, .int 0, .int 0]))] H := hP
    have hD : va_D A [(y 19, .inr (4, [.ref (y 2), .ref (y 20), .ref (y 21), .ref (y 22), .ref (y 23), .ref (y 24)])), (y 26, .inr (5, [.ref (y 27), .ref (y 28), .ref (y 29), .int 0])), (y 27, aI V 10 (fun _ => 0)), (y 28, aI V 10 (fun _ => 0)), (y 29, aI V 10 (fun _ => 0)), (y 0, .inr (9, [.ref (y 1), .int 0, .ref (y 2), .ref (y 10), .ref (y 19), .ref (y 25), .ref (y 26), .ref (y 30), .ref (y 31), .ref (y 32), .null, .null, .int 0, .int 0, .int 0])), (y 2, .inr (1, [.int 0, .int 0, .int 0, .int 0, .int 0, .int 0, .ref (y 3), .ref (y 4), .ref (y 5), .ref (y 6), .ref (y 7), .ref (y 8), .ref (y 9), .int 0, .int 0, .int 0, .int 0, .int 0]))] := hD
    refine lv_if_ne (tgt := 12) hx hb dX9_night_6 (by decide) (fun c_28 => absurd c_28 (by decide)) (fun _ => ?_)
    refine lv_bipush (v := (-11)) hx hb dX9_night_9 (by decide) ?_
    have hP := subP (ws' := [(y 0, .inr (9, [.ref (y 1), .int 0, .ref (y 2), .ref (y 10), .ref (y 19), .ref (y 25), .ref (y 26), .ref (y 30), .ref (y 31), .ref (y 32), .null, .null, .int 0, .int 0, .int 0])), (y 2, .inr (1, [.int 0, .int 0, .int 0, .int 0, .int 0, .int 0, .ref (y 3), .ref (y 4), .ref (y 5), .ref (y 6), .ref (y 7), .ref (y 8), .ref (y 9), .int 0, .int 0, .int 0, .int 0, .int 0])), (y 19, .inr (4, [.ref (y 2), .ref (y 20), .ref (y 21), .ref (y 22), .ref (y 23), .ref (y 24)])), (y 26, .inr (5, [.ref (y 27), .ref (y 28), .ref (y 29), .int 0])), (y 27, aI V 10 (fun _ => 0)), (y 28, aI V 10 (fun _ => 0)), (y 29, aI V 10 (fun _ => 0))]) hP [5, 6, 0, 1, 2, 3, 4] rfl
    have hD := hD.sub (ws' := [(y 0, .inr (9, [.ref (y 1), .int 0, .ref (y 2), .ref (y 10), .ref (y 19), .ref (y 25), .ref (y 26), .ref (y 30), .ref (y 31), .ref (y 32), .null, .null, .int 0, .int 0, .int 0])), (y 2, .inr (1, [.int 0, .int 0, .int 0, .int 0, .int 0, .int 0, .ref (y 3), .ref (y 4), .ref (y 5), .ref (y 6), .ref (y 7), .ref (y 8), .ref (y 9), .int 0, .int 0, .int 0, .int 0, .int 0])), (y 19, .inr (4, [.ref (y 2), .ref (y 20), .ref (y 21), .ref (y 22), .ref (y 23), .ref (y 24)])), (y 26, .inr (5, [.ref (y 27), .ref (y 28), .ref (y 29), .int 0])), (y 27, aI V 10 (fun _ => 0)), (y 28, aI V 10 (fun _ => 0)), (y 29, aI V 10 (fun _ => 0))]) [5, 6, 0, 1, 2, 3, 4] rfl rfl
    exact fiI hx hb hr hlk hK hP hD hS dX9_night_11 (Nat.le_of_ble_eq_true rfl) (Nat.le_of_ble_eq_true rfl) (Or.inr (Or.inl ⟨c_3, c_4, rfl, rfl⟩))
  · have hP : va_P V.1 vwCl [(y 19, .inr (4, [.ref (y 2), .ref (y 20), .ref (y 21), .ref (y 22), .ref (y 23), .ref (y 24)])), (y 26, .inr (5, [.ref (y 27), .ref (y 28), .ref (y 29), .int 0])), (y 27, aI V 10 (fun _ => 0)), (y 28, aI V 10 (fun _ => 0)), (y 29, aI V 10 (fun _ => 0)), (y 0, .inr (9, [.ref (y 1), .int 0, .ref (y 2), .ref (y 10), .ref (y 19), .ref (y 25), .ref (y 26), .ref (y 30), .ref (y 31), .ref (y 32), .null, .null, .int 0, .int 0, .int 0])), (y 2, .inr (1, [.int 0, .int 0, .int 0, .int 0, .int 0, .int 0, .ref (y 3), .ref (y 4), .ref (y 5), .ref (y 6), .ref (y 7), .ref (y 8), .ref (y 9), .int 0, .int 0, .int 0, .int 0, .int 0]))] H := hP
    have hD : va_D A [(y 19, .inr (4, [.ref (y 2), .ref (y 20), .ref (y 21), .ref (y 22), .ref (y 23), .ref (y 24)])), (y 26, .inr (5, [.ref (y 27), .ref (y 28), .ref (y 29), .int 0])), (y 27, aI V 10 (fun _ => 0)), (y 28, aI V 10 (fun _ => 0)), (y 29, aI V 10 (fun _ => 0)), (y 0, .inr (9, [.ref (y 1), .int 0, .ref (y 2), .ref (y 10), .ref (y 19), .ref (y 25), .ref (y 26), .ref (y 30), .ref (y 31), .ref (y 32), .null, .null, .int 0, .int 0, .int 0])), (y 2, .inr (1, [.int 0, .int 0, .int 0, .int 0, .int 0, .int 0, .ref (y 3), .ref (y 4), .ref (y 5), .ref (y 6), .ref (y 7), .ref (y 8), .ref (y 9), .int 0, .int 0, .int 0, .int 0, .int 0]))] := hD
    refine lv_if_ne (tgt := 12) hx hb dX9_night_6 (by decide) (fun c_29 => absurd c_29 (by decide)) (fun _ => ?_)
    refine lv_bipush (v := (-11)) hx hb dX9_night_9 (by decide) ?_
    have hP := subP (ws' := [(y 0, .inr (9, [.ref (y 1), .int 0, .ref (y 2), .ref (y 10), .ref (y 19), .ref (y 25), .ref (y 26), .ref (y 30), .ref (y 31), .ref (y 32), .null, .null, .int 0, .int 0, .int 0])), (y 2, .inr (1, [.int 0, .int 0, .int 0, .int 0, .int 0, .int 0, .ref (y 3), .ref (y 4), .ref (y 5), .ref (y 6), .ref (y 7), .ref (y 8), .ref (y 9), .int 0, .int 0, .int 0, .int 0, .int 0])), (y 19, .inr (4, [.ref (y 2), .ref (y 20), .ref (y 21), .ref (y 22), .ref (y 23), .ref (y 24)])), (y 26, .inr (5, [.ref (y 27), .ref (y 28), .ref (y 29), .int 0])), (y 27, aI V 10 (fun _ => 0)), (y 28, aI V 10 (fun _ => 0)), (y 29, aI V 10 (fun _ => 0))]) hP [5, 6, 0, 1, 2, 3, 4] rfl
    have hD := hD.sub (ws' := [(y 0, .inr (9, [.ref (y 1), .int 0, .ref (y 2), .ref (y 10), .ref (y 19), .ref (y 25), .ref (y 26), .ref (y 30), .ref (y 31), .ref (y 32), .null, .null, .int 0, .int 0, .int 0])), (y 2, .inr (1, [.int 0, .int 0, .int 0, .int 0, .int 0, .int 0, .ref (y 3), .ref (y 4), .ref (y 5), .ref (y 6), .ref (y 7), .ref (y 8), .ref (y 9), .int 0, .int 0, .int 0, .int 0, .int 0])), (y 19, .inr (4, [.ref (y 2), .ref (y 20), .ref (y 21), .ref (y 22), .ref (y 23), .ref (y 24)])), (y 26, .inr (5, [.ref (y 27), .ref (y 28), .ref (y 29), .int 0])), (y 27, aI V 10 (fun _ => 0)), (y 28, aI V 10 (fun _ => 0)), (y 29, aI V 10 (fun _ => 0))]) [5, 6, 0, 1, 2, 3, 4] rfl rfl
    exact fiI hx hb hr hlk hK hP hD hS dX9_night_11 (Nat.le_of_ble_eq_true rfl) (Nat.le_of_ble_eq_true rfl) (Or.inr (Or.inr (⟨c_5, c_6, rfl, rfl⟩)))
set_option maxHeartbeats 4000000 in
set_option maxRecDepth 100000 in
theorem c_X10_nightTo_1 (l : Launch) (V : GV) (z : Nat → Nat) : Ct l V yX10_nightTo (.code yX10_nightTo cX10_nightTo 6 (some .int)) 1 [.ref (z 0), .int 0, .int 0, .int 0] [(z 0, .inr (10, mo z 0 0 0 0 0 0 0 0 0 0 (-1) 0 0 0 0 0)), (z 1, aI V 3075 (fun _ => 0))] 0 0 (QI V (fun (r : Int32) (w : va_W) => (r = 0 ∧ w = [(z 0, .inr (10, mo z 0 0 0 0 0 0 0 0 0 0 (-1) 0 0 0 0 0)), (z 1, aI V 3075 (fun _ => 0))]))) := by
  refine Ct.of (by decide) (Nat.le_of_ble_eq_true rfl) (fun p e s m below meth c A ls hx hb hr hml hown hlk hnm hg hP hK hD hE hA hS hl => ?_)
  have hl : lv_has ls 6 [(0, .ref (z 0)), (1, .int 0), (2, .int 0), (3, .int 0)] := hl
  refine lv_iconst (v := 0) hx hb dX10_nightTo_0 (by decide) ?_
  refine lv_istore (lv' := [(4, .int 0), (0, .ref (z 0)), (1, .int 0), (2, .int 0), (3, .int 0)]) hx hb dX10_nightTo_1 hl (by decide) rfl (fun ls hl => ?_)
  refine lv_iconst (v := 0) hx hb dX10_nightTo_3 (by decide) ?_
  refine lv_istore (lv' := [(5, .int 0), (4, .int 0), (0, .ref (z 0)), (1, .int 0), (2, .int 0), (3, .int 0)]) hx hb dX10_nightTo_4 hl (by decide) rfl (fun ls hl => ?_)
  refine lv_iload hx hb dX10_nightTo_6 (lv_at hl 0 rfl) ?_
  refine lv_aload_n hx hb dX10_nightTo_8 rfl (lv_at hl 2 rfl) ?_
  refine va_get (ci := 10) (v := .ref (z 1)) (C := RX10) (T := TX10) (N := 40) hx hb hg inX10 hown hK hP 0 rfl rfl 1 (by decide) (hg _ q_5_225) (fun _ h9 => h9) rfl dX10_nightTo_9 ?_
  refine lv_iconst (v := 1) hx hb dX10_nightTo_12 (by decide) ?_
  refine va_iald hx hb hK hP 1 0 rfl rfl (vin (by decide +kernel)) dX10_nightTo_13 ?_
  refine tpi (y := 0) (rfl) ?_
  refine lv_icmp_ge (tgt := 98) hx hb dX10_nightTo_14 (by decide) (fun _ => ?_) (fun c_1 => absurd c_1 (by decide))
  refine lv_iload hx hb dX10_nightTo_98 (lv_at hl 1 rfl) ?_
  exact fiI hx hb hr hlk hK hP hD hS dX10_nightTo_100 (Nat.le_of_ble_eq_true rfl) (Nat.le_of_ble_eq_true rfl) (⟨rfl, rfl⟩)
set_option maxHeartbeats 4000000 in
set_option maxRecDepth 100000 in
theorem c_X10_goesNight_1 (l : Launch) (V : GV) (z : Nat → Nat) : Ct l V yX10_goesNight (.code yX10_goesNight cX10_goesNight 2 none) 3 [.ref (z 0), .int 0] [(z 0, .inr (10, mo z 0 0 0 0 0 0 0 0 0 0 (-1) 0 0 0 0 0)), (z 1, aI V 3075 (fun _ => 0))] 0 0 (QV V (fun (w : va_W) => (w = [(z 0, .inr (10, mo z 0 0 0 0 0 0 0 0 0 0 (-1) 0 0 0 0 0)), (z 1, aI V 3075 (upd (fun _ => 0) 52 1))]))) := by
  refine Ct.of (by decide) (Nat.le_of_ble_eq_true rfl) (fun p e s m below meth c A ls hx hb hr hml hown hlk hnm hg hP hK hD hE hA hS hl => ?_)
  have hl : lv_has ls 2 [(0, .ref (z 0)), (1, .int 0)] := hl
  refine lv_aload_n hx hb dX10_goesNight_0 rfl (lv_at hl 0 rfl) ?_
  refine lv_aload_n hx hb dX10_goesNight_1 rfl (lv_at hl 0 rfl) ?_
  refine lv_aload_n hx hb dX10_goesNight_2 rfl (lv_at hl 0 rfl) ?_
  refine jnI (wr := []) (rnV (rest := [.ref (z 0), .ref (z 0)]) ⟨hx, hb, hml, hown, hg⟩ (c_X10_standNow_0 l V z) mt_X10_standNow q_7_11 ⟨Nat.le_of_ble_eq_true rfl, Nat.le_of_ble_eq_true rfl⟩ hK hP hD hS hA hE [0, 1] rfl rfl 0 rfl rfl rfl rfl hl.1 rfl (Nat.le_of_ble_eq_true rfl) dX10_goesNight_3 ⟨Nat.le_of_ble_eq_true rfl, Nat.le_of_ble_eq_true rfl⟩) hP hD hS hA [0, 1] [] rfl rfl rfl (by decide) (fun r_1 w H locs hw hP hD hS => ?_)
  obtain ⟨rfl, rfl⟩ := hw
  have hP : va_P V.1 vwCl [(z 0, .inr (10, mo z 0 0 0 0 0 0 0 0 0 0 (-1) 0 0 0 0 0)), (z 1, aI V 3075 (fun _ => 0))] H := hP
  have hD : va_D A [(z 0, .inr (10, mo z 0 0 0 0 0 0 0 0 0 0 (-1) 0 0 0 0 0)), (z 1, aI V 3075 (fun _ => 0))] := hD
  refine lv_iload_n hx hb dX10_goesNight_6 rfl (lv_at hl 1 rfl) ?_
  refine lv_aload_n hx hb dX10_goesNight_7 rfl (lv_at hl 0 rfl) ?_
  refine va_get (ci := 10) (v := .ref (z 1)) (C := RX10) (T := TX10) (N := 40) hx hb hg inX10 hown hK hP 0 rfl rfl 1 (by decide) (hg _ q_5_225) (fun _ h9 => h9) rfl dX10_goesNight_8 ?_
  refine lv_bipush (v := 51) hx hb dX10_goesNight_11 (by decide) ?_
  refine va_iald hx hb hK hP 1 0 rfl rfl (vin (by decide +kernel)) dX10_goesNight_13 ?_
  refine tpi (y := 0) (rfl) ?_
  refine jnI (wr := []) (rnV (rest := [.ref (z 0)]) ⟨hx, hb, hml, hown, hg⟩ (c_X10_nightTo_1 l V z) mt_X10_nightTo q_7_18 ⟨Nat.le_of_ble_eq_true rfl, Nat.le_of_ble_eq_true rfl⟩ hK hP hD hS hA hE [0, 1] rfl rfl 0 rfl rfl rfl rfl hl.1 rfl (Nat.le_of_ble_eq_true rfl) dX10_goesNight_14 ⟨Nat.le_of_ble_eq_true rfl, Nat.le_of_ble_eq_true rfl⟩) hP hD hS hA [0, 1] [] rfl rfl rfl (by decide) (fun r_2 w H locs hw hP hD hS => ?_)
  obtain ⟨rfl, rfl⟩ := hw
  have hP : va_P V.1 vwCl [(z 0, .inr (10, mo z 0 0 0 0 0 0 0 0 0 0 (-1) 0 0 0 0 0)), (z 1, aI V 3075 (fun _ => 0))] H := hP
  have hD : va_D A [(z 0, .inr (10, mo z 0 0 0 0 0 0 0 0 0 0 (-1) 0 0 0 0 0)), (z 1, aI V 3075 (fun _ => 0))] := hD
  refine jnV (wr := []) (rnV (rest := []) ⟨hx, hb, hml, hown, hg⟩ (c_X10_isStand_0 l V z) mt_X10_isStand q_7_68 ⟨Nat.le_of_ble_eq_true rfl, Nat.le_of_ble_eq_true rfl⟩ hK hP hD hS hA hE [0, 1] rfl rfl 0 rfl rfl rfl rfl hl.1 rfl (Nat.le_of_ble_eq_true rfl) dX10_goesNight_17 ⟨Nat.le_of_ble_eq_true rfl, Nat.le_of_ble_eq_true rfl⟩) hP hD hS hA [0, 1] [] rfl rfl rfl (by decide) (fun  w H locs hw hP hD hS => ?_)
  subst hw
  have hP : va_P V.1 vwCl [(z 0, .inr (10, mo z 0 0 0 0 0 0 0 0 0 0 (-1) 0 0 0 0 0)), (z 1, aI V 3075 (fun _ => 0))] H := hP
  have hD : va_D A [(z 0, .inr (10, mo z 0 0 0 0 0 0 0 0 0 0 (-1) 0 0 0 0 0)), (z 1, aI V 3075 (fun _ => 0))] := hD
  refine lv_aload_n hx hb dX10_goesNight_20 rfl (lv_at hl 0 rfl) ?_
  refine va_get (ci := 10) (v := .ref (z 1)) (C := RX10) (T := TX10) (N := 40) hx hb hg inX10 hown hK hP 0 rfl rfl 1 (by decide) (hg _ q_5_225) (fun _ h9 => h9) rfl dX10_goesNight_21 ?_
  refine lv_bipush (v := 52) hx hb dX10_goesNight_24 (by decide) ?_
  refine lv_dup2_11 hx hb dX10_goesNight_26 rfl rfl ?_
  refine va_iald hx hb hK hP 1 0 rfl rfl (vin (by decide +kernel)) dX10_goesNight_27 ?_
  refine tpi (y := 0) (rfl) ?_
  refine lv_iconst (v := 1) hx hb dX10_goesNight_28 (by decide) ?_
  refine lv_iadd hx hb dX10_goesNight_29 ?_
  refine tpi (y := 1) (by decide +kernel) ?_
  refine va_iast hx hb hK hP hD hS 1 0 rfl rfl (vin (by decide +kernel)) dX10_goesNight_30 (fun H locs hP hD hS => ?_)
  have hP : va_P V.1 vwCl [(z 0, .inr (10, mo z 0 0 0 0 0 0 0 0 0 0 (-1) 0 0 0 0 0)), (z 1, aI V 3075 (upd (fun _ => 0) 52 1))] H := hP
  have hD : va_D A [(z 0, .inr (10, mo z 0 0 0 0 0 0 0 0 0 0 (-1) 0 0 0 0 0)), (z 1, aI V 3075 (upd (fun _ => 0) 52 1))] := hD
  exact fiV hx hb hr hlk hK hP hD hS dX10_goesNight_31 (Nat.le_of_ble_eq_true rfl) (Nat.le_of_ble_eq_true rfl) (rfl)
set_option maxHeartbeats 4000000 in
set_option maxRecDepth 100000 in
theorem c_X10_notes_1 (l : Launch) (V : GV) (z : Nat → Nat) (p0 : Int32) : Ct l V yX10_notes (.code yX10_notes cX10_notes 2 none) 1 [.ref (z 0)] [(z 17, aI V 7 (fun _ => 0)), (z 0, .inr (10, mo z 0 0 0 0 0 0 0 0 0 0 (-1) 0 0 0 0 0)), (z 1, aI V 3075 (upd (fun _ => 0) 52 p0))] 0 0 (QV V (fun (w : va_W) => (w = [(z 17, aI V 7 (fun _ => 0)), (z 0, .inr (10, mo z 0 0 0 0 0 0 0 0 0 0 (-1) 0 0 0 0 0)), (z 1, aI V 3075 (upd (upd (fun _ => 0) 52 p0) 53 1))]))) := by
  refine Ct.of (by decide) (Nat.le_of_ble_eq_true rfl) (fun p e s m below meth c A ls hx hb hr hml hown hlk hnm hg hP hK hD hE hA hS hl => ?_)
  have hl : lv_has ls 2 [(0, .ref (z 0))] := hl
  refine lv_aload_n hx hb dX10_notes_0 rfl (lv_at hl 0 rfl) ?_
  refine va_get (ci := 10) (v := .ref (z 1)) (C := RX10) (T := TX10) (N := 40) hx hb hg inX10 hown hK hP 1 rfl rfl 1 (by decide) (hg _ q_5_225) (fun _ h9 => h9) rfl dX10_notes_1 ?_
  refine lv_bipush (v := 53) hx hb dX10_notes_4 (by decide) ?_
  refine va_iald hx hb hK hP 2 0 rfl rfl (vin (by decide +kernel)) dX10_notes_6 ?_
  refine tpi (y := 0) (rfl) ?_
  refine lv_bipush (v := 10) hx hb dX10_notes_7 (by decide) ?_
  refine lv_icmp_ne (tgt := 55) hx hb dX10_notes_9 (by decide) (fun _ => ?_) (fun c_1 => absurd c_1 (by decide))
  refine lv_iconst (v := 0) hx hb dX10_notes_55 (by decide) ?_
  refine lv_istore_n (lv' := [(1, .int 0), (0, .ref (z 0))]) hx hb dX10_notes_56 rfl hl (by decide) rfl (fun ls hl => ?_)
  refine lv_iload_n hx hb dX10_notes_57 rfl (lv_at hl 0 rfl) ?_
  refine lv_bipush (v := 7) hx hb dX10_notes_58 (by decide) ?_
  refine lv_icmp_ge (tgt := 95) hx hb dX10_notes_60 (by decide) (fun c_2 => absurd c_2 (by decide)) (fun _ => ?_)
  refine lv_aload_n hx hb dX10_notes_63 rfl (lv_at hl 1 rfl) ?_
  refine va_get (ci := 10) (v := .ref (z 1)) (C := RX10) (T := TX10) (N := 40) hx hb hg inX10 hown hK hP 1 rfl rfl 1 (by decide) (hg _ q_5_225) (fun _ h9 => h9) rfl dX10_notes_64 ?_
  refine lv_bipush (v := 54) hx hb dX10_notes_67 (by decide) ?_
  refine lv_bipush (v := 7) hx hb dX10_notes_69 (by decide) ?_
  refine lv_aload_n hx hb dX10_notes_71 rfl (lv_at hl 1 rfl) ?_
  refine va_get (ci := 10) (v := .ref (z 1)) (C := RX10) (T := TX10) (N := 40) hx hb hg inX10 hown hK hP 1 rfl rfl 1 (by decide) (hg _ q_5_225) (fun _ h9 => h9) rfl dX10_notes_72 ?_
  refine lv_bipush (v := 53) hx hb dX10_notes_75 (by decide) ?_
  refine va_iald hx hb hK hP 2 0 rfl rfl (vin (by decide +kernel)) dX10_notes_77 ?_
  refine tpi (y := 0) (rfl) ?_
  refine lv_imul hx hb dX10_notes_78 ?_
  refine tpi (y := 0) (by decide +kernel) ?_
  refine lv_iadd hx hb dX10_notes_79 ?_
  refine tpi (y := 54) (by decide +kernel) ?_
  refine lv_iload_n hx hb dX10_notes_80 rfl (lv_at hl 0 rfl) ?_
  refine lv_iadd hx hb dX10_notes_81 ?_
  refine tpi (y := 54) (by decide +kernel) ?_
  refine lv_aload_n hx hb dX10_notes_82 rfl (lv_at hl 1 rfl) ?_
  refine va_get (ci := 10) (v := .ref (z 17)) (C := RX10) (T := TX10) (N := 40) hx hb hg inX10 hown hK hP 1 rfl rfl 17 (by decide) (hg _ q_6_1) (fun _ h9 => h9) rfl dX10_notes_83 ?_
  refine lv_iload_n hx hb dX10_notes_86 rfl (lv_at hl 0 rfl) ?_
  refine va_iald hx hb hK hP 0 0 rfl rfl (vin (by decide +kernel)) dX10_notes_87 ?_
  refine tpi (y := 0) (rfl) ?_
  refine va_iast hx hb hK hP hD hS 2 0 rfl rfl (vin (by decide +kernel)) dX10_notes_88 (fun H locs hP hD hS => ?_)
  have hP : va_P V.1 vwCl [(z 17, aI V 7 (fun _ => 0)), (z 0, .inr (10, mo z 0 0 0 0 0 0 0 0 0 0 (-1) 0 0 0 0 0)), (z 1, aI V 3075 (upd (upd (fun _ => 0) 52 p0) 54 0))] H := hP
  have hD : va_D A [(z 17, aI V 7 (fun _ => 0)), (z 0, .inr (10, mo z 0 0 0 0 0 0 0 0 0 0 (-1) 0 0 0 0 0)), (z 1, aI V 3075 (upd (upd (fun _ => 0) 52 p0) 54 0))] := hD
  have hP : va_P V.1 vwCl [(z 17, aI V 7 (fun _ => 0)), (z 0, .inr (10, mo z 0 0 0 0 0 0 0 0 0 0 (-1) 0 0 0 0 0)), (z 1, aI V 3075 (upd (fun _ => 0) 52 p0))] H := by rw [updid (k := 54) (v := 0) rfl] at hP; exact hP
  have hD : va_D A [(z 17, aI V 7 (fun _ => 0)), (z 0, .inr (10, mo z 0 0 0 0 0 0 0 0 0 0 (-1) 0 0 0 0 0)), (z 1, aI V 3075 (upd (fun _ => 0) 52 p0))] := by rw [updid (k := 54) (v := 0) rfl] at hD; exact hD
  refine lv_iinc (v := 1) (lv' := [(1, .int 1), (0, .ref (z 0))]) hx hb dX10_notes_89 hl (k := 0) rfl (by decide +kernel) (by decide) rfl (fun ls hl => ?_)
  refine lv_goto (tgt := 57) hx hb dX10_notes_92 (by decide) ?_
  refine lv_iload_n hx hb dX10_notes_57 rfl (lv_at hl 0 rfl) ?_
  refine lv_bipush (v := 7) hx hb dX10_notes_58 (by decide) ?_
  refine lv_icmp_ge (tgt := 95) hx hb dX10_notes_60 (by decide) (fun c_3 => absurd c_3 (by decide)) (fun _ => ?_)
  refine lv_aload_n hx hb dX10_notes_63 rfl (lv_at hl 1 rfl) ?_
  refine va_get (ci := 10) (v := .ref (z 1)) (C := RX10) (T := TX10) (N := 40) hx hb hg inX10 hown hK hP 1 rfl rfl 1 (by decide) (hg _ q_5_225) (fun _ h9 => h9) rfl dX10_notes_64 ?_
  refine lv_bipush (v := 54) hx hb dX10_notes_67 (by decide) ?_
  refine lv_bipush (v := 7) hx hb dX10_notes_69 (by decide) ?_
  refine lv_aload_n hx hb dX10_notes_71 rfl (lv_at hl 1 rfl) ?_
  refine va_get (ci := 10) (v := .ref (z 1)) (C := RX10) (T := TX10) (N := 40) hx hb hg inX10 hown hK hP 1 rfl rfl 1 (by decide) (hg _ q_5_225) (fun _ h9 => h9) rfl dX10_notes_72 ?_
  refine lv_bipush (v := 53) hx hb dX10_notes_75 (by decide) ?_
  refine va_iald hx hb hK hP 2 0 rfl rfl (vin (by decide +kernel)) dX10_notes_77 ?_
  refine tpi (y := 0) (rfl) ?_
  refine lv_imul hx hb dX10_notes_78 ?_
  refine tpi (y := 0) (by decide +kernel) ?_
  refine lv_iadd hx hb dX10_notes_79 ?_
  refine tpi (y := 54) (by decide +kernel) ?_
  refine lv_iload_n hx hb dX10_notes_80 rfl (lv_at hl 0 rfl) ?_
  refine lv_iadd hx hb dX10_notes_81 ?_
  refine tpi (y := 55) (by decide +kernel) ?_
  refine lv_aload_n hx hb dX10_notes_82 rfl (lv_at hl 1 rfl) ?_
  refine va_get (ci := 10) (v := .ref (z 17)) (C := RX10) (T := TX10) (N := 40) hx hb hg inX10 hown hK hP 1 rfl rfl 17 (by decide) (hg _ q_6_1) (fun _ h9 => h9) rfl dX10_notes_83 ?_
  refine lv_iload_n hx hb dX10_notes_86 rfl (lv_at hl 0 rfl) ?_
  refine va_iald hx hb hK hP 0 0 rfl rfl (vin (by decide +kernel)) dX10_notes_87 ?_
  refine tpi (y := 0) (rfl) ?_
  refine va_iast hx hb hK hP hD hS 2 0 rfl rfl (vin (by decide +kernel)) dX10_notes_88 (fun H locs hP hD hS => ?_)
  have hP : va_P V.1 vwCl [(z 17, aI V 7 (fun _ => 0)), (z 0, .inr (10, mo z 0 0 0 0 0 0 0 0 0 0 (-1) 0 0 0 0 0)), (z 1, aI V 3075 (upd (upd (fun _ => 0) 52 p0) 55 0))] H := hP
  have hD : va_D A [(z 17, aI V 7 (fun _ => 0)), (z 0, .inr (10, mo z 0 0 0 0 0 0 0 0 0 0 (-1) 0 0 0 0 0)), (z 1, aI V 3075 (upd (upd (fun _ => 0) 52 p0) 55 0))] := hD
  have hP : va_P V.1 vwCl [(z 17, aI V 7 (fun _ => 0)), (z 0, .inr (10, mo z 0 0 0 0 0 0 0 0 0 0 (-1) 0 0 0 0 0)), (z 1, aI V 3075 (upd (fun _ => 0) 52 p0))] H := by rw [updid (k := 55) (v := 0) rfl] at hP; exact hP
  have hD : va_D A [(z 17, aI V 7 (fun _ => 0)), (z 0, .inr (10, mo z 0 0 0 0 0 0 0 0 0 0 (-1) 0 0 0 0 0)), (z 1, aI V 3075 (upd (fun _ => 0) 52 p0))] := by rw [updid (k := 55) (v := 0) rfl] at hD; exact hD
  refine lv_iinc (v := 2) (lv' := [(1, .int 2), (0, .ref (z 0))]) hx hb dX10_notes_89 hl (k := 0) rfl (by decide +kernel) (by decide) rfl (fun ls hl => ?_)
  refine lv_goto (tgt := 57) hx hb dX10_notes_92 (by decide) ?_
  refine lv_iload_n hx hb dX10_notes_57 rfl (lv_at hl 0 rfl) ?_
  refine lv_bipush (v := 7) hx hb dX10_notes_58 (by decide) ?_
  refine lv_icmp_ge (tgt := 95) hx hb dX10_notes_60 (by decide) (fun c_4 => absurd c_4 (by decide)) (fun _ => ?_)
  refine lv_aload_n hx hb dX10_notes_63 rfl (lv_at hl 1 rfl) ?_
  refine va_get (ci := 10) (v := .ref (z 1)) (C := RX10) (T := TX10) (N := 40) hx hb hg inX10 hown hK hP 1 rfl rfl 1 (by decide) (hg _ q_5_225) (fun _ h9 => h9) rfl dX10_notes_64 ?_
  refine lv_bipush (v := 54) hx hb dX10_notes_67 (by decide) ?_
  refine lv_bipush (v := 7) hx hb dX10_notes_69 (by decide) ?_
  refine lv_aload_n hx hb dX10_notes_71 rfl (lv_at hl 1 rfl) ?_
  refine va_get (ci := 10) (v := .ref (z 1)) (C := RX10) (T := TX10) (N := 40) hx hb hg inX10 hown hK hP 1 rfl rfl 1 (by decide) (hg _ q_5_225) (fun _ h9 => h9) rfl dX10_notes_72 ?_
  refine lv_bipush (v := 53) hx hb dX10_notes_75 (by decide) ?_
  refine va_iald hx hb hK hP 2 0 rfl rfl (vin (by decide +kernel)) dX10_notes_77 ?_
  refine tpi (y := 0) (rfl) ?_
  refine lv_imul hx hb dX10_notes_78 ?_
  refine tpi (y := 0) (by decide +kernel) ?_
  refine lv_iadd hx hb dX10_notes_79 ?_
  refine tpi (y := 54) (by decide +kernel) ?_
  refine lv_iload_n hx hb dX10_notes_80 rfl (lv_at hl 0 rfl) ?_
  refine lv_iadd hx hb dX10_notes_81 ?_
  refine tpi (y := 56) (by decide +kernel) ?_
  refine lv_aload_n hx hb dX10_notes_82 rfl (lv_at hl 1 rfl) ?_
  refine va_get (ci := 10) (v := .ref (z 17)) (C := RX10) (T := TX10) (N := 40) hx hb hg inX10 hown hK hP 1 rfl rfl 17 (by decide) (hg _ q_6_1) (fun _ h9 => h9) rfl dX10_notes_83 ?_
  refine lv_iload_n hx hb dX10_notes_86 rfl (lv_at hl 0 rfl) ?_
  refine va_iald hx hb hK hP 0 0 rfl rfl (vin (by decide +kernel)) dX10_notes_87 ?_
  refine tpi (y := 0) (rfl) ?_
  refine va_iast hx hb hK hP hD hS 2 0 rfl rfl (vin (by decide +kernel)) dX10_notes_88 (fun H locs hP hD hS => ?_)
  have hP : va_P V.1 vwCl [(z 17, aI V 7 (fun _ => 0)), (z 0, .inr (10, mo z 0 0 0 0 0 0 0 0 0 0 (-1) 0 0 0 0 0)), (z 1, aI V 3075 (upd (upd (fun _ => 0) 52 p0) 56 0))] H := hP
  have hD : va_D A [(z 17, aI V 7 (fun _ => 0)), (z 0, .inr (10, mo z 0 0 0 0 0 0 0 0 0 0 (-1) 0 0 0 0 0)), (z 1, aI V 3075 (upd (upd (fun _ => 0) 52 p0) 56 0))] := hD
  have hP : va_P V.1 vwCl [(z 17, aI V 7 (fun _ => 0)), (z 0, .inr (10, mo z 0 0 0 0 0 0 0 0 0 0 (-1) 0 0 0 0 0)), (z 1, aI V 3075 (upd (fun _ => 0) 52 p0))] H := by rw [updid (k := 56) (v := 0) rfl] at hP; exact hP
  have hD : va_D A [(z 17, aI V 7 (fun _ => 0)), (z 0, .inr (10, mo z 0 0 0 0 0 0 0 0 0 0 (-1) 0 0 0 0 0)), (z 1, aI V 3075 (upd (fun _ => 0) 52 p0))] := by rw [updid (k := 56) (v := 0) rfl] at hD; exact hD
  refine lv_iinc (v := 3) (lv' := [(1, .int 3), (0, .ref (z 0))]) hx hb dX10_notes_89 hl (k := 0) rfl (by decide +kernel) (by decide) rfl (fun ls hl => ?_)
  refine lv_goto (tgt := 57) hx hb dX10_notes_92 (by decide) ?_
  refine lv_iload_n hx hb dX10_notes_57 rfl (lv_at hl 0 rfl) ?_
  refine lv_bipush (v := 7) hx hb dX10_notes_58 (by decide) ?_
  refine lv_icmp_ge (tgt := 95) hx hb dX10_notes_60 (by decide) (fun c_5 => absurd c_5 (by decide)) (fun _ => ?_)
  refine lv_aload_n hx hb dX10_notes_63 rfl (lv_at hl 1 rfl) ?_
  refine va_get (ci := 10) (v := .ref (z 1)) (C := RX10) (T := TX10) (N := 40) hx hb hg inX10 hown hK hP 1 rfl rfl 1 (by decide) (hg _ q_5_225) (fun _ h9 => h9) rfl dX10_notes_64 ?_
  refine lv_bipush (v := 54) hx hb dX10_notes_67 (by decide) ?_
  refine lv_bipush (v := 7) hx hb dX10_notes_69 (by decide) ?_
  refine lv_aload_n hx hb dX10_notes_71 rfl (lv_at hl 1 rfl) ?_
  refine va_get (ci := 10) (v := .ref (z 1)) (C := RX10) (T := TX10) (N := 40) hx hb hg inX10 hown hK hP 1 rfl rfl 1 (by decide) (hg _ q_5_225) (fun _ h9 => h9) rfl dX10_notes_72 ?_
  refine lv_bipush (v := 53) hx hb dX10_notes_75 (by decide) ?_
  refine va_iald hx hb hK hP 2 0 rfl rfl (vin (by decide +kernel)) dX10_notes_77 ?_
  refine tpi (y := 0) (rfl) ?_
  refine lv_imul hx hb dX10_notes_78 ?_
  refine tpi (y := 0) (by decide +kernel) ?_
  refine lv_iadd hx hb dX10_notes_79 ?_
  refine tpi (y := 54) (by decide +kernel) ?_
  refine lv_iload_n hx hb dX10_notes_80 rfl (lv_at hl 0 rfl) ?_
  refine lv_iadd hx hb dX10_notes_81 ?_
  refine tpi (y := 57) (by decide +kernel) ?_
  refine lv_aload_n hx hb dX10_notes_82 rfl (lv_at hl 1 rfl) ?_
  refine va_get (ci := 10) (v := .ref (z 17)) (C := RX10) (T := TX10) (N := 40) hx hb hg inX10 hown hK hP 1 rfl rfl 17 (by decide) (hg _ q_6_1) (fun _ h9 => h9) rfl dX10_notes_83 ?_
  refine lv_iload_n hx hb dX10_notes_86 rfl (lv_at hl 0 rfl) ?_
  refine va_iald hx hb hK hP 0 0 rfl rfl (vin (by decide +kernel)) dX10_notes_87 ?_
  refine tpi (y := 0) (rfl) ?_
  refine va_iast hx hb hK hP hD hS 2 0 rfl rfl (vin (by decide +kernel)) dX10_notes_88 (fun H locs hP hD hS => ?_)
  have hP : va_P V.1 vwCl [(z 17, aI V 7 (fun _ => 0)), (z 0, .inr (10, mo z 0 0 0 0 0 0 0 0 0 0 (-1) 0 0 0 0 0)), (z 1, aI V 3075 (upd (upd (fun _ => 0) 52 p0) 57 0))] H := hP
  have hD : va_D A [(z 17, aI V 7 (fun _ => 0)), (z 0, .inr (10, mo z 0 0 0 0 0 0 0 0 0 0 (-1) 0 0 0 0 0)), (z 1, aI V 3075 (upd (upd (fun _ => 0) 52 p0) 57 0))] := hD
  have hP : va_P V.1 vwCl [(z 17, aI V 7 (fun _ => 0)), (z 0, .inr (10, mo z 0 0 0 0 0 0 0 0 0 0 (-1) 0 0 0 0 0)), (z 1, aI V 3075 (upd (fun _ => 0) 52 p0))] H := by rw [updid (k := 57) (v := 0) rfl] at hP; exact hP
  have hD : va_D A [(z 17, aI V 7 (fun _ => 0)), (z 0, .inr (10, mo z 0 0 0 0 0 0 0 0 0 0 (-1) 0 0 0 0 0)), (z 1, aI V 3075 (upd (fun _ => 0) 52 p0))] := by rw [updid (k := 57) (v := 0) rfl] at hD; exact hD
  refine lv_iinc (v := 4) (lv' := [(1, .int 4), (0, .ref (z 0))]) hx hb dX10_notes_89 hl (k := 0) rfl (by decide +kernel) (by decide) rfl (fun ls hl => ?_)
  refine lv_goto (tgt := 57) hx hb dX10_notes_92 (by decide) ?_
  refine lv_iload_n hx hb dX10_notes_57 rfl (lv_at hl 0 rfl) ?_
  refine lv_bipush (v := 7) hx hb dX10_notes_58 (by decide) ?_
  refine lv_icmp_ge (tgt := 95) hx hb dX10_notes_60 (by decide) (fun c_6 => absurd c_6 (by decide)) (fun _ => ?_)
  refine lv_aload_n hx hb dX10_notes_63 rfl (lv_at hl 1 rfl) ?_
  refine va_get (ci := 10) (v := .ref (z 1)) (C := RX10) (T := TX10) (N := 40) hx hb hg inX10 hown hK hP 1 rfl rfl 1 (by decide) (hg _ q_5_225) (fun _ h9 => h9) rfl dX10_notes_64 ?_
  refine lv_bipush (v := 54) hx hb dX10_notes_67 (by decide) ?_
  refine lv_bipush (v := 7) hx hb dX10_notes_69 (by decide) ?_
  refine lv_aload_n hx hb dX10_notes_71 rfl (lv_at hl 1 rfl) ?_
  refine va_get (ci := 10) (v := .ref (z 1)) (C := RX10) (T := TX10) (N := 40) hx hb hg inX10 hown hK hP 1 rfl rfl 1 (by decide) (hg _ q_5_225) (fun _ h9 => h9) rfl dX10_notes_72 ?_
  refine lv_bipush (v := 53) hx hb dX10_notes_75 (by decide) ?_
  refine va_iald hx hb hK hP 2 0 rfl rfl (vin (by decide +kernel)) dX10_notes_77 ?_
  refine tpi (y := 0) (rfl) ?_
  refine lv_imul hx hb dX10_notes_78 ?_
  refine tpi (y := 0) (by decide +kernel) ?_
  refine lv_iadd hx hb dX10_notes_79 ?_
  refine tpi (y := 54) (by decide +kernel) ?_
  refine lv_iload_n hx hb dX10_notes_80 rfl (lv_at hl 0 rfl) ?_
  refine lv_iadd hx hb dX10_notes_81 ?_
  refine tpi (y := 58) (by decide +kernel) ?_
  refine lv_aload_n hx hb dX10_notes_82 rfl (lv_at hl 1 rfl) ?_
  refine va_get (ci := 10) (v := .ref (z 17)) (C := RX10) (T := TX10) (N := 40) hx hb hg inX10 hown hK hP 1 rfl rfl 17 (by decide) (hg _ q_6_1) (fun _ h9 => h9) rfl dX10_notes_83 ?_
  refine lv_iload_n hx hb dX10_notes_86 rfl (lv_at hl 0 rfl) ?_
  refine va_iald hx hb hK hP 0 0 rfl rfl (vin (by decide +kernel)) dX10_notes_87 ?_
  refine tpi (y := 0) (rfl) ?_
  refine va_iast hx hb hK hP hD hS 2 0 rfl rfl (vin (by decide +kernel)) dX10_notes_88 (fun H locs hP hD hS => ?_)
  have hP : va_P V.1 vwCl [(z 17, aI V 7 (fun _ => 0)), (z 0, .inr (10, mo z 0 0 0 0 0 0 0 0 0 0 (-1) 0 0 0 0 0)), (z 1, aI V 3075 (upd (upd (fun _ => 0) 52 p0) 58 0))] H := hP
  have hD : va_D A [(z 17, aI V 7 (fun _ => 0)), (z 0, .inr (10, mo z 0 0 0 0 0 0 0 0 0 0 (-1) 0 0 0 0 0)), (z 1, aI V 3075 (upd (upd (fun _ => 0) 52 p0) 58 0))] := hD
  have hP : va_P V.1 vwCl [(z 17, aI V 7 (fun _ => 0)), (z 0, .inr (10, mo z 0 0 0 0 0 0 0 0 0 0 (-1) 0 0 0 0 0)), (z 1, aI V 3075 (upd (fun _ => 0) 52 p0))] H := by rw [updid (k := 58) (v := 0) rfl] at hP; exact hP
  have hD : va_D A [(z 17, aI V 7 (fun _ => 0)), (z 0, .inr (10, mo z 0 0 0 0 0 0 0 0 0 0 (-1) 0 0 0 0 0)), (z 1, aI V 3075 (upd (fun _ => 0) 52 p0))] := by rw [updid (k := 58) (v := 0) rfl] at hD; exact hD
  refine lv_iinc (v := 5) (lv' := [(1, .int 5), (0, .ref (z 0))]) hx hb dX10_notes_89 hl (k := 0) rfl (by decide +kernel) (by decide) rfl (fun ls hl => ?_)
  refine lv_goto (tgt := 57) hx hb dX10_notes_92 (by decide) ?_
  refine lv_iload_n hx hb dX10_notes_57 rfl (lv_at hl 0 rfl) ?_
  refine lv_bipush (v := 7) hx hb dX10_notes_58 (by decide) ?_
  refine lv_icmp_ge (tgt := 95) hx hb dX10_notes_60 (by decide) (fun c_7 => absurd c_7 (by decide)) (fun _ => ?_)
  refine lv_aload_n hx hb dX10_notes_63 rfl (lv_at hl 1 rfl) ?_
  refine va_get (ci := 10) (v := .ref (z 1)) (C := RX10) (T := TX10) (N := 40) hx hb hg inX10 hown hK hP 1 rfl rfl 1 (by decide) (hg _ q_5_225) (fun _ h9 => h9) rfl dX10_notes_64 ?_
  refine lv_bipush (v := 54) hx hb dX10_notes_67 (by decide) ?_
  refine lv_bipush (v := 7) hx hb dX10_notes_69 (by decide) ?_
  refine lv_aload_n hx hb dX10_notes_71 rfl (lv_at hl 1 rfl) ?_
  refine va_get (ci := 10) (v := .ref (z 1)) (C := RX10) (T := TX10) (N := 40) hx hb hg inX10 hown hK hP 1 rfl rfl 1 (by decide) (hg _ q_5_225) (fun _ h9 => h9) rfl dX10_notes_72 ?_
  refine lv_bipush (v := 53) hx hb dX10_notes_75 (by decide) ?_
  refine va_iald hx hb hK hP 2 0 rfl rfl (vin (by decide +kernel)) dX10_notes_77 ?_
  refine tpi (y := 0) (rfl) ?_
  refine lv_imul hx hb dX10_notes_78 ?_
  refine tpi (y := 0) (by decide +kernel) ?_
  refine lv_iadd hx hb dX10_notes_79 ?_
  refine tpi (y := 54) (by decide +kernel) ?_
  refine lv_iload_n hx hb dX10_notes_80 rfl (lv_at hl 0 rfl) ?_
  refine lv_iadd hx hb dX10_notes_81 ?_
  refine tpi (y := 59) (by decide +kernel) ?_
  refine lv_aload_n hx hb dX10_notes_82 rfl (lv_at hl 1 rfl) ?_
  refine va_get (ci := 10) (v := .ref (z 17)) (C := RX10) (T := TX10) (N := 40) hx hb hg inX10 hown hK hP 1 rfl rfl 17 (by decide) (hg _ q_6_1) (fun _ h9 => h9) rfl dX10_notes_83 ?_
  refine lv_iload_n hx hb dX10_notes_86 rfl (lv_at hl 0 rfl) ?_
  refine va_iald hx hb hK hP 0 0 rfl rfl (vin (by decide +kernel)) dX10_notes_87 ?_
  refine tpi (y := 0) (rfl) ?_
  refine va_iast hx hb hK hP hD hS 2 0 rfl rfl (vin (by decide +kernel)) dX10_notes_88 (fun H locs hP hD hS => ?_)
  have hP : va_P V.1 vwCl [(z 17, aI V 7 (fun _ => 0)), (z 0, .inr (10, mo z 0 0 0 0 0 0 0 0 0 0 (-1) 0 0 0 0 0)), (z 1, aI V 3075 (upd (upd (fun _ => 0) 52 p0) 59 0))] H := hP
  have hD : va_D A [(z 17, aI V 7 (fun _ => 0)), (z 0, .inr (10, mo z 0 0 0 0 0 0 0 0 0 0 (-1) 0 0 0 0 0)), (z 1, aI V 3075 (upd (upd (fun _ => 0) 52 p0) 59 0))] := hD
  have hP : va_P V.1 vwCl [(z 17, aI V 7 (fun _ => 0)), (z 0, .inr (10, mo z 0 0 0 0 0 0 0 0 0 0 (-1) 0 0 0 0 0)), (z 1, aI V 3075 (upd (fun _ => 0) 52 p0))] H := by rw [updid (k := 59) (v := 0) rfl] at hP; exact hP
  have hD : va_D A [(z 17, aI V 7 (fun _ => 0)), (z 0, .inr (10, mo z 0 0 0 0 0 0 0 0 0 0 (-1) 0 0 0 0 0)), (z 1, aI V 3075 (upd (fun _ => 0) 52 p0))] := by rw [updid (k := 59) (v := 0) rfl] at hD; exact hD
  refine lv_iinc (v := 6) (lv' := [(1, .int 6), (0, .ref (z 0))]) hx hb dX10_notes_89 hl (k := 0) rfl (by decide +kernel) (by decide) rfl (fun ls hl => ?_)
  refine lv_goto (tgt := 57) hx hb dX10_notes_92 (by decide) ?_
  refine lv_iload_n hx hb dX10_notes_57 rfl (lv_at hl 0 rfl) ?_
  refine lv_bipush (v := 7) hx hb dX10_notes_58 (by decide) ?_
  refine lv_icmp_ge (tgt := 95) hx hb dX10_notes_60 (by decide) (fun c_8 => absurd c_8 (by decide)) (fun _ => ?_)
  refine lv_aload_n hx hb dX10_notes_63 rfl (lv_at hl 1 rfl) ?_
  refine va_get (ci := 10) (v := .ref (z 1)) (C := RX10) (T := TX10) (N := 40) hx hb hg inX10 hown hK hP 1 rfl rfl 1 (by decide) (hg _ q_5_225) (fun _ h9 => h9) rfl dX10_notes_64 ?_
  refine lv_bipush (v := 54) hx hb dX10_notes_67 (by decide) ?_
  refine lv_bipush (v := 7) hx hb dX10_notes_69 (by decide) ?_
  refine lv_aload_n hx hb dX10_notes_71 rfl (lv_at hl 1 rfl) ?_
  refine va_get (ci := 10) (v := .ref (z 1)) (C := RX10) (T := TX10) (N := 40) hx hb hg inX10 hown hK hP 1 rfl rfl 1 (by decide) (hg _ q_5_225) (fun _ h9 => h9) rfl dX10_notes_72 ?_
  refine lv_bipush (v := 53) hx hb dX10_notes_75 (by decide) ?_
  refine va_iald hx hb hK hP 2 0 rfl rfl (vin (by decide +kernel)) dX10_notes_77 ?_
  refine tpi (y := 0) (rfl) ?_
  refine lv_imul hx hb dX10_notes_78 ?_
  refine tpi (y := 0) (by decide +kernel) ?_
  refine lv_iadd hx hb dX10_notes_79 ?_
  refine tpi (y := 54) (by decide +kernel) ?_
  refine lv_iload_n hx hb dX10_notes_80 rfl (lv_at hl 0 rfl) ?_
  refine lv_iadd hx hb dX10_notes_81 ?_
  refine tpi (y := 60) (by decide +kernel) ?_
  refine lv_aload_n hx hb dX10_notes_82 rfl (lv_at hl 1 rfl) ?_
  refine va_get (ci := 10) (v := .ref (z 17)) (C := RX10) (T := TX10) (N := 40) hx hb hg inX10 hown hK hP 1 rfl rfl 17 (by decide) (hg _ q_6_1) (fun _ h9 => h9) rfl dX10_notes_83 ?_
  refine lv_iload_n hx hb dX10_notes_86 rfl (lv_at hl 0 rfl) ?_
  refine va_iald hx hb hK hP 0 0 rfl rfl (vin (by decide +kernel)) dX10_notes_87 ?_
  refine tpi (y := 0) (rfl) ?_
  refine va_iast hx hb hK hP hD hS 2 0 rfl rfl (vin (by decide +kernel)) dX10_notes_88 (fun H locs hP hD hS => ?_)
  have hP : va_P V.1 vwCl [(z 17, aI V 7 (fun _ => 0)), (z 0, .inr (10, mo z 0 0 0 0 0 0 0 0 0 0 (-1) 0 0 0 0 0)), (z 1, aI V 3075 (upd (upd (fun _ => 0) 52 p0) 60 0))] H := hP
  have hD : va_D A [(z 17, aI V 7 (fun _ => 0)), (z 0, .inr (10, mo z 0 0 0 0 0 0 0 0 0 0 (-1) 0 0 0 0 0)), (z 1, aI V 3075 (upd (upd (fun _ => 0) 52 p0) 60 0))] := hD
  have hP : va_P V.1 vwCl [(z 17, aI V 7 (fun _ => 0)), (z 0, .inr (10, mo z 0 0 0 0 0 0 0 0 0 0 (-1) 0 0 0 0 0)), (z 1, aI V 3075 (upd (fun _ => 0) 52 p0))] H := by rw [updid (k := 60) (v := 0) rfl] at hP; exact hP
  have hD : va_D A [(z 17, aI V 7 (fun _ => 0)), (z 0, .inr (10, mo z 0 0 0 0 0 0 0 0 0 0 (-1) 0 0 0 0 0)), (z 1, aI V 3075 (upd (fun _ => 0) 52 p0))] := by rw [updid (k := 60) (v := 0) rfl] at hD; exact hD
  refine lv_iinc (v := 7) (lv' := [(1, .int 7), (0, .ref (z 0))]) hx hb dX10_notes_89 hl (k := 0) rfl (by decide +kernel) (by decide) rfl (fun ls hl => ?_)
  refine lv_goto (tgt := 57) hx hb dX10_notes_92 (by decide) ?_
  refine lv_iload_n hx hb dX10_notes_57 rfl (lv_at hl 0 rfl) ?_
  refine lv_bipush (v := 7) hx hb dX10_notes_58 (by decide) ?_
  refine lv_icmp_ge (tgt := 95) hx hb dX10_notes_60 (by decide) (fun _ => ?_) (fun c_9 => absurd c_9 (by decide))
  refine lv_aload_n hx hb dX10_notes_95 rfl (lv_at hl 1 rfl) ?_
  refine va_get (ci := 10) (v := .ref (z 1)) (C := RX10) (T := TX10) (N := 40) hx hb hg inX10 hown hK hP 1 rfl rfl 1 (by decide) (hg _ q_5_225) (fun _ h9 => h9) rfl dX10_notes_96 ?_
  refine lv_bipush (v := 53) hx hb dX10_notes_99 (by decide) ?_
  refine lv_dup2_11 hx hb dX10_notes_101 rfl rfl ?_
  refine va_iald hx hb hK hP 2 0 rfl rfl (vin (by decide +kernel)) dX10_notes_102 ?_
  refine tpi (y := 0) (rfl) ?_
  refine lv_iconst (v := 1) hx hb dX10_notes_103 (by decide) ?_
  refine lv_iadd hx hb dX10_notes_104 ?_
  refine tpi (y := 1) (by decide +kernel) ?_
  refine va_iast hx hb hK hP hD hS 2 0 rfl rfl (vin (by decide +kernel)) dX10_notes_105 (fun H locs hP hD hS => ?_)
  have hP : va_P V.1 vwCl [(z 17, aI V 7 (fun _ => 0)), (z 0, .inr (10, mo z 0 0 0 0 0 0 0 0 0 0 (-1) 0 0 0 0 0)), (z 1, aI V 3075 (upd (upd (fun _ => 0) 52 p0) 53 1))] H := hP
  have hD : va_D A [(z 17, aI V 7 (fun _ => 0)), (z 0, .inr (10, mo z 0 0 0 0 0 0 0 0 0 0 (-1) 0 0 0 0 0)), (z 1, aI V 3075 (upd (upd (fun _ => 0) 52 p0) 53 1))] := hD
  exact fiV hx hb hr hlk hK hP hD hS dX10_notes_106 (Nat.le_of_ble_eq_true rfl) (Nat.le_of_ble_eq_true rfl) (rfl)
set_option maxHeartbeats 4000000 in
set_option maxRecDepth 100000 in
theorem c_X10_standNow_1 (l : Launch) (V : GV) (z : Nat → Nat) (p0 : Int32) : Ct l V yX10_standNow (.code yX10_standNow cX10_standNow 3 (some .int)) 1 [.ref (z 0)] [(z 0, .inr (10, mo z 0 0 0 0 0 0 0 0 0 0 (-1) 0 0 0 0 0)), (z 1, aI V 3075 (upd (fun _ => 0) 52 p0))] 0 0 (QI V (fun (r : Int32) (w : va_W) => (r = 0 ∧ w = [(z 0, .inr (10, mo z 0 0 0 0 0 0 0 0 0 0 (-1) 0 0 0 0 0)), (z 1, aI V 3075 (upd (fun _ => 0) 52 p0))]))) := by
  refine Ct.of (by decide) (Nat.le_of_ble_eq_true rfl) (fun p e s m below meth c A ls hx hb hr hml hown hlk hnm hg hP hK hD hE hA hS hl => ?_)
  have hl : lv_has ls 3 [(0, .ref (z 0))] := hl
  refine lv_sipush (v := 625) hx hb dX10_standNow_0 (by decide) ?_
  refine lv_aload_n hx hb dX10_standNow_3 rfl (lv_at hl 0 rfl) ?_
  refine va_get (ci := 10) (v := .ref (z 1)) (C := RX10) (T := TX10) (N := 40) hx hb hg inX10 hown hK hP 0 rfl rfl 1 (by decide) (hg _ q_5_225) (fun _ h9 => h9) rfl dX10_standNow_4 ?_
  refine lv_bipush (v := 50) hx hb dX10_standNow_7 (by decide) ?_
  refine va_iald hx hb hK hP 1 0 rfl rfl (vin (by decide +kernel)) dX10_standNow_9 ?_
  refine tpi (y := 0) (rfl) ?_
  refine lv_imul hx hb dX10_standNow_10 ?_
  refine tpi (y := 0) (by decide +kernel) ?_
  refine lv_istore_n (lv' := [(1, .int 0), (0, .ref (z 0))]) hx hb dX10_standNow_11 rfl hl (by decide) rfl (fun ls hl => ?_)
  refine lv_iconst (v := 0) hx hb dX10_standNow_12 (by decide) ?_
  refine lv_istore_n (lv' := [(2, .int 0), (1, .int 0), (0, .ref (z 0))]) hx hb dX10_standNow_13 rfl hl (by decide) rfl (fun ls hl => ?_)
  refine lv_iload_n hx hb dX10_standNow_14 rfl (lv_at hl 0 rfl) ?_
  refine lv_aload_n hx hb dX10_standNow_15 rfl (lv_at hl 2 rfl) ?_
  refine va_get (ci := 10) (v := .ref (z 1)) (C := RX10) (T := TX10) (N := 40) hx hb hg inX10 hown hK hP 0 rfl rfl 1 (by decide) (hg _ q_5_225) (fun _ h9 => h9) rfl dX10_standNow_16 ?_
  refine lv_iconst (v := 1) hx hb dX10_standNow_19 (by decide) ?_
  refine va_iald hx hb hK hP 1 0 rfl rfl (vin (by decide +kernel)) dX10_standNow_20 ?_
  refine tpi (y := 0) (rfl) ?_
  refine lv_icmp_ge (tgt := 47) hx hb dX10_standNow_21 (by decide) (fun _ => ?_) (fun c_1 => absurd c_1 (by decide))
  refine lv_iload_n hx hb dX10_standNow_47 rfl (lv_at hl 1 rfl) ?_
  exact fiI hx hb hr hlk hK hP hD hS dX10_standNow_48 (Nat.le_of_ble_eq_true rfl) (Nat.le_of_ble_eq_true rfl) (⟨rfl, rfl⟩)
set_option maxHeartbeats 4000000 in
set_option maxRecDepth 100000 in
theorem c_X10_nightTo_2 (l : Launch) (V : GV) (z : Nat → Nat) (p0 : Int32) : Ct l V yX10_nightTo (.code yX10_nightTo cX10_nightTo 6 (some .int)) 1 [.ref (z 0), .int 0, .int 0, .int 0] [(z 0, .inr (10, mo z 0 0 0 0 0 0 0 0 0 0 (-1) 0 0 0 0 0)), (z 1, aI V 3075 (upd (fun _ => 0) 52 p0))] 0 0 (QI V (fun (r : Int32) (w : va_W) => (r = 0 ∧ w = [(z 0, .inr (10, mo z 0 0 0 0 0 0 0 0 0 0 (-1) 0 0 0 0 0)), (z 1, aI V 3075 (upd (fun _ => 0) 52 p0))]))) := by
  refine Ct.of (by decide) (Nat.le_of_ble_eq_true rfl) (fun p e s m below meth c A ls hx hb hr hml hown hlk hnm hg hP hK hD hE hA hS hl => ?_)
  have hl : lv_has ls 6 [(0, .ref (z 0)), (1, .int 0), (2, .int 0), (3, .int 0)] := hl
  refine lv_iconst (v := 0) hx hb dX10_nightTo_0 (by decide) ?_
  refine lv_istore (lv' := [(4, .int 0), (0, .ref (z 0)), (1, .int 0), (2, .int 0), (3, .int 0)]) hx hb dX10_nightTo_1 hl (by decide) rfl (fun ls hl => ?_)
  refine lv_iconst (v := 0) hx hb dX10_nightTo_3 (by decide) ?_
  refine lv_istore (lv' := [(5, .int 0), (4, .int 0), (0, .ref (z 0)), (1, .int 0), (2, .int 0), (3, .int 0)]) hx hb dX10_nightTo_4 hl (by decide) rfl (fun ls hl => ?_)
  refine lv_iload hx hb dX10_nightTo_6 (lv_at hl 0 rfl) ?_
  refine lv_aload_n hx hb dX10_nightTo_8 rfl (lv_at hl 2 rfl) ?_
  refine va_get (ci := 10) (v := .ref (z 1)) (C := RX10) (T := TX10) (N := 40) hx hb hg inX10 hown hK hP 0 rfl rfl 1 (by decide) (hg _ q_5_225) (fun _ h9 => h9) rfl dX10_nightTo_9 ?_
  refine lv_iconst (v := 1) hx hb dX10_nightTo_12 (by decide) ?_
  refine va_iald hx hb hK hP 1 0 rfl rfl (vin (by decide +kernel)) dX10_nightTo_13 ?_
  refine tpi (y := 0) (rfl) ?_
  refine lv_icmp_ge (tgt := 98) hx hb dX10_nightTo_14 (by decide) (fun _ => ?_) (fun c_1 => absurd c_1 (by decide))
  refine lv_iload hx hb dX10_nightTo_98 (lv_at hl 1 rfl) ?_
  exact fiI hx hb hr hlk hK hP hD hS dX10_nightTo_100 (Nat.le_of_ble_eq_true rfl) (Nat.le_of_ble_eq_true rfl) (⟨rfl, rfl⟩)
set_option maxHeartbeats 4000000 in
set_option maxRecDepth 100000 in
theorem c_X10_isStand_1 (l : Launch) (V : GV) (z : Nat → Nat) (p0 : Int32) : Ct l V yX10_isStand (.code yX10_isStand cX10_isStand 3 none) 2 [.ref (z 0), .int 0] [(z 0, .inr (10, mo z 0 0 0 0 0 0 0 0 0 0 (-1) 0 0 0 0 0)), (z 1, aI V 3075 (upd (fun _ => 0) 52 p0))] 0 0 (QV V (fun (w : va_W) => (w = [(z 0, .inr (10, mo z 0 0 0 0 0 0 0 0 0 0 (-1) 0 0 0 0 0)), (z 1, aI V 3075 (upd (fun _ => 0) 52 p0))]))) := by
  refine Ct.of (by decide) (Nat.le_of_ble_eq_true rfl) (fun p e s m below meth c A ls hx hb hr hml hown hlk hnm hg hP hK hD hE hA hS hl => ?_)
  have hl : lv_has ls 3 [(0, .ref (z 0)), (1, .int 0)] := hl
  refine lv_iconst (v := 0) hx hb dX10_isStand_0 (by decide) ?_
  refine lv_istore_n (lv' := [(2, .int 0), (0, .ref (z 0)), (1, .int 0)]) hx hb dX10_isStand_1 rfl hl (by decide) rfl (fun ls hl => ?_)
  refine lv_iload_n hx hb dX10_isStand_2 rfl (lv_at hl 0 rfl) ?_
  refine lv_aload_n hx hb dX10_isStand_3 rfl (lv_at hl 1 rfl) ?_
  refine va_get (ci := 10) (v := .ref (z 1)) (C := RX10) (T := TX10) (N := 40) hx hb hg inX10 hown hK hP 0 rfl rfl 1 (by decide) (hg _ q_5_225) (fun _ h9 => h9) rfl dX10_isStand_4 ?_
  refine lv_iconst (v := 1) hx hb dX10_isStand_7 (by decide) ?_
  refine va_iald hx hb hK hP 1 0 rfl rfl (vin (by decide +kernel)) dX10_isStand_8 ?_
  refine tpi (y := 0) (rfl) ?_
  refine lv_icmp_ge (tgt := 32) hx hb dX10_isStand_9 (by decide) (fun _ => ?_) (fun c_1 => absurd c_1 (by decide))
  refine lv_aload_n hx hb dX10_isStand_32 rfl (lv_at hl 1 rfl) ?_
  refine va_get (ci := 10) (v := .ref (z 1)) (C := RX10) (T := TX10) (N := 40) hx hb hg inX10 hown hK hP 0 rfl rfl 1 (by decide) (hg _ q_5_225) (fun _ h9 => h9) rfl dX10_isStand_33 ?_
  refine lv_bipush (v := 50) hx hb dX10_isStand_36 (by decide) ?_
  refine lv_iload_n hx hb dX10_isStand_38 rfl (lv_at hl 2 rfl) ?_
  refine jnI (wr := [(z 0, .inr (10, mo z 0 0 0 0 0 0 0 0 0 0 (-1) 0 0 0 0 0)), (z 1, aI V 3075 (upd (fun _ => 0) 52 p0))]) (rnS (rest := [.int 50, .ref (z 1)]) ⟨hx, hb, hml, hown, hg⟩ (c_X10_tookIn_0 l V) mt_X10_tookIn q_7_29 ⟨Nat.le_of_ble_eq_true rfl, Nat.le_of_ble_eq_true rfl⟩ hK hP hD hS hA hE [] rfl rfl rfl hl.1 rfl (Nat.le_of_ble_eq_true rfl) dX10_isStand_39 ⟨Nat.le_of_ble_eq_true rfl, Nat.le_of_ble_eq_true rfl⟩) hP hD hS hA [] [0, 1] rfl rfl rfl (by decide) (fun r_2 w H locs hw hP hD hS => ?_)
  obtain ⟨rfl, rfl⟩ := hw
  have hP : va_P V.1 vwCl [(z 0, .inr (10, mo z 0 0 0 0 0 0 0 0 0 0 (-1) 0 0 0 0 0)), (z 1, aI V 3075 (upd (fun _ => 0) 52 p0))] H := hP
  have hD : va_D A [(z 0, .inr (10, mo z 0 0 0 0 0 0 0 0 0 0 (-1) 0 0 0 0 0)), (z 1, aI V 3075 (upd (fun _ => 0) 52 p0))] := hD
  refine va_iast hx hb hK hP hD hS 1 0 rfl rfl (vin (by decide +kernel)) dX10_isStand_42 (fun H locs hP hD hS => ?_)
  have hP : va_P V.1 vwCl [(z 0, .inr (10, mo z 0 0 0 0 0 0 0 0 0 0 (-1) 0 0 0 0 0)), (z 1, aI V 3075 (upd (upd (fun _ => 0) 52 p0) 50 0))] H := hP
  have hD : va_D A [(z 0, .inr (10, mo z 0 0 0 0 0 0 0 0 0 0 (-1) 0 0 0 0 0)), (z 1, aI V 3075 (upd (upd (fun _ => 0) 52 p0) 50 0))] := hD
  have hP : va_P V.1 vwCl [(z 0, .inr (10, mo z 0 0 0 0 0 0 0 0 0 0 (-1) 0 0 0 0 0)), (z 1, aI V 3075 (upd (fun _ => 0) 52 p0))] H := by rw [updid (k := 50) (v := 0) rfl] at hP; exact hP
  have hD : va_D A [(z 0, .inr (10, mo z 0 0 0 0 0 0 0 0 0 0 (-1) 0 0 0 0 0)), (z 1, aI V 3075 (upd (fun _ => 0) 52 p0))] := by rw [updid (k := 50) (v := 0) rfl] at hD; exact hD
  exact fiV hx hb hr hlk hK hP hD hS dX10_isStand_43 (Nat.le_of_ble_eq_true rfl) (Nat.le_of_ble_eq_true rfl) (rfl)
set_option maxHeartbeats 4000000 in
set_option maxRecDepth 100000 in
theorem c_X10_goesNight_2 (l : Launch) (V : GV) (z : Nat → Nat) (p0 : Int32) : Ct l V yX10_goesNight (.code yX10_goesNight cX10_goesNight 2 none) 3 [.ref (z 0), .int 0] [(z 0, .inr (10, mo z 0 0 0 0 0 0 0 0 0 0 (-1) 0 0 0 0 0)), (z 1, aI V 3075 (upd (fun _ => 0) 52 p0))] 0 0 (QV V (fun (w : va_W) => (w = [(z 0, .inr (10, mo z 0 0 0 0 0 0 0 0 0 0 (-1) 0 0 0 0 0)), (z 1, aI V 3075 (upd (fun _ => 0) 52 (p0 + 1)))]))) := by
  refine Ct.of (by decide) (Nat.le_of_ble_eq_true rfl) (fun p e s m below meth c A ls hx hb hr hml hown hlk hnm hg hP hK hD hE hA hS hl => ?_)
  have hl : lv_has ls 2 [(0, .ref (z 0)), (1, .int 0)] := hl
  refine lv_aload_n hx hb dX10_goesNight_0 rfl (lv_at hl 0 rfl) ?_
  refine lv_aload_n hx hb dX10_goesNight_1 rfl (lv_at hl 0 rfl) ?_
  refine lv_aload_n hx hb dX10_goesNight_2 rfl (lv_at hl 0 rfl) ?_
  refine jnI (wr := []) (rnV (rest := [.ref (z 0), .ref (z 0)]) ⟨hx, hb, hml, hown, hg⟩ (c_X10_standNow_1 l V z p0) mt_X10_standNow q_7_11 ⟨Nat.le_of_ble_eq_true rfl, Nat.le_of_ble_eq_true rfl⟩ hK hP hD hS hA hE [0, 1] rfl rfl 0 rfl rfl rfl rfl hl.1 rfl (Nat.le_of_ble_eq_true rfl) dX10_goesNight_3 ⟨Nat.le_of_ble_eq_true rfl, Nat.le_of_ble_eq_true rfl⟩) hP hD hS hA [0, 1] [] rfl rfl rfl (by decide) (fun r_1 w H locs hw hP hD hS => ?_)
  obtain ⟨rfl, rfl⟩ := hw
  have hP : va_P V.1 vwCl [(z 0, .inr (10, mo z 0 0 0 0 0 0 0 0 0 0 (-1) 0 0 0 0 0)), (z 1, aI V 3075 (upd (fun _ => 0) 52 p0))] H := hP
  have hD : va_D A [(z 0, .inr (10, mo z 0 0 0 0 0 0 0 0 0 0 (-1) 0 0 0 0 0)), (z 1, aI V 3075 (upd (fun _ => 0) 52 p0))] := hD
  refine lv_iload_n hx hb dX10_goesNight_6 rfl (lv_at hl 1 rfl) ?_
  refine lv_aload_n hx hb dX10_goesNight_7 rfl (lv_at hl 0 rfl) ?_
  refine va_get (ci := 10) (v := .ref (z 1)) (C := RX10) (T := TX10) (N := 40) hx hb hg inX10 hown hK hP 0 rfl rfl 1 (by decide) (hg _ q_5_225) (fun _ h9 => h9) rfl dX10_goesNight_8 ?_
  refine lv_bipush (v := 51) hx hb dX10_goesNight_11 (by decide) ?_
  refine va_iald hx hb hK hP 1 0 rfl rfl (vin (by decide +kernel)) dX10_goesNight_13 ?_
  refine tpi (y := 0) (rfl) ?_
  refine jnI (wr := []) (rnV (rest := [.ref (z 0)]) ⟨hx, hb, hml, hown, hg⟩ (c_X10_nightTo_2 l V z p0) mt_X10_nightTo q_7_18 ⟨Nat.le_of_ble_eq_true rfl, Nat.le_of_ble_eq_true rfl⟩ hK hP hD hS hA hE [0, 1] rfl rfl 0 rfl rfl rfl rfl hl.1 rfl (Nat.le_of_ble_eq_true rfl) dX10_goesNight_14 ⟨Nat.le_of_ble_eq_true rfl, Nat.le_of_ble_eq_true rfl⟩) hP hD hS hA [0, 1] [] rfl rfl rfl (by decide) (fun r_2 w H locs hw hP hD hS => ?_)
  obtain ⟨rfl, rfl⟩ := hw
  have hP : va_P V.1 vwCl [(z 0, .inr (10, mo z 0 0 0 0 0 0 0 0 0 0 (-1) 0 0 0 0 0)), (z 1, aI V 3075 (upd (fun _ => 0) 52 p0))] H := hP
  have hD : va_D A [(z 0, .inr (10, mo z 0 0 0 0 0 0 0 0 0 0 (-1) 0 0 0 0 0)), (z 1, aI V 3075 (upd (fun _ => 0) 52 p0))] := hD
  refine jnV (wr := []) (rnV (rest := []) ⟨hx, hb, hml, hown, hg⟩ (c_X10_isStand_1 l V z p0) mt_X10_isStand q_7_68 ⟨Nat.le_of_ble_eq_true rfl, Nat.le_of_ble_eq_true rfl⟩ hK hP hD hS hA hE [0, 1] rfl rfl 0 rfl rfl rfl rfl hl.1 rfl (Nat.le_of_ble_eq_true rfl) dX10_goesNight_17 ⟨Nat.le_of_ble_eq_true rfl, Nat.le_of_ble_eq_true rfl⟩) hP hD hS hA [0, 1] [] rfl rfl rfl (by decide) (fun  w H locs hw hP hD hS => ?_)
  subst hw
  have hP : va_P V.1 vwCl [(z 0, .inr (10, mo z 0 0 0 0 0 0 0 0 0 0 (-1) 0 0 0 0 0)), (z 1, aI V 3075 (upd (fun _ => 0) 52 p0))] H := hP
  have hD : va_D A [(z 0, .inr (10, mo z 0 0 0 0 0 0 0 0 0 0 (-1) 0 0 0 0 0)), (z 1, aI V 3075 (upd (fun _ => 0) 52 p0))] := hD
  refine lv_aload_n hx hb dX10_goesNight_20 rfl (lv_at hl 0 rfl) ?_
  refine va_get (ci := 10) (v := .ref (z 1)) (C := RX10) (T := TX10) (N := 40) hx hb hg inX10 hown hK hP 0 rfl rfl 1 (by decide) (hg _ q_5_225) (fun _ h9 => h9) rfl dX10_goesNight_21 ?_
  refine lv_bipush (v := 52) hx hb dX10_goesNight_24 (by decide) ?_
  refine lv_dup2_11 hx hb dX10_goesNight_26 rfl rfl ?_
  refine va_iald hx hb hK hP 1 0 rfl rfl (vin (by decide +kernel)) dX10_goesNight_27 ?_
  refine tpi (y := p0) (rfl) ?_
  refine lv_iconst (v := 1) hx hb dX10_goesNight_28 (by decide) ?_
  refine lv_iadd hx hb dX10_goesNight_29 ?_
  refine va_iast hx hb hK hP hD hS 1 0 rfl rfl (vin (by decide +kernel)) dX10_goesNight_30 (fun H locs hP hD hS => ?_)
  have hP : va_P V.1 vwCl [(z 0, .inr (10, mo z 0 0 0 0 0 0 0 0 0 0 (-1) 0 0 0 0 0)), (z 1, aI V 3075 (upd (upd (fun _ => 0) 52 p0) 52 (p0 + 1)))] H := hP
  have hD : va_D A [(z 0, .inr (10, mo z 0 0 0 0 0 0 0 0 0 0 (-1) 0 0 0 0 0)), (z 1, aI V 3075 (upd (upd (fun _ => 0) 52 p0) 52 (p0 + 1)))] := hD
  have hP : va_P V.1 vwCl [(z 0, .inr (10, mo z 0 0 0 0 0 0 0 0 0 0 (-1) 0 0 0 0 0)), (z 1, aI V 3075 (upd (fun _ => 0) 52 (p0 + 1)))] H := by rw [updup] at hP; exact hP
  have hD : va_D A [(z 0, .inr (10, mo z 0 0 0 0 0 0 0 0 0 0 (-1) 0 0 0 0 0)), (z 1, aI V 3075 (upd (fun _ => 0) 52 (p0 + 1)))] := by rw [updup] at hD; exact hD
  exact fiV hx hb hr hlk hK hP hD hS dX10_goesNight_31 (Nat.le_of_ble_eq_true rfl) (Nat.le_of_ble_eq_true rfl) (rfl)
theorem dX10_nights_0 : decode cX10_nights 0 = .ok (.aload_n 0, 1) := by decide +kernel
theorem dX10_nights_1 : decode cX10_nights 1 = .ok (.iconst 0, 1) := by decide +kernel
theorem dX10_nights_2 : decode cX10_nights 2 = .ok (.putfield 1, 3) := by decide +kernel
theorem dX10_nights_5 : decode cX10_nights 5 = .ok (.iload_n 1, 1) := by decide +kernel
theorem dX10_nights_6 : decode cX10_nights 6 = .ok (.i2l, 1) := by decide +kernel
theorem dX10_nights_7 : decode cX10_nights 7 = .ok (.lconst 1, 1) := by decide +kernel
theorem q_7_80 : Cond.constantLong "BeaconDelayModel" 287 (99 : Int64) ∈ gw := gw_7 (i := 80) (by decide +kernel) rfl
theorem dX10_nights_8 : decode cX10_nights 8 = .ok (.ldc2_w 287, 3) := by decide +kernel
theorem dX10_nights_11 : decode cX10_nights 11 = .ok (.invokestatic 159, 3) := by decide +kernel
theorem dX10_nights_14 : decode cX10_nights 14 = .ok (.ifCond .ne 6, 3) := by decide +kernel
theorem dX10_nights_17 : decode cX10_nights 17 = .ok (.bipush (-3), 2) := by decide +kernel
theorem dX10_nights_19 : decode cX10_nights 19 = .ok (.ireturn, 1) := by decide +kernel
theorem dX10_nights_20 : decode cX10_nights 20 = .ok (.aload_n 0, 1) := by decide +kernel
theorem dX10_nights_21 : decode cX10_nights 21 = .ok (.invokevirtual 278, 3) := by decide +kernel
theorem dX10_nights_24 : decode cX10_nights 24 = .ok (.iconst 0, 1) := by decide +kernel
theorem dX10_nights_25 : decode cX10_nights 25 = .ok (.istore_n 2, 1) := by decide +kernel
theorem dX10_nights_26 : decode cX10_nights 26 = .ok (.iload_n 2, 1) := by decide +kernel
theorem dX10_nights_27 : decode cX10_nights 27 = .ok (.iload_n 1, 1) := by decide +kernel
theorem dX10_nights_28 : decode cX10_nights 28 = .ok (.if_icmp .ge 14, 3) := by decide +kernel
theorem dX10_nights_31 : decode cX10_nights 31 = .ok (.aload_n 0, 1) := by decide +kernel
theorem dX10_nights_32 : decode cX10_nights 32 = .ok (.iconst 0, 1) := by decide +kernel
theorem dX10_nights_33 : decode cX10_nights 33 = .ok (.invokevirtual 281, 3) := by decide +kernel
theorem dX10_nights_36 : decode cX10_nights 36 = .ok (.iinc 2 1, 3) := by decide +kernel
theorem dX10_nights_39 : decode cX10_nights 39 = .ok (.goto (-13), 3) := by decide +kernel
theorem dX10_nights_42 : decode cX10_nights 42 = .ok (.aload_n 0, 1) := by decide +kernel
theorem dX10_nights_43 : decode cX10_nights 43 = .ok (.invokevirtual 284, 3) := by decide +kernel
theorem dX10_nights_46 : decode cX10_nights 46 = .ok (.aload_n 0, 1) := by decide +kernel
theorem dX10_nights_47 : decode cX10_nights 47 = .ok (.getfield 13, 3) := by decide +kernel
theorem dX10_nights_50 : decode cX10_nights 50 = .ok (.bipush 50, 2) := by decide +kernel
theorem dX10_nights_52 : decode cX10_nights 52 = .ok (.iaload, 1) := by decide +kernel
theorem dX10_nights_53 : decode cX10_nights 53 = .ok (.ireturn, 1) := by decide +kernel
set_option maxHeartbeats 4000000 in
set_option maxRecDepth 100000 in
theorem c_X10_nights_0 (l : Launch) (V : GV) (z : Nat → Nat) (p0 : Int32) : Ct l V yX10_nights (.code yX10_nights cX10_nights 3 (some .int)) 4 [.ref (z 0), .int p0] [(z 0, .inr (10, mo z 0 0 0 0 0 0 0 0 0 0 (-1) 0 0 0 0 0)), (z 17, aI V 7 (fun _ => 0)), (z 1, aI V 3075 (fun _ => 0))] 0 0 (QI V (fun (r : Int32) (w : va_W) => (p0.toInt64 < 1 ∧ r = (-3) ∧ w = [(z 0, .inr (10, mo z 0 0 0 0 0 0 0 0 0 0 (-1) 0 0 0 0 0)), (z 17, aI V 7 (fun _ => 0)), (z 1, aI V 3075 (fun _ => 0))]) ∨ ((¬ p0.toInt64 < 1) ∧ 99 < p0.toInt64 ∧ r = (-3) ∧ w = [(z 0, .inr (10, mo z 0 0 0 0 0 0 0 0 0 0 (-1) 0 0 0 0 0)), (z 17, aI V 7 (fun _ => 0)), (z 1, aI V 3075 (fun _ => 0))]) ∨ (∃ (v_14 : Int32), (¬ p0.toInt64 < 1) ∧ (¬ 99 < p0.toInt64) ∧ r = 0 ∧ w = [(z 0, .inr (10, mo z 0 0 0 0 0 0 0 0 0 0 (-1) 0 0 0 0 0)), (z 17, aI V 7 (fun _ => 0)), (z 1, aI V 3075 (upd (upd (fun _ => 0) 52 v_14) 53 1))]))) := by
  refine Ct.of (by decide) (Nat.le_of_ble_eq_true rfl) (fun p e s m below meth c A ls hx hb hr hml hown hlk hnm hg hP hK hD hE hA hS hl => ?_)
  have hl : lv_has ls 3 [(0, .ref (z 0)), (1, .int p0)] := hl
  refine lv_aload_n hx hb dX10_nights_0 rfl (lv_at hl 0 rfl) ?_
  refine lv_iconst (v := 0) hx hb dX10_nights_1 (by decide) ?_
  refine va_put (ci := 10) (v := .int 0) (ty := .int) (C := RX10) (T := TX10) (N := 40) hx hb hg inX10 tyX10 tyX10_ok nmX10 hown hK hP hD hS 0 rfl rfl 0 (by decide) (hg _ q_5_224) (fun _ h9 => h9) rfl (by decide +kernel) rfl rfl (Nat.le_of_ble_eq_true rfl) dX10_nights_2 (fun H locs hP hD hS => ?_)
  have hP : va_P V.1 vwCl [(z 0, .inr (10, mo z 0 0 0 0 0 0 0 0 0 0 (-1) 0 0 0 0 0)), (z 17, aI V 7 (fun _ => 0)), (z 1, aI V 3075 (fun _ => 0))] H := hP
  have hD : va_D A [(z 0, .inr (10, mo z 0 0 0 0 0 0 0 0 0 0 (-1) 0 0 0 0 0)), (z 17, aI V 7 (fun _ => 0)), (z 1, aI V 3075 (fun _ => 0))] := hD
  refine lv_iload_n hx hb dX10_nights_5 rfl (lv_at hl 1 rfl) ?_
  refine lv_i2l (v := p0.toInt64) hx hb dX10_nights_6 rfl ?_
  refine lv_lconst (v := 1) hx hb dX10_nights_7 (by decide) ?_
  refine lv_ldc2 (v := 99) hx hb hown (hg _ q_7_80) dX10_nights_8 ?_
  refine jnI (wr := [(z 0, .inr (10, mo z 0 0 0 0 0 0 0 0 0 0 (-1) 0 0 0 0 0)), (z 17, aI V 7 (fun _ => 0)), (z 1, aI V 3075 (fun _ => 0))]) (rnS (rest := []) ⟨hx, hb, hml, hown, hg⟩ (c_X10_within_0 l V p0.toInt64 1 99) mt_X10_within q_6_114 ⟨Nat.le_of_ble_eq_true rfl, Nat.le_of_ble_eq_true rfl⟩ hK hP hD hS hA hE [] rfl rfl rfl hl.1 rfl (Nat.le_of_ble_eq_true rfl) dX10_nights_11 ⟨Nat.le_of_ble_eq_true rfl, Nat.le_of_ble_eq_true rfl⟩) hP hD hS hA [] [0, 1, 2] rfl rfl rfl (by decide) (fun r_1 w H locs hw hP hD hS => ?_)
  rcases hw with ⟨c_2, rfl, rfl⟩ | ⟨c_3, c_4, rfl, rfl⟩ | ⟨c_5, c_6, rfl, rfl⟩
  · have hP : va_P V.1 vwCl [(z 0, .inr (10, mo z 0 0 0 0 0 0 0 0 0 0 (-1) 0 0 0 0 0)), (z 17, aI V 7 (fun _ => 0)), (z 1, aI V 3075 (fun _ => 0))] H := hP
    have hD : va_D A [(z 0, .inr (10, mo z 0 0 0 0 0 0 0 0 0 0 (-1) 0 0 0 0 0)), (z 17, aI V 7 (fun _ => 0)), (z 1, aI V 3075 (fun _ => 0))] := hD
    refine lv_if_ne (tgt := 20) hx hb dX10_nights_14 (by decide) (fun c_7 => absurd c_7 (by decide)) (fun _ => ?_)
    refine lv_bipush (v := (-3)) hx hb dX10_nights_17 (by decide) ?_
    exact fiI hx hb hr hlk hK hP hD hS dX10_nights_19 (Nat.le_of_ble_eq_true rfl) (Nat.le_of_ble_eq_true rfl) (Or.inl ⟨c_2, rfl, rfl⟩)
  · have hP : va_P V.1 vwCl [(z 0, .inr (10, mo z 0 0 0 0 0 0 0 0 0 0 (-1) 0 0 0 0 0)), (z 17, aI V 7 (fun _ => 0)), (z 1, aI V 3075 (fun _ => 0))] H := hP
    have hD : va_D A [(z 0, .inr (10, mo z 0 0 0 0 0 0 0 0 0 0 (-1) 0 0 0 0 0)), (z 17, aI V 7 (fun _ => 0)), (z 1, aI V 3075 (fun _ => 0))] := hD
    refine lv_if_ne (tgt := 20) hx hb dX10_nights_14 (by decide) (fun c_8 => absurd c_8 (by decide)) (fun _ => ?_)
    refine lv_bipush (v := (-3)) hx hb dX10_nights_17 (by decide) ?_
    exact fiI hx hb hr hlk hK hP hD hS dX10_nights_19 (Nat.le_of_ble_eq_true rfl) (Nat.le_of_ble_eq_true rfl) (Or.inr (Or.inl ⟨c_3, c_4, rfl, rfl⟩))
  · have hP : va_P V.1 vwCl [(z 0, .inr (10, mo z 0 0 0 0 0 0 0 0 0 0 (-1) 0 0 0 0 0)), (z 17, aI V 7 (fun _ => 0)), (z 1, aI V 3075 (fun _ => 0))] H := hP
    have hD : va_D A [(z 0, .inr (10, mo z 0 0 0 0 0 0 0 0 0 0 (-1) 0 0 0 0 0)), (z 17, aI V 7 (fun _ => 0)), (z 1, aI V 3075 (fun _ => 0))] := hD
    refine lv_if_ne (tgt := 20) hx hb dX10_nights_14 (by decide) (fun _ => ?_) (fun c_9 => absurd c_9 (by decide))
    refine lv_aload_n hx hb dX10_nights_20 rfl (lv_at hl 0 rfl) ?_
    refine jnV (wr := []) (rnV (rest := []) ⟨hx, hb, hml, hown, hg⟩ (c_X10_stores_0 l V z) mt_X10_stores q_7_60 ⟨Nat.le_of_ble_eq_true rfl, Nat.le_of_ble_eq_true rfl⟩ hK hP hD hS hA hE [1, 0, 2] rfl rfl 0 rfl rfl rfl rfl hl.1 rfl (Nat.le_of_ble_eq_true rfl) dX10_nights_21 ⟨Nat.le_of_ble_eq_true rfl, Nat.le_of_ble_eq_true rfl⟩) hP hD hS hA [1, 0, 2] [] rfl rfl rfl (by decide) (fun  w H locs hw hP hD hS => ?_)
    subst hw
    have hP : va_P V.1 vwCl [(z 17, aI V 7 (fun _ => 0)), (z 0, .inr (10, mo z 0 0 0 0 0 0 0 0 0 0 (-1) 0 0 0 0 0)), (z 1, aI V 3075 (fun _ => 0))] H := hP
    have hD : va_D A [(z 17, aI V 7 (fun _ => 0)), (z 0, .inr (10, mo z 0 0 0 0 0 0 0 0 0 0 (-1) 0 0 0 0 0)), (z 1, aI V 3075 (fun _ => 0))] := hD
    refine lv_iconst (v := 0) hx hb dX10_nights_24 (by decide) ?_
    refine lv_istore_n (lv' := [(2, .int 0), (0, .ref (z 0)), (1, .int p0)]) hx hb dX10_nights_25 rfl hl (by decide) rfl (fun ls hl => ?_)
    refine lv_iload_n hx hb dX10_nights_26 rfl (lv_at hl 0 rfl) ?_
    refine lv_iload_n hx hb dX10_nights_27 rfl (lv_at hl 2 rfl) ?_
    refine lv_icmp_ge (tgt := 42) hx hb dX10_nights_28 (by decide) (fun c_10 => False.elim (by have c_11 : p0 ≤ 0 := c_10; exact (by simp only [tI_lt, tI_le, tI_eq, tL_lt, tL_le, tL_eq, tWx, (by decide : (0 : Int32).toInt = 0), (by decide : (1 : Int64).toInt = 1), (by decide : (99 : Int64).toInt = 99)] at c_5 c_6 c_11; omega))) (fun _ => ?_)
    refine lv_aload_n hx hb dX10_nights_31 rfl (lv_at hl 1 rfl) ?_
    refine lv_iconst (v := 0) hx hb dX10_nights_32 (by decide) ?_
    refine jnV (wr := [(z 17, aI V 7 (fun _ => 0))]) (rnV (rest := []) ⟨hx, hb, hml, hown, hg⟩ (c_X10_goesNight_1 l V z) mt_X10_goesNight q_7_64 ⟨Nat.le_of_ble_eq_true rfl, Nat.le_of_ble_eq_true rfl⟩ hK hP hD hS hA hE [1, 2] rfl rfl 1 rfl rfl rfl rfl hl.1 rfl (Nat.le_of_ble_eq_true rfl) dX10_nights_33 ⟨Nat.le_of_ble_eq_true rfl, Nat.le_of_ble_eq_true rfl⟩) hP hD hS hA [1, 2] [0] rfl rfl rfl (by decide) (fun  w H locs hw hP hD hS => ?_)
    subst hw
    have hP : va_P V.1 vwCl [(z 17, aI V 7 (fun _ => 0)), (z 0, .inr (10, mo z 0 0 0 0 0 0 0 0 0 0 (-1) 0 0 0 0 0)), (z 1, aI V 3075 (upd (fun _ => 0) 52 1))] H := hP
    have hD : va_D A [(z 17, aI V 7 (fun _ => 0)), (z 0, .inr (10, mo z 0 0 0 0 0 0 0 0 0 0 (-1) 0 0 0 0 0)), (z 1, aI V 3075 (upd (fun _ => 0) 52 1))] := hD
    refine lv_iinc (v := 1) (lv' := [(2, .int 1), (0, .ref (z 0)), (1, .int p0)]) hx hb dX10_nights_36 hl (k := 0) rfl (by decide +kernel) (by decide) rfl (fun ls hl => ?_)
    refine lv_goto (tgt := 26) hx hb dX10_nights_39 (by decide) ?_
    obtain ⟨N_12, lN_12, hN_12, rfl⟩ : ∃ j : Nat, 1 ≤ j ∧ j ≤ 99 ∧ p0 = nI j := natOf (M := 99) (by decide) (m := 1) (c := 1) (by decide) (by simp only [tI_lt, tI_le, tI_eq, tL_lt, tL_le, tL_eq, tWx, (by decide : (0 : Int32).toInt = 0), (by decide : (1 : Int32).toInt = 1), (by decide : (1 : Int64).toInt = 1), (by decide : (99 : Int32).toInt = 99), (by decide : (99 : Int64).toInt = 99)] at c_5 c_6 ⊢; omega) (by simp only [tI_lt, tI_le, tI_eq, tL_lt, tL_le, tL_eq, tWx, (by decide : (0 : Int32).toInt = 0), (by decide : (1 : Int32).toInt = 1), (by decide : (1 : Int64).toInt = 1), (by decide : (99 : Int32).toInt = 99), (by decide : (99 : Int64).toInt = 99)] at c_5 c_6 ⊢; omega)
    refine loopW N_12 (X := fun (i_13 : Nat) (H : Heap) (locs : List Loc) (ls : Array Slot) => ∃ (v_14 : Int32), 1 ≤ i_13 ∧ va_P V.1 vwCl [(z 17, aI V 7 (fun _ => 0)), (z 0, .inr (10, mo z 0 0 0 0 0 0 0 0 0 0 (-1) 0 0 0 0 0)), (z 1, aI V 3075 (upd (fun _ => 0) 52 v_14))] H ∧ va_D A [(z 17, aI V 7 (fun _ => 0)), (z 0, .inr (10, mo z 0 0 0 0 0 0 0 0 0 0 (-1) 0 0 0 0 0)), (z 1, aI V 3075 (upd (fun _ => 0) 52 v_14))] ∧ va_S A s.heap H locs ∧ lv_has ls 3 [(2, .int (nI i_13)), (0, .ref (z 0)), (1, .int (nI N_12))]) (g := fun ls => F0 m 26 ls []) (fun i_13 H locs ls hi_i_13 hX ih_i_13 => ?_) 1 (by omega) ⟨1, Nat.le_refl _, hP, hD, hS, lv_sub hl [0, 1, 2] rfl⟩
    obtain ⟨v_14, hlo_i_13, hP, hD, hS, hl⟩ := hX
    refine lv_iload_n hx hb dX10_nights_26 rfl (lv_at hl 0 rfl) ?_
    refine lv_iload_n hx hb dX10_nights_27 rfl (lv_at hl 2 rfl) ?_
    refine lv_icmp_ge (tgt := 42) hx hb dX10_nights_28 (by decide) (fun c_15 => ?_) (fun c_15 => ?_)
    · have e_16 : i_13 = N_12 := by have q9 := (nI_leI (a := N_12) (b := i_13) (by omega) (by omega)).mp c_15; omega
      rw [e_16] at hl
      have hl : lv_has ls 3 [(2, .int (nI N_12)), (0, .ref (z 0)), (1, .int (nI N_12))] := hl
      refine lv_aload_n hx hb dX10_nights_42 rfl (lv_at hl 1 rfl) ?_
      refine jnV (wr := []) (rnV (rest := []) ⟨hx, hb, hml, hown, hg⟩ (c_X10_notes_1 l V z v_14) mt_X10_notes q_7_72 ⟨Nat.le_of_ble_eq_true rfl, Nat.le_of_ble_eq_true rfl⟩ hK hP hD hS hA hE [0, 1, 2] rfl rfl 1 rfl rfl rfl rfl hl.1 rfl (Nat.le_of_ble_eq_true rfl) dX10_nights_43 ⟨Nat.le_of_ble_eq_true rfl, Nat.le_of_ble_eq_true rfl⟩) hP hD hS hA [0, 1, 2] [] rfl rfl rfl (by decide) (fun  w H locs hw hP hD hS => ?_)
      subst hw
      have hP : va_P V.1 vwCl [(z 17, aI V 7 (fun _ => 0)), (z 0, .inr (10, mo z 0 0 0 0 0 0 0 0 0 0 (-1) 0 0 0 0 0)), (z 1, aI V 3075 (upd (upd (fun _ => 0) 52 v_14) 53 1))] H := hP
      have hD : va_D A [(z 17, aI V 7 (fun _ => 0)), (z 0, .inr (10, mo z 0 0 0 0 0 0 0 0 0 0 (-1) 0 0 0 0 0)), (z 1, aI V 3075 (upd (upd (fun _ => 0) 52 v_14) 53 1))] := hD
      refine lv_aload_n hx hb dX10_nights_46 rfl (lv_at hl 1 rfl) ?_
      refine va_get (ci := 10) (v := .ref (z 1)) (C := RX10) (T := TX10) (N := 40) hx hb hg inX10 hown hK hP 1 rfl rfl 1 (by decide) (hg _ q_5_225) (fun _ h9 => h9) rfl dX10_nights_47 ?_
      refine lv_bipush (v := 50) hx hb dX10_nights_50 (by decide) ?_
      refine va_iald hx hb hK hP 2 0 rfl rfl (vin (by decide +kernel)) dX10_nights_52 ?_
      refine tpi (y := 0) (rfl) ?_
      have hP := subP (ws' := [(z 0, .inr (10, mo z 0 0 0 0 0 0 0 0 0 0 (-1) 0 0 0 0 0)), (z 17, aI V 7 (fun _ => 0)), (z 1, aI V 3075 (upd (upd (fun _ => 0) 52 v_14) 53 1))]) hP [1, 0, 2] rfl
      have hD := hD.sub (ws' := [(z 0, .inr (10, mo z 0 0 0 0 0 0 0 0 0 0 (-1) 0 0 0 0 0)), (z 17, aI V 7 (fun _ => 0)), (z 1, aI V 3075 (upd (upd (fun _ => 0) 52 v_14) 53 1))]) [1, 0, 2] rfl rfl
      exact fiI hx hb hr hlk hK hP hD hS dX10_nights_53 (Nat.le_of_ble_eq_true rfl) (Nat.le_of_ble_eq_true rfl) (Or.inr (Or.inr (⟨v_14, c_5, c_6, rfl, rfl⟩)))
    · have e_16 : i_13 < N_12 := by rcases Nat.lt_or_ge i_13 N_12 with q9 | q9; exact q9; exact absurd (nI_le q9 (by omega)) c_15
      refine lv_aload_n hx hb dX10_nights_31 rfl (lv_at hl 1 rfl) ?_
      refine lv_iconst (v := 0) hx hb dX10_nights_32 (by decide) ?_
      refine jnV (wr := [(z 17, aI V 7 (fun _ => 0))]) (rnV (rest := []) ⟨hx, hb, hml, hown, hg⟩ (c_X10_goesNight_2 l V z v_14) mt_X10_goesNight q_7_64 ⟨Nat.le_of_ble_eq_true rfl, Nat.le_of_ble_eq_true rfl⟩ hK hP hD hS hA hE [1, 2] rfl rfl 1 rfl rfl rfl rfl hl.1 rfl (Nat.le_of_ble_eq_true rfl) dX10_nights_33 ⟨Nat.le_of_ble_eq_true rfl, Nat.le_of_ble_eq_true rfl⟩) hP hD hS hA [1, 2] [0] rfl rfl rfl (by decide) (fun  w H locs hw hP hD hS => ?_)
      subst hw
      have hP : va_P V.1 vwCl [(z 17, aI V 7 (fun _ => 0)), (z 0, .inr (10, mo z 0 0 0 0 0 0 0 0 0 0 (-1) 0 0 0 0 0)), (z 1, aI V 3075 (upd (fun _ => 0) 52 (v_14 + 1)))] H := hP
      have hD : va_D A [(z 17, aI V 7 (fun _ => 0)), (z 0, .inr (10, mo z 0 0 0 0 0 0 0 0 0 0 (-1) 0 0 0 0 0)), (z 1, aI V 3075 (upd (fun _ => 0) 52 (v_14 + 1)))] := hD
      refine lv_iinc (v := nI (i_13 + 1)) (lv' := [(2, .int (nI (i_13 + 1))), (0, .ref (z 0)), (1, .int (nI N_12))]) hx hb dX10_nights_36 hl (k := 0) rfl (nI_add i_13 1) (by decide) rfl (fun ls hl => ?_)
      refine lv_goto (tgt := 26) hx hb dX10_nights_39 (by decide) ?_
      exact ih_i_13 e_16 _ _ _ ⟨(v_14 + 1), (by omega), hP, hD, hS, lv_sub hl [0, 1, 2] rfl⟩
set_option maxHeartbeats 4000000 in
set_option maxRecDepth 100000 in
theorem c_X9_isNight_1 (l : Launch) (V : GV) (y : Nat → Nat) : Ct l V yX9_isNight (.code yX9_isNight cX9_isNight 3 (some .boolean)) 1 [.ref (y 0), .long 0] [] 0 0 (QI V (fun (r : Int32) (w : va_W) => (r = 1 ∧ w = []))) := by
  refine Ct.of (by decide) (Nat.le_of_ble_eq_true rfl) (fun p e s m below meth c A ls hx hb hr hml hown hlk hnm hg hP hK hD hE hA hS hl => ?_)
  have hl : lv_has ls 3 [(0, .ref (y 0)), (1, .long 0)] := hl
  refine lv_lload_n hx hb dX9_isNight_0 rfl (lv_at hl 1 rfl) ?_
  refine lv_lconst (v := 0) hx hb dX9_isNight_1 (by decide) ?_
  refine W.lcmp hx hb dX9_isNight_2 ?_
  refine lv_if_eq (tgt := 25) hx hb dX9_isNight_3 (by decide) (fun _ => ?_) (fun c_1 => absurd (fun z => c_1 ((lg_cmp_eq _ _).mpr z)) (by decide))
  refine lv_iconst (v := 1) hx hb dX9_isNight_25 (by decide) ?_
  refine lv_goto (tgt := 30) hx hb dX9_isNight_26 (by decide) ?_
  exact fiZ rfl hx hb hr hlk hK hP hD hS dX9_isNight_30 (Nat.le_of_ble_eq_true rfl) (Nat.le_of_ble_eq_true rfl) (⟨rfl, rfl⟩)
set_option maxHeartbeats 4000000 in
set_option maxRecDepth 100000 in
theorem c_X4_behind_1 (l : Launch) (V : GV) (y : Nat → Nat) : Ct l V yX4_behind (.code yX4_behind cX4_behind 9 (some .int)) 1 [.ref (y 19), .int 0, .int 0, .int 0] [(y 2, .inr (1, [.int 0, .int 0, .int 0, .int 0, .int 0, .int 0, .ref (y 3), .ref (y 4), .ref (y 5), .ref (y 6), .ref (y 7), .ref (y 8), .ref (y 9), .int 0, .int 0, .int 0, .int 0, .int 0])), (y 19, .inr (4, [.ref (y 2), .ref (y 20), .ref (y 21), .ref (y 22), .ref (y 23), .ref (y 24)]))] 0 0 (QI V (fun (r : Int32) (w : va_W) => (r = 0 ∧ w = [(y 2, .inr (1, [.int 0, .int 0, .int 0, .int 0, .int 0, .int 0, .ref (y 3), .ref (y 4), .ref (y 5), .ref (y 6), .ref (y 7), .ref (y 8), .ref (y 9), .int 0, .int 0, .int 0, .int 0, .int 0])), (y 19, .inr (4, [.ref (y 2), .ref (y 20), .ref (y 21), .ref (y 22), .ref (y 23), .ref (y 24)]))]))) := by
  refine Ct.of (by decide) (Nat.le_of_ble_eq_true rfl) (fun p e s m below meth c A ls hx hb hr hml hown hlk hnm hg hP hK hD hE hA hS hl => ?_)
  have hl : lv_has ls 9 [(0, .ref (y 19)), (1, .int 0), (2, .int 0), (3, .int 0)] := hl
  refine lv_iconst (v := 0) hx hb dX4_behind_0 (by decide) ?_
  refine lv_istore (lv' := [(4, .int 0), (0, .ref (y 19)), (1, .int 0), (2, .int 0), (3, .int 0)]) hx hb dX4_behind_1 hl (by decide) rfl (fun ls hl => ?_)
  refine lv_iconst (v := 0) hx hb dX4_behind_3 (by decide) ?_
  refine lv_istore (lv' := [(5, .int 0), (4, .int 0), (0, .ref (y 19)), (1, .int 0), (2, .int 0), (3, .int 0)]) hx hb dX4_behind_4 hl (by decide) rfl (fun ls hl => ?_)
  refine lv_iconst (v := 0) hx hb dX4_behind_6 (by decide) ?_
  refine lv_istore (lv' := [(6, .int 0), (5, .int 0), (4, .int 0), (0, .ref (y 19)), (1, .int 0), (2, .int 0), (3, .int 0)]) hx hb dX4_behind_7 hl (by decide) rfl (fun ls hl => ?_)
  refine lv_iload hx hb dX4_behind_9 (lv_at hl 0 rfl) ?_
  refine lv_aload_n hx hb dX4_behind_11 rfl (lv_at hl 3 rfl) ?_
  refine va_get (ci := 4) (v := .ref (y 2)) (C := RX4) (T := TX4) (N := 6) hx hb hg inX4 hown hK hP 1 rfl rfl 0 (by decide) (hg _ q_1_171) (fun _ h9 => h9) rfl dX4_behind_12 ?_
  refine va_get (ci := 1) (v := .int 0) (C := RX1) (T := TX1) (N := 18) hx hb hg inX1 hown hK hP 0 rfl rfl 1 (by decide) (hg _ q_1_39) (fun _ h9 => h9) rfl dX4_behind_15 ?_
  refine lv_icmp_ge (tgt := 89) hx hb dX4_behind_18 (by decide) (fun _ => ?_) (fun c_1 => absurd c_1 (by decide))
  refine lv_iload hx hb dX4_behind_89 (lv_at hl 2 rfl) ?_
  exact fiI hx hb hr hlk hK hP hD hS dX4_behind_91 (Nat.le_of_ble_eq_true rfl) (Nat.le_of_ble_eq_true rfl) (⟨rfl, rfl⟩)
set_option maxHeartbeats 4000000 in
set_option maxRecDepth 100000 in
theorem c_X9_tryDeed_1 (l : Launch) (V : GV) (y : Nat → Nat) (p0 : Int32) : Ct l V yX9_tryDeed (.code yX9_tryDeed cX9_tryDeed 4 (some .int)) 2 [.ref (y 0), .long 0] [(y 0, .inr (9, [.ref (y 1), .int 0, .ref (y 2), .ref (y 10), .ref (y 19), .ref (y 25), .ref (y 26), .ref (y 30), .ref (y 31), .ref (y 32), .null, .null, .int 0, .int 0, .int p0])), (y 2, .inr (1, [.int 0, .int 0, .int 0, .int 0, .int 0, .int 0, .ref (y 3), .ref (y 4), .ref (y 5), .ref (y 6), .ref (y 7), .ref (y 8), .ref (y 9), .int 0, .int 0, .int 0, .int 0, .int 0])), (y 19, .inr (4, [.ref (y 2), .ref (y 20), .ref (y 21), .ref (y 22), .ref (y 23), .ref (y 24)]))] 0 0 (QI V (fun (r : Int32) (w : va_W) => (r = 0 ∧ w = [(y 0, .inr (9, [.ref (y 1), .int 0, .ref (y 2), .ref (y 10), .ref (y 19), .ref (y 25), .ref (y 26), .ref (y 30), .ref (y 31), .ref (y 32), .null, .null, .int 0, .int 0, .int (p0 + 1)])), (y 2, .inr (1, [.int 0, .int 0, .int 0, .int 0, .int 0, .int 0, .ref (y 3), .ref (y 4), .ref (y 5), .ref (y 6), .ref (y 7), .ref (y 8), .ref (y 9), .int 0, .int 0, .int 0, .int 0, .int 0])), (y 19, .inr (4, [.ref (y 2), .ref (y 20), .ref (y 21), .ref (y 22), .ref (y 23), .ref (y 24)]))]))) := by
  refine Ct.of (by decide) (Nat.le_of_ble_eq_true rfl) (fun p e s m below meth c A ls hx hb hr hml hown hlk hnm hg hP hK hD hE hA hS hl => ?_)
  have hl : lv_has ls 4 [(0, .ref (y 0)), (1, .long 0)] := hl
  refine lv_lload_n hx hb dX9_tryDeed_0 rfl (lv_at hl 1 rfl) ?_
  refine lv_ldc2 (v := 10) hx hb hown (hg _ q_3_189) dX9_tryDeed_1 ?_
  refine W.lcmp hx hb dX9_tryDeed_4 ?_
  refine lv_if_lt (tgt := 41) hx hb dX9_tryDeed_5 (by decide) (fun _ => ?_) (fun c_1 => absurd (fun z => c_1 ((lg_cmp_lt _ _).mpr z)) (by decide))
  refine lv_lload_n hx hb dX9_tryDeed_41 rfl (lv_at hl 1 rfl) ?_
  refine lv_ldc2 (v := 20) hx hb hown (hg _ q_3_199) dX9_tryDeed_42 ?_
  refine W.lcmp hx hb dX9_tryDeed_45 ?_
  refine lv_if_lt (tgt := 68) hx hb dX9_tryDeed_46 (by decide) (fun _ => ?_) (fun c_2 => absurd (fun z => c_2 ((lg_cmp_lt _ _).mpr z)) (by decide))
  refine lv_aload_n hx hb dX9_tryDeed_68 rfl (lv_at hl 0 rfl) ?_
  refine lv_lload_n hx hb dX9_tryDeed_69 rfl (lv_at hl 1 rfl) ?_
  refine jnI (wr := [(y 0, .inr (9, [.ref (y 1), .int 0, .ref (y 2), .ref (y 10), .ref (y 19), .ref (y 25), .ref (y 26), .ref (y 30), .ref (y 31), .ref (y 32), .null, .null, .int 0, .int 0, .int p0])), (y 2, .inr (1, [.int 0, .int 0, .int 0, .int 0, .int 0, .int 0, .ref (y 3), .ref (y 4), .ref (y 5), .ref (y 6), .ref (y 7), .ref (y 8), .ref (y 9), .int 0, .int 0, .int 0, .int 0, .int 0])), (y 19, .inr (4, [.ref (y 2), .ref (y 20), .ref (y 21), .ref (y 22), .ref (y 23), .ref (y 24)]))]) (rnV (rest := []) ⟨hx, hb, hml, hown, hg⟩ (c_X9_isNight_1 l V y) mt_X9_isNight q_3_141 ⟨Nat.le_of_ble_eq_true rfl, Nat.le_of_ble_eq_true rfl⟩ hK hP hD hS hA hE [] rfl rfl 0 rfl rfl rfl rfl hl.1 rfl (Nat.le_of_ble_eq_true rfl) dX9_tryDeed_70 ⟨Nat.le_of_ble_eq_true rfl, Nat.le_of_ble_eq_true rfl⟩) hP hD hS hA [] [0, 1, 2] rfl rfl rfl (by decide) (fun r_3 w H locs hw hP hD hS => ?_)
  obtain ⟨rfl, rfl⟩ := hw
  have hP : va_P V.1 vwCl [(y 0, .inr (9, [.ref (y 1), .int 0, .ref (y 2), .ref (y 10), .ref (y 19), .ref (y 25), .ref (y 26), .ref (y 30), .ref (y 31), .ref (y 32), .null, .null, .int 0, .int 0, .int p0])), (y 2, .inr (1, [.int 0, .int 0, .int 0, .int 0, .int 0, .int 0, .ref (y 3), .ref (y 4), .ref (y 5), .ref (y 6), .ref (y 7), .ref (y 8), .ref (y 9), .int 0, .int 0, .int 0, .int 0, .int 0])), (y 19, .inr (4, [.ref (y 2), .ref (y 20), .ref (y 21), .ref (y 22), .ref (y 23), .ref (y 24)]))] H := hP
  have hD : va_D A [(y 0, .inr (9, [.ref (y 1), .int 0, .ref (y 2), .ref (y 10), .ref (y 19), .ref (y 25), .ref (y 26), .ref (y 30), .ref (y 31), .ref (y 32), .null, .null, .int 0, .int 0, .int p0])), (y 2, .inr (1, [.int 0, .int 0, .int 0, .int 0, .int 0, .int 0, .ref (y 3), .ref (y 4), .ref (y 5), .ref (y 6), .ref (y 7), .ref (y 8), .ref (y 9), .int 0, .int 0, .int 0, .int 0, .int 0])), (y 19, .inr (4, [.ref (y 2), .ref (y 20), .ref (y 21), .ref (y 22), .ref (y 23), .ref (y 24)]))] := hD
  refine lv_if_ne (tgt := 78) hx hb dX9_tryDeed_73 (by decide) (fun _ => ?_) (fun c_4 => absurd c_4 (by decide))
  refine lv_aload_n hx hb dX9_tryDeed_78 rfl (lv_at hl 0 rfl) ?_
  refine lv_aload_n hx hb dX9_tryDeed_79 rfl (lv_at hl 0 rfl) ?_
  refine va_get (ci := 9) (v := .ref (y 19)) (C := RX9) (T := TX9) (N := 15) hx hb hg inX9 hown hK hP 0 rfl rfl 4 (by decide) (hg _ q_2_40) (fun _ h9 => h9) rfl dX9_tryDeed_80 ?_
  refine lv_aload_n hx hb dX9_tryDeed_83 rfl (lv_at hl 0 rfl) ?_
  refine va_get (ci := 9) (v := .int 0) (C := RX9) (T := TX9) (N := 15) hx hb hg inX9 hown hK hP 0 rfl rfl 12 (by decide) (hg _ q_2_48) (fun _ h9 => h9) rfl dX9_tryDeed_84 ?_
  refine lv_aload_n hx hb dX9_tryDeed_87 rfl (lv_at hl 0 rfl) ?_
  refine va_get (ci := 9) (v := .int 0) (C := RX9) (T := TX9) (N := 15) hx hb hg inX9 hown hK hP 0 rfl rfl 13 (by decide) (hg _ q_2_49) (fun _ h9 => h9) rfl dX9_tryDeed_88 ?_
  refine lv_lload_n hx hb dX9_tryDeed_91 rfl (lv_at hl 1 rfl) ?_
  refine lv_l2i (v := 0) hx hb dX9_tryDeed_92 (by decide +kernel) ?_
  refine jnI (wr := [(y 0, .inr (9, [.ref (y 1), .int 0, .ref (y 2), .ref (y 10), .ref (y 19), .ref (y 25), .ref (y 26), .ref (y 30), .ref (y 31), .ref (y 32), .null, .null, .int 0, .int 0, .int p0]))]) (rnV (rest := [.ref (y 0)]) ⟨hx, hb, hml, hown, hg⟩ (c_X4_behind_1 l V y) mt_X4_behind q_3_145 ⟨Nat.le_of_ble_eq_true rfl, Nat.le_of_ble_eq_true rfl⟩ hK hP hD hS hA hE [1, 2] rfl rfl 2 rfl rfl rfl rfl hl.1 rfl (Nat.le_of_ble_eq_true rfl) dX9_tryDeed_93 ⟨Nat.le_of_ble_eq_true rfl, Nat.le_of_ble_eq_true rfl⟩) hP hD hS hA [1, 2] [0] rfl rfl rfl (by decide) (fun r_5 w H locs hw hP hD hS => ?_)
  obtain ⟨rfl, rfl⟩ := hw
  have hP : va_P V.1 vwCl [(y 0, .inr (9, [.ref (y 1), .int 0, .ref (y 2), .ref (y 10), .ref (y 19), .ref (y 25), .ref (y 26), .ref (y 30), .ref (y 31), .ref (y 32), .null, .null, .int 0, .int 0, .int p0])), (y 2, .inr (1, [.int 0, .int 0, .int 0, .int 0, .int 0, .int 0, .ref (y 3), .ref (y 4), .ref (y 5), .ref (y 6), .ref (y 7), .ref (y 8), .ref (y 9), .int 0, .int 0, .int 0, .int 0, .int 0])), (y 19, .inr (4, [.ref (y 2), .ref (y 20), .ref (y 21), .ref (y 22), .ref (y 23), .ref (y 24)]))] H := hP
  have hD : va_D A [(y 0, .inr (9, [.ref (y 1), .int 0, .ref (y 2), .ref (y 10), .ref (y 19), .ref (y 25), .ref (y 26), .ref (y 30), .ref (y 31), .ref (y 32), .null, .null, .int 0, .int 0, .int p0])), (y 2, .inr (1, [.int 0, .int 0, .int 0, .int 0, .int 0, .int 0, .ref (y 3), .ref (y 4), .ref (y 5), .ref (y 6), .ref (y 7), .ref (y 8), .ref (y 9), .int 0, .int 0, .int 0, .int 0, .int 0])), (y 19, .inr (4, [.ref (y 2), .ref (y 20), .ref (y 21), .ref (y 22), .ref (y 23), .ref (y 24)]))] := hD
  refine va_put (ci := 9) (v := .int 0) (ty := .int) (C := RX9) (T := TX9) (N := 15) hx hb hg inX9 tyX9 tyX9_ok nmX9 hown hK hP hD hS 0 rfl rfl 12 (by decide) (hg _ q_2_48) (fun _ h9 => h9) rfl (by decide +kernel) rfl rfl (Nat.le_of_ble_eq_true rfl) dX9_tryDeed_96 (fun H locs hP hD hS => ?_)
  have hP : va_P V.1 vwCl [(y 0, .inr (9, [.ref (y 1), .int 0, .ref (y 2), .ref (y 10), .ref (y 19), .ref (y 25), .ref (y 26), .ref (y 30), .ref (y 31), .ref (y 32), .null, .null, .int 0, .int 0, .int p0])), (y 2, .inr (1, [.int 0, .int 0, .int 0, .int 0, .int 0, .int 0, .ref (y 3), .ref (y 4), .ref (y 5), .ref (y 6), .ref (y 7), .ref (y 8), .ref (y 9), .int 0, .int 0, .int 0, .int 0, .int 0])), (y 19, .inr (4, [.ref (y 2), .ref (y 20), .ref (y 21), .ref (y 22), .ref (y 23), .ref (y 24)]))] H := hP
  have hD : va_D A [(y 0, .inr (9, [.ref (y 1), .int 0, .ref (y 2), .ref (y 10), .ref (y 19), .ref (y 25), .ref (y 26), .ref (y 30), .ref (y 31), .ref (y 32), .null, .null, .int 0, .int 0, .int p0])), (y 2, .inr (1, [.int 0, .int 0, .int 0, .int 0, .int 0, .int 0, .ref (y 3), .ref (y 4), .ref (y 5), .ref (y 6), .ref (y 7), .ref (y 8), .ref (y 9), .int 0, .int 0, .int 0, .int 0, .int 0])), (y 19, .inr (4, [.ref (y 2), .ref (y 20), .ref (y 21), .ref (y 22), .ref (y 23), .ref (y 24)]))] := hD
  refine lv_aload_n hx hb dX9_tryDeed_99 rfl (lv_at hl 0 rfl) ?_
  refine lv_dup hx hb dX9_tryDeed_100 rfl ?_
  refine va_get (ci := 9) (v := .int p0) (C := RX9) (T := TX9) (N := 15) hx hb hg inX9 hown hK hP 0 rfl rfl 14 (by decide) (hg _ q_2_50) (fun _ h9 => h9) rfl dX9_tryDeed_101 ?_
  refine lv_iconst (v := 1) hx hb dX9_tryDeed_104 (by decide) ?_
  refine lv_iadd hx hb dX9_tryDeed_105 ?_
  refine va_put (ci := 9) (v := .int (p0 + 1)) (ty := .int) (C := RX9) (T := TX9) (N := 15) hx hb hg inX9 tyX9 tyX9_ok nmX9 hown hK hP hD hS 0 rfl rfl 14 (by decide) (hg _ q_2_50) (fun _ h9 => h9) rfl (by decide +kernel) rfl rfl (Nat.le_of_ble_eq_true rfl) dX9_tryDeed_106 (fun H locs hP hD hS => ?_)
  have hP : va_P V.1 vwCl [(y 0, .inr (9, [.ref (y 1), .int 0, .ref (y 2), .ref (y 10), .ref (y 19), .ref (y 25), .ref (y 26), .ref (y 30), .ref (y 31), .ref (y 32), .null, .null, .int 0, .int 0, .int (p0 + 1)])), (y 2, .inr (1, [.int 0, .int 0, .int 0, .int 0, .int 0, .int 0, .ref (y 3), .ref (y 4), .ref (y 5), .ref (y 6), .ref (y 7), .ref (y 8), .ref (y 9), .int 0, .int 0, .int 0, .int 0, .int 0])), (y 19, .inr (4, [.ref (y 2), .ref (y 20), .ref (y 21), .ref (y 22), .ref (y 23), .ref (y 24)]))] H := hP
  have hD : va_D A [(y 0, .inr (9, [.ref (y 1), .int 0, .ref (y 2), .ref (y 10), .ref (y 19), .ref (y 25), .ref (y 26), .ref (y 30), .ref (y 31), .ref (y 32), .null, .null, .int 0, .int 0, .int (p0 + 1)])), (y 2, .inr (1, [.int 0, .int 0, .int 0, .int 0, .int 0, .int 0, .ref (y 3), .ref (y 4), .ref (y 5), .ref (y 6), .ref (y 7), .ref (y 8), .ref (y 9), .int 0, .int 0, .int 0, .int 0, .int 0])), (y 19, .inr (4, [.ref (y 2), .ref (y 20), .ref (y 21), .ref (y 22), .ref (y 23), .ref (y 24)]))] := hD
  refine lv_iconst (v := 0) hx hb dX9_tryDeed_109 (by decide) ?_
  exact fiI hx hb hr hlk hK hP hD hS dX9_tryDeed_110 (Nat.le_of_ble_eq_true rfl) (Nat.le_of_ble_eq_true rfl) (⟨rfl, rfl⟩)
theorem dX9_nights_0 : decode cX9_nights 0 = .ok (.iload_n 1, 1) := by decide +kernel
theorem dX9_nights_1 : decode cX9_nights 1 = .ok (.iconst 1, 1) := by decide +kernel
theorem dX9_nights_2 : decode cX9_nights 2 = .ok (.if_icmp .lt 9, 3) := by decide +kernel
theorem dX9_nights_11 : decode cX9_nights 11 = .ok (.bipush (-3), 2) := by decide +kernel
theorem dX9_nights_13 : decode cX9_nights 13 = .ok (.ireturn, 1) := by decide +kernel
theorem dX9_nights_5 : decode cX9_nights 5 = .ok (.iload_n 1, 1) := by decide +kernel
theorem dX9_nights_6 : decode cX9_nights 6 = .ok (.bipush 99, 2) := by decide +kernel
theorem dX9_nights_8 : decode cX9_nights 8 = .ok (.if_icmp .le 6, 3) := by decide +kernel
theorem dX9_nights_14 : decode cX9_nights 14 = .ok (.aload_n 0, 1) := by decide +kernel
theorem dX9_nights_15 : decode cX9_nights 15 = .ok (.getfield 48, 3) := by decide +kernel
theorem dX9_nights_18 : decode cX9_nights 18 = .ok (.aload_n 0, 1) := by decide +kernel
theorem dX9_nights_19 : decode cX9_nights 19 = .ok (.getfield 113, 3) := by decide +kernel
theorem dX9_nights_22 : decode cX9_nights 22 = .ok (.aload_n 0, 1) := by decide +kernel
theorem dX9_nights_23 : decode cX9_nights 23 = .ok (.getfield 116, 3) := by decide +kernel
theorem dX9_nights_26 : decode cX9_nights 26 = .ok (.aload_n 0, 1) := by decide +kernel
theorem dX9_nights_27 : decode cX9_nights 27 = .ok (.getfield 119, 3) := by decide +kernel
theorem dX9_nights_30 : decode cX9_nights 30 = .ok (.invokevirtual 165, 3) := by decide +kernel
theorem dX9_nights_33 : decode cX9_nights 33 = .ok (.iconst 0, 1) := by decide +kernel
theorem dX9_nights_34 : decode cX9_nights 34 = .ok (.istore_n 2, 1) := by decide +kernel
theorem dX9_nights_35 : decode cX9_nights 35 = .ok (.iload_n 2, 1) := by decide +kernel
theorem dX9_nights_36 : decode cX9_nights 36 = .ok (.iload_n 1, 1) := by decide +kernel
theorem dX9_nights_37 : decode cX9_nights 37 = .ok (.if_icmp .ge 15, 3) := by decide +kernel
theorem dX9_nights_52 : decode cX9_nights 52 = .ok (.aload_n 0, 1) := by decide +kernel
theorem dX9_nights_53 : decode cX9_nights 53 = .ok (.getfield 113, 3) := by decide +kernel
theorem dX9_nights_56 : decode cX9_nights 56 = .ok (.invokestatic 173, 3) := by decide +kernel
theorem dX9_nights_59 : decode cX9_nights 59 = .ok (.ireturn, 1) := by decide +kernel
theorem dX9_nights_40 : decode cX9_nights 40 = .ok (.aload_n 0, 1) := by decide +kernel
theorem dX9_nights_41 : decode cX9_nights 41 = .ok (.lconst 0, 1) := by decide +kernel
theorem dX9_nights_42 : decode cX9_nights 42 = .ok (.invokevirtual 169, 3) := by decide +kernel
theorem dX9_nights_45 : decode cX9_nights 45 = .ok (.pop, 1) := by decide +kernel
theorem dX9_nights_46 : decode cX9_nights 46 = .ok (.iinc 2 1, 3) := by decide +kernel
theorem dX9_nights_49 : decode cX9_nights 49 = .ok (.goto (-14), 3) := by decide +kernel
set_option maxHeartbeats 4000000 in
set_option maxRecDepth 100000 in
theorem c_X9_nights_0 (l : Launch) (V : GV) (y : Nat → Nat) (p0 : Int32) : Ct l V yX9_nights (.code yX9_nights cX9_nights 3 (some .int)) 3 [.ref (y 0), .int p0] [(y 0, .inr (9, [.ref (y 1), .int 0, .ref (y 2), .ref (y 10), .ref (y 19), .ref (y 25), .ref (y 26), .ref (y 30), .ref (y 31), .ref (y 32), .null, .null, .int 0, .int 0, .int 0])), (y 2, .inr (1, [.int 0, .int 0, .int 0, .int 0, .int 0, .int 0, .ref (y 3), .ref (y 4), .ref (y 5), .ref (y 6), .ref (y 7), .ref (y 8), .ref (y 9), .int 0, .int 0, .int 0, .int 0, .int 0])), (y 19, .inr (4, [.ref (y 2), .ref (y 20), .ref (y 21), .ref (y 22), .ref (y 23), .ref (y 24)])), (y 26, .inr (5, [.ref (y 27), .ref (y 28), .ref (y 29), .int 0])), (y 27, aI V 10 (fun _ => 0)), (y 28, aI V 10 (fun _ => 0)), (y 29, aI V 10 (fun _ => 0))] 0 0 (QI V (fun (r : Int32) (w : va_W) => (p0 < 1 ∧ r = (-3) ∧ w = [(y 0, .inr (9, [.ref (y 1), .int 0, .ref (y 2), .ref (y 10), .ref (y 19), .ref (y 25), .ref (y 26), .ref (y 30), .ref (y 31), .ref (y 32), .null, .null, .int 0, .int 0, .int 0])), (y 2, .inr (1, [.int 0, .int 0, .int 0, .int 0, .int 0, .int 0, .ref (y 3), .ref (y 4), .ref (y 5), .ref (y 6), .ref (y 7), .ref (y 8), .ref (y 9), .int 0, .int 0, .int 0, .int 0, .int 0])), (y 19, .inr (4, [.ref (y 2), .ref (y 20), .ref (y 21), .ref (y 22), .ref (y 23), .ref (y 24)])), (y 26, .inr (5, [.ref (y 27), .ref (y 28), .ref (y 29), .int 0])), (y 27, aI V 10 (fun _ => 0)), (y 28, aI V 10 (fun _ => 0)), (y 29, aI V 10 (fun _ => 0))]) ∨ ((¬ p0 < 1) ∧ (¬ p0 ≤ 99) ∧ r = (-3) ∧ w = [(y 0, .inr (9, [.ref (y 1), .int 0, .ref (y 2), .ref (y 10), .ref (y 19), .ref (y 25), .ref (y 26), .ref (y 30), .ref (y 31), .ref (y 32), .null, .null, .int 0, .int 0, .int 0])), (y 2, .inr (1, [.int 0, .int 0, .int 0, .int 0, .int 0, .int 0, .ref (y 3), .ref (y 4), .ref (y 5), .ref (y 6), .ref (y 7), .ref (y 8), .ref (y 9), .int 0, .int 0, .int 0, .int 0, .int 0])), (y 19, .inr (4, [.ref (y 2), .ref (y 20), .ref (y 21), .ref (y 22), .ref (y 23), .ref (y 24)])), (y 26, .inr (5, [.ref (y 27), .ref (y 28), .ref (y 29), .int 0])), (y 27, aI V 10 (fun _ => 0)), (y 28, aI V 10 (fun _ => 0)), (y 29, aI V 10 (fun _ => 0))]) ∨ (∃ (v_5 : Int32), (¬ p0 < 1) ∧ p0 ≤ 99 ∧ r = 0 ∧ w = [(y 0, .inr (9, [.ref (y 1), .int 0, .ref (y 2), .ref (y 10), .ref (y 19), .ref (y 25), .ref (y 26), .ref (y 30), .ref (y 31), .ref (y 32), .null, .null, .int 0, .int 0, .int v_5])), (y 2, .inr (1, [.int 0, .int 0, .int 0, .int 0, .int 0, .int 0, .ref (y 3), .ref (y 4), .ref (y 5), .ref (y 6), .ref (y 7), .ref (y 8), .ref (y 9), .int 0, .int 0, .int 0, .int 0, .int 0])), (y 19, .inr (4, [.ref (y 2), .ref (y 20), .ref (y 21), .ref (y 22), .ref (y 23), .ref (y 24)])), (y 26, .inr (5, [.ref (y 27), .ref (y 28), .ref (y 29), .int 1])), (y 27, aI V 10 (fun _ => 0)), (y 28, aI V 10 (fun _ => 0)), (y 29, aI V 10 (fun _ => 0))]))) := by
  refine Ct.of (by decide) (Nat.le_of_ble_eq_true rfl) (fun p e s m below meth c A ls hx hb hr hml hown hlk hnm hg hP hK hD hE hA hS hl => ?_)
  have hl : lv_has ls 3 [(0, .ref (y 0)), (1, .int p0)] := hl
  refine lv_iload_n hx hb dX9_nights_0 rfl (lv_at hl 1 rfl) ?_
  refine lv_iconst (v := 1) hx hb dX9_nights_1 (by decide) ?_
  refine lv_icmp_lt (tgt := 11) hx hb dX9_nights_2 (by decide) (fun c_1 => ?_) (fun c_1 => ?_)
  · refine lv_bipush (v := (-3)) hx hb dX9_nights_11 (by decide) ?_
    exact fiI hx hb hr hlk hK hP hD hS dX9_nights_13 (Nat.le_of_ble_eq_true rfl) (Nat.le_of_ble_eq_true rfl) (Or.inl ⟨c_1, rfl, rfl⟩)
  · refine lv_iload_n hx hb dX9_nights_5 rfl (lv_at hl 1 rfl) ?_
    refine lv_bipush (v := 99) hx hb dX9_nights_6 (by decide) ?_
    refine lv_icmp_le (tgt := 14) hx hb dX9_nights_8 (by decide) (fun c_2 => ?_) (fun c_2 => ?_)
    · refine lv_aload_n hx hb dX9_nights_14 rfl (lv_at hl 0 rfl) ?_
      refine va_get (ci := 9) (v := .ref (y 26)) (C := RX9) (T := TX9) (N := 15) hx hb hg inX9 hown hK hP 0 rfl rfl 6 (by decide) (hg _ q_2_42) (fun _ h9 => h9) rfl dX9_nights_15 ?_
      refine lv_aload_n hx hb dX9_nights_18 rfl (lv_at hl 0 rfl) ?_
      refine va_get (ci := 9) (v := .int 0) (C := RX9) (T := TX9) (N := 15) hx hb hg inX9 hown hK hP 0 rfl rfl 12 (by decide) (hg _ q_2_48) (fun _ h9 => h9) rfl dX9_nights_19 ?_
      refine lv_aload_n hx hb dX9_nights_22 rfl (lv_at hl 0 rfl) ?_
      refine va_get (ci := 9) (v := .int 0) (C := RX9) (T := TX9) (N := 15) hx hb hg inX9 hown hK hP 0 rfl rfl 13 (by decide) (hg _ q_2_49) (fun _ h9 => h9) rfl dX9_nights_23 ?_
      refine lv_aload_n hx hb dX9_nights_26 rfl (lv_at hl 0 rfl) ?_
      refine va_get (ci := 9) (v := .int 0) (C := RX9) (T := TX9) (N := 15) hx hb hg inX9 hown hK hP 0 rfl rfl 14 (by decide) (hg _ q_2_50) (fun _ h9 => h9) rfl dX9_nights_27 ?_
      refine jnV (wr := [(y 0, .inr (9, [.ref (y 1), .int 0, .ref (y 2), .ref (y 10), .ref (y 19), .ref (y 25), .ref (y 26), .ref (y 30), .ref (y 31), .ref (y 32), .null, .null, .int 0, .int 0, .int 0])), (y 2, .inr (1, [.int 0, .int 0, .int 0, .int 0, .int 0, .int 0, .ref (y 3), .ref (y 4), .ref (y 5), .ref (y 6), .ref (y 7), .ref (y 8), .ref (y 9), .int 0, .int 0, .int 0, .int 0, .int 0])), (y 19, .inr (4, [.ref (y 2), .ref (y 20), .ref (y 21), .ref (y 22), .ref (y 23), .ref (y 24)]))]) (rnV (rest := []) ⟨hx, hb, hml, hown, hg⟩ (c_X5_keep_0 l V y) mt_X5_keep q_3_177 ⟨Nat.le_of_ble_eq_true rfl, Nat.le_of_ble_eq_true rfl⟩ hK hP hD hS hA hE [3, 4, 5, 6] rfl rfl 3 rfl rfl rfl rfl hl.1 rfl (Nat.le_of_ble_eq_true rfl) dX9_nights_30 ⟨Nat.le_of_ble_eq_true rfl, Nat.le_of_ble_eq_true rfl⟩) hP hD hS hA [3, 4, 5, 6] [0, 1, 2] rfl rfl rfl (by decide) (fun  w H locs hw hP hD hS => ?_)
      subst hw
      have hP : va_P V.1 vwCl [(y 0, .inr (9, [.ref (y 1), .int 0, .ref (y 2), .ref (y 10), .ref (y 19), .ref (y 25), .ref (y 26), .ref (y 30), .ref (y 31), .ref (y 32), .null, .null, .int 0, .int 0, .int 0])), (y 2, .inr (1, [.int 0, .int 0, .int 0, .int 0, .int 0, .int 0, .ref (y 3), .ref (y 4), .ref (y 5), .ref (y 6), .ref (y 7), .ref (y 8), .ref (y 9), .int 0, .int 0, .int 0, .int 0, .int 0])), (y 19, .inr (4, [.ref (y 2), .ref (y 20), .ref (y 21), .ref (y 22), .ref (y 23), .ref (y 24)])), (y 26, .inr (5, [.ref (y 27), .ref (y 28), .ref (y 29), .int 1])), (y 27, aI V 10 (fun _ => 0)), (y 28, aI V 10 (fun _ => 0)), (y 29, aI V 10 (fun _ => 0))] H := hP
      have hD : va_D A [(y 0, .inr (9, [.ref (y 1), .int 0, .ref (y 2), .ref (y 10), .ref (y 19), .ref (y 25), .ref (y 26), .ref (y 30), .ref (y 31), .ref (y 32), .null, .null, .int 0, .int 0, .int 0])), (y 2, .inr (1, [.int 0, .int 0, .int 0, .int 0, .int 0, .int 0, .ref (y 3), .ref (y 4), .ref (y 5), .ref (y 6), .ref (y 7), .ref (y 8), .ref (y 9), .int 0, .int 0, .int 0, .int 0, .int 0])), (y 19, .inr (4, [.ref (y 2), .ref (y 20), .ref (y 21), .ref (y 22), .ref (y 23), .ref (y 24)])), (y 26, .inr (5, [.ref (y 27), .ref (y 28), .ref (y 29), .int 1])), (y 27, aI V 10 (fun _ => 0)), (y 28, aI V 10 (fun _ => 0)), (y 29, aI V 10 (fun _ => 0))] := hD
      refine lv_iconst (v := 0) hx hb dX9_nights_33 (by decide) ?_
      refine lv_istore_n (lv' := [(2, .int 0), (0, .ref (y 0)), (1, .int p0)]) hx hb dX9_nights_34 rfl hl (by decide) rfl (fun ls hl => ?_)
      obtain ⟨N_3, lN_3, hN_3, rfl⟩ : ∃ j : Nat, 1 ≤ j ∧ j ≤ 99 ∧ p0 = nI j := natOf (M := 99) (by decide) (m := 1) (c := 1) (by decide) (by simp only [tI_lt, tI_le, tI_eq, tL_lt, tL_le, tL_eq, tWx, (by decide : (0 : Int32).toInt = 0), (by decide : (1 : Int32).toInt = 1), (by decide : (99 : Int32).toInt = 99)] at c_1 c_2 ⊢; omega) (by simp only [tI_lt, tI_le, tI_eq, tL_lt, tL_le, tL_eq, tWx, (by decide : (0 : Int32).toInt = 0), (by decide : (1 : Int32).toInt = 1), (by decide : (99 : Int32).toInt = 99)] at c_1 c_2 ⊢; omega)
      refine loopW N_3 (X := fun (i_4 : Nat) (H : Heap) (locs : List Loc) (ls : Array Slot) => ∃ (v_5 : Int32), 0 ≤ i_4 ∧ va_P V.1 vwCl [(y 0, .inr (9, [.ref (y 1), .int 0, .ref (y 2), .ref (y 10), .ref (y 19), .ref (y 25), .ref (y 26), .ref (y 30), .ref (y 31), .ref (y 32), .null, .null, .int 0, .int 0, .int v_5])), (y 2, .inr (1, [.int 0, .int 0, .int 0, .int 0, .int 0, .int 0, .ref (y 3), .ref (y 4), .ref (y 5), .ref (y 6), .ref (y 7), .ref (y 8), .ref (y 9), .int 0, .int 0, .int 0, .int 0, .int 0])), (y 19, .inr (4, [.ref (y 2), .ref (y 20), .ref (y 21), .ref (y 22), .ref (y 23), .ref (y 24)])), (y 26, .inr (5, [.ref (y 27), .ref (y 28), .ref (y 29), .int 1])), (y 27, aI V 10 (fun _ => 0)), (y 28, aI V 10 (fun _ => 0)), (y 29, aI V 10 (fun _ => 0))] H ∧ va_D A [(y 0, .inr (9, [.ref (y 1), .int 0, .ref (y 2), .ref (y 10), .ref (y 19), .ref (y 25), .ref (y 26), .ref (y 30), .ref (y 31), .ref (y 32), .null, .null, .int 0, .int 0, .int v_5])), (y 2, .inr (1, [.int 0, .int 0, .int 0, .int 0, .int 0, .int 0, .ref (y 3), .ref (y 4), .ref (y 5), .ref (y 6), .ref (y 7), .ref (y 8), .ref (y 9), .int 0, .int 0, .int 0, .int 0, .int 0])), (y 19, .inr (4, [.ref (y 2), .ref (y 20), .ref (y 21), .ref (y 22), .ref (y 23), .ref (y 24)])), (y 26, .inr (5, [.ref (y 27), .ref (y 28), .ref (y 29), .int 1])), (y 27, aI V 10 (fun _ => 0)), (y 28, aI V 10 (fun _ => 0)), (y 29, aI V 10 (fun _ => 0))] ∧ va_S A s.heap H locs ∧ lv_has ls 3 [(2, .int (nI i_4)), (0, .ref (y 0)), (1, .int (nI N_3))]) (g := fun ls => F0 m 35 ls []) (fun i_4 H locs ls hi_i_4 hX ih_i_4 => ?_) 0 (by omega) ⟨0, Nat.le_refl _, hP, hD, hS, lv_sub hl [0, 1, 2] rfl⟩
      obtain ⟨v_5, hlo_i_4, hP, hD, hS, hl⟩ := hX
      refine lv_iload_n hx hb dX9_nights_35 rfl (lv_at hl 0 rfl) ?_
      refine lv_iload_n hx hb dX9_nights_36 rfl (lv_at hl 2 rfl) ?_
      refine lv_icmp_ge (tgt := 52) hx hb dX9_nights_37 (by decide) (fun c_6 => ?_) (fun c_6 => ?_)
      · have e_7 : i_4 = N_3 := by have q9 := (nI_leI (a := N_3) (b := i_4) (by omega) (by omega)).mp c_6; omega
        rw [e_7] at hl
        have hl : lv_has ls 3 [(2, .int (nI N_3)), (0, .ref (y 0)), (1, .int (nI N_3))] := hl
        refine lv_aload_n hx hb dX9_nights_52 rfl (lv_at hl 1 rfl) ?_
        refine va_get (ci := 9) (v := .int 0) (C := RX9) (T := TX9) (N := 15) hx hb hg inX9 hown hK hP 0 rfl rfl 12 (by decide) (hg _ q_2_48) (fun _ h9 => h9) rfl dX9_nights_53 ?_
        refine jnI (wr := [(y 0, .inr (9, [.ref (y 1), .int 0, .ref (y 2), .ref (y 10), .ref (y 19), .ref (y 25), .ref (y 26), .ref (y 30), .ref (y 31), .ref (y 32), .null, .null, .int 0, .int 0, .int v_5])), (y 2, .inr (1, [.int 0, .int 0, .int 0, .int 0, .int 0, .int 0, .ref (y 3), .ref (y 4), .ref (y 5), .ref (y 6), .ref (y 7), .ref (y 8), .ref (y 9), .int 0, .int 0, .int 0, .int 0, .int 0])), (y 19, .inr (4, [.ref (y 2), .ref (y 20), .ref (y 21), .ref (y 22), .ref (y 23), .ref (y 24)])), (y 26, .inr (5, [.ref (y 27), .ref (y 28), .ref (y 29), .int 1])), (y 27, aI V 10 (fun _ => 0)), (y 28, aI V 10 (fun _ => 0)), (y 29, aI V 10 (fun _ => 0))]) (rnS (rest := []) ⟨hx, hb, hml, hown, hg⟩ (c_X9_tookBits_0 l V) mt_X9_tookBits q_3_201 ⟨Nat.le_of_ble_eq_true rfl, Nat.le_of_ble_eq_true rfl⟩ hK hP hD hS hA hE [] rfl rfl rfl hl.1 rfl (Nat.le_of_ble_eq_true rfl) dX9_nights_56 ⟨Nat.le_of_ble_eq_true rfl, Nat.le_of_ble_eq_true rfl⟩) hP hD hS hA [] [0, 1, 2, 3, 4, 5, 6] rfl rfl rfl (by decide) (fun r_8 w H locs hw hP hD hS => ?_)
        obtain ⟨rfl, rfl⟩ := hw
        have hP : va_P V.1 vwCl [(y 0, .inr (9, [.ref (y 1), .int 0, .ref (y 2), .ref (y 10), .ref (y 19), .ref (y 25), .ref (y 26), .ref (y 30), .ref (y 31), .ref (y 32), .null, .null, .int 0, .int 0, .int v_5])), (y 2, .inr (1, [.int 0, .int 0, .int 0, .int 0, .int 0, .int 0, .ref (y 3), .ref (y 4), .ref (y 5), .ref (y 6), .ref (y 7), .ref (y 8), .ref (y 9), .int 0, .int 0, .int 0, .int 0, .int 0])), (y 19, .inr (4, [.ref (y 2), .ref (y 20), .ref (y 21), .ref (y 22), .ref (y 23), .ref (y 24)])), (y 26, .inr (5, [.ref (y 27), .ref (y 28), .ref (y 29), .int 1])), (y 27, aI V 10 (fun _ => 0)), (y 28, aI V 10 (fun _ => 0)), (y 29, aI V 10 (fun _ => 0))] H := hP
        have hD : va_D A [(y 0, .inr (9, [.ref (y 1), .int 0, .ref (y 2), .ref (y 10), .ref (y 19), .ref (y 25), .ref (y 26), .ref (y 30), .ref (y 31), .ref (y 32), .null, .null, .int 0, .int 0, .int v_5])), (y 2, .inr (1, [.int 0, .int 0, .int 0, .int 0, .int 0, .int 0, .ref (y 3), .ref (y 4), .ref (y 5), .ref (y 6), .ref (y 7), .ref (y 8), .ref (y 9), .int 0, .int 0, .int 0, .int 0, .int 0])), (y 19, .inr (4, [.ref (y 2), .ref (y 20), .ref (y 21), .ref (y 22), .ref (y 23), .ref (y 24)])), (y 26, .inr (5, [.ref (y 27), .ref (y 28), .ref (y 29), .int 1])), (y 27, aI V 10 (fun _ => 0)), (y 28, aI V 10 (fun _ => 0)), (y 29, aI V 10 (fun _ => 0))] := hD
        exact fiI hx hb hr hlk hK hP hD hS dX9_nights_59 (Nat.le_of_ble_eq_true rfl) (Nat.le_of_ble_eq_true rfl) (Or.inr (Or.inr (⟨v_5, c_1, c_2, rfl, rfl⟩)))
      · have e_7 : i_4 < N_3 := by rcases Nat.lt_or_ge i_4 N_3 with q9 | q9; exact q9; exact absurd (nI_le q9 (by omega)) c_6
        refine lv_aload_n hx hb dX9_nights_40 rfl (lv_at hl 1 rfl) ?_
        refine lv_lconst (v := 0) hx hb dX9_nights_41 (by decide) ?_
        refine jnI (wr := [(y 26, .inr (5, [.ref (y 27), .ref (y 28), .ref (y 29), .int 1])), (y 27, aI V 10 (fun _ => 0)), (y 28, aI V 10 (fun _ => 0)), (y 29, aI V 10 (fun _ => 0))]) (rnV (rest := []) ⟨hx, hb, hml, hown, hg⟩ (c_X9_tryDeed_1 l V y v_5) mt_X9_tryDeed q_3_185 ⟨Nat.le_of_ble_eq_true rfl, Nat.le_of_ble_eq_true rfl⟩ hK hP hD hS hA hE [0, 1, 2] rfl rfl 0 rfl rfl rfl rfl hl.1 rfl (Nat.le_of_ble_eq_true rfl) dX9_nights_42 ⟨Nat.le_of_ble_eq_true rfl, Nat.le_of_ble_eq_true rfl⟩) hP hD hS hA [0, 1, 2] [3, 4, 5, 6] rfl rfl rfl (by decide) (fun r_9 w H locs hw hP hD hS => ?_)
        obtain ⟨rfl, rfl⟩ := hw
        have hP : va_P V.1 vwCl [(y 26, .inr (5, [.ref (y 27), .ref (y 28), .ref (y 29), .int 1])), (y 27, aI V 10 (fun _ => 0)), (y 28, aI V 10 (fun _ => 0)), (y 29, aI V 10 (fun _ => 0)), (y 0, .inr (9, [.ref (y 1), .int 0, .ref (y 2), .ref (y 10), .ref (y 19), .ref (y 25), .ref (y 26), .ref (y 30), .ref (y 31), .ref (y 32), .null, .null, .int 0, .int 0, .int (v_5 + 1)])), (y 2, .inr (1, [.int 0, .int 0, .int 0, .int 0, .int 0, .int 0, .ref (y 3), .ref (y 4), .ref (y 5), .ref (y 6), .ref (y 7), .ref (y 8), .ref (y 9), .int 0, .int 0, .int 0, .int 0, .int 0])), (y 19, .inr (4, [.ref (y 2), .ref (y 20), .ref (y 21), .ref (y 22), .ref (y 23), .ref (y 24)]))] H := hP
        have hD : va_D A [(y 26, .inr (5, [.ref (y 27), .ref (y 28), .ref (y 29), .int 1])), (y 27, aI V 10 (fun _ => 0)), (y 28, aI V 10 (fun _ => 0)), (y 29, aI V 10 (fun _ => 0)), (y 0, .inr (9, [.ref (y 1), .int 0, .ref (y 2), .ref (y 10), .ref (y 19), .ref (y 25), .ref (y 26), .ref (y 30), .ref (y 31), .ref (y 32), .null, .null, .int 0, .int 0, .int (v_5 + 1)])), (y 2, .inr (1, [.int 0, .int 0, .int 0, .int 0, .int 0, .int 0, .ref (y 3), .ref (y 4), .ref (y 5), .ref (y 6), .ref (y 7), .ref (y 8), .ref (y 9), .int 0, .int 0, .int 0, .int 0, .int 0])), (y 19, .inr (4, [.ref (y 2), .ref (y 20), .ref (y 21), .ref (y 22), .ref (y 23), .ref (y 24)]))] := hD
        refine lv_pop hx hb dX9_nights_45 rfl ?_
        refine lv_iinc (v := nI (i_4 + 1)) (lv' := [(2, .int (nI (i_4 + 1))), (0, .ref (y 0)), (1, .int (nI N_3))]) hx hb dX9_nights_46 hl (k := 0) rfl (nI_add i_4 1) (by decide) rfl (fun ls hl => ?_)
        refine lv_goto (tgt := 35) hx hb dX9_nights_49 (by decide) ?_
        have hP := subP (ws' := [(y 0, .inr (9, [.ref (y 1), .int 0, .ref (y 2), .ref (y 10), .ref (y 19), .ref (y 25), .ref (y 26), .ref (y 30), .ref (y 31), .ref (y 32), .null, .null, .int 0, .int 0, .int (v_5 + 1)])), (y 2, .inr (1, [.int 0, .int 0, .int 0, .int 0, .int 0, .int 0, .ref (y 3), .ref (y 4), .ref (y 5), .ref (y 6), .ref (y 7), .ref (y 8), .ref (y 9), .int 0, .int 0, .int 0, .int 0, .int 0])), (y 19, .inr (4, [.ref (y 2), .ref (y 20), .ref (y 21), .ref (y 22), .ref (y 23), .ref (y 24)])), (y 26, .inr (5, [.ref (y 27), .ref (y 28), .ref (y 29), .int 1])), (y 27, aI V 10 (fun _ => 0)), (y 28, aI V 10 (fun _ => 0)), (y 29, aI V 10 (fun _ => 0))]) hP [4, 5, 6, 0, 1, 2, 3] rfl
        have hD := hD.sub (ws' := [(y 0, .inr (9, [.ref (y 1), .int 0, .ref (y 2), .ref (y 10), .ref (y 19), .ref (y 25), .ref (y 26), .ref (y 30), .ref (y 31), .ref (y 32), .null, .null, .int 0, .int 0, .int (v_5 + 1)])), (y 2, .inr (1, [.int 0, .int 0, .int 0, .int 0, .int 0, .int 0, .ref (y 3), .ref (y 4), .ref (y 5), .ref (y 6), .ref (y 7), .ref (y 8), .ref (y 9), .int 0, .int 0, .int 0, .int 0, .int 0])), (y 19, .inr (4, [.ref (y 2), .ref (y 20), .ref (y 21), .ref (y 22), .ref (y 23), .ref (y 24)])), (y 26, .inr (5, [.ref (y 27), .ref (y 28), .ref (y 29), .int 1])), (y 27, aI V 10 (fun _ => 0)), (y 28, aI V 10 (fun _ => 0)), (y 29, aI V 10 (fun _ => 0))]) [4, 5, 6, 0, 1, 2, 3] rfl rfl
        exact ih_i_4 e_7 _ _ _ ⟨(v_5 + 1), (by omega), hP, hD, hS, lv_sub hl [0, 1, 2] rfl⟩
    · refine lv_bipush (v := (-3)) hx hb dX9_nights_11 (by decide) ?_
      exact fiI hx hb hr hlk hK hP hD hS dX9_nights_13 (Nat.le_of_ble_eq_true rfl) (Nat.le_of_ble_eq_true rfl) (Or.inr (Or.inl ⟨c_1, c_2, rfl, rfl⟩))
theorem dX10_whySteal_0 : decode cX10_whySteal 0 = .ok (.aload_n 0, 1) := by decide +kernel
theorem dX10_whySteal_1 : decode cX10_whySteal 1 = .ok (.lload_n 1, 1) := by decide +kernel
theorem dX10_whySteal_2 : decode cX10_whySteal 2 = .ok (.invokevirtual 262, 3) := by decide +kernel
theorem dX10_whySteal_5 : decode cX10_whySteal 5 = .ok (.ifCond .ne 7, 3) := by decide +kernel
theorem dX10_whySteal_8 : decode cX10_whySteal 8 = .ok (.iconst 1, 1) := by decide +kernel
theorem dX10_whySteal_9 : decode cX10_whySteal 9 = .ok (.goto 21, 3) := by decide +kernel
theorem dX10_whySteal_30 : decode cX10_whySteal 30 = .ok (.ireturn, 1) := by decide +kernel
set_option maxHeartbeats 4000000 in
set_option maxRecDepth 100000 in
theorem c_X10_whySteal_0 (l : Launch) (V : GV) (z : Nat → Nat) (j0 : Int64) : Ct l V yX10_whySteal (.code yX10_whySteal cX10_whySteal 3 (some .int)) 3 [.ref (z 0), .long j0] [(z 0, .inr (10, mo z 0 0 0 0 0 0 0 0 0 0 (-1) 0 0 0 0 0)), (z 1, aI V 3075 (fun _ => 0))] 0 0 (QI V (fun (r : Int32) (w : va_W) => (r = 1 ∧ w = [(z 0, .inr (10, mo z 0 0 0 0 0 0 0 0 0 0 (-1) 0 0 0 0 0)), (z 1, aI V 3075 (fun _ => 0))]))) := by
  refine Ct.of (by decide) (Nat.le_of_ble_eq_true rfl) (fun p e s m below meth c A ls hx hb hr hml hown hlk hnm hg hP hK hD hE hA hS hl => ?_)
  have hl : lv_has ls 3 [(0, .ref (z 0)), (1, .long j0)] := hl
  refine lv_aload_n hx hb dX10_whySteal_0 rfl (lv_at hl 0 rfl) ?_
  refine lv_lload_n hx hb dX10_whySteal_1 rfl (lv_at hl 1 rfl) ?_
  refine jnI (wr := []) (rnV (rest := []) ⟨hx, hb, hml, hown, hg⟩ (c_X10_isHill_0 l V z j0) mt_X10_isHill q_6_235 ⟨Nat.le_of_ble_eq_true rfl, Nat.le_of_ble_eq_true rfl⟩ hK hP hD hS hA hE [0, 1] rfl rfl 0 rfl rfl rfl rfl hl.1 rfl (Nat.le_of_ble_eq_true rfl) dX10_whySteal_2 ⟨Nat.le_of_ble_eq_true rfl, Nat.le_of_ble_eq_true rfl⟩) hP hD hS hA [0, 1] [] rfl rfl rfl (by decide) (fun r_1 w H locs hw hP hD hS => ?_)
  obtain ⟨rfl, rfl⟩ := hw
  have hP : va_P V.1 vwCl [(z 0, .inr (10, mo z 0 0 0 0 0 0 0 0 0 0 (-1) 0 0 0 0 0)), (z 1, aI V 3075 (fun _ => 0))] H := hP
  have hD : va_D A [(z 0, .inr (10, mo z 0 0 0 0 0 0 0 0 0 0 (-1) 0 0 0 0 0)), (z 1, aI V 3075 (fun _ => 0))] := hD
  refine lv_if_ne (tgt := 12) hx hb dX10_whySteal_5 (by decide) (fun c_2 => absurd c_2 (by decide)) (fun _ => ?_)
  refine lv_iconst (v := 1) hx hb dX10_whySteal_8 (by decide) ?_
  refine lv_goto (tgt := 30) hx hb dX10_whySteal_9 (by decide) ?_
  exact fiI hx hb hr hlk hK hP hD hS dX10_whySteal_30 (Nat.le_of_ble_eq_true rfl) (Nat.le_of_ble_eq_true rfl) (⟨rfl, rfl⟩)
theorem dX10_steal_0 : decode cX10_steal 0 = .ok (.aload_n 0, 1) := by decide +kernel
theorem dX10_steal_1 : decode cX10_steal 1 = .ok (.iconst 0, 1) := by decide +kernel
theorem dX10_steal_2 : decode cX10_steal 2 = .ok (.putfield 1, 3) := by decide +kernel
theorem dX10_steal_5 : decode cX10_steal 5 = .ok (.aload_n 0, 1) := by decide +kernel
theorem dX10_steal_6 : decode cX10_steal 6 = .ok (.iload_n 1, 1) := by decide +kernel
theorem dX10_steal_7 : decode cX10_steal 7 = .ok (.i2l, 1) := by decide +kernel
theorem q_7_88 : Cond.code yX10_whySteal prog_12_method_62_code 3 (some FieldType.int) ∈ gw := gw_7 (i := 88) (rfl) rfl
theorem q_7_87 : Cond.instanceMethod yX10_whySteal ∈ gw := gw_7 (i := 87) (by decide +kernel) rfl
theorem q_s_91 : Cond.selects "BeaconDelayModel" yX10_whySteal yX10_whySteal ∈ gw := gw_s (i := 91) (by decide +kernel) rfl
theorem mt_X10_whySteal : MtV yX10_whySteal cX10_whySteal 3 (some .int) 1 := ⟨⟨q_7_88, q_1_9, by decide +kernel, by decide +kernel, by decide +kernel⟩, q_7_87, q_s_91⟩
theorem q_7_85 : Cond.methodLink "BeaconDelayModel" 289 yX10_whySteal ∈ gw := gw_7 (i := 85) (by decide +kernel) rfl
theorem dX10_steal_8 : decode cX10_steal 8 = .ok (.invokevirtual 289, 3) := by decide +kernel
theorem dX10_steal_11 : decode cX10_steal 11 = .ok (.istore_n 2, 1) := by decide +kernel
theorem dX10_steal_12 : decode cX10_steal 12 = .ok (.iload_n 2, 1) := by decide +kernel
theorem dX10_steal_13 : decode cX10_steal 13 = .ok (.ifCond .eq 8, 3) := by decide +kernel
theorem dX10_steal_16 : decode cX10_steal 16 = .ok (.bipush (-10), 2) := by decide +kernel
theorem dX10_steal_18 : decode cX10_steal 18 = .ok (.iload_n 2, 1) := by decide +kernel
theorem dX10_steal_19 : decode cX10_steal 19 = .ok (.isub, 1) := by decide +kernel
theorem dX10_steal_20 : decode cX10_steal 20 = .ok (.ireturn, 1) := by decide +kernel
set_option maxHeartbeats 4000000 in
set_option maxRecDepth 100000 in
theorem c_X10_steal_0 (l : Launch) (V : GV) (z : Nat → Nat) (p0 : Int32) : Ct l V yX10_steal (.code yX10_steal cX10_steal 3 (some .int)) 4 [.ref (z 0), .int p0] [(z 0, .inr (10, mo z 0 0 0 0 0 0 0 0 0 0 (-1) 0 0 0 0 0)), (z 1, aI V 3075 (fun _ => 0))] 0 0 (QI V (fun (r : Int32) (w : va_W) => (r = (-11) ∧ w = [(z 0, .inr (10, mo z 0 0 0 0 0 0 0 0 0 0 (-1) 0 0 0 0 0)), (z 1, aI V 3075 (fun _ => 0))]))) := by
  refine Ct.of (by decide) (Nat.le_of_ble_eq_true rfl) (fun p e s m below meth c A ls hx hb hr hml hown hlk hnm hg hP hK hD hE hA hS hl => ?_)
  have hl : lv_has ls 3 [(0, .ref (z 0)), (1, .int p0)] := hl
  refine lv_aload_n hx hb dX10_steal_0 rfl (lv_at hl 0 rfl) ?_
  refine lv_iconst (v := 0) hx hb dX10_steal_1 (by decide) ?_
  refine va_put (ci := 10) (v := .int 0) (ty := .int) (C := RX10) (T := TX10) (N := 40) hx hb hg inX10 tyX10 tyX10_ok nmX10 hown hK hP hD hS 0 rfl rfl 0 (by decide) (hg _ q_5_224) (fun _ h9 => h9) rfl (by decide +kernel) rfl rfl (Nat.le_of_ble_eq_true rfl) dX10_steal_2 (fun H locs hP hD hS => ?_)
  have hP : va_P V.1 vwCl [(z 0, .inr (10, mo z 0 0 0 0 0 0 0 0 0 0 (-1) 0 0 0 0 0)), (z 1, aI V 3075 (fun _ => 0))] H := hP
  have hD : va_D A [(z 0, .inr (10, mo z 0 0 0 0 0 0 0 0 0 0 (-1) 0 0 0 0 0)), (z 1, aI V 3075 (fun _ => 0))] := hD
  refine lv_aload_n hx hb dX10_steal_5 rfl (lv_at hl 0 rfl) ?_
  refine lv_iload_n hx hb dX10_steal_6 rfl (lv_at hl 1 rfl) ?_
  refine lv_i2l (v := p0.toInt64) hx hb dX10_steal_7 rfl ?_
  refine jnI (wr := []) (rnV (rest := []) ⟨hx, hb, hml, hown, hg⟩ (c_X10_whySteal_0 l V z p0.toInt64) mt_X10_whySteal q_7_85 ⟨Nat.le_of_ble_eq_true rfl, Nat.le_of_ble_eq_true rfl⟩ hK hP hD hS hA hE [0, 1] rfl rfl 0 rfl rfl rfl rfl hl.1 rfl (Nat.le_of_ble_eq_true rfl) dX10_steal_8 ⟨Nat.le_of_ble_eq_true rfl, Nat.le_of_ble_eq_true rfl⟩) hP hD hS hA [0, 1] [] rfl rfl rfl (by decide) (fun r_1 w H locs hw hP hD hS => ?_)
  obtain ⟨rfl, rfl⟩ := hw
  have hP : va_P V.1 vwCl [(z 0, .inr (10, mo z 0 0 0 0 0 0 0 0 0 0 (-1) 0 0 0 0 0)), (z 1, aI V 3075 (fun _ => 0))] H := hP
  have hD : va_D A [(z 0, .inr (10, mo z 0 0 0 0 0 0 0 0 0 0 (-1) 0 0 0 0 0)), (z 1, aI V 3075 (fun _ => 0))] := hD
  refine lv_istore_n (lv' := [(2, .int 1), (0, .ref (z 0)), (1, .int p0)]) hx hb dX10_steal_11 rfl hl (by decide) rfl (fun ls hl => ?_)
  refine lv_iload_n hx hb dX10_steal_12 rfl (lv_at hl 0 rfl) ?_
  refine lv_if_eq (tgt := 21) hx hb dX10_steal_13 (by decide) (fun c_2 => absurd c_2 (by decide)) (fun _ => ?_)
  refine lv_bipush (v := (-10)) hx hb dX10_steal_16 (by decide) ?_
  refine lv_iload_n hx hb dX10_steal_18 rfl (lv_at hl 0 rfl) ?_
  refine lv_isub hx hb dX10_steal_19 ?_
  refine tpi (y := (-11)) (by decide +kernel) ?_
  exact fiI hx hb hr hlk hK hP hD hS dX10_steal_20 (Nat.le_of_ble_eq_true rfl) (Nat.le_of_ble_eq_true rfl) (⟨rfl, rfl⟩)
theorem dX9_steal_0 : decode cX9_steal 0 = .ok (.aload_n 0, 1) := by decide +kernel
theorem dX9_steal_1 : decode cX9_steal 1 = .ok (.iload_n 1, 1) := by decide +kernel
theorem dX9_steal_2 : decode cX9_steal 2 = .ok (.invokevirtual 177, 3) := by decide +kernel
theorem dX9_steal_5 : decode cX9_steal 5 = .ok (.istore_n 2, 1) := by decide +kernel
theorem dX9_steal_6 : decode cX9_steal 6 = .ok (.iload_n 2, 1) := by decide +kernel
theorem dX9_steal_7 : decode cX9_steal 7 = .ok (.ifCond .eq 8, 3) := by decide +kernel
theorem dX9_steal_10 : decode cX9_steal 10 = .ok (.bipush (-10), 2) := by decide +kernel
theorem dX9_steal_12 : decode cX9_steal 12 = .ok (.iload_n 2, 1) := by decide +kernel
theorem dX9_steal_13 : decode cX9_steal 13 = .ok (.isub, 1) := by decide +kernel
theorem dX9_steal_14 : decode cX9_steal 14 = .ok (.ireturn, 1) := by decide +kernel
set_option maxHeartbeats 4000000 in
set_option maxRecDepth 100000 in
theorem c_X9_steal_0 (l : Launch) (V : GV) (y : Nat → Nat) (p0 : Int32) : Ct l V yX9_steal (.code yX9_steal cX9_steal 3 (some .int)) 3 [.ref (y 0), .int p0] [(y 0, .inr (9, [.ref (y 1), .int 0, .ref (y 2), .ref (y 10), .ref (y 19), .ref (y 25), .ref (y 26), .ref (y 30), .ref (y 31), .ref (y 32), .null, .null, .int 0, .int 0, .int 0])), (y 2, .inr (1, [.int 0, .int 0, .int 0, .int 0, .int 0, .int 0, .ref (y 3), .ref (y 4), .ref (y 5), .ref (y 6), .ref (y 7), .ref (y 8), .ref (y 9), .int 0, .int 0, .int 0, .int 0, .int 0]))] 0 0 (QI V (fun (r : Int32) (w : va_W) => (r = (-11) ∧ w = [(y 0, .inr (9, [.ref (y 1), .int 0, .ref (y 2), .ref (y 10), .ref (y 19), .ref (y 25), .ref (y 26), .ref (y 30), .ref (y 31), .ref (y 32), .null, .null, .int 0, .int 0, .int 0])), (y 2, .inr (1, [.int 0, .int 0, .int 0, .int 0, .int 0, .int 0, .ref (y 3), .ref (y 4), .ref (y 5), .ref (y 6), .ref (y 7), .ref (y 8), .ref (y 9), .int 0, .int 0, .int 0, .int 0, .int 0]))]))) := by
  refine Ct.of (by decide) (Nat.le_of_ble_eq_true rfl) (fun p e s m below meth c A ls hx hb hr hml hown hlk hnm hg hP hK hD hE hA hS hl => ?_)
  have hl : lv_has ls 3 [(0, .ref (y 0)), (1, .int p0)] := hl
  refine lv_aload_n hx hb dX9_steal_0 rfl (lv_at hl 0 rfl) ?_
  refine lv_iload_n hx hb dX9_steal_1 rfl (lv_at hl 1 rfl) ?_
  refine jnI (wr := []) (rnV (rest := []) ⟨hx, hb, hml, hown, hg⟩ (c_X9_whyNoStealing_0 l V y p0) mt_X9_whyNoStealing q_3_191 ⟨Nat.le_of_ble_eq_true rfl, Nat.le_of_ble_eq_true rfl⟩ hK hP hD hS hA hE [0, 1] rfl rfl 0 rfl rfl rfl rfl hl.1 rfl (Nat.le_of_ble_eq_true rfl) dX9_steal_2 ⟨Nat.le_of_ble_eq_true rfl, Nat.le_of_ble_eq_true rfl⟩) hP hD hS hA [0, 1] [] rfl rfl rfl (by decide) (fun r_1 w H locs hw hP hD hS => ?_)
  obtain ⟨rfl, rfl⟩ := hw
  have hP : va_P V.1 vwCl [(y 0, .inr (9, [.ref (y 1), .int 0, .ref (y 2), .ref (y 10), .ref (y 19), .ref (y 25), .ref (y 26), .ref (y 30), .ref (y 31), .ref (y 32), .null, .null, .int 0, .int 0, .int 0])), (y 2, .inr (1, [.int 0, .int 0, .int 0, .int 0, .int 0, .int 0, .ref (y 3), .ref (y 4), .ref (y 5), .ref (y 6), .ref (y 7), .ref (y 8), .ref (y 9), .int 0, .int 0, .int 0, .int 0, .int 0]))] H := hP
  have hD : va_D A [(y 0, .inr (9, [.ref (y 1), .int 0, .ref (y 2), .ref (y 10), .ref (y 19), .ref (y 25), .ref (y 26), .ref (y 30), .ref (y 31), .ref (y 32), .null, .null, .int 0, .int 0, .int 0])), (y 2, .inr (1, [.int 0, .int 0, .int 0, .int 0, .int 0, .int 0, .ref (y 3), .ref (y 4), .ref (y 5), .ref (y 6), .ref (y 7), .ref (y 8), .ref (y 9), .int 0, .int 0, .int 0, .int 0, .int 0]))] := hD
  refine lv_istore_n (lv' := [(2, .int 1), (0, .ref (y 0)), (1, .int p0)]) hx hb dX9_steal_5 rfl hl (by decide) rfl (fun ls hl => ?_)
  refine lv_iload_n hx hb dX9_steal_6 rfl (lv_at hl 0 rfl) ?_
  refine lv_if_eq (tgt := 15) hx hb dX9_steal_7 (by decide) (fun c_2 => absurd c_2 (by decide)) (fun _ => ?_)
  refine lv_bipush (v := (-10)) hx hb dX9_steal_10 (by decide) ?_
  refine lv_iload_n hx hb dX9_steal_12 rfl (lv_at hl 0 rfl) ?_
  refine lv_isub hx hb dX9_steal_13 ?_
  refine tpi (y := (-11)) (by decide +kernel) ?_
  exact fiI hx hb hr hlk hK hP hD hS dX9_steal_14 (Nat.le_of_ble_eq_true rfl) (Nat.le_of_ble_eq_true rfl) (⟨rfl, rfl⟩)
set_option maxHeartbeats 4000000 in
set_option maxRecDepth 100000 in
theorem c_X10_notes_2 (l : Launch) (V : GV) (z : Nat → Nat) (p0 : Int32) : Ct l V yX10_notes (.code yX10_notes cX10_notes 2 none) 1 [.ref (z 0)] [(z 17, aI V 7 (fun _ => 0)), (z 0, .inr (10, mo z 0 0 0 0 0 0 0 0 0 0 (-1) 0 0 0 0 0)), (z 1, aI V 3075 (upd (fun _ => 0) 51 p0))] 0 0 (QV V (fun (w : va_W) => (w = [(z 17, aI V 7 (fun _ => 0)), (z 0, .inr (10, mo z 0 0 0 0 0 0 0 0 0 0 (-1) 0 0 0 0 0)), (z 1, aI V 3075 (upd (upd (fun _ => 0) 51 p0) 53 1))]))) := by
  refine Ct.of (by decide) (Nat.le_of_ble_eq_true rfl) (fun p e s m below meth c A ls hx hb hr hml hown hlk hnm hg hP hK hD hE hA hS hl => ?_)
  have hl : lv_has ls 2 [(0, .ref (z 0))] := hl
  refine lv_aload_n hx hb dX10_notes_0 rfl (lv_at hl 0 rfl) ?_
  refine va_get (ci := 10) (v := .ref (z 1)) (C := RX10) (T := TX10) (N := 40) hx hb hg inX10 hown hK hP 1 rfl rfl 1 (by decide) (hg _ q_5_225) (fun _ h9 => h9) rfl dX10_notes_1 ?_
  refine lv_bipush (v := 53) hx hb dX10_notes_4 (by decide) ?_
  refine va_iald hx hb hK hP 2 0 rfl rfl (vin (by decide +kernel)) dX10_notes_6 ?_
  refine tpi (y := 0) (rfl) ?_
  refine lv_bipush (v := 10) hx hb dX10_notes_7 (by decide) ?_
  refine lv_icmp_ne (tgt := 55) hx hb dX10_notes_9 (by decide) (fun _ => ?_) (fun c_1 => absurd c_1 (by decide))
  refine lv_iconst (v := 0) hx hb dX10_notes_55 (by decide) ?_
  refine lv_istore_n (lv' := [(1, .int 0), (0, .ref (z 0))]) hx hb dX10_notes_56 rfl hl (by decide) rfl (fun ls hl => ?_)
  refine lv_iload_n hx hb dX10_notes_57 rfl (lv_at hl 0 rfl) ?_
  refine lv_bipush (v := 7) hx hb dX10_notes_58 (by decide) ?_
  refine lv_icmp_ge (tgt := 95) hx hb dX10_notes_60 (by decide) (fun c_2 => absurd c_2 (by decide)) (fun _ => ?_)
  refine lv_aload_n hx hb dX10_notes_63 rfl (lv_at hl 1 rfl) ?_
  refine va_get (ci := 10) (v := .ref (z 1)) (C := RX10) (T := TX10) (N := 40) hx hb hg inX10 hown hK hP 1 rfl rfl 1 (by decide) (hg _ q_5_225) (fun _ h9 => h9) rfl dX10_notes_64 ?_
  refine lv_bipush (v := 54) hx hb dX10_notes_67 (by decide) ?_
  refine lv_bipush (v := 7) hx hb dX10_notes_69 (by decide) ?_
  refine lv_aload_n hx hb dX10_notes_71 rfl (lv_at hl 1 rfl) ?_
  refine va_get (ci := 10) (v := .ref (z 1)) (C := RX10) (T := TX10) (N := 40) hx hb hg inX10 hown hK hP 1 rfl rfl 1 (by decide) (hg _ q_5_225) (fun _ h9 => h9) rfl dX10_notes_72 ?_
  refine lv_bipush (v := 53) hx hb dX10_notes_75 (by decide) ?_
  refine va_iald hx hb hK hP 2 0 rfl rfl (vin (by decide +kernel)) dX10_notes_77 ?_
  refine tpi (y := 0) (rfl) ?_
  refine lv_imul hx hb dX10_notes_78 ?_
  refine tpi (y := 0) (by decide +kernel) ?_
  refine lv_iadd hx hb dX10_notes_79 ?_
  refine tpi (y := 54) (by decide +kernel) ?_
  refine lv_iload_n hx hb dX10_notes_80 rfl (lv_at hl 0 rfl) ?_
  refine lv_iadd hx hb dX10_notes_81 ?_
  refine tpi (y := 54) (by decide +kernel) ?_
  refine lv_aload_n hx hb dX10_notes_82 rfl (lv_at hl 1 rfl) ?_
  refine va_get (ci := 10) (v := .ref (z 17)) (C := RX10) (T := TX10) (N := 40) hx hb hg inX10 hown hK hP 1 rfl rfl 17 (by decide) (hg _ q_6_1) (fun _ h9 => h9) rfl dX10_notes_83 ?_
  refine lv_iload_n hx hb dX10_notes_86 rfl (lv_at hl 0 rfl) ?_
  refine va_iald hx hb hK hP 0 0 rfl rfl (vin (by decide +kernel)) dX10_notes_87 ?_
  refine tpi (y := 0) (rfl) ?_
  refine va_iast hx hb hK hP hD hS 2 0 rfl rfl (vin (by decide +kernel)) dX10_notes_88 (fun H locs hP hD hS => ?_)
  have hP : va_P V.1 vwCl [(z 17, aI V 7 (fun _ => 0)), (z 0, .inr (10, mo z 0 0 0 0 0 0 0 0 0 0 (-1) 0 0 0 0 0)), (z 1, aI V 3075 (upd (upd (fun _ => 0) 51 p0) 54 0))] H := hP
  have hD : va_D A [(z 17, aI V 7 (fun _ => 0)), (z 0, .inr (10, mo z 0 0 0 0 0 0 0 0 0 0 (-1) 0 0 0 0 0)), (z 1, aI V 3075 (upd (upd (fun _ => 0) 51 p0) 54 0))] := hD
  have hP : va_P V.1 vwCl [(z 17, aI V 7 (fun _ => 0)), (z 0, .inr (10, mo z 0 0 0 0 0 0 0 0 0 0 (-1) 0 0 0 0 0)), (z 1, aI V 3075 (upd (fun _ => 0) 51 p0))] H := by rw [updid (k := 54) (v := 0) rfl] at hP; exact hP
  have hD : va_D A [(z 17, aI V 7 (fun _ => 0)), (z 0, .inr (10, mo z 0 0 0 0 0 0 0 0 0 0 (-1) 0 0 0 0 0)), (z 1, aI V 3075 (upd (fun _ => 0) 51 p0))] := by rw [updid (k := 54) (v := 0) rfl] at hD; exact hD
  refine lv_iinc (v := 1) (lv' := [(1, .int 1), (0, .ref (z 0))]) hx hb dX10_notes_89 hl (k := 0) rfl (by decide +kernel) (by decide) rfl (fun ls hl => ?_)
  refine lv_goto (tgt := 57) hx hb dX10_notes_92 (by decide) ?_
  refine lv_iload_n hx hb dX10_notes_57 rfl (lv_at hl 0 rfl) ?_
  refine lv_bipush (v := 7) hx hb dX10_notes_58 (by decide) ?_
  refine lv_icmp_ge (tgt := 95) hx hb dX10_notes_60 (by decide) (fun c_3 => absurd c_3 (by decide)) (fun _ => ?_)
  refine lv_aload_n hx hb dX10_notes_63 rfl (lv_at hl 1 rfl) ?_
  refine va_get (ci := 10) (v := .ref (z 1)) (C := RX10) (T := TX10) (N := 40) hx hb hg inX10 hown hK hP 1 rfl rfl 1 (by decide) (hg _ q_5_225) (fun _ h9 => h9) rfl dX10_notes_64 ?_
  refine lv_bipush (v := 54) hx hb dX10_notes_67 (by decide) ?_
  refine lv_bipush (v := 7) hx hb dX10_notes_69 (by decide) ?_
  refine lv_aload_n hx hb dX10_notes_71 rfl (lv_at hl 1 rfl) ?_
  refine va_get (ci := 10) (v := .ref (z 1)) (C := RX10) (T := TX10) (N := 40) hx hb hg inX10 hown hK hP 1 rfl rfl 1 (by decide) (hg _ q_5_225) (fun _ h9 => h9) rfl dX10_notes_72 ?_
  refine lv_bipush (v := 53) hx hb dX10_notes_75 (by decide) ?_
  refine va_iald hx hb hK hP 2 0 rfl rfl (vin (by decide +kernel)) dX10_notes_77 ?_
  refine tpi (y := 0) (rfl) ?_
  refine lv_imul hx hb dX10_notes_78 ?_
  refine tpi (y := 0) (by decide +kernel) ?_
  refine lv_iadd hx hb dX10_notes_79 ?_
  refine tpi (y := 54) (by decide +kernel) ?_
  refine lv_iload_n hx hb dX10_notes_80 rfl (lv_at hl 0 rfl) ?_
  refine lv_iadd hx hb dX10_notes_81 ?_
  refine tpi (y := 55) (by decide +kernel) ?_
  refine lv_aload_n hx hb dX10_notes_82 rfl (lv_at hl 1 rfl) ?_
  refine va_get (ci := 10) (v := .ref (z 17)) (C := RX10) (T := TX10) (N := 40) hx hb hg inX10 hown hK hP 1 rfl rfl 17 (by decide) (hg _ q_6_1) (fun _ h9 => h9) rfl dX10_notes_83 ?_
  refine lv_iload_n hx hb dX10_notes_86 rfl (lv_at hl 0 rfl) ?_
  refine va_iald hx hb hK hP 0 0 rfl rfl (vin (by decide +kernel)) dX10_notes_87 ?_
  refine tpi (y := 0) (rfl) ?_
  refine va_iast hx hb hK hP hD hS 2 0 rfl rfl (vin (by decide +kernel)) dX10_notes_88 (fun H locs hP hD hS => ?_)
  have hP : va_P V.1 vwCl [(z 17, aI V 7 (fun _ => 0)), (z 0, .inr (10, mo z 0 0 0 0 0 0 0 0 0 0 (-1) 0 0 0 0 0)), (z 1, aI V 3075 (upd (upd (fun _ => 0) 51 p0) 55 0))] H := hP
  have hD : va_D A [(z 17, aI V 7 (fun _ => 0)), (z 0, .inr (10, mo z 0 0 0 0 0 0 0 0 0 0 (-1) 0 0 0 0 0)), (z 1, aI V 3075 (upd (upd (fun _ => 0) 51 p0) 55 0))] := hD
  have hP : va_P V.1 vwCl [(z 17, aI V 7 (fun _ => 0)), (z 0, .inr (10, mo z 0 0 0 0 0 0 0 0 0 0 (-1) 0 0 0 0 0)), (z 1, aI V 3075 (upd (fun _ => 0) 51 p0))] H := by rw [updid (k := 55) (v := 0) rfl] at hP; exact hP
  have hD : va_D A [(z 17, aI V 7 (fun _ => 0)), (z 0, .inr (10, mo z 0 0 0 0 0 0 0 0 0 0 (-1) 0 0 0 0 0)), (z 1, aI V 3075 (upd (fun _ => 0) 51 p0))] := by rw [updid (k := 55) (v := 0) rfl] at hD; exact hD
  refine lv_iinc (v := 2) (lv' := [(1, .int 2), (0, .ref (z 0))]) hx hb dX10_notes_89 hl (k := 0) rfl (by decide +kernel) (by decide) rfl (fun ls hl => ?_)
  refine lv_goto (tgt := 57) hx hb dX10_notes_92 (by decide) ?_
  refine lv_iload_n hx hb dX10_notes_57 rfl (lv_at hl 0 rfl) ?_
  refine lv_bipush (v := 7) hx hb dX10_notes_58 (by decide) ?_
  refine lv_icmp_ge (tgt := 95) hx hb dX10_notes_60 (by decide) (fun c_4 => absurd c_4 (by decide)) (fun _ => ?_)
  refine lv_aload_n hx hb dX10_notes_63 rfl (lv_at hl 1 rfl) ?_
  refine va_get (ci := 10) (v := .ref (z 1)) (C := RX10) (T := TX10) (N := 40) hx hb hg inX10 hown hK hP 1 rfl rfl 1 (by decide) (hg _ q_5_225) (fun _ h9 => h9) rfl dX10_notes_64 ?_
  refine lv_bipush (v := 54) hx hb dX10_notes_67 (by decide) ?_
  refine lv_bipush (v := 7) hx hb dX10_notes_69 (by decide) ?_
  refine lv_aload_n hx hb dX10_notes_71 rfl (lv_at hl 1 rfl) ?_
  refine va_get (ci := 10) (v := .ref (z 1)) (C := RX10) (T := TX10) (N := 40) hx hb hg inX10 hown hK hP 1 rfl rfl 1 (by decide) (hg _ q_5_225) (fun _ h9 => h9) rfl dX10_notes_72 ?_
  refine lv_bipush (v := 53) hx hb dX10_notes_75 (by decide) ?_
  refine va_iald hx hb hK hP 2 0 rfl rfl (vin (by decide +kernel)) dX10_notes_77 ?_
  refine tpi (y := 0) (rfl) ?_
  refine lv_imul hx hb dX10_notes_78 ?_
  refine tpi (y := 0) (by decide +kernel) ?_
  refine lv_iadd hx hb dX10_notes_79 ?_
  refine tpi (y := 54) (by decide +kernel) ?_
  refine lv_iload_n hx hb dX10_notes_80 rfl (lv_at hl 0 rfl) ?_
  refine lv_iadd hx hb dX10_notes_81 ?_
  refine tpi (y := 56) (by decide +kernel) ?_
  refine lv_aload_n hx hb dX10_notes_82 rfl (lv_at hl 1 rfl) ?_
  refine va_get (ci := 10) (v := .ref (z 17)) (C := RX10) (T := TX10) (N := 40) hx hb hg inX10 hown hK hP 1 rfl rfl 17 (by decide) (hg _ q_6_1) (fun _ h9 => h9) rfl dX10_notes_83 ?_
  refine lv_iload_n hx hb dX10_notes_86 rfl (lv_at hl 0 rfl) ?_
  refine va_iald hx hb hK hP 0 0 rfl rfl (vin (by decide +kernel)) dX10_notes_87 ?_
  refine tpi (y := 0) (rfl) ?_
  refine va_iast hx hb hK hP hD hS 2 0 rfl rfl (vin (by decide +kernel)) dX10_notes_88 (fun H locs hP hD hS => ?_)
  have hP : va_P V.1 vwCl [(z 17, aI V 7 (fun _ => 0)), (z 0, .inr (10, mo z 0 0 0 0 0 0 0 0 0 0 (-1) 0 0 0 0 0)), (z 1, aI V 3075 (upd (upd (fun _ => 0) 51 p0) 56 0))] H := hP
  have hD : va_D A [(z 17, aI V 7 (fun _ => 0)), (z 0, .inr (10, mo z 0 0 0 0 0 0 0 0 0 0 (-1) 0 0 0 0 0)), (z 1, aI V 3075 (upd (upd (fun _ => 0) 51 p0) 56 0))] := hD
  have hP : va_P V.1 vwCl [(z 17, aI V 7 (fun _ => 0)), (z 0, .inr (10, mo z 0 0 0 0 0 0 0 0 0 0 (-1) 0 0 0 0 0)), (z 1, aI V 3075 (upd (fun _ => 0) 51 p0))] H := by rw [updid (k := 56) (v := 0) rfl] at hP; exact hP
  have hD : va_D A [(z 17, aI V 7 (fun _ => 0)), (z 0, .inr (10, mo z 0 0 0 0 0 0 0 0 0 0 (-1) 0 0 0 0 0)), (z 1, aI V 3075 (upd (fun _ => 0) 51 p0))] := by rw [updid (k := 56) (v := 0) rfl] at hD; exact hD
  refine lv_iinc (v := 3) (lv' := [(1, .int 3), (0, .ref (z 0))]) hx hb dX10_notes_89 hl (k := 0) rfl (by decide +kernel) (by decide) rfl (fun ls hl => ?_)
  refine lv_goto (tgt := 57) hx hb dX10_notes_92 (by decide) ?_
  refine lv_iload_n hx hb dX10_notes_57 rfl (lv_at hl 0 rfl) ?_
  refine lv_bipush (v := 7) hx hb dX10_notes_58 (by decide) ?_
  refine lv_icmp_ge (tgt := 95) hx hb dX10_notes_60 (by decide) (fun c_5 => absurd c_5 (by decide)) (fun _ => ?_)
  refine lv_aload_n hx hb dX10_notes_63 rfl (lv_at hl 1 rfl) ?_
  refine va_get (ci := 10) (v := .ref (z 1)) (C := RX10) (T := TX10) (N := 40) hx hb hg inX10 hown hK hP 1 rfl rfl 1 (by decide) (hg _ q_5_225) (fun _ h9 => h9) rfl dX10_notes_64 ?_
  refine lv_bipush (v := 54) hx hb dX10_notes_67 (by decide) ?_
  refine lv_bipush (v := 7) hx hb dX10_notes_69 (by decide) ?_
  refine lv_aload_n hx hb dX10_notes_71 rfl (lv_at hl 1 rfl) ?_
  refine va_get (ci := 10) (v := .ref (z 1)) (C := RX10) (T := TX10) (N := 40) hx hb hg inX10 hown hK hP 1 rfl rfl 1 (by decide) (hg _ q_5_225) (fun _ h9 => h9) rfl dX10_notes_72 ?_
  refine lv_bipush (v := 53) hx hb dX10_notes_75 (by decide) ?_
  refine va_iald hx hb hK hP 2 0 rfl rfl (vin (by decide +kernel)) dX10_notes_77 ?_
  refine tpi (y := 0) (rfl) ?_
  refine lv_imul hx hb dX10_notes_78 ?_
  refine tpi (y := 0) (by decide +kernel) ?_
  refine lv_iadd hx hb dX10_notes_79 ?_
  refine tpi (y := 54) (by decide +kernel) ?_
  refine lv_iload_n hx hb dX10_notes_80 rfl (lv_at hl 0 rfl) ?_
  refine lv_iadd hx hb dX10_notes_81 ?_
  refine tpi (y := 57) (by decide +kernel) ?_
  refine lv_aload_n hx hb dX10_notes_82 rfl (lv_at hl 1 rfl) ?_
  refine va_get (ci := 10) (v := .ref (z 17)) (C := RX10) (T := TX10) (N := 40) hx hb hg inX10 hown hK hP 1 rfl rfl 17 (by decide) (hg _ q_6_1) (fun _ h9 => h9) rfl dX10_notes_83 ?_
  refine lv_iload_n hx hb dX10_notes_86 rfl (lv_at hl 0 rfl) ?_
  refine va_iald hx hb hK hP 0 0 rfl rfl (vin (by decide +kernel)) dX10_notes_87 ?_
  refine tpi (y := 0) (rfl) ?_
  refine va_iast hx hb hK hP hD hS 2 0 rfl rfl (vin (by decide +kernel)) dX10_notes_88 (fun H locs hP hD hS => ?_)
  have hP : va_P V.1 vwCl [(z 17, aI V 7 (fun _ => 0)), (z 0, .inr (10, mo z 0 0 0 0 0 0 0 0 0 0 (-1) 0 0 0 0 0)), (z 1, aI V 3075 (upd (upd (fun _ => 0) 51 p0) 57 0))] H := hP
  have hD : va_D A [(z 17, aI V 7 (fun _ => 0)), (z 0, .inr (10, mo z 0 0 0 0 0 0 0 0 0 0 (-1) 0 0 0 0 0)), (z 1, aI V 3075 (upd (upd (fun _ => 0) 51 p0) 57 0))] := hD
  have hP : va_P V.1 vwCl [(z 17, aI V 7 (fun _ => 0)), (z 0, .inr (10, mo z 0 0 0 0 0 0 0 0 0 0 (-1) 0 0 0 0 0)), (z 1, aI V 3075 (upd (fun _ => 0) 51 p0))] H := by rw [updid (k := 57) (v := 0) rfl] at hP; exact hP
  have hD : va_D A [(z 17, aI V 7 (fun _ => 0)), (z 0, .inr (10, mo z 0 0 0 0 0 0 0 0 0 0 (-1) 0 0 0 0 0)), (z 1, aI V 3075 (upd (fun _ => 0) 51 p0))] := by rw [updid (k := 57) (v := 0) rfl] at hD; exact hD
  refine lv_iinc (v := 4) (lv' := [(1, .int 4), (0, .ref (z 0))]) hx hb dX10_notes_89 hl (k := 0) rfl (by decide +kernel) (by decide) rfl (fun ls hl => ?_)
  refine lv_goto (tgt := 57) hx hb dX10_notes_92 (by decide) ?_
  refine lv_iload_n hx hb dX10_notes_57 rfl (lv_at hl 0 rfl) ?_
  refine lv_bipush (v := 7) hx hb dX10_notes_58 (by decide) ?_
  refine lv_icmp_ge (tgt := 95) hx hb dX10_notes_60 (by decide) (fun c_6 => absurd c_6 (by decide)) (fun _ => ?_)
  refine lv_aload_n hx hb dX10_notes_63 rfl (lv_at hl 1 rfl) ?_
  refine va_get (ci := 10) (v := .ref (z 1)) (C := RX10) (T := TX10) (N := 40) hx hb hg inX10 hown hK hP 1 rfl rfl 1 (by decide) (hg _ q_5_225) (fun _ h9 => h9) rfl dX10_notes_64 ?_
  refine lv_bipush (v := 54) hx hb dX10_notes_67 (by decide) ?_
  refine lv_bipush (v := 7) hx hb dX10_notes_69 (by decide) ?_
  refine lv_aload_n hx hb dX10_notes_71 rfl (lv_at hl 1 rfl) ?_
  refine va_get (ci := 10) (v := .ref (z 1)) (C := RX10) (T := TX10) (N := 40) hx hb hg inX10 hown hK hP 1 rfl rfl 1 (by decide) (hg _ q_5_225) (fun _ h9 => h9) rfl dX10_notes_72 ?_
  refine lv_bipush (v := 53) hx hb dX10_notes_75 (by decide) ?_
  refine va_iald hx hb hK hP 2 0 rfl rfl (vin (by decide +kernel)) dX10_notes_77 ?_
  refine tpi (y := 0) (rfl) ?_
  refine lv_imul hx hb dX10_notes_78 ?_
  refine tpi (y := 0) (by decide +kernel) ?_
  refine lv_iadd hx hb dX10_notes_79 ?_
  refine tpi (y := 54) (by decide +kernel) ?_
  refine lv_iload_n hx hb dX10_notes_80 rfl (lv_at hl 0 rfl) ?_
  refine lv_iadd hx hb dX10_notes_81 ?_
  refine tpi (y := 58) (by decide +kernel) ?_
  refine lv_aload_n hx hb dX10_notes_82 rfl (lv_at hl 1 rfl) ?_
  refine va_get (ci := 10) (v := .ref (z 17)) (C := RX10) (T := TX10) (N := 40) hx hb hg inX10 hown hK hP 1 rfl rfl 17 (by decide) (hg _ q_6_1) (fun _ h9 => h9) rfl dX10_notes_83 ?_
  refine lv_iload_n hx hb dX10_notes_86 rfl (lv_at hl 0 rfl) ?_
  refine va_iald hx hb hK hP 0 0 rfl rfl (vin (by decide +kernel)) dX10_notes_87 ?_
  refine tpi (y := 0) (rfl) ?_
  refine va_iast hx hb hK hP hD hS 2 0 rfl rfl (vin (by decide +kernel)) dX10_notes_88 (fun H locs hP hD hS => ?_)
  have hP : va_P V.1 vwCl [(z 17, aI V 7 (fun _ => 0)), (z 0, .inr (10, mo z 0 0 0 0 0 0 0 0 0 0 (-1) 0 0 0 0 0)), (z 1, aI V 3075 (upd (upd (fun _ => 0) 51 p0) 58 0))] H := hP
  have hD : va_D A [(z 17, aI V 7 (fun _ => 0)), (z 0, .inr (10, mo z 0 0 0 0 0 0 0 0 0 0 (-1) 0 0 0 0 0)), (z 1, aI V 3075 (upd (upd (fun _ => 0) 51 p0) 58 0))] := hD
  have hP : va_P V.1 vwCl [(z 17, aI V 7 (fun _ => 0)), (z 0, .inr (10, mo z 0 0 0 0 0 0 0 0 0 0 (-1) 0 0 0 0 0)), (z 1, aI V 3075 (upd (fun _ => 0) 51 p0))] H := by rw [updid (k := 58) (v := 0) rfl] at hP; exact hP
  have hD : va_D A [(z 17, aI V 7 (fun _ => 0)), (z 0, .inr (10, mo z 0 0 0 0 0 0 0 0 0 0 (-1) 0 0 0 0 0)), (z 1, aI V 3075 (upd (fun _ => 0) 51 p0))] := by rw [updid (k := 58) (v := 0) rfl] at hD; exact hD
  refine lv_iinc (v := 5) (lv' := [(1, .int 5), (0, .ref (z 0))]) hx hb dX10_notes_89 hl (k := 0) rfl (by decide +kernel) (by decide) rfl (fun ls hl => ?_)
  refine lv_goto (tgt := 57) hx hb dX10_notes_92 (by decide) ?_
  refine lv_iload_n hx hb dX10_notes_57 rfl (lv_at hl 0 rfl) ?_
  refine lv_bipush (v := 7) hx hb dX10_notes_58 (by decide) ?_
  refine lv_icmp_ge (tgt := 95) hx hb dX10_notes_60 (by decide) (fun c_7 => absurd c_7 (by decide)) (fun _ => ?_)
  refine lv_aload_n hx hb dX10_notes_63 rfl (lv_at hl 1 rfl) ?_
  refine va_get (ci := 10) (v := .ref (z 1)) (C := RX10) (T := TX10) (N := 40) hx hb hg inX10 hown hK hP 1 rfl rfl 1 (by decide) (hg _ q_5_225) (fun _ h9 => h9) rfl dX10_notes_64 ?_
  refine lv_bipush (v := 54) hx hb dX10_notes_67 (by decide) ?_
  refine lv_bipush (v := 7) hx hb dX10_notes_69 (by decide) ?_
  refine lv_aload_n hx hb dX10_notes_71 rfl (lv_at hl 1 rfl) ?_
  refine va_get (ci := 10) (v := .ref (z 1)) (C := RX10) (T := TX10) (N := 40) hx hb hg inX10 hown hK hP 1 rfl rfl 1 (by decide) (hg _ q_5_225) (fun _ h9 => h9) rfl dX10_notes_72 ?_
  refine lv_bipush (v := 53) hx hb dX10_notes_75 (by decide) ?_
  refine va_iald hx hb hK hP 2 0 rfl rfl (vin (by decide +kernel)) dX10_notes_77 ?_
  refine tpi (y := 0) (rfl) ?_
  refine lv_imul hx hb dX10_notes_78 ?_
  refine tpi (y := 0) (by decide +kernel) ?_
  refine lv_iadd hx hb dX10_notes_79 ?_
  refine tpi (y := 54) (by decide +kernel) ?_
  refine lv_iload_n hx hb dX10_notes_80 rfl (lv_at hl 0 rfl) ?_
  refine lv_iadd hx hb dX10_notes_81 ?_
  refine tpi (y := 59) (by decide +kernel) ?_
  refine lv_aload_n hx hb dX10_notes_82 rfl (lv_at hl 1 rfl) ?_
  refine va_get (ci := 10) (v := .ref (z 17)) (C := RX10) (T := TX10) (N := 40) hx hb hg inX10 hown hK hP 1 rfl rfl 17 (by decide) (hg _ q_6_1) (fun _ h9 => h9) rfl dX10_notes_83 ?_
  refine lv_iload_n hx hb dX10_notes_86 rfl (lv_at hl 0 rfl) ?_
  refine va_iald hx hb hK hP 0 0 rfl rfl (vin (by decide +kernel)) dX10_notes_87 ?_
  refine tpi (y := 0) (rfl) ?_
  refine va_iast hx hb hK hP hD hS 2 0 rfl rfl (vin (by decide +kernel)) dX10_notes_88 (fun H locs hP hD hS => ?_)
  have hP : va_P V.1 vwCl [(z 17, aI V 7 (fun _ => 0)), (z 0, .inr (10, mo z 0 0 0 0 0 0 0 0 0 0 (-1) 0 0 0 0 0)), (z 1, aI V 3075 (upd (upd (fun _ => 0) 51 p0) 59 0))] H := hP
  have hD : va_D A [(z 17, aI V 7 (fun _ => 0)), (z 0, .inr (10, mo z 0 0 0 0 0 0 0 0 0 0 (-1) 0 0 0 0 0)), (z 1, aI V 3075 (upd (upd (fun _ => 0) 51 p0) 59 0))] := hD
  have hP : va_P V.1 vwCl [(z 17, aI V 7 (fun _ => 0)), (z 0, .inr (10, mo z 0 0 0 0 0 0 0 0 0 0 (-1) 0 0 0 0 0)), (z 1, aI V 3075 (upd (fun _ => 0) 51 p0))] H := by rw [updid (k := 59) (v := 0) rfl] at hP; exact hP
  have hD : va_D A [(z 17, aI V 7 (fun _ => 0)), (z 0, .inr (10, mo z 0 0 0 0 0 0 0 0 0 0 (-1) 0 0 0 0 0)), (z 1, aI V 3075 (upd (fun _ => 0) 51 p0))] := by rw [updid (k := 59) (v := 0) rfl] at hD; exact hD
  refine lv_iinc (v := 6) (lv' := [(1, .int 6), (0, .ref (z 0))]) hx hb dX10_notes_89 hl (k := 0) rfl (by decide +kernel) (by decide) rfl (fun ls hl => ?_)
  refine lv_goto (tgt := 57) hx hb dX10_notes_92 (by decide) ?_
  refine lv_iload_n hx hb dX10_notes_57 rfl (lv_at hl 0 rfl) ?_
  refine lv_bipush (v := 7) hx hb dX10_notes_58 (by decide) ?_
  refine lv_icmp_ge (tgt := 95) hx hb dX10_notes_60 (by decide) (fun c_8 => absurd c_8 (by decide)) (fun _ => ?_)
  refine lv_aload_n hx hb dX10_notes_63 rfl (lv_at hl 1 rfl) ?_
  refine va_get (ci := 10) (v := .ref (z 1)) (C := RX10) (T := TX10) (N := 40) hx hb hg inX10 hown hK hP 1 rfl rfl 1 (by decide) (hg _ q_5_225) (fun _ h9 => h9) rfl dX10_notes_64 ?_
  refine lv_bipush (v := 54) hx hb dX10_notes_67 (by decide) ?_
  refine lv_bipush (v := 7) hx hb dX10_notes_69 (by decide) ?_
  refine lv_aload_n hx hb dX10_notes_71 rfl (lv_at hl 1 rfl) ?_
  refine va_get (ci := 10) (v := .ref (z 1)) (C := RX10) (T := TX10) (N := 40) hx hb hg inX10 hown hK hP 1 rfl rfl 1 (by decide) (hg _ q_5_225) (fun _ h9 => h9) rfl dX10_notes_72 ?_
  refine lv_bipush (v := 53) hx hb dX10_notes_75 (by decide) ?_
  refine va_iald hx hb hK hP 2 0 rfl rfl (vin (by decide +kernel)) dX10_notes_77 ?_
  refine tpi (y := 0) (rfl) ?_
  refine lv_imul hx hb dX10_notes_78 ?_
  refine tpi (y := 0) (by decide +kernel) ?_
  refine lv_iadd hx hb dX10_notes_79 ?_
  refine tpi (y := 54) (by decide +kernel) ?_
  refine lv_iload_n hx hb dX10_notes_80 rfl (lv_at hl 0 rfl) ?_
  refine lv_iadd hx hb dX10_notes_81 ?_
  refine tpi (y := 60) (by decide +kernel) ?_
  refine lv_aload_n hx hb dX10_notes_82 rfl (lv_at hl 1 rfl) ?_
  refine va_get (ci := 10) (v := .ref (z 17)) (C := RX10) (T := TX10) (N := 40) hx hb hg inX10 hown hK hP 1 rfl rfl 17 (by decide) (hg _ q_6_1) (fun _ h9 => h9) rfl dX10_notes_83 ?_
  refine lv_iload_n hx hb dX10_notes_86 rfl (lv_at hl 0 rfl) ?_
  refine va_iald hx hb hK hP 0 0 rfl rfl (vin (by decide +kernel)) dX10_notes_87 ?_
  refine tpi (y := 0) (rfl) ?_
  refine va_iast hx hb hK hP hD hS 2 0 rfl rfl (vin (by decide +kernel)) dX10_notes_88 (fun H locs hP hD hS => ?_)
  have hP : va_P V.1 vwCl [(z 17, aI V 7 (fun _ => 0)), (z 0, .inr (10, mo z 0 0 0 0 0 0 0 0 0 0 (-1) 0 0 0 0 0)), (z 1, aI V 3075 (upd (upd (fun _ => 0) 51 p0) 60 0))] H := hP
  have hD : va_D A [(z 17, aI V 7 (fun _ => 0)), (z 0, .inr (10, mo z 0 0 0 0 0 0 0 0 0 0 (-1) 0 0 0 0 0)), (z 1, aI V 3075 (upd (upd (fun _ => 0) 51 p0) 60 0))] := hD
  have hP : va_P V.1 vwCl [(z 17, aI V 7 (fun _ => 0)), (z 0, .inr (10, mo z 0 0 0 0 0 0 0 0 0 0 (-1) 0 0 0 0 0)), (z 1, aI V 3075 (upd (fun _ => 0) 51 p0))] H := by rw [updid (k := 60) (v := 0) rfl] at hP; exact hP
  have hD : va_D A [(z 17, aI V 7 (fun _ => 0)), (z 0, .inr (10, mo z 0 0 0 0 0 0 0 0 0 0 (-1) 0 0 0 0 0)), (z 1, aI V 3075 (upd (fun _ => 0) 51 p0))] := by rw [updid (k := 60) (v := 0) rfl] at hD; exact hD
  refine lv_iinc (v := 7) (lv' := [(1, .int 7), (0, .ref (z 0))]) hx hb dX10_notes_89 hl (k := 0) rfl (by decide +kernel) (by decide) rfl (fun ls hl => ?_)
  refine lv_goto (tgt := 57) hx hb dX10_notes_92 (by decide) ?_
  refine lv_iload_n hx hb dX10_notes_57 rfl (lv_at hl 0 rfl) ?_
  refine lv_bipush (v := 7) hx hb dX10_notes_58 (by decide) ?_
  refine lv_icmp_ge (tgt := 95) hx hb dX10_notes_60 (by decide) (fun _ => ?_) (fun c_9 => absurd c_9 (by decide))
  refine lv_aload_n hx hb dX10_notes_95 rfl (lv_at hl 1 rfl) ?_
  refine va_get (ci := 10) (v := .ref (z 1)) (C := RX10) (T := TX10) (N := 40) hx hb hg inX10 hown hK hP 1 rfl rfl 1 (by decide) (hg _ q_5_225) (fun _ h9 => h9) rfl dX10_notes_96 ?_
  refine lv_bipush (v := 53) hx hb dX10_notes_99 (by decide) ?_
  refine lv_dup2_11 hx hb dX10_notes_101 rfl rfl ?_
  refine va_iald hx hb hK hP 2 0 rfl rfl (vin (by decide +kernel)) dX10_notes_102 ?_
  refine tpi (y := 0) (rfl) ?_
  refine lv_iconst (v := 1) hx hb dX10_notes_103 (by decide) ?_
  refine lv_iadd hx hb dX10_notes_104 ?_
  refine tpi (y := 1) (by decide +kernel) ?_
  refine va_iast hx hb hK hP hD hS 2 0 rfl rfl (vin (by decide +kernel)) dX10_notes_105 (fun H locs hP hD hS => ?_)
  have hP : va_P V.1 vwCl [(z 17, aI V 7 (fun _ => 0)), (z 0, .inr (10, mo z 0 0 0 0 0 0 0 0 0 0 (-1) 0 0 0 0 0)), (z 1, aI V 3075 (upd (upd (fun _ => 0) 51 p0) 53 1))] H := hP
  have hD : va_D A [(z 17, aI V 7 (fun _ => 0)), (z 0, .inr (10, mo z 0 0 0 0 0 0 0 0 0 0 (-1) 0 0 0 0 0)), (z 1, aI V 3075 (upd (upd (fun _ => 0) 51 p0) 53 1))] := hD
  exact fiV hx hb hr hlk hK hP hD hS dX10_notes_106 (Nat.le_of_ble_eq_true rfl) (Nat.le_of_ble_eq_true rfl) (rfl)
