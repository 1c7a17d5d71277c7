theorem dX10_coast_0 : decode cX10_coast 0 = .ok (.aload_n 0, 1) := by decide +kernel
theorem dX10_coast_1 : decode cX10_coast 1 = .ok (.iconst 0, 1) := by decide +kernel
theorem dX10_coast_2 : decode cX10_coast 2 = .ok (.putfield 1, 3) := by decide +kernel
theorem dX10_coast_5 : decode cX10_coast 5 = .ok (.iload_n 1, 1) := by decide +kernel
theorem dX10_coast_6 : decode cX10_coast 6 = .ok (.i2l, 1) := by decide +kernel
theorem dX10_coast_7 : decode cX10_coast 7 = .ok (.lconst 0, 1) := by decide +kernel
theorem dX10_coast_8 : decode cX10_coast 8 = .ok (.aload_n 0, 1) := by decide +kernel
theorem dX10_coast_9 : decode cX10_coast 9 = .ok (.getfield 97, 3) := by decide +kernel
theorem dX10_coast_12 : decode cX10_coast 12 = .ok (.i2l, 1) := by decide +kernel
theorem q_6_116 : Cond.code yX10_within prog_12_method_2_code 6 (some FieldType.boolean) ∈ gw := gw_6 (i := 116) (rfl) rfl
theorem q_6_115 : Cond.static yX10_within ∈ gw := gw_6 (i := 115) (by decide +kernel) rfl
theorem mt_X10_within : MtS yX10_within cX10_within 6 (some .boolean) 3 := ⟨⟨q_6_116, q_1_9, by decide +kernel, by decide +kernel, by decide +kernel⟩, q_6_115⟩
theorem q_6_114 : Cond.methodLink "BeaconDelayModel" 159 yX10_within ∈ gw := gw_6 (i := 114) (by decide +kernel) rfl
theorem dX10_coast_13 : decode cX10_coast 13 = .ok (.invokestatic 159, 3) := by decide +kernel
theorem dX10_coast_16 : decode cX10_coast 16 = .ok (.ifCond .ne 6, 3) := by decide +kernel
theorem dX10_coast_19 : decode cX10_coast 19 = .ok (.bipush (-3), 2) := by decide +kernel
theorem dX10_coast_21 : decode cX10_coast 21 = .ok (.ireturn, 1) := by decide +kernel
theorem dX10_coast_22 : decode cX10_coast 22 = .ok (.aload_n 0, 1) := by decide +kernel
theorem dX10_coast_23 : decode cX10_coast 23 = .ok (.iload_n 1, 1) := by decide +kernel
theorem dX10_coast_24 : decode cX10_coast 24 = .ok (.putfield 100, 3) := by decide +kernel
theorem dX10_coast_27 : decode cX10_coast 27 = .ok (.aload_n 0, 1) := by decide +kernel
theorem dX10_coast_28 : decode cX10_coast 28 = .ok (.iconst 0, 1) := by decide +kernel
theorem dX10_coast_29 : decode cX10_coast 29 = .ok (.putfield 97, 3) := by decide +kernel
theorem dX10_coast_32 : decode cX10_coast 32 = .ok (.aload_n 0, 1) := by decide +kernel
theorem dX10_coast_33 : decode cX10_coast 33 = .ok (.iconst 0, 1) := by decide +kernel
theorem dX10_coast_34 : decode cX10_coast 34 = .ok (.putfield 118, 3) := by decide +kernel
theorem dX10_coast_37 : decode cX10_coast 37 = .ok (.aload_n 0, 1) := by decide +kernel
theorem dX10_coast_38 : decode cX10_coast 38 = .ok (.iconst 0, 1) := by decide +kernel
theorem dX10_coast_39 : decode cX10_coast 39 = .ok (.putfield 143, 3) := by decide +kernel
theorem dX10_coast_42 : decode cX10_coast 42 = .ok (.aload_n 0, 1) := by decide +kernel
theorem dX10_coast_43 : decode cX10_coast 43 = .ok (.getfield 24, 3) := by decide +kernel
theorem dX10_coast_46 : decode cX10_coast 46 = .ok (.invokestatic 93, 3) := by decide +kernel
theorem dX10_coast_49 : decode cX10_coast 49 = .ok (.aload_n 0, 1) := by decide +kernel
theorem q_6_120 : Cond.code yX10_next prog_12_method_10_code 2 none ∈ gw := gw_6 (i := 120) (rfl) rfl
theorem q_6_119 : Cond.instanceMethod yX10_next ∈ gw := gw_6 (i := 119) (by decide +kernel) rfl
theorem q_s_54 : Cond.selects "BeaconDelayModel" yX10_next yX10_next ∈ gw := gw_s (i := 54) (by decide +kernel) rfl
theorem mt_X10_next : MtV yX10_next cX10_next 2 none 0 := ⟨⟨q_6_120, q_1_9, by decide +kernel, by decide +kernel, by decide +kernel⟩, q_6_119, q_s_54⟩
theorem q_6_117 : Cond.methodLink "BeaconDelayModel" 152 yX10_next ∈ gw := gw_6 (i := 117) (by decide +kernel) rfl
theorem dX10_coast_50 : decode cX10_coast 50 = .ok (.invokevirtual 152, 3) := by decide +kernel
theorem dX10_coast_53 : decode cX10_coast 53 = .ok (.aload_n 0, 1) := by decide +kernel
theorem dX10_coast_54 : decode cX10_coast 54 = .ok (.iconst 0, 1) := by decide +kernel
theorem dX10_coast_55 : decode cX10_coast 55 = .ok (.invokevirtual 175, 3) := by decide +kernel
theorem dX10_coast_58 : decode cX10_coast 58 = .ok (.ifCond .ne 8, 3) := by decide +kernel
theorem dX10_coast_61 : decode cX10_coast 61 = .ok (.aload_n 0, 1) := by decide +kernel
theorem dX10_coast_62 : decode cX10_coast 62 = .ok (.iconst 2, 1) := by decide +kernel
theorem dX10_coast_63 : decode cX10_coast 63 = .ok (.invokevirtual 155, 3) := by decide +kernel
theorem dX10_coast_66 : decode cX10_coast 66 = .ok (.aload_n 0, 1) := by decide +kernel
theorem dX10_coast_67 : decode cX10_coast 67 = .ok (.getfield 24, 3) := by decide +kernel
theorem dX10_coast_70 : decode cX10_coast 70 = .ok (.bipush 51, 2) := by decide +kernel
theorem dX10_coast_72 : decode cX10_coast 72 = .ok (.aload_n 0, 1) := by decide +kernel
theorem dX10_coast_73 : decode cX10_coast 73 = .ok (.iconst 1, 1) := by decide +kernel
theorem dX10_coast_74 : decode cX10_coast 74 = .ok (.iconst 0, 1) := by decide +kernel
theorem dX10_coast_75 : decode cX10_coast 75 = .ok (.bipush 9, 2) := by decide +kernel
theorem q_6_154 : Cond.code yX10_named prog_12_method_27_code 4 (some FieldType.int) ∈ gw := gw_6 (i := 154) (rfl) rfl
theorem q_6_153 : Cond.instanceMethod yX10_named ∈ gw := gw_6 (i := 153) (by decide +kernel) rfl
theorem q_s_60 : Cond.selects "BeaconDelayModel" yX10_named yX10_named ∈ gw := gw_s (i := 60) (by decide +kernel) rfl
theorem mt_X10_named : MtV yX10_named cX10_named 4 (some .int) 3 := ⟨⟨q_6_154, q_1_9, by decide +kernel, by decide +kernel, by decide +kernel⟩, q_6_153, q_s_60⟩
theorem q_6_151 : Cond.methodLink "BeaconDelayModel" 200 yX10_named ∈ gw := gw_6 (i := 151) (by decide +kernel) rfl
theorem dX10_coast_77 : decode cX10_coast 77 = .ok (.invokevirtual 200, 3) := by decide +kernel
theorem dX10_coast_80 : decode cX10_coast 80 = .ok (.iastore, 1) := by decide +kernel
theorem dX10_coast_81 : decode cX10_coast 81 = .ok (.aload_n 0, 1) := by decide +kernel
theorem q_6_162 : Cond.code yX10_closes prog_12_method_33_code 1 none ∈ gw := gw_6 (i := 162) (rfl) rfl
theorem q_6_161 : Cond.instanceMethod yX10_closes ∈ gw := gw_6 (i := 161) (by decide +kernel) rfl
theorem q_s_62 : Cond.selects "BeaconDelayModel" yX10_closes yX10_closes ∈ gw := gw_s (i := 62) (by decide +kernel) rfl
theorem mt_X10_closes : MtV yX10_closes cX10_closes 1 none 0 := ⟨⟨q_6_162, q_1_9, by decide +kernel, by decide +kernel, by decide +kernel⟩, q_6_161, q_s_62⟩
theorem q_6_159 : Cond.methodLink "BeaconDelayModel" 219 yX10_closes ∈ gw := gw_6 (i := 159) (by decide +kernel) rfl
theorem dX10_coast_82 : decode cX10_coast 82 = .ok (.invokevirtual 219, 3) := by decide +kernel
theorem dX10_coast_85 : decode cX10_coast 85 = .ok (.aload_n 0, 1) := by decide +kernel
theorem dX10_coast_86 : decode cX10_coast 86 = .ok (.getfield 143, 3) := by decide +kernel
theorem dX10_coast_89 : decode cX10_coast 89 = .ok (.ifCond .ne 23, 3) := by decide +kernel
theorem dX10_coast_112 : decode cX10_coast 112 = .ok (.aload_n 0, 1) := by decide +kernel
theorem dX10_coast_113 : decode cX10_coast 113 = .ok (.aload_n 0, 1) := by decide +kernel
theorem dX10_coast_114 : decode cX10_coast 114 = .ok (.getfield 143, 3) := by decide +kernel
theorem q_5_237 : Cond.fieldLink "BeaconDelayModel" 225 "BeaconDelayModel" "faultKind" "I" ∈ gw := gw_5 (i := 237) (by decide +kernel) rfl
theorem dX10_coast_117 : decode cX10_coast 117 = .ok (.putfield 225, 3) := by decide +kernel
theorem dX10_coast_120 : decode cX10_coast 120 = .ok (.aload_n 0, 1) := by decide +kernel
theorem dX10_coast_121 : decode cX10_coast 121 = .ok (.aload_n 0, 1) := by decide +kernel
theorem dX10_coast_122 : decode cX10_coast 122 = .ok (.getfield 143, 3) := by decide +kernel
theorem dX10_coast_125 : decode cX10_coast 125 = .ok (.ifCond .ne 7, 3) := by decide +kernel
theorem dX10_coast_132 : decode cX10_coast 132 = .ok (.aload_n 0, 1) := by decide +kernel
theorem dX10_coast_133 : decode cX10_coast 133 = .ok (.getfield 146, 3) := by decide +kernel
theorem dX10_coast_136 : decode cX10_coast 136 = .ok (.putfield 27, 3) := by decide +kernel
theorem dX10_coast_139 : decode cX10_coast 139 = .ok (.aload_n 0, 1) := by decide +kernel
theorem dX10_coast_140 : decode cX10_coast 140 = .ok (.getfield 143, 3) := by decide +kernel
theorem dX10_coast_143 : decode cX10_coast 143 = .ok (.ifCond .eq 11, 3) := by decide +kernel
theorem dX10_coast_146 : decode cX10_coast 146 = .ok (.bipush (-30), 2) := by decide +kernel
theorem dX10_coast_148 : decode cX10_coast 148 = .ok (.aload_n 0, 1) := by decide +kernel
theorem dX10_coast_149 : decode cX10_coast 149 = .ok (.getfield 143, 3) := by decide +kernel
theorem dX10_coast_152 : decode cX10_coast 152 = .ok (.isub, 1) := by decide +kernel
theorem dX10_coast_153 : decode cX10_coast 153 = .ok (.ireturn, 1) := by decide +kernel
set_option maxHeartbeats 4000000 in
set_option maxRecDepth 100000 in
theorem c_X10_coast_0 (l : Launch) (V : GV) (z : Nat → Nat) (p0 : Int32) : Ct l V yX10_coast (.code yX10_coast cX10_coast 3 (some .int)) 4 [.ref (z 0), .int p0] [(z 0, .inr (10, mo z 0 0 0 0 0 0 0 0 0 0 (-1) 0 0 0 0 0)), (z 4, aI V 1025 (fun _ => 0))] 0 0 (QI V (fun (r : Int32) (w : va_W) => (p0.toInt64 < 0 ∧ r = (-3) ∧ w = [(z 0, .inr (10, mo z 0 0 0 0 0 0 0 0 0 0 (-1) 0 0 0 0 0)), (z 4, aI V 1025 (fun _ => 0))]) ∨ ((¬ p0.toInt64 < 0) ∧ 0 < p0.toInt64 ∧ r = (-3) ∧ w = [(z 0, .inr (10, mo z 0 0 0 0 0 0 0 0 0 0 (-1) 0 0 0 0 0)), (z 4, aI V 1025 (fun _ => 0))]) ∨ ((¬ p0.toInt64 < 0) ∧ (¬ 0 < p0.toInt64) ∧ p0 = 0 ∧ r = (-32) ∧ w = [(z 0, .inr (10, mo z 0 0 0 0 0 24 0 2 0 2 0 0 0 0 0 0)), (z 4, aI V 1025 (upd (fun _ => 0) 0 1))]))) := by
  refine Ct.of (by decide) (Nat.le_of_ble_eq_true rfl) (fun p e s m below meth c A ls hx hb hr hml hown hlk hnm hg hP hK hD hE hA hS hl => ?_)
  have hl : lv_has ls 3 [(0, .ref (z 0)), (1, .int p0)] := hl
  refine lv_aload_n hx hb dX10_coast_0 rfl (lv_at hl 0 rfl) ?_
  refine lv_iconst (v := 0) hx hb dX10_coast_1 (by decide) ?_
  refine va_put (ci := 10) (v := .int 0) (ty := .int) (C := RX10) (T := TX10) (N := 40) hx hb hg inX10 tyX10 tyX10_ok nmX10 hown hK hP hD hS 0 rfl rfl 0 (by decide) (hg _ q_5_224) (fun _ h9 => h9) rfl (by decide +kernel) rfl rfl (Nat.le_of_ble_eq_true rfl) dX10_coast_2 (fun H locs hP hD hS => ?_)
  have hP : va_P V.1 vwCl [(z 0, .inr (10, mo z 0 0 0 0 0 0 0 0 0 0 (-1) 0 0 0 0 0)), (z 4, aI V 1025 (fun _ => 0))] H := hP
  have hD : va_D A [(z 0, .inr (10, mo z 0 0 0 0 0 0 0 0 0 0 (-1) 0 0 0 0 0)), (z 4, aI V 1025 (fun _ => 0))] := hD
  refine lv_iload_n hx hb dX10_coast_5 rfl (lv_at hl 1 rfl) ?_
  refine lv_i2l (v := p0.toInt64) hx hb dX10_coast_6 rfl ?_
  refine lv_lconst (v := 0) hx hb dX10_coast_7 (by decide) ?_
  refine lv_aload_n hx hb dX10_coast_8 rfl (lv_at hl 0 rfl) ?_
  refine va_get (ci := 10) (v := .int 0) (C := RX10) (T := TX10) (N := 40) hx hb hg inX10 hown hK hP 0 rfl rfl 5 (by decide) (hg _ q_5_229) (fun _ h9 => h9) rfl dX10_coast_9 ?_
  refine lv_i2l (v := 0) hx hb dX10_coast_12 (by decide +kernel) ?_
  refine jnI (wr := [(z 0, .inr (10, mo z 0 0 0 0 0 0 0 0 0 0 (-1) 0 0 0 0 0)), (z 4, aI V 1025 (fun _ => 0))]) (rnS (rest := []) ⟨hx, hb, hml, hown, hg⟩ (c_X10_within_0 l V p0.toInt64 0 0) mt_X10_within q_6_114 ⟨Nat.le_of_ble_eq_true rfl, Nat.le_of_ble_eq_true rfl⟩ hK hP hD hS hA hE [] rfl rfl rfl hl.1 rfl (Nat.le_of_ble_eq_true rfl) dX10_coast_13 ⟨Nat.le_of_ble_eq_true rfl, Nat.le_of_ble_eq_true rfl⟩) hP hD hS hA [] [0, 1] rfl rfl rfl (by decide) (fun r_1 w H locs hw hP hD hS => ?_)
  rcases hw with ⟨c_2, rfl, rfl⟩ | ⟨c_3, c_4, rfl, rfl⟩ | ⟨c_5, c_6, rfl, rfl⟩
  · have hP : va_P V.1 vwCl [(z 0, .inr (10, mo z 0 0 0 0 0 0 0 0 0 0 (-1) 0 0 0 0 0)), (z 4, aI V 1025 (fun _ => 0))] H := hP
    have hD : va_D A [(z 0, .inr (10, mo z 0 0 0 0 0 0 0 0 0 0 (-1) 0 0 0 0 0)), (z 4, aI V 1025 (fun _ => 0))] := hD
    refine lv_if_ne (tgt := 22) hx hb dX10_coast_16 (by decide) (fun c_7 => absurd c_7 (by decide)) (fun _ => ?_)
    refine lv_bipush (v := (-3)) hx hb dX10_coast_19 (by decide) ?_
    exact fiI hx hb hr hlk hK hP hD hS dX10_coast_21 (Nat.le_of_ble_eq_true rfl) (Nat.le_of_ble_eq_true rfl) (Or.inl ⟨c_2, rfl, rfl⟩)
  · have hP : va_P V.1 vwCl [(z 0, .inr (10, mo z 0 0 0 0 0 0 0 0 0 0 (-1) 0 0 0 0 0)), (z 4, aI V 1025 (fun _ => 0))] H := hP
    have hD : va_D A [(z 0, .inr (10, mo z 0 0 0 0 0 0 0 0 0 0 (-1) 0 0 0 0 0)), (z 4, aI V 1025 (fun _ => 0))] := hD
    refine lv_if_ne (tgt := 22) hx hb dX10_coast_16 (by decide) (fun c_8 => absurd c_8 (by decide)) (fun _ => ?_)
    refine lv_bipush (v := (-3)) hx hb dX10_coast_19 (by decide) ?_
    exact fiI hx hb hr hlk hK hP hD hS dX10_coast_21 (Nat.le_of_ble_eq_true rfl) (Nat.le_of_ble_eq_true rfl) (Or.inr (Or.inl ⟨c_3, c_4, rfl, rfl⟩))
  · have hP : va_P V.1 vwCl [(z 0, .inr (10, mo z 0 0 0 0 0 0 0 0 0 0 (-1) 0 0 0 0 0)), (z 4, aI V 1025 (fun _ => 0))] H := hP
    have hD : va_D A [(z 0, .inr (10, mo z 0 0 0 0 0 0 0 0 0 0 (-1) 0 0 0 0 0)), (z 4, aI V 1025 (fun _ => 0))] := hD
    refine lv_if_ne (tgt := 22) hx hb dX10_coast_16 (by decide) (fun _ => ?_) (fun c_9 => absurd c_9 (by decide))
    have c_10 : p0 = 0 := by simp only [tI_lt, tI_le, tI_eq, tL_lt, tL_le, tL_eq, tWx, (by decide : (0 : Int32).toInt = 0), (by decide : (0 : Int64).toInt = 0)] at c_5 c_6 ⊢; omega
    rcases c_10 with rfl
    · refine lv_aload_n hx hb dX10_coast_22 rfl (lv_at hl 0 rfl) ?_
      refine lv_iload_n hx hb dX10_coast_23 rfl (lv_at hl 1 rfl) ?_
      refine va_put (ci := 10) (v := .int 0) (ty := .int) (C := RX10) (T := TX10) (N := 40) hx hb hg inX10 tyX10 tyX10_ok nmX10 hown hK hP hD hS 0 rfl rfl 8 (by decide) (hg _ q_5_232) (fun _ h9 => h9) rfl (by decide +kernel) rfl rfl (Nat.le_of_ble_eq_true rfl) dX10_coast_24 (fun H locs hP hD hS => ?_)
      have hP : va_P V.1 vwCl [(z 0, .inr (10, mo z 0 0 0 0 0 0 0 0 0 0 (-1) 0 0 0 0 0)), (z 4, aI V 1025 (fun _ => 0))] H := hP
      have hD : va_D A [(z 0, .inr (10, mo z 0 0 0 0 0 0 0 0 0 0 (-1) 0 0 0 0 0)), (z 4, aI V 1025 (fun _ => 0))] := hD
      refine lv_aload_n hx hb dX10_coast_27 rfl (lv_at hl 0 rfl) ?_
      refine lv_iconst (v := 0) hx hb dX10_coast_28 (by decide) ?_
      refine va_put (ci := 10) (v := .int 0) (ty := .int) (C := RX10) (T := TX10) (N := 40) hx hb hg inX10 tyX10 tyX10_ok nmX10 hown hK hP hD hS 0 rfl rfl 5 (by decide) (hg _ q_5_229) (fun _ h9 => h9) rfl (by decide +kernel) rfl rfl (Nat.le_of_ble_eq_true rfl) dX10_coast_29 (fun H locs hP hD hS => ?_)
      have hP : va_P V.1 vwCl [(z 0, .inr (10, mo z 0 0 0 0 0 0 0 0 0 0 (-1) 0 0 0 0 0)), (z 4, aI V 1025 (fun _ => 0))] H := hP
      have hD : va_D A [(z 0, .inr (10, mo z 0 0 0 0 0 0 0 0 0 0 (-1) 0 0 0 0 0)), (z 4, aI V 1025 (fun _ => 0))] := hD
      refine lv_aload_n hx hb dX10_coast_32 rfl (lv_at hl 0 rfl) ?_
      refine lv_iconst (v := 0) hx hb dX10_coast_33 (by decide) ?_
      refine va_put (ci := 10) (v := .int 0) (ty := .int) (C := RX10) (T := TX10) (N := 40) hx hb hg inX10 tyX10 tyX10_ok nmX10 hown hK hP hD hS 0 rfl rfl 7 (by decide) (hg _ q_5_231) (fun _ h9 => h9) rfl (by decide +kernel) rfl rfl (Nat.le_of_ble_eq_true rfl) dX10_coast_34 (fun H locs hP hD hS => ?_)
      have hP : va_P V.1 vwCl [(z 0, .inr (10, mo z 0 0 0 0 0 0 0 0 0 0 (-1) 0 0 0 0 0)), (z 4, aI V 1025 (fun _ => 0))] H := hP
      have hD : va_D A [(z 0, .inr (10, mo z 0 0 0 0 0 0 0 0 0 0 (-1) 0 0 0 0 0)), (z 4, aI V 1025 (fun _ => 0))] := hD
      refine lv_aload_n hx hb dX10_coast_37 rfl (lv_at hl 0 rfl) ?_
      refine lv_iconst (v := 0) hx hb dX10_coast_38 (by decide) ?_
      refine va_put (ci := 10) (v := .int 0) (ty := .int) (C := RX10) (T := TX10) (N := 40) hx hb hg inX10 tyX10 tyX10_ok nmX10 hown hK hP hD hS 0 rfl rfl 11 (by decide) (hg _ q_5_235) (fun _ h9 => h9) rfl (by decide +kernel) rfl rfl (Nat.le_of_ble_eq_true rfl) dX10_coast_39 (fun H locs hP hD hS => ?_)
      have hP : va_P V.1 vwCl [(z 0, .inr (10, mo z 0 0 0 0 0 0 0 0 0 0 (-1) 0 0 0 0 0)), (z 4, aI V 1025 (fun _ => 0))] H := hP
      have hD : va_D A [(z 0, .inr (10, mo z 0 0 0 0 0 0 0 0 0 0 (-1) 0 0 0 0 0)), (z 4, aI V 1025 (fun _ => 0))] := hD
      refine lv_aload_n hx hb dX10_coast_42 rfl (lv_at hl 0 rfl) ?_
      refine va_get (ci := 10) (v := .ref (z 4)) (C := RX10) (T := TX10) (N := 40) hx hb hg inX10 hown hK hP 0 rfl rfl 4 (by decide) (hg _ q_5_228) (fun _ h9 => h9) rfl dX10_coast_43 ?_
      refine jnV (wr := [(z 0, .inr (10, mo z 0 0 0 0 0 0 0 0 0 0 (-1) 0 0 0 0 0))]) (rnS (rest := []) ⟨hx, hb, hml, hown, hg⟩ (c_X10_plain_1 l V z) mt_X10_plain q_5_221 ⟨Nat.le_of_ble_eq_true rfl, Nat.le_of_ble_eq_true rfl⟩ hK hP hD hS hA hE [1] rfl rfl rfl hl.1 rfl (Nat.le_of_ble_eq_true rfl) dX10_coast_46 ⟨Nat.le_of_ble_eq_true rfl, Nat.le_of_ble_eq_true rfl⟩) hP hD hS hA [1] [0] rfl rfl rfl (by decide) (fun  w H locs hw hP hD hS => ?_)
      subst hw
      have hP : va_P V.1 vwCl [(z 0, .inr (10, mo z 0 0 0 0 0 0 0 0 0 0 (-1) 0 0 0 0 0)), (z 4, aI V 1025 (fun _ => 0))] H := hP
      have hD : va_D A [(z 0, .inr (10, mo z 0 0 0 0 0 0 0 0 0 0 (-1) 0 0 0 0 0)), (z 4, aI V 1025 (fun _ => 0))] := hD
      refine lv_aload_n hx hb dX10_coast_49 rfl (lv_at hl 0 rfl) ?_
      refine jnV (wr := [(z 4, aI V 1025 (fun _ => 0))]) (rnV (rest := []) ⟨hx, hb, hml, hown, hg⟩ (c_X10_next_0 l V z) mt_X10_next q_6_117 ⟨Nat.le_of_ble_eq_true rfl, Nat.le_of_ble_eq_true rfl⟩ hK hP hD hS hA hE [0] rfl rfl 0 rfl rfl rfl rfl hl.1 rfl (Nat.le_of_ble_eq_true rfl) dX10_coast_50 ⟨Nat.le_of_ble_eq_true rfl, Nat.le_of_ble_eq_true rfl⟩) hP hD hS hA [0] [1] rfl rfl rfl (by decide) (fun  w H locs hw hP hD hS => ?_)
      subst hw
      have hP : va_P V.1 vwCl [(z 4, aI V 1025 (fun _ => 0)), (z 0, .inr (10, mo z 0 0 0 0 0 24 0 0 0 0 (-1) 0 0 0 0 0))] H := hP
      have hD : va_D A [(z 4, aI V 1025 (fun _ => 0)), (z 0, .inr (10, mo z 0 0 0 0 0 24 0 0 0 0 (-1) 0 0 0 0 0))] := hD
      refine lv_aload_n hx hb dX10_coast_53 rfl (lv_at hl 0 rfl) ?_
      refine lv_iconst (v := 0) hx hb dX10_coast_54 (by decide) ?_
      refine jnI (wr := [(z 4, aI V 1025 (fun _ => 0))]) (rnV (rest := []) ⟨hx, hb, hml, hown, hg⟩ (c_X10_eats_0 l V z) mt_X10_eats q_6_139 ⟨Nat.le_of_ble_eq_true rfl, Nat.le_of_ble_eq_true rfl⟩ hK hP hD hS hA hE [1] rfl rfl 1 rfl rfl rfl rfl hl.1 rfl (Nat.le_of_ble_eq_true rfl) dX10_coast_55 ⟨Nat.le_of_ble_eq_true rfl, Nat.le_of_ble_eq_true rfl⟩) hP hD hS hA [1] [0] rfl rfl rfl (by decide) (fun r_11 w H locs hw hP hD hS => ?_)
      obtain ⟨rfl, rfl⟩ := hw
      have hP : va_P V.1 vwCl [(z 4, aI V 1025 (fun _ => 0)), (z 0, .inr (10, mo z 0 0 0 0 0 24 0 0 0 0 (-1) 0 0 0 0 0))] H := hP
      have hD : va_D A [(z 4, aI V 1025 (fun _ => 0)), (z 0, .inr (10, mo z 0 0 0 0 0 24 0 0 0 0 (-1) 0 0 0 0 0))] := hD
      refine lv_if_ne (tgt := 66) hx hb dX10_coast_58 (by decide) (fun c_12 => absurd c_12 (by decide)) (fun _ => ?_)
      refine lv_aload_n hx hb dX10_coast_61 rfl (lv_at hl 0 rfl) ?_
      refine lv_iconst (v := 2) hx hb dX10_coast_62 (by decide) ?_
      refine jnV (wr := [(z 4, aI V 1025 (fun _ => 0))]) (rnV (rest := []) ⟨hx, hb, hml, hown, hg⟩ (c_X10_fails_0 l V z) mt_X10_fails q_6_147 ⟨Nat.le_of_ble_eq_true rfl, Nat.le_of_ble_eq_true rfl⟩ hK hP hD hS hA hE [1] rfl rfl 1 rfl rfl rfl rfl hl.1 rfl (Nat.le_of_ble_eq_true rfl) dX10_coast_63 ⟨Nat.le_of_ble_eq_true rfl, Nat.le_of_ble_eq_true rfl⟩) hP hD hS hA [1] [0] rfl rfl rfl (by decide) (fun  w H locs hw hP hD hS => ?_)
      subst hw
      have hP : va_P V.1 vwCl [(z 4, aI V 1025 (fun _ => 0)), (z 0, .inr (10, mo z 0 0 0 0 0 24 0 2 0 0 (-1) 0 0 0 0 0))] H := hP
      have hD : va_D A [(z 4, aI V 1025 (fun _ => 0)), (z 0, .inr (10, mo z 0 0 0 0 0 24 0 2 0 0 (-1) 0 0 0 0 0))] := hD
      refine lv_aload_n hx hb dX10_coast_66 rfl (lv_at hl 0 rfl) ?_
      refine va_get (ci := 10) (v := .ref (z 4)) (C := RX10) (T := TX10) (N := 40) hx hb hg inX10 hown hK hP 1 rfl rfl 4 (by decide) (hg _ q_5_228) (fun _ h9 => h9) rfl dX10_coast_67 ?_
      refine lv_bipush (v := 51) hx hb dX10_coast_70 (by decide) ?_
      refine lv_aload_n hx hb dX10_coast_72 rfl (lv_at hl 0 rfl) ?_
      refine lv_iconst (v := 1) hx hb dX10_coast_73 (by decide) ?_
      refine lv_iconst (v := 0) hx hb dX10_coast_74 (by decide) ?_
      refine lv_bipush (v := 9) hx hb dX10_coast_75 (by decide) ?_
      refine jnI (wr := [(z 4, aI V 1025 (fun _ => 0))]) (rnV (rest := [.int 51, .ref (z 4)]) ⟨hx, hb, hml, hown, hg⟩ (c_X10_named_0 l V z) mt_X10_named q_6_151 ⟨Nat.le_of_ble_eq_true rfl, Nat.le_of_ble_eq_true rfl⟩ hK hP hD hS hA hE [1] rfl rfl 1 rfl rfl rfl rfl hl.1 rfl (Nat.le_of_ble_eq_true rfl) dX10_coast_77 ⟨Nat.le_of_ble_eq_true rfl, Nat.le_of_ble_eq_true rfl⟩) hP hD hS hA [1] [0] rfl rfl rfl (by decide) (fun r_13 w H locs hw hP hD hS => ?_)
      obtain ⟨rfl, rfl⟩ := hw
      have hP : va_P V.1 vwCl [(z 4, aI V 1025 (fun _ => 0)), (z 0, .inr (10, mo z 0 0 0 0 0 24 0 2 0 0 (-1) 0 0 0 0 0))] H := hP
      have hD : va_D A [(z 4, aI V 1025 (fun _ => 0)), (z 0, .inr (10, mo z 0 0 0 0 0 24 0 2 0 0 (-1) 0 0 0 0 0))] := hD
      refine va_iast hx hb hK hP hD hS 0 0 rfl rfl (vin (by decide +kernel)) dX10_coast_80 (fun H locs hP hD hS => ?_)
      have hP : va_P V.1 vwCl [(z 4, aI V 1025 (upd (fun _ => 0) 51 0)), (z 0, .inr (10, mo z 0 0 0 0 0 24 0 2 0 0 (-1) 0 0 0 0 0))] H := hP
      have hD : va_D A [(z 4, aI V 1025 (upd (fun _ => 0) 51 0)), (z 0, .inr (10, mo z 0 0 0 0 0 24 0 2 0 0 (-1) 0 0 0 0 0))] := hD
      have hP : va_P V.1 vwCl [(z 4, aI V 1025 (fun _ => 0)), (z 0, .inr (10, mo z 0 0 0 0 0 24 0 2 0 0 (-1) 0 0 0 0 0))] H := by rw [upd0] at hP; exact hP
      have hD : va_D A [(z 4, aI V 1025 (fun _ => 0)), (z 0, .inr (10, mo z 0 0 0 0 0 24 0 2 0 0 (-1) 0 0 0 0 0))] := by rw [upd0] at hD; exact hD
      refine lv_aload_n hx hb dX10_coast_81 rfl (lv_at hl 0 rfl) ?_
      refine jnV (wr := []) (rnV (rest := []) ⟨hx, hb, hml, hown, hg⟩ (c_X10_closes_0 l V z) mt_X10_closes q_6_159 ⟨Nat.le_of_ble_eq_true rfl, Nat.le_of_ble_eq_true rfl⟩ hK hP hD hS hA hE [0, 1] rfl rfl 1 rfl rfl rfl rfl hl.1 rfl (Nat.le_of_ble_eq_true rfl) dX10_coast_82 ⟨Nat.le_of_ble_eq_true rfl, Nat.le_of_ble_eq_true rfl⟩) hP hD hS hA [0, 1] [] rfl rfl rfl (by decide) (fun  w H locs hw hP hD hS => ?_)
      subst hw
      have hP : va_P V.1 vwCl [(z 4, aI V 1025 (upd (fun _ => 0) 0 1)), (z 0, .inr (10, mo z 0 0 0 0 0 24 0 2 0 0 (-1) 0 0 0 0 0))] H := hP
      have hD : va_D A [(z 4, aI V 1025 (upd (fun _ => 0) 0 1)), (z 0, .inr (10, mo z 0 0 0 0 0 24 0 2 0 0 (-1) 0 0 0 0 0))] := hD
      refine lv_aload_n hx hb dX10_coast_85 rfl (lv_at hl 0 rfl) ?_
      refine va_get (ci := 10) (v := .int 2) (C := RX10) (T := TX10) (N := 40) hx hb hg inX10 hown hK hP 1 rfl rfl 11 (by decide) (hg _ q_5_235) (fun _ h9 => h9) rfl dX10_coast_86 ?_
      refine lv_if_ne (tgt := 112) hx hb dX10_coast_89 (by decide) (fun _ => ?_) (fun c_14 => absurd c_14 (by decide))
      refine lv_aload_n hx hb dX10_coast_112 rfl (lv_at hl 0 rfl) ?_
      refine lv_aload_n hx hb dX10_coast_113 rfl (lv_at hl 0 rfl) ?_
      refine va_get (ci := 10) (v := .int 2) (C := RX10) (T := TX10) (N := 40) hx hb hg inX10 hown hK hP 1 rfl rfl 11 (by decide) (hg _ q_5_235) (fun _ h9 => h9) rfl dX10_coast_114 ?_
      refine va_put (ci := 10) (v := .int 2) (ty := .int) (C := RX10) (T := TX10) (N := 40) hx hb hg inX10 tyX10 tyX10_ok nmX10 hown hK hP hD hS 1 rfl rfl 13 (by decide) (hg _ q_5_237) (fun _ h9 => h9) rfl (by decide +kernel) rfl rfl (Nat.le_of_ble_eq_true rfl) dX10_coast_117 (fun H locs hP hD hS => ?_)
      have hP : va_P V.1 vwCl [(z 4, aI V 1025 (upd (fun _ => 0) 0 1)), (z 0, .inr (10, mo z 0 0 0 0 0 24 0 2 0 2 (-1) 0 0 0 0 0))] H := hP
      have hD : va_D A [(z 4, aI V 1025 (upd (fun _ => 0) 0 1)), (z 0, .inr (10, mo z 0 0 0 0 0 24 0 2 0 2 (-1) 0 0 0 0 0))] := hD
      refine lv_aload_n hx hb dX10_coast_120 rfl (lv_at hl 0 rfl) ?_
      refine lv_aload_n hx hb dX10_coast_121 rfl (lv_at hl 0 rfl) ?_
      refine va_get (ci := 10) (v := .int 2) (C := RX10) (T := TX10) (N := 40) hx hb hg inX10 hown hK hP 1 rfl rfl 11 (by decide) (hg _ q_5_235) (fun _ h9 => h9) rfl dX10_coast_122 ?_
      refine lv_if_ne (tgt := 132) hx hb dX10_coast_125 (by decide) (fun _ => ?_) (fun c_15 => absurd c_15 (by decide))
      refine lv_aload_n hx hb dX10_coast_132 rfl (lv_at hl 0 rfl) ?_
      refine va_get (ci := 10) (v := .int 0) (C := RX10) (T := TX10) (N := 40) hx hb hg inX10 hown hK hP 1 rfl rfl 12 (by decide) (hg _ q_5_236) (fun _ h9 => h9) rfl dX10_coast_133 ?_
      refine va_put (ci := 10) (v := .int 0) (ty := .int) (C := RX10) (T := TX10) (N := 40) hx hb hg inX10 tyX10 tyX10_ok nmX10 hown hK hP hD hS 1 rfl rfl 14 (by decide) (hg _ q_5_238) (fun _ h9 => h9) rfl (by decide +kernel) rfl rfl (Nat.le_of_ble_eq_true rfl) dX10_coast_136 (fun H locs hP hD hS => ?_)
      have hP : va_P V.1 vwCl [(z 4, aI V 1025 (upd (fun _ => 0) 0 1)), (z 0, .inr (10, mo z 0 0 0 0 0 24 0 2 0 2 0 0 0 0 0 0))] H := hP
      have hD : va_D A [(z 4, aI V 1025 (upd (fun _ => 0) 0 1)), (z 0, .inr (10, mo z 0 0 0 0 0 24 0 2 0 2 0 0 0 0 0 0))] := hD
      refine lv_aload_n hx hb dX10_coast_139 rfl (lv_at hl 0 rfl) ?_
      refine va_get (ci := 10) (v := .int 2) (C := RX10) (T := TX10) (N := 40) hx hb hg inX10 hown hK hP 1 rfl rfl 11 (by decide) (hg _ q_5_235) (fun _ h9 => h9) rfl dX10_coast_140 ?_
      refine lv_if_eq (tgt := 154) hx hb dX10_coast_143 (by decide) (fun c_16 => absurd c_16 (by decide)) (fun _ => ?_)
      refine lv_bipush (v := (-30)) hx hb dX10_coast_146 (by decide) ?_
      refine lv_aload_n hx hb dX10_coast_148 rfl (lv_at hl 0 rfl) ?_
      refine va_get (ci := 10) (v := .int 2) (C := RX10) (T := TX10) (N := 40) hx hb hg inX10 hown hK hP 1 rfl rfl 11 (by decide) (hg _ q_5_235) (fun _ h9 => h9) rfl dX10_coast_149 ?_
      refine lv_isub hx hb dX10_coast_152 ?_
      refine tpi (y := (-32)) (by decide +kernel) ?_
      have hP := subP (ws' := [(z 0, .inr (10, mo z 0 0 0 0 0 24 0 2 0 2 0 0 0 0 0 0)), (z 4, aI V 1025 (upd (fun _ => 0) 0 1))]) hP [1, 0] rfl
      have hD := hD.sub (ws' := [(z 0, .inr (10, mo z 0 0 0 0 0 24 0 2 0 2 0 0 0 0 0 0)), (z 4, aI V 1025 (upd (fun _ => 0) 0 1))]) [1, 0] rfl rfl
      exact fiI hx hb hr hlk hK hP hD hS dX10_coast_153 (Nat.le_of_ble_eq_true rfl) (Nat.le_of_ble_eq_true rfl) (Or.inr (Or.inr (⟨c_5, c_6, rfl, rfl, rfl⟩)))
theorem dX1_becomeEmpty_0 : decode cX1_becomeEmpty 0 = .ok (.aload_n 0, 1) := by decide +kernel
theorem dX1_becomeEmpty_1 : decode cX1_becomeEmpty 1 = .ok (.iconst 0, 1) := by decide +kernel
theorem q_1_35 : Cond.fieldLink "BeaconDelay$Coast" 33 "BeaconDelay$Coast" "lines" "I" ∈ gw := gw_1 (i := 35) (by decide +kernel) rfl
theorem dX1_becomeEmpty_2 : decode cX1_becomeEmpty 2 = .ok (.putfield 33, 3) := by decide +kernel
theorem dX1_becomeEmpty_5 : decode cX1_becomeEmpty 5 = .ok (.aload_n 0, 1) := by decide +kernel
theorem dX1_becomeEmpty_6 : decode cX1_becomeEmpty 6 = .ok (.iconst 0, 1) := by decide +kernel
theorem q_1_38 : Cond.fieldLink "BeaconDelay$Coast" 37 "BeaconDelay$Coast" "hills" "I" ∈ gw := gw_1 (i := 38) (by decide +kernel) rfl
theorem dX1_becomeEmpty_7 : decode cX1_becomeEmpty 7 = .ok (.putfield 37, 3) := by decide +kernel
theorem dX1_becomeEmpty_10 : decode cX1_becomeEmpty 10 = .ok (.aload_n 0, 1) := by decide +kernel
theorem dX1_becomeEmpty_11 : decode cX1_becomeEmpty 11 = .ok (.iconst 0, 1) := by decide +kernel
theorem q_1_42 : Cond.fieldLink "BeaconDelay$Coast" 40 "BeaconDelay$Coast" "villages" "I" ∈ gw := gw_1 (i := 42) (by decide +kernel) rfl
theorem dX1_becomeEmpty_12 : decode cX1_becomeEmpty 12 = .ok (.putfield 40, 3) := by decide +kernel
theorem dX1_becomeEmpty_15 : decode cX1_becomeEmpty 15 = .ok (.aload_n 0, 1) := by decide +kernel
theorem dX1_becomeEmpty_16 : decode cX1_becomeEmpty 16 = .ok (.iconst 0, 1) := by decide +kernel
theorem q_1_45 : Cond.fieldLink "BeaconDelay$Coast" 43 "BeaconDelay$Coast" "roads" "I" ∈ gw := gw_1 (i := 45) (by decide +kernel) rfl
theorem dX1_becomeEmpty_17 : decode cX1_becomeEmpty 17 = .ok (.putfield 43, 3) := by decide +kernel
theorem dX1_becomeEmpty_20 : decode cX1_becomeEmpty 20 = .ok (.aload_n 0, 1) := by decide +kernel
theorem dX1_becomeEmpty_21 : decode cX1_becomeEmpty 21 = .ok (.iconst 0, 1) := by decide +kernel
theorem q_1_48 : Cond.fieldLink "BeaconDelay$Coast" 46 "BeaconDelay$Coast" "firstStanding" "I" ∈ gw := gw_1 (i := 48) (by decide +kernel) rfl
theorem dX1_becomeEmpty_22 : decode cX1_becomeEmpty 22 = .ok (.putfield 46, 3) := by decide +kernel
theorem dX1_becomeEmpty_25 : decode cX1_becomeEmpty 25 = .ok (.aload_n 0, 1) := by decide +kernel
theorem dX1_becomeEmpty_26 : decode cX1_becomeEmpty 26 = .ok (.iconst 0, 1) := by decide +kernel
theorem q_1_51 : Cond.fieldLink "BeaconDelay$Coast" 49 "BeaconDelay$Coast" "firstWeather" "I" ∈ gw := gw_1 (i := 51) (by decide +kernel) rfl
theorem dX1_becomeEmpty_27 : decode cX1_becomeEmpty 27 = .ok (.putfield 49, 3) := by decide +kernel
theorem dX1_becomeEmpty_30 : decode cX1_becomeEmpty 30 = .ok (.aload_n 0, 1) := by decide +kernel
theorem dX1_becomeEmpty_31 : decode cX1_becomeEmpty 31 = .ok (.iconst 0, 1) := by decide +kernel
theorem q_1_73 : Cond.fieldLink "BeaconDelay$Coast" 52 "BeaconDelay$Coast" "stepCount" "I" ∈ gw := gw_1 (i := 73) (by decide +kernel) rfl
theorem dX1_becomeEmpty_32 : decode cX1_becomeEmpty 32 = .ok (.putfield 52, 3) := by decide +kernel
theorem dX1_becomeEmpty_35 : decode cX1_becomeEmpty 35 = .ok (.aload_n 0, 1) := by decide +kernel
theorem dX1_becomeEmpty_36 : decode cX1_becomeEmpty 36 = .ok (.iconst 0, 1) := by decide +kernel
theorem q_1_75 : Cond.fieldLink "BeaconDelay$Coast" 55 "BeaconDelay$Coast" "takesBegin" "I" ∈ gw := gw_1 (i := 75) (by decide +kernel) rfl
theorem dX1_becomeEmpty_37 : decode cX1_becomeEmpty 37 = .ok (.putfield 55, 3) := by decide +kernel
theorem dX1_becomeEmpty_40 : decode cX1_becomeEmpty 40 = .ok (.aload_n 0, 1) := by decide +kernel
theorem dX1_becomeEmpty_41 : decode cX1_becomeEmpty 41 = .ok (.iconst 0, 1) := by decide +kernel
theorem q_1_78 : Cond.fieldLink "BeaconDelay$Coast" 58 "BeaconDelay$Coast" "takesEnd" "I" ∈ gw := gw_1 (i := 78) (by decide +kernel) rfl
theorem dX1_becomeEmpty_42 : decode cX1_becomeEmpty 42 = .ok (.putfield 58, 3) := by decide +kernel
theorem dX1_becomeEmpty_45 : decode cX1_becomeEmpty 45 = .ok (.aload_n 0, 1) := by decide +kernel
theorem dX1_becomeEmpty_46 : decode cX1_becomeEmpty 46 = .ok (.iconst 0, 1) := by decide +kernel
theorem q_1_81 : Cond.fieldLink "BeaconDelay$Coast" 61 "BeaconDelay$Coast" "addsBegin" "I" ∈ gw := gw_1 (i := 81) (by decide +kernel) rfl
theorem dX1_becomeEmpty_47 : decode cX1_becomeEmpty 47 = .ok (.putfield 61, 3) := by decide +kernel
theorem dX1_becomeEmpty_50 : decode cX1_becomeEmpty 50 = .ok (.aload_n 0, 1) := by decide +kernel
theorem dX1_becomeEmpty_51 : decode cX1_becomeEmpty 51 = .ok (.iconst 0, 1) := by decide +kernel
theorem q_1_84 : Cond.fieldLink "BeaconDelay$Coast" 64 "BeaconDelay$Coast" "addsEnd" "I" ∈ gw := gw_1 (i := 84) (by decide +kernel) rfl
theorem dX1_becomeEmpty_52 : decode cX1_becomeEmpty 52 = .ok (.putfield 64, 3) := by decide +kernel
theorem dX1_becomeEmpty_55 : decode cX1_becomeEmpty 55 = .ok (.return_, 1) := by decide +kernel
set_option maxHeartbeats 4000000 in
set_option maxRecDepth 100000 in
theorem c_X1_becomeEmpty_0 (l : Launch) (V : GV) (y : Nat → Nat) : Ct l V yX1_becomeEmpty (.code yX1_becomeEmpty cX1_becomeEmpty 1 none) 1 [.ref (y 11)] [(y 11, .inr (1, [.int 0, .int 0, .int 0, .int 0, .int 0, .int 0, .ref (y 12), .ref (y 13), .ref (y 14), .ref (y 15), .ref (y 16), .ref (y 17), .ref (y 18), .int 0, .int 0, .int 0, .int 0, .int 0]))] 0 0 (QV V (fun (w : va_W) => (w = [(y 11, .inr (1, [.int 0, .int 0, .int 0, .int 0, .int 0, .int 0, .ref (y 12), .ref (y 13), .ref (y 14), .ref (y 15), .ref (y 16), .ref (y 17), .ref (y 18), .int 0, .int 0, .int 0, .int 0, .int 0]))]))) := by
  refine Ct.of (by decide) (Nat.le_of_ble_eq_true rfl) (fun p e s m below meth c A ls hx hb hr hml hown hlk hnm hg hP hK hD hE hA hS hl => ?_)
  have hl : lv_has ls 1 [(0, .ref (y 11))] := hl
  refine lv_aload_n hx hb dX1_becomeEmpty_0 rfl (lv_at hl 0 rfl) ?_
  refine lv_iconst (v := 0) hx hb dX1_becomeEmpty_1 (by decide) ?_
  refine va_put (ci := 1) (v := .int 0) (ty := .int) (C := RX1) (T := TX1) (N := 18) hx hb hg inX1 tyX1 tyX1_ok nmX1 hown hK hP hD hS 0 rfl rfl 0 (by decide) (hg _ q_1_35) (fun _ h9 => h9) rfl (by decide +kernel) rfl rfl (Nat.le_of_ble_eq_true rfl) dX1_becomeEmpty_2 (fun H locs hP hD hS => ?_)
  have hP : va_P V.1 vwCl [(y 11, .inr (1, [.int 0, .int 0, .int 0, .int 0, .int 0, .int 0, .ref (y 12), .ref (y 13), .ref (y 14), .ref (y 15), .ref (y 16), .ref (y 17), .ref (y 18), .int 0, .int 0, .int 0, .int 0, .int 0]))] H := hP
  have hD : va_D A [(y 11, .inr (1, [.int 0, .int 0, .int 0, .int 0, .int 0, .int 0, .ref (y 12), .ref (y 13), .ref (y 14), .ref (y 15), .ref (y 16), .ref (y 17), .ref (y 18), .int 0, .int 0, .int 0, .int 0, .int 0]))] := hD
  refine lv_aload_n hx hb dX1_becomeEmpty_5 rfl (lv_at hl 0 rfl) ?_
  refine lv_iconst (v := 0) hx hb dX1_becomeEmpty_6 (by decide) ?_
  refine va_put (ci := 1) (v := .int 0) (ty := .int) (C := RX1) (T := TX1) (N := 18) hx hb hg inX1 tyX1 tyX1_ok nmX1 hown hK hP hD hS 0 rfl rfl 1 (by decide) (hg _ q_1_38) (fun _ h9 => h9) rfl (by decide +kernel) rfl rfl (Nat.le_of_ble_eq_true rfl) dX1_becomeEmpty_7 (fun H locs hP hD hS => ?_)
  have hP : va_P V.1 vwCl [(y 11, .inr (1, [.int 0, .int 0, .int 0, .int 0, .int 0, .int 0, .ref (y 12), .ref (y 13), .ref (y 14), .ref (y 15), .ref (y 16), .ref (y 17), .ref (y 18), .int 0, .int 0, .int 0, .int 0, .int 0]))] H := hP
  have hD : va_D A [(y 11, .inr (1, [.int 0, .int 0, .int 0, .int 0, .int 0, .int 0, .ref (y 12), .ref (y 13), .ref (y 14), .ref (y 15), .ref (y 16), .ref (y 17), .ref (y 18), .int 0, .int 0, .int 0, .int 0, .int 0]))] := hD
  refine lv_aload_n hx hb dX1_becomeEmpty_10 rfl (lv_at hl 0 rfl) ?_
  refine lv_iconst (v := 0) hx hb dX1_becomeEmpty_11 (by decide) ?_
  refine va_put (ci := 1) (v := .int 0) (ty := .int) (C := RX1) (T := TX1) (N := 18) hx hb hg inX1 tyX1 tyX1_ok nmX1 hown hK hP hD hS 0 rfl rfl 2 (by decide) (hg _ q_1_42) (fun _ h9 => h9) rfl (by decide +kernel) rfl rfl (Nat.le_of_ble_eq_true rfl) dX1_becomeEmpty_12 (fun H locs hP hD hS => ?_)
  have hP : va_P V.1 vwCl [(y 11, .inr (1, [.int 0, .int 0, .int 0, .int 0, .int 0, .int 0, .ref (y 12), .ref (y 13), .ref (y 14), .ref (y 15), .ref (y 16), .ref (y 17), .ref (y 18), .int 0, .int 0, .int 0, .int 0, .int 0]))] H := hP
  have hD : va_D A [(y 11, .inr (1, [.int 0, .int 0, .int 0, .int 0, .int 0, .int 0, .ref (y 12), .ref (y 13), .ref (y 14), .ref (y 15), .ref (y 16), .ref (y 17), .ref (y 18), .int 0, .int 0, .int 0, .int 0, .int 0]))] := hD
  refine lv_aload_n hx hb dX1_becomeEmpty_15 rfl (lv_at hl 0 rfl) ?_
  refine lv_iconst (v := 0) hx hb dX1_becomeEmpty_16 (by decide) ?_
  refine va_put (ci := 1) (v := .int 0) (ty := .int) (C := RX1) (T := TX1) (N := 18) hx hb hg inX1 tyX1 tyX1_ok nmX1 hown hK hP hD hS 0 rfl rfl 3 (by decide) (hg _ q_1_45) (fun _ h9 => h9) rfl (by decide +kernel) rfl rfl (Nat.le_of_ble_eq_true rfl) dX1_becomeEmpty_17 (fun H locs hP hD hS => ?_)
  have hP : va_P V.1 vwCl [(y 11, .inr (1, [.int 0, .int 0, .int 0, .int 0, .int 0, .int 0, .ref (y 12), .ref (y 13), .ref (y 14), .ref (y 15), .ref (y 16), .ref (y 17), .ref (y 18), .int 0, .int 0, .int 0, .int 0, .int 0]))] H := hP
  have hD : va_D A [(y 11, .inr (1, [.int 0, .int 0, .int 0, .int 0, .int 0, .int 0, .ref (y 12), .ref (y 13), .ref (y 14), .ref (y 15), .ref (y 16), .ref (y 17), .ref (y 18), .int 0, .int 0, .int 0, .int 0, .int 0]))] := hD
  refine lv_aload_n hx hb dX1_becomeEmpty_20 rfl (lv_at hl 0 rfl) ?_
  refine lv_iconst (v := 0) hx hb dX1_becomeEmpty_21 (by decide) ?_
  refine va_put (ci := 1) (v := .int 0) (ty := .int) (C := RX1) (T := TX1) (N := 18) hx hb hg inX1 tyX1 tyX1_ok nmX1 hown hK hP hD hS 0 rfl rfl 4 (by decide) (hg _ q_1_48) (fun _ h9 => h9) rfl (by decide +kernel) rfl rfl (Nat.le_of_ble_eq_true rfl) dX1_becomeEmpty_22 (fun H locs hP hD hS => ?_)
  have hP : va_P V.1 vwCl [(y 11, .inr (1, [.int 0, .int 0, .int 0, .int 0, .int 0, .int 0, .ref (y 12), .ref (y 13), .ref (y 14), .ref (y 15), .ref (y 16), .ref (y 17), .ref (y 18), .int 0, .int 0, .int 0, .int 0, .int 0]))] H := hP
  have hD : va_D A [(y 11, .inr (1, [.int 0, .int 0, .int 0, .int 0, .int 0, .int 0, .ref (y 12), .ref (y 13), .ref (y 14), .ref (y 15), .ref (y 16), .ref (y 17), .ref (y 18), .int 0, .int 0, .int 0, .int 0, .int 0]))] := hD
  refine lv_aload_n hx hb dX1_becomeEmpty_25 rfl (lv_at hl 0 rfl) ?_
  refine lv_iconst (v := 0) hx hb dX1_becomeEmpty_26 (by decide) ?_
  refine va_put (ci := 1) (v := .int 0) (ty := .int) (C := RX1) (T := TX1) (N := 18) hx hb hg inX1 tyX1 tyX1_ok nmX1 hown hK hP hD hS 0 rfl rfl 5 (by decide) (hg _ q_1_51) (fun _ h9 => h9) rfl (by decide +kernel) rfl rfl (Nat.le_of_ble_eq_true rfl) dX1_becomeEmpty_27 (fun H locs hP hD hS => ?_)
  have hP : va_P V.1 vwCl [(y 11, .inr (1, [.int 0, .int 0, .int 0, .int 0, .int 0, .int 0, .ref (y 12), .ref (y 13), .ref (y 14), .ref (y 15), .ref (y 16), .ref (y 17), .ref (y 18), .int 0, .int 0, .int 0, .int 0, .int 0]))] H := hP
  have hD : va_D A [(y 11, .inr (1, [.int 0, .int 0, .int 0, .int 0, .int 0, .int 0, .ref (y 12), .ref (y 13), .ref (y 14), .ref (y 15), .ref (y 16), .ref (y 17), .ref (y 18), .int 0, .int 0, .int 0, .int 0, .int 0]))] := hD
  refine lv_aload_n hx hb dX1_becomeEmpty_30 rfl (lv_at hl 0 rfl) ?_
  refine lv_iconst (v := 0) hx hb dX1_becomeEmpty_31 (by decide) ?_
  refine va_put (ci := 1) (v := .int 0) (ty := .int) (C := RX1) (T := TX1) (N := 18) hx hb hg inX1 tyX1 tyX1_ok nmX1 hown hK hP hD hS 0 rfl rfl 13 (by decide) (hg _ q_1_73) (fun _ h9 => h9) rfl (by decide +kernel) rfl rfl (Nat.le_of_ble_eq_true rfl) dX1_becomeEmpty_32 (fun H locs hP hD hS => ?_)
  have hP : va_P V.1 vwCl [(y 11, .inr (1, [.int 0, .int 0, .int 0, .int 0, .int 0, .int 0, .ref (y 12), .ref (y 13), .ref (y 14), .ref (y 15), .ref (y 16), .ref (y 17), .ref (y 18), .int 0, .int 0, .int 0, .int 0, .int 0]))] H := hP
  have hD : va_D A [(y 11, .inr (1, [.int 0, .int 0, .int 0, .int 0, .int 0, .int 0, .ref (y 12), .ref (y 13), .ref (y 14), .ref (y 15), .ref (y 16), .ref (y 17), .ref (y 18), .int 0, .int 0, .int 0, .int 0, .int 0]))] := hD
  refine lv_aload_n hx hb dX1_becomeEmpty_35 rfl (lv_at hl 0 rfl) ?_
  refine lv_iconst (v := 0) hx hb dX1_becomeEmpty_36 (by decide) ?_
  refine va_put (ci := 1) (v := .int 0) (ty := .int) (C := RX1) (T := TX1) (N := 18) hx hb hg inX1 tyX1 tyX1_ok nmX1 hown hK hP hD hS 0 rfl rfl 14 (by decide) (hg _ q_1_75) (fun _ h9 => h9) rfl (by decide +kernel) rfl rfl (Nat.le_of_ble_eq_true rfl) dX1_becomeEmpty_37 (fun H locs hP hD hS => ?_)
  have hP : va_P V.1 vwCl [(y 11, .inr (1, [.int 0, .int 0, .int 0, .int 0, .int 0, .int 0, .ref (y 12), .ref (y 13), .ref (y 14), .ref (y 15), .ref (y 16), .ref (y 17), .ref (y 18), .int 0, .int 0, .int 0, .int 0, .int 0]))] H := hP
  have hD : va_D A [(y 11, .inr (1, [.int 0, .int 0, .int 0, .int 0, .int 0, .int 0, .ref (y 12), .ref (y 13), .ref (y 14), .ref (y 15), .ref (y 16), .ref (y 17), .ref (y 18), .int 0, .int 0, .int 0, .int 0, .int 0]))] := hD
  refine lv_aload_n hx hb dX1_becomeEmpty_40 rfl (lv_at hl 0 rfl) ?_
  refine lv_iconst (v := 0) hx hb dX1_becomeEmpty_41 (by decide) ?_
  refine va_put (ci := 1) (v := .int 0) (ty := .int) (C := RX1) (T := TX1) (N := 18) hx hb hg inX1 tyX1 tyX1_ok nmX1 hown hK hP hD hS 0 rfl rfl 15 (by decide) (hg _ q_1_78) (fun _ h9 => h9) rfl (by decide +kernel) rfl rfl (Nat.le_of_ble_eq_true rfl) dX1_becomeEmpty_42 (fun H locs hP hD hS => ?_)
  have hP : va_P V.1 vwCl [(y 11, .inr (1, [.int 0, .int 0, .int 0, .int 0, .int 0, .int 0, .ref (y 12), .ref (y 13), .ref (y 14), .ref (y 15), .ref (y 16), .ref (y 17), .ref (y 18), .int 0, .int 0, .int 0, .int 0, .int 0]))] H := hP
  have hD : va_D A [(y 11, .inr (1, [.int 0, .int 0, .int 0, .int 0, .int 0, .int 0, .ref (y 12), .ref (y 13), .ref (y 14), .ref (y 15), .ref (y 16), .ref (y 17), .ref (y 18), .int 0, .int 0, .int 0, .int 0, .int 0]))] := hD
  refine lv_aload_n hx hb dX1_becomeEmpty_45 rfl (lv_at hl 0 rfl) ?_
  refine lv_iconst (v := 0) hx hb dX1_becomeEmpty_46 (by decide) ?_
  refine va_put (ci := 1) (v := .int 0) (ty := .int) (C := RX1) (T := TX1) (N := 18) hx hb hg inX1 tyX1 tyX1_ok nmX1 hown hK hP hD hS 0 rfl rfl 16 (by decide) (hg _ q_1_81) (fun _ h9 => h9) rfl (by decide +kernel) rfl rfl (Nat.le_of_ble_eq_true rfl) dX1_becomeEmpty_47 (fun H locs hP hD hS => ?_)
  have hP : va_P V.1 vwCl [(y 11, .inr (1, [.int 0, .int 0, .int 0, .int 0, .int 0, .int 0, .ref (y 12), .ref (y 13), .ref (y 14), .ref (y 15), .ref (y 16), .ref (y 17), .ref (y 18), .int 0, .int 0, .int 0, .int 0, .int 0]))] H := hP
  have hD : va_D A [(y 11, .inr (1, [.int 0, .int 0, .int 0, .int 0, .int 0, .int 0, .ref (y 12), .ref (y 13), .ref (y 14), .ref (y 15), .ref (y 16), .ref (y 17), .ref (y 18), .int 0, .int 0, .int 0, .int 0, .int 0]))] := hD
  refine lv_aload_n hx hb dX1_becomeEmpty_50 rfl (lv_at hl 0 rfl) ?_
  refine lv_iconst (v := 0) hx hb dX1_becomeEmpty_51 (by decide) ?_
  refine va_put (ci := 1) (v := .int 0) (ty := .int) (C := RX1) (T := TX1) (N := 18) hx hb hg inX1 tyX1 tyX1_ok nmX1 hown hK hP hD hS 0 rfl rfl 17 (by decide) (hg _ q_1_84) (fun _ h9 => h9) rfl (by decide +kernel) rfl rfl (Nat.le_of_ble_eq_true rfl) dX1_becomeEmpty_52 (fun H locs hP hD hS => ?_)
  have hP : va_P V.1 vwCl [(y 11, .inr (1, [.int 0, .int 0, .int 0, .int 0, .int 0, .int 0, .ref (y 12), .ref (y 13), .ref (y 14), .ref (y 15), .ref (y 16), .ref (y 17), .ref (y 18), .int 0, .int 0, .int 0, .int 0, .int 0]))] H := hP
  have hD : va_D A [(y 11, .inr (1, [.int 0, .int 0, .int 0, .int 0, .int 0, .int 0, .ref (y 12), .ref (y 13), .ref (y 14), .ref (y 15), .ref (y 16), .ref (y 17), .ref (y 18), .int 0, .int 0, .int 0, .int 0, .int 0]))] := hD
  exact fiV hx hb hr hlk hK hP hD hS dX1_becomeEmpty_55 (Nat.le_of_ble_eq_true rfl) (Nat.le_of_ble_eq_true rfl) (rfl)
theorem dX6_step_0 : decode cX6_step 0 = .ok (.aload_n 0, 1) := by decide +kernel
theorem q_1_142 : Cond.fieldLink "BeaconDelay$Reader" 41 "BeaconDelay$Reader" "kind" "I" ∈ gw := gw_1 (i := 142) (by decide +kernel) rfl
theorem dX6_step_1 : decode cX6_step 1 = .ok (.getfield 41, 3) := by decide +kernel
theorem dX6_step_4 : decode cX6_step 4 = .ok (.iconst 4, 1) := by decide +kernel
theorem dX6_step_5 : decode cX6_step 5 = .ok (.if_icmp .ne 4, 3) := by decide +kernel
theorem dX6_step_9 : decode cX6_step 9 = .ok (.aload_n 0, 1) := by decide +kernel
theorem dX6_step_10 : decode cX6_step 10 = .ok (.aload_n 0, 1) := by decide +kernel
theorem q_1_144 : Cond.fieldLink "BeaconDelay$Reader" 44 "BeaconDelay$Reader" "end" "I" ∈ gw := gw_1 (i := 144) (by decide +kernel) rfl
theorem dX6_step_11 : decode cX6_step 11 = .ok (.getfield 44, 3) := by decide +kernel
theorem q_1_143 : Cond.fieldLink "BeaconDelay$Reader" 240 "BeaconDelay$Reader" "place" "I" ∈ gw := gw_1 (i := 143) (by decide +kernel) rfl
theorem dX6_step_14 : decode cX6_step 14 = .ok (.putfield 240, 3) := by decide +kernel
theorem dX6_step_17 : decode cX6_step 17 = .ok (.aload_n 0, 1) := by decide +kernel
theorem dX6_step_18 : decode cX6_step 18 = .ok (.getfield 240, 3) := by decide +kernel
theorem dX6_step_21 : decode cX6_step 21 = .ok (.aload_n 0, 1) := by decide +kernel
theorem q_1_141 : Cond.fieldLink "BeaconDelay$Reader" 35 "BeaconDelay$Reader" "length" "I" ∈ gw := gw_1 (i := 141) (by decide +kernel) rfl
theorem dX6_step_22 : decode cX6_step 22 = .ok (.getfield 35, 3) := by decide +kernel
theorem dX6_step_25 : decode cX6_step 25 = .ok (.if_icmp .ge 44, 3) := by decide +kernel
theorem dX6_step_69 : decode cX6_step 69 = .ok (.aload_n 0, 1) := by decide +kernel
theorem dX6_step_70 : decode cX6_step 70 = .ok (.aload_n 0, 1) := by decide +kernel
theorem dX6_step_71 : decode cX6_step 71 = .ok (.getfield 240, 3) := by decide +kernel
theorem dX6_step_74 : decode cX6_step 74 = .ok (.putfield 44, 3) := by decide +kernel
theorem dX6_step_77 : decode cX6_step 77 = .ok (.aload_n 0, 1) := by decide +kernel
theorem dX6_step_78 : decode cX6_step 78 = .ok (.getfield 240, 3) := by decide +kernel
theorem dX6_step_81 : decode cX6_step 81 = .ok (.aload_n 0, 1) := by decide +kernel
theorem dX6_step_82 : decode cX6_step 82 = .ok (.getfield 35, 3) := by decide +kernel
theorem dX6_step_85 : decode cX6_step 85 = .ok (.if_icmp .lt 11, 3) := by decide +kernel
theorem dX6_step_88 : decode cX6_step 88 = .ok (.aload_n 0, 1) := by decide +kernel
theorem dX6_step_89 : decode cX6_step 89 = .ok (.iconst 0, 1) := by decide +kernel
theorem dX6_step_90 : decode cX6_step 90 = .ok (.putfield 41, 3) := by decide +kernel
theorem dX6_step_93 : decode cX6_step 93 = .ok (.goto 173, 3) := by decide +kernel
theorem dX6_step_266 : decode cX6_step 266 = .ok (.return_, 1) := by decide +kernel
set_option maxHeartbeats 4000000 in
set_option maxRecDepth 100000 in
theorem c_X6_step_0 (l : Launch) (V : GV) (y : Nat → Nat) : Ct l V yX6_step (.code yX6_step cX6_step 1 none) 1 [.ref (y 10)] [(y 10, .inr (6, [.ref (y 11), .int 0, .int (-1), .ref (y 1), .int 0, .int 0, .int 0, .int 0, .int 0]))] 0 0 (QV V (fun (w : va_W) => (w = [(y 10, .inr (6, [.ref (y 11), .int 0, .int (-1), .ref (y 1), .int 0, .int 0, .int 0, .int 0, .int 0]))]))) := by
  refine Ct.of (by decide) (Nat.le_of_ble_eq_true rfl) (fun p e s m below meth c A ls hx hb hr hml hown hlk hnm hg hP hK hD hE hA hS hl => ?_)
  have hl : lv_has ls 1 [(0, .ref (y 10))] := hl
  refine lv_aload_n hx hb dX6_step_0 rfl (lv_at hl 0 rfl) ?_
  refine va_get (ci := 6) (v := .int 0) (C := RX6) (T := TX6) (N := 9) hx hb hg inX6 hown hK hP 0 rfl rfl 5 (by decide) (hg _ q_1_142) (fun _ h9 => h9) rfl dX6_step_1 ?_
  refine lv_iconst (v := 4) hx hb dX6_step_4 (by decide) ?_
  refine lv_icmp_ne (tgt := 9) hx hb dX6_step_5 (by decide) (fun _ => ?_) (fun c_1 => absurd c_1 (by decide))
  refine lv_aload_n hx hb dX6_step_9 rfl (lv_at hl 0 rfl) ?_
  refine lv_aload_n hx hb dX6_step_10 rfl (lv_at hl 0 rfl) ?_
  refine va_get (ci := 6) (v := .int 0) (C := RX6) (T := TX6) (N := 9) hx hb hg inX6 hown hK hP 0 rfl rfl 7 (by decide) (hg _ q_1_144) (fun _ h9 => h9) rfl dX6_step_11 ?_
  refine va_put (ci := 6) (v := .int 0) (ty := .int) (C := RX6) (T := TX6) (N := 9) hx hb hg inX6 tyX6 tyX6_ok nmX6 hown hK hP hD hS 0 rfl rfl 6 (by decide) (hg _ q_1_143) (fun _ h9 => h9) rfl (by decide +kernel) rfl rfl (Nat.le_of_ble_eq_true rfl) dX6_step_14 (fun H locs hP hD hS => ?_)
  have hP : va_P V.1 vwCl [(y 10, .inr (6, [.ref (y 11), .int 0, .int (-1), .ref (y 1), .int 0, .int 0, .int 0, .int 0, .int 0]))] H := hP
  have hD : va_D A [(y 10, .inr (6, [.ref (y 11), .int 0, .int (-1), .ref (y 1), .int 0, .int 0, .int 0, .int 0, .int 0]))] := hD
  refine lv_aload_n hx hb dX6_step_17 rfl (lv_at hl 0 rfl) ?_
  refine va_get (ci := 6) (v := .int 0) (C := RX6) (T := TX6) (N := 9) hx hb hg inX6 hown hK hP 0 rfl rfl 6 (by decide) (hg _ q_1_143) (fun _ h9 => h9) rfl dX6_step_18 ?_
  refine lv_aload_n hx hb dX6_step_21 rfl (lv_at hl 0 rfl) ?_
  refine va_get (ci := 6) (v := .int 0) (C := RX6) (T := TX6) (N := 9) hx hb hg inX6 hown hK hP 0 rfl rfl 4 (by decide) (hg _ q_1_141) (fun _ h9 => h9) rfl dX6_step_22 ?_
  refine lv_icmp_ge (tgt := 69) hx hb dX6_step_25 (by decide) (fun _ => ?_) (fun c_2 => absurd c_2 (by decide))
  refine lv_aload_n hx hb dX6_step_69 rfl (lv_at hl 0 rfl) ?_
  refine lv_aload_n hx hb dX6_step_70 rfl (lv_at hl 0 rfl) ?_
  refine va_get (ci := 6) (v := .int 0) (C := RX6) (T := TX6) (N := 9) hx hb hg inX6 hown hK hP 0 rfl rfl 6 (by decide) (hg _ q_1_143) (fun _ h9 => h9) rfl dX6_step_71 ?_
  refine va_put (ci := 6) (v := .int 0) (ty := .int) (C := RX6) (T := TX6) (N := 9) hx hb hg inX6 tyX6 tyX6_ok nmX6 hown hK hP hD hS 0 rfl rfl 7 (by decide) (hg _ q_1_144) (fun _ h9 => h9) rfl (by decide +kernel) rfl rfl (Nat.le_of_ble_eq_true rfl) dX6_step_74 (fun H locs hP hD hS => ?_)
  have hP : va_P V.1 vwCl [(y 10, .inr (6, [.ref (y 11), .int 0, .int (-1), .ref (y 1), .int 0, .int 0, .int 0, .int 0, .int 0]))] H := hP
  have hD : va_D A [(y 10, .inr (6, [.ref (y 11), .int 0, .int (-1), .ref (y 1), .int 0, .int 0, .int 0, .int 0, .int 0]))] := hD
  refine lv_aload_n hx hb dX6_step_77 rfl (lv_at hl 0 rfl) ?_
  refine va_get (ci := 6) (v := .int 0) (C := RX6) (T := TX6) (N := 9) hx hb hg inX6 hown hK hP 0 rfl rfl 6 (by decide) (hg _ q_1_143) (fun _ h9 => h9) rfl dX6_step_78 ?_
  refine lv_aload_n hx hb dX6_step_81 rfl (lv_at hl 0 rfl) ?_
  refine va_get (ci := 6) (v := .int 0) (C := RX6) (T := TX6) (N := 9) hx hb hg inX6 hown hK hP 0 rfl rfl 4 (by decide) (hg _ q_1_141) (fun _ h9 => h9) rfl dX6_step_82 ?_
  refine lv_icmp_lt (tgt := 96) hx hb dX6_step_85 (by decide) (fun c_3 => absurd c_3 (by decide)) (fun _ => ?_)
  refine lv_aload_n hx hb dX6_step_88 rfl (lv_at hl 0 rfl) ?_
  refine lv_iconst (v := 0) hx hb dX6_step_89 (by decide) ?_
  refine va_put (ci := 6) (v := .int 0) (ty := .int) (C := RX6) (T := TX6) (N := 9) hx hb hg inX6 tyX6 tyX6_ok nmX6 hown hK hP hD hS 0 rfl rfl 5 (by decide) (hg _ q_1_142) (fun _ h9 => h9) rfl (by decide +kernel) rfl rfl (Nat.le_of_ble_eq_true rfl) dX6_step_90 (fun H locs hP hD hS => ?_)
  have hP : va_P V.1 vwCl [(y 10, .inr (6, [.ref (y 11), .int 0, .int (-1), .ref (y 1), .int 0, .int 0, .int 0, .int 0, .int 0]))] H := hP
  have hD : va_D A [(y 10, .inr (6, [.ref (y 11), .int 0, .int (-1), .ref (y 1), .int 0, .int 0, .int 0, .int 0, .int 0]))] := hD
  refine lv_goto (tgt := 266) hx hb dX6_step_93 (by decide) ?_
  exact fiV hx hb hr hlk hK hP hD hS dX6_step_266 (Nat.le_of_ble_eq_true rfl) (Nat.le_of_ble_eq_true rfl) (rfl)
theorem dX6_at_0 : decode cX6_at 0 = .ok (.aload_n 0, 1) := by decide +kernel
theorem dX6_at_1 : decode cX6_at 1 = .ok (.getfield 41, 3) := by decide +kernel
theorem dX6_at_4 : decode cX6_at 4 = .ok (.iconst 1, 1) := by decide +kernel
theorem dX6_at_5 : decode cX6_at 5 = .ok (.if_icmp .eq 11, 3) := by decide +kernel
theorem dX6_at_8 : decode cX6_at 8 = .ok (.aload_n 0, 1) := by decide +kernel
theorem dX6_at_9 : decode cX6_at 9 = .ok (.getfield 41, 3) := by decide +kernel
theorem dX6_at_12 : decode cX6_at 12 = .ok (.iconst 3, 1) := by decide +kernel
theorem dX6_at_13 : decode cX6_at 13 = .ok (.if_icmp .ne 19, 3) := by decide +kernel
theorem dX6_at_32 : decode cX6_at 32 = .ok (.iconst 0, 1) := by decide +kernel
theorem dX6_at_33 : decode cX6_at 33 = .ok (.ireturn, 1) := by decide +kernel
set_option maxHeartbeats 4000000 in
set_option maxRecDepth 100000 in
theorem c_X6_at_0 (l : Launch) (V : GV) (y : Nat → Nat) (h0 : Nat) : Ct l V yX6_at (.code yX6_at cX6_at 3 (some .boolean)) 1 [.ref (y 10), .ref h0] [(y 10, .inr (6, [.ref (y 11), .int 0, .int (-1), .ref (y 1), .int 0, .int 0, .int 0, .int 0, .int 0]))] 0 0 (QI V (fun (r : Int32) (w : va_W) => (r = 0 ∧ w = [(y 10, .inr (6, [.ref (y 11), .int 0, .int (-1), .ref (y 1), .int 0, .int 0, .int 0, .int 0, .int 0]))]))) := by
  refine Ct.of (by decide) (Nat.le_of_ble_eq_true rfl) (fun p e s m below meth c A ls hx hb hr hml hown hlk hnm hg hP hK hD hE hA hS hl => ?_)
  have hl : lv_has ls 3 [(0, .ref (y 10)), (1, .ref h0)] := hl
  refine lv_aload_n hx hb dX6_at_0 rfl (lv_at hl 0 rfl) ?_
  refine va_get (ci := 6) (v := .int 0) (C := RX6) (T := TX6) (N := 9) hx hb hg inX6 hown hK hP 0 rfl rfl 5 (by decide) (hg _ q_1_142) (fun _ h9 => h9) rfl dX6_at_1 ?_
  refine lv_iconst (v := 1) hx hb dX6_at_4 (by decide) ?_
  refine lv_icmp_eq (tgt := 16) hx hb dX6_at_5 (by decide) (fun c_1 => absurd c_1 (by decide)) (fun _ => ?_)
  refine lv_aload_n hx hb dX6_at_8 rfl (lv_at hl 0 rfl) ?_
  refine va_get (ci := 6) (v := .int 0) (C := RX6) (T := TX6) (N := 9) hx hb hg inX6 hown hK hP 0 rfl rfl 5 (by decide) (hg _ q_1_142) (fun _ h9 => h9) rfl dX6_at_9 ?_
  refine lv_iconst (v := 3) hx hb dX6_at_12 (by decide) ?_
  refine lv_icmp_ne (tgt := 32) hx hb dX6_at_13 (by decide) (fun _ => ?_) (fun c_2 => absurd c_2 (by decide))
  refine lv_iconst (v := 0) hx hb dX6_at_32 (by decide) ?_
  exact fiZ rfl hx hb hr hlk hK hP hD hS dX6_at_33 (Nat.le_of_ble_eq_true rfl) (Nat.le_of_ble_eq_true rfl) (⟨rfl, rfl⟩)
theorem dX6_fail_0 : decode cX6_fail 0 = .ok (.aload_n 0, 1) := by decide +kernel
theorem q_1_136 : Cond.fieldLink "BeaconDelay$Reader" 38 "BeaconDelay$Reader" "fault" "I" ∈ gw := gw_1 (i := 136) (by decide +kernel) rfl
theorem dX6_fail_1 : decode cX6_fail 1 = .ok (.getfield 38, 3) := by decide +kernel
theorem dX6_fail_4 : decode cX6_fail 4 = .ok (.ifCond .ne 21, 3) := by decide +kernel
theorem dX6_fail_7 : decode cX6_fail 7 = .ok (.aload_n 0, 1) := by decide +kernel
theorem dX6_fail_8 : decode cX6_fail 8 = .ok (.iload_n 1, 1) := by decide +kernel
theorem dX6_fail_9 : decode cX6_fail 9 = .ok (.putfield 38, 3) := by decide +kernel
theorem dX6_fail_12 : decode cX6_fail 12 = .ok (.aload_n 0, 1) := by decide +kernel
theorem dX6_fail_13 : decode cX6_fail 13 = .ok (.aload_n 0, 1) := by decide +kernel
theorem dX6_fail_14 : decode cX6_fail 14 = .ok (.getfield 240, 3) := by decide +kernel
theorem dX6_fail_17 : decode cX6_fail 17 = .ok (.putfield 18, 3) := by decide +kernel
theorem dX6_fail_20 : decode cX6_fail 20 = .ok (.aload_n 0, 1) := by decide +kernel
theorem dX6_fail_21 : decode cX6_fail 21 = .ok (.iconst 4, 1) := by decide +kernel
theorem dX6_fail_22 : decode cX6_fail 22 = .ok (.putfield 41, 3) := by decide +kernel
theorem dX6_fail_25 : decode cX6_fail 25 = .ok (.return_, 1) := by decide +kernel
set_option maxHeartbeats 4000000 in
set_option maxRecDepth 100000 in
theorem c_X6_fail_0 (l : Launch) (V : GV) (y : Nat → Nat) : Ct l V yX6_fail (.code yX6_fail cX6_fail 2 none) 1 [.ref (y 10), .int 2] [(y 10, .inr (6, [.ref (y 11), .int 0, .int (-1), .ref (y 1), .int 0, .int 0, .int 0, .int 0, .int 0]))] 0 0 (QV V (fun (w : va_W) => (w = [(y 10, .inr (6, [.ref (y 11), .int 2, .int 0, .ref (y 1), .int 0, .int 4, .int 0, .int 0, .int 0]))]))) := by
  refine Ct.of (by decide) (Nat.le_of_ble_eq_true rfl) (fun p e s m below meth c A ls hx hb hr hml hown hlk hnm hg hP hK hD hE hA hS hl => ?_)
  have hl : lv_has ls 2 [(0, .ref (y 10)), (1, .int 2)] := hl
  refine lv_aload_n hx hb dX6_fail_0 rfl (lv_at hl 0 rfl) ?_
  refine va_get (ci := 6) (v := .int 0) (C := RX6) (T := TX6) (N := 9) hx hb hg inX6 hown hK hP 0 rfl rfl 1 (by decide) (hg _ q_1_136) (fun _ h9 => h9) rfl dX6_fail_1 ?_
  refine lv_if_ne (tgt := 25) hx hb dX6_fail_4 (by decide) (fun c_1 => absurd c_1 (by decide)) (fun _ => ?_)
  refine lv_aload_n hx hb dX6_fail_7 rfl (lv_at hl 0 rfl) ?_
  refine lv_iload_n hx hb dX6_fail_8 rfl (lv_at hl 1 rfl) ?_
  refine va_put (ci := 6) (v := .int 2) (ty := .int) (C := RX6) (T := TX6) (N := 9) hx hb hg inX6 tyX6 tyX6_ok nmX6 hown hK hP hD hS 0 rfl rfl 1 (by decide) (hg _ q_1_136) (fun _ h9 => h9) rfl (by decide +kernel) rfl rfl (Nat.le_of_ble_eq_true rfl) dX6_fail_9 (fun H locs hP hD hS => ?_)
  have hP : va_P V.1 vwCl [(y 10, .inr (6, [.ref (y 11), .int 2, .int (-1), .ref (y 1), .int 0, .int 0, .int 0, .int 0, .int 0]))] H := hP
  have hD : va_D A [(y 10, .inr (6, [.ref (y 11), .int 2, .int (-1), .ref (y 1), .int 0, .int 0, .int 0, .int 0, .int 0]))] := hD
  refine lv_aload_n hx hb dX6_fail_12 rfl (lv_at hl 0 rfl) ?_
  refine lv_aload_n hx hb dX6_fail_13 rfl (lv_at hl 0 rfl) ?_
  refine va_get (ci := 6) (v := .int 0) (C := RX6) (T := TX6) (N := 9) hx hb hg inX6 hown hK hP 0 rfl rfl 6 (by decide) (hg _ q_1_143) (fun _ h9 => h9) rfl dX6_fail_14 ?_
  refine va_put (ci := 6) (v := .int 0) (ty := .int) (C := RX6) (T := TX6) (N := 9) hx hb hg inX6 tyX6 tyX6_ok nmX6 hown hK hP hD hS 0 rfl rfl 2 (by decide) (hg _ q_1_138) (fun _ h9 => h9) rfl (by decide +kernel) rfl rfl (Nat.le_of_ble_eq_true rfl) dX6_fail_17 (fun H locs hP hD hS => ?_)
  have hP : va_P V.1 vwCl [(y 10, .inr (6, [.ref (y 11), .int 2, .int 0, .ref (y 1), .int 0, .int 0, .int 0, .int 0, .int 0]))] H := hP
  have hD : va_D A [(y 10, .inr (6, [.ref (y 11), .int 2, .int 0, .ref (y 1), .int 0, .int 0, .int 0, .int 0, .int 0]))] := hD
  refine lv_aload_n hx hb dX6_fail_20 rfl (lv_at hl 0 rfl) ?_
  refine lv_iconst (v := 4) hx hb dX6_fail_21 (by decide) ?_
  refine va_put (ci := 6) (v := .int 4) (ty := .int) (C := RX6) (T := TX6) (N := 9) hx hb hg inX6 tyX6 tyX6_ok nmX6 hown hK hP hD hS 0 rfl rfl 5 (by decide) (hg _ q_1_142) (fun _ h9 => h9) rfl (by decide +kernel) rfl rfl (Nat.le_of_ble_eq_true rfl) dX6_fail_22 (fun H locs hP hD hS => ?_)
  have hP : va_P V.1 vwCl [(y 10, .inr (6, [.ref (y 11), .int 2, .int 0, .ref (y 1), .int 0, .int 4, .int 0, .int 0, .int 0]))] H := hP
  have hD : va_D A [(y 10, .inr (6, [.ref (y 11), .int 2, .int 0, .ref (y 1), .int 0, .int 4, .int 0, .int 0, .int 0]))] := hD
  exact fiV hx hb hr hlk hK hP hD hS dX6_fail_25 (Nat.le_of_ble_eq_true rfl) (Nat.le_of_ble_eq_true rfl) (rfl)
theorem dX6_expect_0 : decode cX6_expect 0 = .ok (.aload_n 0, 1) := by decide +kernel
theorem dX6_expect_1 : decode cX6_expect 1 = .ok (.aload_n 1, 1) := by decide +kernel
theorem q_2_215 : Cond.code yX6_at prog_8_method_17_code 3 (some FieldType.boolean) ∈ gw := gw_2 (i := 215) (rfl) rfl
theorem q_2_214 : Cond.instanceMethod yX6_at ∈ gw := gw_2 (i := 214) (by decide +kernel) rfl
theorem q_s_6 : Cond.selects "BeaconDelay$Reader" yX6_at yX6_at ∈ gw := gw_s (i := 6) (by decide +kernel) rfl
theorem mt_X6_at : MtV yX6_at cX6_at 3 (some .boolean) 1 := ⟨⟨q_2_215, q_1_3, by decide +kernel, by decide +kernel, by decide +kernel⟩, q_2_214, q_s_6⟩
theorem q_2_212 : Cond.methodLink "BeaconDelay$Reader" 78 yX6_at ∈ gw := gw_2 (i := 212) (by decide +kernel) rfl
theorem dX6_expect_2 : decode cX6_expect 2 = .ok (.invokevirtual 78, 3) := by decide +kernel
theorem dX6_expect_5 : decode cX6_expect 5 = .ok (.ifCond .eq 10, 3) := by decide +kernel
theorem dX6_expect_15 : decode cX6_expect 15 = .ok (.aload_n 0, 1) := by decide +kernel
theorem dX6_expect_16 : decode cX6_expect 16 = .ok (.iconst 2, 1) := by decide +kernel
theorem q_2_119 : Cond.code yX6_fail prog_8_method_20_code 2 none ∈ gw := gw_2 (i := 119) (rfl) rfl
theorem q_2_118 : Cond.instanceMethod yX6_fail ∈ gw := gw_2 (i := 118) (by decide +kernel) rfl
theorem q_s_3 : Cond.selects "BeaconDelay$Reader" yX6_fail yX6_fail ∈ gw := gw_s (i := 3) (by decide +kernel) rfl
theorem mt_X6_fail : MtV yX6_fail cX6_fail 2 none 1 := ⟨⟨q_2_119, q_1_3, by decide +kernel, by decide +kernel, by decide +kernel⟩, q_2_118, q_s_3⟩
theorem q_2_116 : Cond.methodLink "BeaconDelay$Reader" 105 yX6_fail ∈ gw := gw_2 (i := 116) (by decide +kernel) rfl
theorem dX6_expect_17 : decode cX6_expect 17 = .ok (.invokevirtual 105, 3) := by decide +kernel
theorem dX6_expect_20 : decode cX6_expect 20 = .ok (.return_, 1) := by decide +kernel
set_option maxHeartbeats 4000000 in
set_option maxRecDepth 100000 in
theorem c_X6_expect_0 (l : Launch) (V : GV) (y : Nat → Nat) (h0 : Nat) : Ct l V yX6_expect (.code yX6_expect cX6_expect 2 none) 2 [.ref (y 10), .ref h0] [(y 10, .inr (6, [.ref (y 11), .int 0, .int (-1), .ref (y 1), .int 0, .int 0, .int 0, .int 0, .int 0]))] 0 0 (QV V (fun (w : va_W) => (w = [(y 10, .inr (6, [.ref (y 11), .int 2, .int 0, .ref (y 1), .int 0, .int 4, .int 0, .int 0, .int 0]))]))) := by
  refine Ct.of (by decide) (Nat.le_of_ble_eq_true rfl) (fun p e s m below meth c A ls hx hb hr hml hown hlk hnm hg hP hK hD hE hA hS hl => ?_)
  have hl : lv_has ls 2 [(0, .ref (y 10)), (1, .ref h0)] := hl
  refine lv_aload_n hx hb dX6_expect_0 rfl (lv_at hl 0 rfl) ?_
  refine lv_aload_n hx hb dX6_expect_1 rfl (lv_at hl 1 rfl) ?_
  refine jnI (wr := []) (rnV (rest := []) ⟨hx, hb, hml, hown, hg⟩ (c_X6_at_0 l V y h0) mt_X6_at q_2_212 ⟨Nat.le_of_ble_eq_true rfl, Nat.le_of_ble_eq_true rfl⟩ hK hP hD hS hA hE [0] rfl rfl 0 rfl rfl rfl rfl hl.1 rfl (Nat.le_of_ble_eq_true rfl) dX6_expect_2 ⟨Nat.le_of_ble_eq_true rfl, Nat.le_of_ble_eq_true rfl⟩) hP hD hS hA [0] [] rfl rfl rfl (by decide) (fun r_1 w H locs hw hP hD hS => ?_)
  obtain ⟨rfl, rfl⟩ := hw
  have hP : va_P V.1 vwCl [(y 10, .inr (6, [.ref (y 11), .int 0, .int (-1), .ref (y 1), .int 0, .int 0, .int 0, .int 0, .int 0]))] H := hP
  have hD : va_D A [(y 10, .inr (6, [.ref (y 11), .int 0, .int (-1), .ref (y 1), .int 0, .int 0, .int 0, .int 0, .int 0]))] := hD
  refine lv_if_eq (tgt := 15) hx hb dX6_expect_5 (by decide) (fun _ => ?_) (fun c_2 => absurd c_2 (by decide))
  refine lv_aload_n hx hb dX6_expect_15 rfl (lv_at hl 0 rfl) ?_
  refine lv_iconst (v := 2) hx hb dX6_expect_16 (by decide) ?_
  refine jnV (wr := []) (rnV (rest := []) ⟨hx, hb, hml, hown, hg⟩ (c_X6_fail_0 l V y) mt_X6_fail q_2_116 ⟨Nat.le_of_ble_eq_true rfl, Nat.le_of_ble_eq_true rfl⟩ hK hP hD hS hA hE [0] rfl rfl 0 rfl rfl rfl rfl hl.1 rfl (Nat.le_of_ble_eq_true rfl) dX6_expect_17 ⟨Nat.le_of_ble_eq_true rfl, Nat.le_of_ble_eq_true rfl⟩) hP hD hS hA [0] [] rfl rfl rfl (by decide) (fun  w H locs hw hP hD hS => ?_)
  subst hw
  have hP : va_P V.1 vwCl [(y 10, .inr (6, [.ref (y 11), .int 2, .int 0, .ref (y 1), .int 0, .int 4, .int 0, .int 0, .int 0]))] H := hP
  have hD : va_D A [(y 10, .inr (6, [.ref (y 11), .int 2, .int 0, .ref (y 1), .int 0, .int 4, .int 0, .int 0, .int 0]))] := hD
  exact fiV hx hb hr hlk hK hP hD hS dX6_expect_20 (Nat.le_of_ble_eq_true rfl) (Nat.le_of_ble_eq_true rfl) (rfl)
set_option maxHeartbeats 4000000 in
set_option maxRecDepth 100000 in
theorem c_X6_at_1 (l : Launch) (V : GV) (y : Nat → Nat) (h0 : Nat) : Ct l V yX6_at (.code yX6_at cX6_at 3 (some .boolean)) 1 [.ref (y 10), .ref h0] [(y 10, .inr (6, [.ref (y 11), .int 2, .int 0, .ref (y 1), .int 0, .int 4, .int 0, .int 0, .int 0]))] 0 0 (QI V (fun (r : Int32) (w : va_W) => (r = 0 ∧ w = [(y 10, .inr (6, [.ref (y 11), .int 2, .int 0, .ref (y 1), .int 0, .int 4, .int 0, .int 0, .int 0]))]))) := by
  refine Ct.of (by decide) (Nat.le_of_ble_eq_true rfl) (fun p e s m below meth c A ls hx hb hr hml hown hlk hnm hg hP hK hD hE hA hS hl => ?_)
  have hl : lv_has ls 3 [(0, .ref (y 10)), (1, .ref h0)] := hl
  refine lv_aload_n hx hb dX6_at_0 rfl (lv_at hl 0 rfl) ?_
  refine va_get (ci := 6) (v := .int 4) (C := RX6) (T := TX6) (N := 9) hx hb hg inX6 hown hK hP 0 rfl rfl 5 (by decide) (hg _ q_1_142) (fun _ h9 => h9) rfl dX6_at_1 ?_
  refine lv_iconst (v := 1) hx hb dX6_at_4 (by decide) ?_
  refine lv_icmp_eq (tgt := 16) hx hb dX6_at_5 (by decide) (fun c_1 => absurd c_1 (by decide)) (fun _ => ?_)
  refine lv_aload_n hx hb dX6_at_8 rfl (lv_at hl 0 rfl) ?_
  refine va_get (ci := 6) (v := .int 4) (C := RX6) (T := TX6) (N := 9) hx hb hg inX6 hown hK hP 0 rfl rfl 5 (by decide) (hg _ q_1_142) (fun _ h9 => h9) rfl dX6_at_9 ?_
  refine lv_iconst (v := 3) hx hb dX6_at_12 (by decide) ?_
  refine lv_icmp_ne (tgt := 32) hx hb dX6_at_13 (by decide) (fun _ => ?_) (fun c_2 => absurd c_2 (by decide))
  refine lv_iconst (v := 0) hx hb dX6_at_32 (by decide) ?_
  exact fiZ rfl hx hb hr hlk hK hP hD hS dX6_at_33 (Nat.le_of_ble_eq_true rfl) (Nat.le_of_ble_eq_true rfl) (⟨rfl, rfl⟩)
set_option maxHeartbeats 4000000 in
set_option maxRecDepth 100000 in
theorem c_X6_fail_1 (l : Launch) (V : GV) (y : Nat → Nat) : Ct l V yX6_fail (.code yX6_fail cX6_fail 2 none) 1 [.ref (y 10), .int 2] [(y 10, .inr (6, [.ref (y 11), .int 2, .int 0, .ref (y 1), .int 0, .int 4, .int 0, .int 0, .int 0]))] 0 0 (QV V (fun (w : va_W) => (w = [(y 10, .inr (6, [.ref (y 11), .int 2, .int 0, .ref (y 1), .int 0, .int 4, .int 0, .int 0, .int 0]))]))) := by
  refine Ct.of (by decide) (Nat.le_of_ble_eq_true rfl) (fun p e s m below meth c A ls hx hb hr hml hown hlk hnm hg hP hK hD hE hA hS hl => ?_)
  have hl : lv_has ls 2 [(0, .ref (y 10)), (1, .int 2)] := hl
  refine lv_aload_n hx hb dX6_fail_0 rfl (lv_at hl 0 rfl) ?_
  refine va_get (ci := 6) (v := .int 2) (C := RX6) (T := TX6) (N := 9) hx hb hg inX6 hown hK hP 0 rfl rfl 1 (by decide) (hg _ q_1_136) (fun _ h9 => h9) rfl dX6_fail_1 ?_
  refine lv_if_ne (tgt := 25) hx hb dX6_fail_4 (by decide) (fun _ => ?_) (fun c_1 => absurd c_1 (by decide))
  exact fiV hx hb hr hlk hK hP hD hS dX6_fail_25 (Nat.le_of_ble_eq_true rfl) (Nat.le_of_ble_eq_true rfl) (rfl)
set_option maxHeartbeats 4000000 in
set_option maxRecDepth 100000 in
theorem c_X6_expect_1 (l : Launch) (V : GV) (y : Nat → Nat) (h0 : Nat) : Ct l V yX6_expect (.code yX6_expect cX6_expect 2 none) 2 [.ref (y 10), .ref h0] [(y 10, .inr (6, [.ref (y 11), .int 2, .int 0, .ref (y 1), .int 0, .int 4, .int 0, .int 0, .int 0]))] 0 0 (QV V (fun (w : va_W) => (w = [(y 10, .inr (6, [.ref (y 11), .int 2, .int 0, .ref (y 1), .int 0, .int 4, .int 0, .int 0, .int 0]))]))) := by
  refine Ct.of (by decide) (Nat.le_of_ble_eq_true rfl) (fun p e s m below meth c A ls hx hb hr hml hown hlk hnm hg hP hK hD hE hA hS hl => ?_)
  have hl : lv_has ls 2 [(0, .ref (y 10)), (1, .ref h0)] := hl
  refine lv_aload_n hx hb dX6_expect_0 rfl (lv_at hl 0 rfl) ?_
  refine lv_aload_n hx hb dX6_expect_1 rfl (lv_at hl 1 rfl) ?_
  refine jnI (wr := []) (rnV (rest := []) ⟨hx, hb, hml, hown, hg⟩ (c_X6_at_1 l V y h0) mt_X6_at q_2_212 ⟨Nat.le_of_ble_eq_true rfl, Nat.le_of_ble_eq_true rfl⟩ hK hP hD hS hA hE [0] rfl rfl 0 rfl rfl rfl rfl hl.1 rfl (Nat.le_of_ble_eq_true rfl) dX6_expect_2 ⟨Nat.le_of_ble_eq_true rfl, Nat.le_of_ble_eq_true rfl⟩) hP hD hS hA [0] [] rfl rfl rfl (by decide) (fun r_1 w H locs hw hP hD hS => ?_)
  obtain ⟨rfl, rfl⟩ := hw
  have hP : va_P V.1 vwCl [(y 10, .inr (6, [.ref (y 11), .int 2, .int 0, .ref (y 1), .int 0, .int 4, .int 0, .int 0, .int 0]))] H := hP
  have hD : va_D A [(y 10, .inr (6, [.ref (y 11), .int 2, .int 0, .ref (y 1), .int 0, .int 4, .int 0, .int 0, .int 0]))] := hD
  refine lv_if_eq (tgt := 15) hx hb dX6_expect_5 (by decide) (fun _ => ?_) (fun c_2 => absurd c_2 (by decide))
  refine lv_aload_n hx hb dX6_expect_15 rfl (lv_at hl 0 rfl) ?_
  refine lv_iconst (v := 2) hx hb dX6_expect_16 (by decide) ?_
  refine jnV (wr := []) (rnV (rest := []) ⟨hx, hb, hml, hown, hg⟩ (c_X6_fail_1 l V y) mt_X6_fail q_2_116 ⟨Nat.le_of_ble_eq_true rfl, Nat.le_of_ble_eq_true rfl⟩ hK hP hD hS hA hE [0] rfl rfl 0 rfl rfl rfl rfl hl.1 rfl (Nat.le_of_ble_eq_true rfl) dX6_expect_17 ⟨Nat.le_of_ble_eq_true rfl, Nat.le_of_ble_eq_true rfl⟩) hP hD hS hA [0] [] rfl rfl rfl (by decide) (fun  w H locs hw hP hD hS => ?_)
  subst hw
  have hP : va_P V.1 vwCl [(y 10, .inr (6, [.ref (y 11), .int 2, .int 0, .ref (y 1), .int 0, .int 4, .int 0, .int 0, .int 0]))] H := hP
  have hD : va_D A [(y 10, .inr (6, [.ref (y 11), .int 2, .int 0, .ref (y 1), .int 0, .int 4, .int 0, .int 0, .int 0]))] := hD
  exact fiV hx hb hr hlk hK hP hD hS dX6_expect_20 (Nat.le_of_ble_eq_true rfl) (Nat.le_of_ble_eq_true rfl) (rfl)
theorem dX6_numberUpTo_0 : decode cX6_numberUpTo 0 = .ok (.aload_n 0, 1) := by decide +kernel
theorem dX6_numberUpTo_1 : decode cX6_numberUpTo 1 = .ok (.getfield 41, 3) := by decide +kernel
theorem dX6_numberUpTo_4 : decode cX6_numberUpTo 4 = .ok (.iconst 2, 1) := by decide +kernel
theorem dX6_numberUpTo_5 : decode cX6_numberUpTo 5 = .ok (.if_icmp .eq 10, 3) := by decide +kernel
theorem dX6_numberUpTo_8 : decode cX6_numberUpTo 8 = .ok (.aload_n 0, 1) := by decide +kernel
theorem dX6_numberUpTo_9 : decode cX6_numberUpTo 9 = .ok (.iconst 2, 1) := by decide +kernel
theorem dX6_numberUpTo_10 : decode cX6_numberUpTo 10 = .ok (.invokevirtual 105, 3) := by decide +kernel
theorem dX6_numberUpTo_13 : decode cX6_numberUpTo 13 = .ok (.iconst 0, 1) := by decide +kernel
theorem dX6_numberUpTo_14 : decode cX6_numberUpTo 14 = .ok (.ireturn, 1) := by decide +kernel
set_option maxHeartbeats 4000000 in
set_option maxRecDepth 100000 in
theorem c_X6_numberUpTo_0 (l : Launch) (V : GV) (y : Nat → Nat) : Ct l V yX6_numberUpTo (.code yX6_numberUpTo cX6_numberUpTo 3 (some .int)) 2 [.ref (y 10), .int 9] [(y 10, .inr (6, [.ref (y 11), .int 2, .int 0, .ref (y 1), .int 0, .int 4, .int 0, .int 0, .int 0]))] 0 0 (QI V (fun (r : Int32) (w : va_W) => (r = 0 ∧ w = [(y 10, .inr (6, [.ref (y 11), .int 2, .int 0, .ref (y 1), .int 0, .int 4, .int 0, .int 0, .int 0]))]))) := by
  refine Ct.of (by decide) (Nat.le_of_ble_eq_true rfl) (fun p e s m below meth c A ls hx hb hr hml hown hlk hnm hg hP hK hD hE hA hS hl => ?_)
  have hl : lv_has ls 3 [(0, .ref (y 10)), (1, .int 9)] := hl
  refine lv_aload_n hx hb dX6_numberUpTo_0 rfl (lv_at hl 0 rfl) ?_
  refine va_get (ci := 6) (v := .int 4) (C := RX6) (T := TX6) (N := 9) hx hb hg inX6 hown hK hP 0 rfl rfl 5 (by decide) (hg _ q_1_142) (fun _ h9 => h9) rfl dX6_numberUpTo_1 ?_
  refine lv_iconst (v := 2) hx hb dX6_numberUpTo_4 (by decide) ?_
  refine lv_icmp_eq (tgt := 15) hx hb dX6_numberUpTo_5 (by decide) (fun c_1 => absurd c_1 (by decide)) (fun _ => ?_)
  refine lv_aload_n hx hb dX6_numberUpTo_8 rfl (lv_at hl 0 rfl) ?_
  refine lv_iconst (v := 2) hx hb dX6_numberUpTo_9 (by decide) ?_
  refine jnV (wr := []) (rnV (rest := []) ⟨hx, hb, hml, hown, hg⟩ (c_X6_fail_1 l V y) mt_X6_fail q_2_116 ⟨Nat.le_of_ble_eq_true rfl, Nat.le_of_ble_eq_true rfl⟩ hK hP hD hS hA hE [0] rfl rfl 0 rfl rfl rfl rfl hl.1 rfl (Nat.le_of_ble_eq_true rfl) dX6_numberUpTo_10 ⟨Nat.le_of_ble_eq_true rfl, Nat.le_of_ble_eq_true rfl⟩) hP hD hS hA [0] [] rfl rfl rfl (by decide) (fun  w H locs hw hP hD hS => ?_)
  subst hw
  have hP : va_P V.1 vwCl [(y 10, .inr (6, [.ref (y 11), .int 2, .int 0, .ref (y 1), .int 0, .int 4, .int 0, .int 0, .int 0]))] H := hP
  have hD : va_D A [(y 10, .inr (6, [.ref (y 11), .int 2, .int 0, .ref (y 1), .int 0, .int 4, .int 0, .int 0, .int 0]))] := hD
  refine lv_iconst (v := 0) hx hb dX6_numberUpTo_13 (by decide) ?_
  exact fiI hx hb hr hlk hK hP hD hS dX6_numberUpTo_14 (Nat.le_of_ble_eq_true rfl) (Nat.le_of_ble_eq_true rfl) (⟨rfl, rfl⟩)
theorem dX6_read_0 : decode cX6_read 0 = .ok (.aload_n 0, 1) := by decide +kernel
theorem dX6_read_1 : decode cX6_read 1 = .ok (.iconst 0, 1) := by decide +kernel
theorem dX6_read_2 : decode cX6_read 2 = .ok (.iload_n 1, 1) := by decide +kernel
theorem dX6_read_3 : decode cX6_read 3 = .ok (.aload_n 0, 1) := by decide +kernel
theorem dX6_read_4 : decode cX6_read 4 = .ok (.getfield 22, 3) := by decide +kernel
theorem dX6_read_7 : decode cX6_read 7 = .ok (.arraylength, 1) := by decide +kernel
theorem q_2_98 : Cond.methodLink "BeaconDelay$Reader" 26 Lib.Math.min.name ∈ gw := gw_2 (i := 98) (by decide +kernel) rfl
theorem q_2_99 : Cond.static Lib.Math.min.name ∈ gw := gw_2 (i := 99) (by decide +kernel) rfl
theorem q_1_10 : Cond.initialized "java/lang/Math" ∈ gw := gw_1 (i := 10) (by decide +kernel) rfl
theorem q_2_100 : Cond.code Lib.Math.min.name prog_15_method_69_code 2 (some FieldType.int) ∈ gw := gw_2 (i := 100) (rfl) rfl
theorem dX6_read_8 : decode cX6_read 8 = .ok (.invokestatic 26, 3) := by decide +kernel
theorem q_2_101 : Cond.methodLink "BeaconDelay$Reader" 32 Lib.Math.max.name ∈ gw := gw_2 (i := 101) (by decide +kernel) rfl
theorem q_2_102 : Cond.static Lib.Math.max.name ∈ gw := gw_2 (i := 102) (by decide +kernel) rfl
theorem q_2_103 : Cond.code Lib.Math.max.name prog_15_method_65_code 2 (some FieldType.int) ∈ gw := gw_2 (i := 103) (rfl) rfl
theorem dX6_read_11 : decode cX6_read 11 = .ok (.invokestatic 32, 3) := by decide +kernel
theorem dX6_read_14 : decode cX6_read 14 = .ok (.putfield 35, 3) := by decide +kernel
theorem dX6_read_17 : decode cX6_read 17 = .ok (.aload_n 0, 1) := by decide +kernel
theorem dX6_read_18 : decode cX6_read 18 = .ok (.iconst 0, 1) := by decide +kernel
theorem dX6_read_19 : decode cX6_read 19 = .ok (.putfield 38, 3) := by decide +kernel
theorem dX6_read_22 : decode cX6_read 22 = .ok (.aload_n 0, 1) := by decide +kernel
theorem dX6_read_23 : decode cX6_read 23 = .ok (.iconst (-1), 1) := by decide +kernel
theorem dX6_read_24 : decode cX6_read 24 = .ok (.putfield 18, 3) := by decide +kernel
theorem dX6_read_27 : decode cX6_read 27 = .ok (.aload_n 0, 1) := by decide +kernel
theorem dX6_read_28 : decode cX6_read 28 = .ok (.iconst 0, 1) := by decide +kernel
theorem dX6_read_29 : decode cX6_read 29 = .ok (.putfield 41, 3) := by decide +kernel
theorem dX6_read_32 : decode cX6_read 32 = .ok (.aload_n 0, 1) := by decide +kernel
theorem dX6_read_33 : decode cX6_read 33 = .ok (.iconst 0, 1) := by decide +kernel
theorem dX6_read_34 : decode cX6_read 34 = .ok (.putfield 44, 3) := by decide +kernel
theorem dX6_read_37 : decode cX6_read 37 = .ok (.aload_n 0, 1) := by decide +kernel
theorem dX6_read_38 : decode cX6_read 38 = .ok (.getfield 12, 3) := by decide +kernel
theorem q_2_107 : Cond.code yX1_becomeEmpty prog_3_method_2_code 1 none ∈ gw := gw_2 (i := 107) (rfl) rfl
theorem q_2_105 : Cond.instanceMethod yX1_becomeEmpty ∈ gw := gw_2 (i := 105) (by decide +kernel) rfl
theorem q_2_106 : Cond.selects "BeaconDelay$Coast" yX1_becomeEmpty yX1_becomeEmpty ∈ gw := gw_2 (i := 106) (by decide +kernel) rfl
theorem mt_X1_becomeEmpty : MtV yX1_becomeEmpty cX1_becomeEmpty 1 none 0 := ⟨⟨q_2_107, q_1_2, by decide +kernel, by decide +kernel, by decide +kernel⟩, q_2_105, q_2_106⟩
theorem q_2_104 : Cond.methodLink "BeaconDelay$Reader" 47 yX1_becomeEmpty ∈ gw := gw_2 (i := 104) (by decide +kernel) rfl
theorem dX6_read_41 : decode cX6_read 41 = .ok (.invokevirtual 47, 3) := by decide +kernel
theorem dX6_read_44 : decode cX6_read 44 = .ok (.aload_n 0, 1) := by decide +kernel
theorem q_2_111 : Cond.code yX6_step prog_8_method_21_code 1 none ∈ gw := gw_2 (i := 111) (rfl) rfl
theorem q_2_110 : Cond.instanceMethod yX6_step ∈ gw := gw_2 (i := 110) (by decide +kernel) rfl
theorem q_s_1 : Cond.selects "BeaconDelay$Reader" yX6_step yX6_step ∈ gw := gw_s (i := 1) (by decide +kernel) rfl
theorem mt_X6_step : MtV yX6_step cX6_step 1 none 0 := ⟨⟨q_2_111, q_1_3, by decide +kernel, by decide +kernel, by decide +kernel⟩, q_2_110, q_s_1⟩
theorem q_2_108 : Cond.methodLink "BeaconDelay$Reader" 50 yX6_step ∈ gw := gw_2 (i := 108) (by decide +kernel) rfl
theorem dX6_read_45 : decode cX6_read 45 = .ok (.invokevirtual 50, 3) := by decide +kernel
theorem dX6_read_48 : decode cX6_read 48 = .ok (.aload_n 0, 1) := by decide +kernel
theorem dX6_read_49 : decode cX6_read 49 = .ok (.ldc 53, 2) := by decide +kernel
theorem q_2_211 : Cond.code yX6_expect prog_8_method_18_code 2 none ∈ gw := gw_2 (i := 211) (rfl) rfl
theorem q_2_210 : Cond.instanceMethod yX6_expect ∈ gw := gw_2 (i := 210) (by decide +kernel) rfl
theorem q_s_5 : Cond.selects "BeaconDelay$Reader" yX6_expect yX6_expect ∈ gw := gw_s (i := 5) (by decide +kernel) rfl
theorem mt_X6_expect : MtV yX6_expect cX6_expect 2 none 1 := ⟨⟨q_2_211, q_1_3, by decide +kernel, by decide +kernel, by decide +kernel⟩, q_2_210, q_s_5⟩
theorem q_2_208 : Cond.methodLink "BeaconDelay$Reader" 55 yX6_expect ∈ gw := gw_2 (i := 208) (by decide +kernel) rfl
theorem dX6_read_51 : decode cX6_read 51 = .ok (.invokevirtual 55, 3) := by decide +kernel
theorem dX6_read_54 : decode cX6_read 54 = .ok (.aload_n 0, 1) := by decide +kernel
theorem dX6_read_55 : decode cX6_read 55 = .ok (.ldc 59, 2) := by decide +kernel
theorem dX6_read_57 : decode cX6_read 57 = .ok (.invokevirtual 55, 3) := by decide +kernel
theorem dX6_read_60 : decode cX6_read 60 = .ok (.aload_n 0, 1) := by decide +kernel
theorem dX6_read_61 : decode cX6_read 61 = .ok (.getfield 12, 3) := by decide +kernel
theorem dX6_read_64 : decode cX6_read 64 = .ok (.aload_n 0, 1) := by decide +kernel
theorem dX6_read_65 : decode cX6_read 65 = .ok (.bipush 9, 2) := by decide +kernel
theorem q_3_1 : Cond.code yX6_numberUpTo prog_8_method_19_code 3 (some FieldType.int) ∈ gw := gw_3 (i := 1) (rfl) rfl
theorem q_3_0 : Cond.instanceMethod yX6_numberUpTo ∈ gw := gw_3 (i := 0) (by decide +kernel) rfl
theorem q_s_7 : Cond.selects "BeaconDelay$Reader" yX6_numberUpTo yX6_numberUpTo ∈ gw := gw_s (i := 7) (by decide +kernel) rfl
theorem mt_X6_numberUpTo : MtV yX6_numberUpTo cX6_numberUpTo 3 (some .int) 1 := ⟨⟨q_3_1, q_1_3, by decide +kernel, by decide +kernel, by decide +kernel⟩, q_3_0, q_s_7⟩
theorem q_2_238 : Cond.methodLink "BeaconDelay$Reader" 61 yX6_numberUpTo ∈ gw := gw_2 (i := 238) (by decide +kernel) rfl
theorem dX6_read_67 : decode cX6_read 67 = .ok (.invokevirtual 61, 3) := by decide +kernel
theorem q_1_52 : Cond.fieldLink "BeaconDelay$Reader" 65 "BeaconDelay$Coast" "firstWeather" "I" ∈ gw := gw_1 (i := 52) (by decide +kernel) rfl
theorem dX6_read_70 : decode cX6_read 70 = .ok (.putfield 65, 3) := by decide +kernel
theorem dX6_read_73 : decode cX6_read 73 = .ok (.aload_n 0, 1) := by decide +kernel
theorem dX6_read_74 : decode cX6_read 74 = .ok (.ldc 68, 2) := by decide +kernel
theorem dX6_read_76 : decode cX6_read 76 = .ok (.invokevirtual 55, 3) := by decide +kernel
theorem dX6_read_79 : decode cX6_read 79 = .ok (.aload_n 0, 1) := by decide +kernel
theorem dX6_read_80 : decode cX6_read 80 = .ok (.getfield 12, 3) := by decide +kernel
theorem dX6_read_83 : decode cX6_read 83 = .ok (.iconst 1, 1) := by decide +kernel
theorem q_1_36 : Cond.fieldLink "BeaconDelay$Reader" 70 "BeaconDelay$Coast" "lines" "I" ∈ gw := gw_1 (i := 36) (by decide +kernel) rfl
theorem dX6_read_84 : decode cX6_read 84 = .ok (.putfield 70, 3) := by decide +kernel
theorem dX6_read_87 : decode cX6_read 87 = .ok (.iconst 0, 1) := by decide +kernel
theorem dX6_read_88 : decode cX6_read 88 = .ok (.istore_n 2, 1) := by decide +kernel
theorem dX6_read_89 : decode cX6_read 89 = .ok (.iload_n 2, 1) := by decide +kernel
theorem dX6_read_90 : decode cX6_read 90 = .ok (.sipush 900, 3) := by decide +kernel
theorem dX6_read_93 : decode cX6_read 93 = .ok (.if_icmp .ge 46, 3) := by decide +kernel
theorem dX6_read_96 : decode cX6_read 96 = .ok (.aload_n 0, 1) := by decide +kernel
theorem dX6_read_97 : decode cX6_read 97 = .ok (.getfield 38, 3) := by decide +kernel
theorem dX6_read_100 : decode cX6_read 100 = .ok (.ifCond .ne 39, 3) := by decide +kernel
theorem dX6_read_139 : decode cX6_read 139 = .ok (.return_, 1) := by decide +kernel
set_option maxHeartbeats 4000000 in
set_option maxRecDepth 100000 in
theorem c_X6_read_0 (l : Launch) (V : GV) (y : Nat → Nat) : Ct l V yX6_read (.code yX6_read cX6_read 3 none) 3 [.ref (y 10), .int 0] [(y 1, aB V 900 (fun _ => 0)), (y 10, .inr (6, [.ref (y 11), .int 0, .int (-1), .ref (y 1), .int 0, .int 0, .int 0, .int 0, .int 0])), (y 11, .inr (1, [.int 0, .int 0, .int 0, .int 0, .int 0, .int 0, .ref (y 12), .ref (y 13), .ref (y 14), .ref (y 15), .ref (y 16), .ref (y 17), .ref (y 18), .int 0, .int 0, .int 0, .int 0, .int 0]))] 0 0 (QV V (fun (w : va_W) => (w = [(y 1, aB V 900 (fun _ => 0)), (y 10, .inr (6, [.ref (y 11), .int 2, .int 0, .ref (y 1), .int 0, .int 4, .int 0, .int 0, .int 0])), (y 11, .inr (1, [.int 1, .int 0, .int 0, .int 0, .int 0, .int 0, .ref (y 12), .ref (y 13), .ref (y 14), .ref (y 15), .ref (y 16), .ref (y 17), .ref (y 18), .int 0, .int 0, .int 0, .int 0, .int 0]))]))) := by
  refine Ct.of (by decide) (Nat.le_of_ble_eq_true rfl) (fun p e s m below meth c A ls hx hb hr hml hown hlk hnm hg hP hK hD hE hA hS hl => ?_)
  have hl : lv_has ls 3 [(0, .ref (y 10)), (1, .int 0)] := hl
  refine lv_aload_n hx hb dX6_read_0 rfl (lv_at hl 0 rfl) ?_
  refine lv_iconst (v := 0) hx hb dX6_read_1 (by decide) ?_
  refine lv_iload_n hx hb dX6_read_2 rfl (lv_at hl 1 rfl) ?_
  refine lv_aload_n hx hb dX6_read_3 rfl (lv_at hl 0 rfl) ?_
  refine va_get (ci := 6) (v := .ref (y 1)) (C := RX6) (T := TX6) (N := 9) hx hb hg inX6 hown hK hP 1 rfl rfl 3 (by decide) (hg _ q_1_140) (fun _ h9 => h9) rfl dX6_read_4 ?_
  refine va_alen (v := 900) hx hb hK hP 0 1 rfl rfl (by decide) dX6_read_7 ?_
  refine va_mmin hx hb (hml.trans hl.1.symm) hown (hg _ q_2_98) (hg _ q_2_99) (hg _ q_1_10) (hg _ q_2_100) (Nat.le_of_ble_eq_true rfl) (Nat.le_of_ble_eq_true rfl) (Nat.le_of_ble_eq_true rfl) (Nat.le_of_ble_eq_true rfl) dX6_read_8 ?_
  refine tpi (y := 0) (by decide +kernel) ?_
  refine va_mmax hx hb (hml.trans hl.1.symm) hown (hg _ q_2_101) (hg _ q_2_102) (hg _ q_1_10) (hg _ q_2_103) (Nat.le_of_ble_eq_true rfl) (Nat.le_of_ble_eq_true rfl) (Nat.le_of_ble_eq_true rfl) (Nat.le_of_ble_eq_true rfl) dX6_read_11 ?_
  refine tpi (y := 0) (by decide +kernel) ?_
  refine va_put (ci := 6) (v := .int 0) (ty := .int) (C := RX6) (T := TX6) (N := 9) hx hb hg inX6 tyX6 tyX6_ok nmX6 hown hK hP hD hS 1 rfl rfl 4 (by decide) (hg _ q_1_141) (fun _ h9 => h9) rfl (by decide +kernel) rfl rfl (Nat.le_of_ble_eq_true rfl) dX6_read_14 (fun H locs hP hD hS => ?_)
  have hP : va_P V.1 vwCl [(y 1, aB V 900 (fun _ => 0)), (y 10, .inr (6, [.ref (y 11), .int 0, .int (-1), .ref (y 1), .int 0, .int 0, .int 0, .int 0, .int 0])), (y 11, .inr (1, [.int 0, .int 0, .int 0, .int 0, .int 0, .int 0, .ref (y 12), .ref (y 13), .ref (y 14), .ref (y 15), .ref (y 16), .ref (y 17), .ref (y 18), .int 0, .int 0, .int 0, .int 0, .int 0]))] H := hP
  have hD : va_D A [(y 1, aB V 900 (fun _ => 0)), (y 10, .inr (6, [.ref (y 11), .int 0, .int (-1), .ref (y 1), .int 0, .int 0, .int 0, .int 0, .int 0])), (y 11, .inr (1, [.int 0, .int 0, .int 0, .int 0, .int 0, .int 0, .ref (y 12), .ref (y 13), .ref (y 14), .ref (y 15), .ref (y 16), .ref (y 17), .ref (y 18), .int 0, .int 0, .int 0, .int 0, .int 0]))] := hD
  refine lv_aload_n hx hb dX6_read_17 rfl (lv_at hl 0 rfl) ?_
  refine lv_iconst (v := 0) hx hb dX6_read_18 (by decide) ?_
  refine va_put (ci := 6) (v := .int 0) (ty := .int) (C := RX6) (T := TX6) (N := 9) hx hb hg inX6 tyX6 tyX6_ok nmX6 hown hK hP hD hS 1 rfl rfl 1 (by decide) (hg _ q_1_136) (fun _ h9 => h9) rfl (by decide +kernel) rfl rfl (Nat.le_of_ble_eq_true rfl) dX6_read_19 (fun H locs hP hD hS => ?_)
  have hP : va_P V.1 vwCl [(y 1, aB V 900 (fun _ => 0)), (y 10, .inr (6, [.ref (y 11), .int 0, .int (-1), .ref (y 1), .int 0, .int 0, .int 0, .int 0, .int 0])), (y 11, .inr (1, [.int 0, .int 0, .int 0, .int 0, .int 0, .int 0, .ref (y 12), .ref (y 13), .ref (y 14), .ref (y 15), .ref (y 16), .ref (y 17), .ref (y 18), .int 0, .int 0, .int 0, .int 0, .int 0]))] H := hP
  have hD : va_D A [(y 1, aB V 900 (fun _ => 0)), (y 10, .inr (6, [.ref (y 11), .int 0, .int (-1), .ref (y 1), .int 0, .int 0, .int 0, .int 0, .int 0])), (y 11, .inr (1, [.int 0, .int 0, .int 0, .int 0, .int 0, .int 0, .ref (y 12), .ref (y 13), .ref (y 14), .ref (y 15), .ref (y 16), .ref (y 17), .ref (y 18), .int 0, .int 0, .int 0, .int 0, .int 0]))] := hD
  refine lv_aload_n hx hb dX6_read_22 rfl (lv_at hl 0 rfl) ?_
  refine lv_iconst (v := (-1)) hx hb dX6_read_23 (by decide) ?_
  refine va_put (ci := 6) (v := .int (-1)) (ty := .int) (C := RX6) (T := TX6) (N := 9) hx hb hg inX6 tyX6 tyX6_ok nmX6 hown hK hP hD hS 1 rfl rfl 2 (by decide) (hg _ q_1_138) (fun _ h9 => h9) rfl (by decide +kernel) rfl rfl (Nat.le_of_ble_eq_true rfl) dX6_read_24 (fun H locs hP hD hS => ?_)
  have hP : va_P V.1 vwCl [(y 1, aB V 900 (fun _ => 0)), (y 10, .inr (6, [.ref (y 11), .int 0, .int (-1), .ref (y 1), .int 0, .int 0, .int 0, .int 0, .int 0])), (y 11, .inr (1, [.int 0, .int 0, .int 0, .int 0, .int 0, .int 0, .ref (y 12), .ref (y 13), .ref (y 14), .ref (y 15), .ref (y 16), .ref (y 17), .ref (y 18), .int 0, .int 0, .int 0, .int 0, .int 0]))] H := hP
  have hD : va_D A [(y 1, aB V 900 (fun _ => 0)), (y 10, .inr (6, [.ref (y 11), .int 0, .int (-1), .ref (y 1), .int 0, .int 0, .int 0, .int 0, .int 0])), (y 11, .inr (1, [.int 0, .int 0, .int 0, .int 0, .int 0, .int 0, .ref (y 12), .ref (y 13), .ref (y 14), .ref (y 15), .ref (y 16), .ref (y 17), .ref (y 18), .int 0, .int 0, .int 0, .int 0, .int 0]))] := hD
  refine lv_aload_n hx hb dX6_read_27 rfl (lv_at hl 0 rfl) ?_
  refine lv_iconst (v := 0) hx hb dX6_read_28 (by decide) ?_
  refine va_put (ci := 6) (v := .int 0) (ty := .int) (C := RX6) (T := TX6) (N := 9) hx hb hg inX6 tyX6 tyX6_ok nmX6 hown hK hP hD hS 1 rfl rfl 5 (by decide) (hg _ q_1_142) (fun _ h9 => h9) rfl (by decide +kernel) rfl rfl (Nat.le_of_ble_eq_true rfl) dX6_read_29 (fun H locs hP hD hS => ?_)
  have hP : va_P V.1 vwCl [(y 1, aB V 900 (fun _ => 0)), (y 10, .inr (6, [.ref (y 11), .int 0, .int (-1), .ref (y 1), .int 0, .int 0, .int 0, .int 0, .int 0])), (y 11, .inr (1, [.int 0, .int 0, .int 0, .int 0, .int 0, .int 0, .ref (y 12), .ref (y 13), .ref (y 14), .ref (y 15), .ref (y 16), .ref (y 17), .ref (y 18), .int 0, .int 0, .int 0, .int 0, .int 0]))] H := hP
  have hD : va_D A [(y 1, aB V 900 (fun _ => 0)), (y 10, .inr (6, [.ref (y 11), .int 0, .int (-1), .ref (y 1), .int 0, .int 0, .int 0, .int 0, .int 0])), (y 11, .inr (1, [.int 0, .int 0, .int 0, .int 0, .int 0, .int 0, .ref (y 12), .ref (y 13), .ref (y 14), .ref (y 15), .ref (y 16), .ref (y 17), .ref (y 18), .int 0, .int 0, .int 0, .int 0, .int 0]))] := hD
  refine lv_aload_n hx hb dX6_read_32 rfl (lv_at hl 0 rfl) ?_
  refine lv_iconst (v := 0) hx hb dX6_read_33 (by decide) ?_
  refine va_put (ci := 6) (v := .int 0) (ty := .int) (C := RX6) (T := TX6) (N := 9) hx hb hg inX6 tyX6 tyX6_ok nmX6 hown hK hP hD hS 1 rfl rfl 7 (by decide) (hg _ q_1_144) (fun _ h9 => h9) rfl (by decide +kernel) rfl rfl (Nat.le_of_ble_eq_true rfl) dX6_read_34 (fun H locs hP hD hS => ?_)
  have hP : va_P V.1 vwCl [(y 1, aB V 900 (fun _ => 0)), (y 10, .inr (6, [.ref (y 11), .int 0, .int (-1), .ref (y 1), .int 0, .int 0, .int 0, .int 0, .int 0])), (y 11, .inr (1, [.int 0, .int 0, .int 0, .int 0, .int 0, .int 0, .ref (y 12), .ref (y 13), .ref (y 14), .ref (y 15), .ref (y 16), .ref (y 17), .ref (y 18), .int 0, .int 0, .int 0, .int 0, .int 0]))] H := hP
  have hD : va_D A [(y 1, aB V 900 (fun _ => 0)), (y 10, .inr (6, [.ref (y 11), .int 0, .int (-1), .ref (y 1), .int 0, .int 0, .int 0, .int 0, .int 0])), (y 11, .inr (1, [.int 0, .int 0, .int 0, .int 0, .int 0, .int 0, .ref (y 12), .ref (y 13), .ref (y 14), .ref (y 15), .ref (y 16), .ref (y 17), .ref (y 18), .int 0, .int 0, .int 0, .int 0, .int 0]))] := hD
  refine lv_aload_n hx hb dX6_read_37 rfl (lv_at hl 0 rfl) ?_
  refine va_get (ci := 6) (v := .ref (y 11)) (C := RX6) (T := TX6) (N := 9) hx hb hg inX6 hown hK hP 1 rfl rfl 0 (by decide) (hg _ q_1_134) (fun _ h9 => h9) rfl dX6_read_38 ?_
  refine jnV (wr := [(y 1, aB V 900 (fun _ => 0)), (y 10, .inr (6, [.ref (y 11), .int 0, .int (-1), .ref (y 1), .int 0, .int 0, .int 0, .int 0, .int 0]))]) (rnV (rest := []) ⟨hx, hb, hml, hown, hg⟩ (c_X1_becomeEmpty_0 l V y) mt_X1_becomeEmpty q_2_104 ⟨Nat.le_of_ble_eq_true rfl, Nat.le_of_ble_eq_true rfl⟩ hK hP hD hS hA hE [2] rfl rfl 2 rfl rfl rfl rfl hl.1 rfl (Nat.le_of_ble_eq_true rfl) dX6_read_41 ⟨Nat.le_of_ble_eq_true rfl, Nat.le_of_ble_eq_true rfl⟩) hP hD hS hA [2] [0, 1] rfl rfl rfl (by decide) (fun  w H locs hw hP hD hS => ?_)
  subst hw
  have hP : va_P V.1 vwCl [(y 1, aB V 900 (fun _ => 0)), (y 10, .inr (6, [.ref (y 11), .int 0, .int (-1), .ref (y 1), .int 0, .int 0, .int 0, .int 0, .int 0])), (y 11, .inr (1, [.int 0, .int 0, .int 0, .int 0, .int 0, .int 0, .ref (y 12), .ref (y 13), .ref (y 14), .ref (y 15), .ref (y 16), .ref (y 17), .ref (y 18), .int 0, .int 0, .int 0, .int 0, .int 0]))] H := hP
  have hD : va_D A [(y 1, aB V 900 (fun _ => 0)), (y 10, .inr (6, [.ref (y 11), .int 0, .int (-1), .ref (y 1), .int 0, .int 0, .int 0, .int 0, .int 0])), (y 11, .inr (1, [.int 0, .int 0, .int 0, .int 0, .int 0, .int 0, .ref (y 12), .ref (y 13), .ref (y 14), .ref (y 15), .ref (y 16), .ref (y 17), .ref (y 18), .int 0, .int 0, .int 0, .int 0, .int 0]))] := hD
  refine lv_aload_n hx hb dX6_read_44 rfl (lv_at hl 0 rfl) ?_
  refine jnV (wr := [(y 1, aB V 900 (fun _ => 0)), (y 11, .inr (1, [.int 0, .int 0, .int 0, .int 0, .int 0, .int 0, .ref (y 12), .ref (y 13), .ref (y 14), .ref (y 15), .ref (y 16), .ref (y 17), .ref (y 18), .int 0, .int 0, .int 0, .int 0, .int 0]))]) (rnV (rest := []) ⟨hx, hb, hml, hown, hg⟩ (c_X6_step_0 l V y) mt_X6_step q_2_108 ⟨Nat.le_of_ble_eq_true rfl, Nat.le_of_ble_eq_true rfl⟩ hK hP hD hS hA hE [1] rfl rfl 1 rfl rfl rfl rfl hl.1 rfl (Nat.le_of_ble_eq_true rfl) dX6_read_45 ⟨Nat.le_of_ble_eq_true rfl, Nat.le_of_ble_eq_true rfl⟩) hP hD hS hA [1] [0, 2] rfl rfl rfl (by decide) (fun  w H locs hw hP hD hS => ?_)
  subst hw
  have hP : va_P V.1 vwCl [(y 1, aB V 900 (fun _ => 0)), (y 11, .inr (1, [.int 0, .int 0, .int 0, .int 0, .int 0, .int 0, .ref (y 12), .ref (y 13), .ref (y 14), .ref (y 15), .ref (y 16), .ref (y 17), .ref (y 18), .int 0, .int 0, .int 0, .int 0, .int 0])), (y 10, .inr (6, [.ref (y 11), .int 0, .int (-1), .ref (y 1), .int 0, .int 0, .int 0, .int 0, .int 0]))] H := hP
  have hD : va_D A [(y 1, aB V 900 (fun _ => 0)), (y 11, .inr (1, [.int 0, .int 0, .int 0, .int 0, .int 0, .int 0, .ref (y 12), .ref (y 13), .ref (y 14), .ref (y 15), .ref (y 16), .ref (y 17), .ref (y 18), .int 0, .int 0, .int 0, .int 0, .int 0])), (y 10, .inr (6, [.ref (y 11), .int 0, .int (-1), .ref (y 1), .int 0, .int 0, .int 0, .int 0, .int 0]))] := hD
  refine lv_aload_n hx hb dX6_read_48 rfl (lv_at hl 0 rfl) ?_
  obtain ⟨a_1, ha_1⟩ := hE.2.2.2.2.2 _ (show (53, "coast") ∈ nS by decide)
  refine va_ldcS hx hb hown ha_1 dX6_read_49 ?_
  refine jnV (wr := [(y 1, aB V 900 (fun _ => 0)), (y 11, .inr (1, [.int 0, .int 0, .int 0, .int 0, .int 0, .int 0, .ref (y 12), .ref (y 13), .ref (y 14), .ref (y 15), .ref (y 16), .ref (y 17), .ref (y 18), .int 0, .int 0, .int 0, .int 0, .int 0]))]) (rnV (rest := []) ⟨hx, hb, hml, hown, hg⟩ (c_X6_expect_0 l V y a_1) mt_X6_expect q_2_208 ⟨Nat.le_of_ble_eq_true rfl, Nat.le_of_ble_eq_true rfl⟩ hK hP hD hS hA hE [2] rfl rfl 2 rfl rfl rfl rfl hl.1 rfl (Nat.le_of_ble_eq_true rfl) dX6_read_51 ⟨Nat.le_of_ble_eq_true rfl, Nat.le_of_ble_eq_true rfl⟩) hP hD hS hA [2] [0, 1] rfl rfl rfl (by decide) (fun  w H locs hw hP hD hS => ?_)
  subst hw
  have hP : va_P V.1 vwCl [(y 1, aB V 900 (fun _ => 0)), (y 11, .inr (1, [.int 0, .int 0, .int 0, .int 0, .int 0, .int 0, .ref (y 12), .ref (y 13), .ref (y 14), .ref (y 15), .ref (y 16), .ref (y 17), .ref (y 18), .int 0, .int 0, .int 0, .int 0, .int 0])), (y 10, .inr (6, [.ref (y 11), .int 2, .int 0, .ref (y 1), .int 0, .int 4, .int 0, .int 0, .int 0]))] H := hP
  have hD : va_D A [(y 1, aB V 900 (fun _ => 0)), (y 11, .inr (1, [.int 0, .int 0, .int 0, .int 0, .int 0, .int 0, .ref (y 12), .ref (y 13), .ref (y 14), .ref (y 15), .ref (y 16), .ref (y 17), .ref (y 18), .int 0, .int 0, .int 0, .int 0, .int 0])), (y 10, .inr (6, [.ref (y 11), .int 2, .int 0, .ref (y 1), .int 0, .int 4, .int 0, .int 0, .int 0]))] := hD
  refine lv_aload_n hx hb dX6_read_54 rfl (lv_at hl 0 rfl) ?_
  obtain ⟨a_2, ha_2⟩ := hE.2.2.2.2.2 _ (show (59, "weather") ∈ nS by decide)
  refine va_ldcS hx hb hown ha_2 dX6_read_55 ?_
  refine jnV (wr := [(y 1, aB V 900 (fun _ => 0)), (y 11, .inr (1, [.int 0, .int 0, .int 0, .int 0, .int 0, .int 0, .ref (y 12), .ref (y 13), .ref (y 14), .ref (y 15), .ref (y 16), .ref (y 17), .ref (y 18), .int 0, .int 0, .int 0, .int 0, .int 0]))]) (rnV (rest := []) ⟨hx, hb, hml, hown, hg⟩ (c_X6_expect_1 l V y a_2) mt_X6_expect q_2_208 ⟨Nat.le_of_ble_eq_true rfl, Nat.le_of_ble_eq_true rfl⟩ hK hP hD hS hA hE [2] rfl rfl 2 rfl rfl rfl rfl hl.1 rfl (Nat.le_of_ble_eq_true rfl) dX6_read_57 ⟨Nat.le_of_ble_eq_true rfl, Nat.le_of_ble_eq_true rfl⟩) hP hD hS hA [2] [0, 1] rfl rfl rfl (by decide) (fun  w H locs hw hP hD hS => ?_)
  subst hw
  have hP : va_P V.1 vwCl [(y 1, aB V 900 (fun _ => 0)), (y 11, .inr (1, [.int 0, .int 0, .int 0, .int 0, .int 0, .int 0, .ref (y 12), .ref (y 13), .ref (y 14), .ref (y 15), .ref (y 16), .ref (y 17), .ref (y 18), .int 0, .int 0, .int 0, .int 0, .int 0])), (y 10, .inr (6, [.ref (y 11), .int 2, .int 0, .ref (y 1), .int 0, .int 4, .int 0, .int 0, .int 0]))] H := hP
  have hD : va_D A [(y 1, aB V 900 (fun _ => 0)), (y 11, .inr (1, [.int 0, .int 0, .int 0, .int 0, .int 0, .int 0, .ref (y 12), .ref (y 13), .ref (y 14), .ref (y 15), .ref (y 16), .ref (y 17), .ref (y 18), .int 0, .int 0, .int 0, .int 0, .int 0])), (y 10, .inr (6, [.ref (y 11), .int 2, .int 0, .ref (y 1), .int 0, .int 4, .int 0, .int 0, .int 0]))] := hD
  refine lv_aload_n hx hb dX6_read_60 rfl (lv_at hl 0 rfl) ?_
  refine va_get (ci := 6) (v := .ref (y 11)) (C := RX6) (T := TX6) (N := 9) hx hb hg inX6 hown hK hP 2 rfl rfl 0 (by decide) (hg _ q_1_134) (fun _ h9 => h9) rfl dX6_read_61 ?_
  refine lv_aload_n hx hb dX6_read_64 rfl (lv_at hl 0 rfl) ?_
  refine lv_bipush (v := 9) hx hb dX6_read_65 (by decide) ?_
  refine jnI (wr := [(y 1, aB V 900 (fun _ => 0)), (y 11, .inr (1, [.int 0, .int 0, .int 0, .int 0, .int 0, .int 0, .ref (y 12), .ref (y 13), .ref (y 14), .ref (y 15), .ref (y 16), .ref (y 17), .ref (y 18), .int 0, .int 0, .int 0, .int 0, .int 0]))]) (rnV (rest := [.ref (y 11)]) ⟨hx, hb, hml, hown, hg⟩ (c_X6_numberUpTo_0 l V y) mt_X6_numberUpTo q_2_238 ⟨Nat.le_of_ble_eq_true rfl, Nat.le_of_ble_eq_true rfl⟩ hK hP hD hS hA hE [2] rfl rfl 2 rfl rfl rfl rfl hl.1 rfl (Nat.le_of_ble_eq_true rfl) dX6_read_67 ⟨Nat.le_of_ble_eq_true rfl, Nat.le_of_ble_eq_true rfl⟩) hP hD hS hA [2] [0, 1] rfl rfl rfl (by decide) (fun r_3 w H locs hw hP hD hS => ?_)
  obtain ⟨rfl, rfl⟩ := hw
  have hP : va_P V.1 vwCl [(y 1, aB V 900 (fun _ => 0)), (y 11, .inr (1, [.int 0, .int 0, .int 0, .int 0, .int 0, .int 0, .ref (y 12), .ref (y 13), .ref (y 14), .ref (y 15), .ref (y 16), .ref (y 17), .ref (y 18), .int 0, .int 0, .int 0, .int 0, .int 0])), (y 10, .inr (6, [.ref (y 11), .int 2, .int 0, .ref (y 1), .int 0, .int 4, .int 0, .int 0, .int 0]))] H := hP
  have hD : va_D A [(y 1, aB V 900 (fun _ => 0)), (y 11, .inr (1, [.int 0, .int 0, .int 0, .int 0, .int 0, .int 0, .ref (y 12), .ref (y 13), .ref (y 14), .ref (y 15), .ref (y 16), .ref (y 17), .ref (y 18), .int 0, .int 0, .int 0, .int 0, .int 0])), (y 10, .inr (6, [.ref (y 11), .int 2, .int 0, .ref (y 1), .int 0, .int 4, .int 0, .int 0, .int 0]))] := hD
  refine va_put (ci := 1) (v := .int 0) (ty := .int) (C := RX1) (T := TX1) (N := 18) hx hb hg inX1 tyX1 tyX1_ok nmX1 hown hK hP hD hS 1 rfl rfl 5 (by decide) (hg _ q_1_52) (fun _ h9 => h9) rfl (by decide +kernel) rfl rfl (Nat.le_of_ble_eq_true rfl) dX6_read_70 (fun H locs hP hD hS => ?_)
  have hP : va_P V.1 vwCl [(y 1, aB V 900 (fun _ => 0)), (y 11, .inr (1, [.int 0, .int 0, .int 0, .int 0, .int 0, .int 0, .ref (y 12), .ref (y 13), .ref (y 14), .ref (y 15), .ref (y 16), .ref (y 17), .ref (y 18), .int 0, .int 0, .int 0, .int 0, .int 0])), (y 10, .inr (6, [.ref (y 11), .int 2, .int 0, .ref (y 1), .int 0, .int 4, .int 0, .int 0, .int 0]))] H := hP
  have hD : va_D A [(y 1, aB V 900 (fun _ => 0)), (y 11, .inr (1, [.int 0, .int 0, .int 0, .int 0, .int 0, .int 0, .ref (y 12), .ref (y 13), .ref (y 14), .ref (y 15), .ref (y 16), .ref (y 17), .ref (y 18), .int 0, .int 0, .int 0, .int 0, .int 0])), (y 10, .inr (6, [.ref (y 11), .int 2, .int 0, .ref (y 1), .int 0, .int 4, .int 0, .int 0, .int 0]))] := hD
  refine lv_aload_n hx hb dX6_read_73 rfl (lv_at hl 0 rfl) ?_
  obtain ⟨a_4, ha_4⟩ := hE.2.2.2.2.2 _ (show (68, ";") ∈ nS by decide)
  refine va_ldcS hx hb hown ha_4 dX6_read_74 ?_
  refine jnV (wr := [(y 1, aB V 900 (fun _ => 0)), (y 11, .inr (1, [.int 0, .int 0, .int 0, .int 0, .int 0, .int 0, .ref (y 12), .ref (y 13), .ref (y 14), .ref (y 15), .ref (y 16), .ref (y 17), .ref (y 18), .int 0, .int 0, .int 0, .int 0, .int 0]))]) (rnV (rest := []) ⟨hx, hb, hml, hown, hg⟩ (c_X6_expect_1 l V y a_4) mt_X6_expect q_2_208 ⟨Nat.le_of_ble_eq_true rfl, Nat.le_of_ble_eq_true rfl⟩ hK hP hD hS hA hE [2] rfl rfl 2 rfl rfl rfl rfl hl.1 rfl (Nat.le_of_ble_eq_true rfl) dX6_read_76 ⟨Nat.le_of_ble_eq_true rfl, Nat.le_of_ble_eq_true rfl⟩) hP hD hS hA [2] [0, 1] rfl rfl rfl (by decide) (fun  w H locs hw hP hD hS => ?_)
  subst hw
  have hP : va_P V.1 vwCl [(y 1, aB V 900 (fun _ => 0)), (y 11, .inr (1, [.int 0, .int 0, .int 0, .int 0, .int 0, .int 0, .ref (y 12), .ref (y 13), .ref (y 14), .ref (y 15), .ref (y 16), .ref (y 17), .ref (y 18), .int 0, .int 0, .int 0, .int 0, .int 0])), (y 10, .inr (6, [.ref (y 11), .int 2, .int 0, .ref (y 1), .int 0, .int 4, .int 0, .int 0, .int 0]))] H := hP
  have hD : va_D A [(y 1, aB V 900 (fun _ => 0)), (y 11, .inr (1, [.int 0, .int 0, .int 0, .int 0, .int 0, .int 0, .ref (y 12), .ref (y 13), .ref (y 14), .ref (y 15), .ref (y 16), .ref (y 17), .ref (y 18), .int 0, .int 0, .int 0, .int 0, .int 0])), (y 10, .inr (6, [.ref (y 11), .int 2, .int 0, .ref (y 1), .int 0, .int 4, .int 0, .int 0, .int 0]))] := hD
  refine lv_aload_n hx hb dX6_read_79 rfl (lv_at hl 0 rfl) ?_
  refine va_get (ci := 6) (v := .ref (y 11)) (C := RX6) (T := TX6) (N := 9) hx hb hg inX6 hown hK hP 2 rfl rfl 0 (by decide) (hg _ q_1_134) (fun _ h9 => h9) rfl dX6_read_80 ?_
  refine lv_iconst (v := 1) hx hb dX6_read_83 (by decide) ?_
  refine va_put (ci := 1) (v := .int 1) (ty := .int) (C := RX1) (T := TX1) (N := 18) hx hb hg inX1 tyX1 tyX1_ok nmX1 hown hK hP hD hS 1 rfl rfl 0 (by decide) (hg _ q_1_36) (fun _ h9 => h9) rfl (by decide +kernel) rfl rfl (Nat.le_of_ble_eq_true rfl) dX6_read_84 (fun H locs hP hD hS => ?_)
  have hP : va_P V.1 vwCl [(y 1, aB V 900 (fun _ => 0)), (y 11, .inr (1, [.int 1, .int 0, .int 0, .int 0, .int 0, .int 0, .ref (y 12), .ref (y 13), .ref (y 14), .ref (y 15), .ref (y 16), .ref (y 17), .ref (y 18), .int 0, .int 0, .int 0, .int 0, .int 0])), (y 10, .inr (6, [.ref (y 11), .int 2, .int 0, .ref (y 1), .int 0, .int 4, .int 0, .int 0, .int 0]))] H := hP
  have hD : va_D A [(y 1, aB V 900 (fun _ => 0)), (y 11, .inr (1, [.int 1, .int 0, .int 0, .int 0, .int 0, .int 0, .ref (y 12), .ref (y 13), .ref (y 14), .ref (y 15), .ref (y 16), .ref (y 17), .ref (y 18), .int 0, .int 0, .int 0, .int 0, .int 0])), (y 10, .inr (6, [.ref (y 11), .int 2, .int 0, .ref (y 1), .int 0, .int 4, .int 0, .int 0, .int 0]))] := hD
  refine lv_iconst (v := 0) hx hb dX6_read_87 (by decide) ?_
  refine lv_istore_n (lv' := [(2, .int 0), (0, .ref (y 10)), (1, .int 0)]) hx hb dX6_read_88 rfl hl (by decide) rfl (fun ls hl => ?_)
  refine lv_iload_n hx hb dX6_read_89 rfl (lv_at hl 0 rfl) ?_
  refine lv_sipush (v := 900) hx hb dX6_read_90 (by decide) ?_
  refine lv_icmp_ge (tgt := 139) hx hb dX6_read_93 (by decide) (fun c_5 => absurd c_5 (by decide)) (fun _ => ?_)
  refine lv_aload_n hx hb dX6_read_96 rfl (lv_at hl 1 rfl) ?_
  refine va_get (ci := 6) (v := .int 2) (C := RX6) (T := TX6) (N := 9) hx hb hg inX6 hown hK hP 2 rfl rfl 1 (by decide) (hg _ q_1_136) (fun _ h9 => h9) rfl dX6_read_97 ?_
  refine lv_if_ne (tgt := 139) hx hb dX6_read_100 (by decide) (fun _ => ?_) (fun c_6 => absurd c_6 (by decide))
  have hP := subP (ws' := [(y 1, aB V 900 (fun _ => 0)), (y 10, .inr (6, [.ref (y 11), .int 2, .int 0, .ref (y 1), .int 0, .int 4, .int 0, .int 0, .int 0])), (y 11, .inr (1, [.int 1, .int 0, .int 0, .int 0, .int 0, .int 0, .ref (y 12), .ref (y 13), .ref (y 14), .ref (y 15), .ref (y 16), .ref (y 17), .ref (y 18), .int 0, .int 0, .int 0, .int 0, .int 0]))]) hP [0, 2, 1] rfl
  have hD := hD.sub (ws' := [(y 1, aB V 900 (fun _ => 0)), (y 10, .inr (6, [.ref (y 11), .int 2, .int 0, .ref (y 1), .int 0, .int 4, .int 0, .int 0, .int 0])), (y 11, .inr (1, [.int 1, .int 0, .int 0, .int 0, .int 0, .int 0, .ref (y 12), .ref (y 13), .ref (y 14), .ref (y 15), .ref (y 16), .ref (y 17), .ref (y 18), .int 0, .int 0, .int 0, .int 0, .int 0]))]) [0, 2, 1] rfl rfl
  exact fiV hx hb hr hlk hK hP hD hS dX6_read_139 (Nat.le_of_ble_eq_true rfl) (Nat.le_of_ble_eq_true rfl) (rfl)
theorem dX9_coast_0 : decode cX9_coast 0 = .ok (.iload_n 1, 1) := by decide +kernel
theorem dX9_coast_1 : decode cX9_coast 1 = .ok (.ifCond .lt 11, 3) := by decide +kernel
theorem dX9_coast_12 : decode cX9_coast 12 = .ok (.bipush (-3), 2) := by decide +kernel
theorem dX9_coast_14 : decode cX9_coast 14 = .ok (.ireturn, 1) := by decide +kernel
theorem dX9_coast_4 : decode cX9_coast 4 = .ok (.iload_n 1, 1) := by decide +kernel
theorem dX9_coast_5 : decode cX9_coast 5 = .ok (.aload_n 0, 1) := by decide +kernel
theorem dX9_coast_6 : decode cX9_coast 6 = .ok (.getfield 70, 3) := by decide +kernel
theorem dX9_coast_9 : decode cX9_coast 9 = .ok (.if_icmp .le 6, 3) := by decide +kernel
theorem dX9_coast_15 : decode cX9_coast 15 = .ok (.aload_n 0, 1) := by decide +kernel
theorem dX9_coast_16 : decode cX9_coast 16 = .ok (.iconst 0, 1) := by decide +kernel
theorem dX9_coast_17 : decode cX9_coast 17 = .ok (.putfield 70, 3) := by decide +kernel
theorem dX9_coast_20 : decode cX9_coast 20 = .ok (.aload_n 0, 1) := by decide +kernel
theorem dX9_coast_21 : decode cX9_coast 21 = .ok (.getfield 25, 3) := by decide +kernel
theorem dX9_coast_24 : decode cX9_coast 24 = .ok (.iload_n 1, 1) := by decide +kernel
theorem q_2_97 : Cond.code yX6_read prog_8_method_2_code 3 none ∈ gw := gw_2 (i := 97) (rfl) rfl
theorem q_2_95 : Cond.instanceMethod yX6_read ∈ gw := gw_2 (i := 95) (by decide +kernel) rfl
theorem q_2_96 : Cond.selects "BeaconDelay$Reader" yX6_read yX6_read ∈ gw := gw_2 (i := 96) (by decide +kernel) rfl
theorem mt_X6_read : MtV yX6_read cX6_read 3 none 1 := ⟨⟨q_2_97, q_1_3, by decide +kernel, by decide +kernel, by decide +kernel⟩, q_2_95, q_2_96⟩
theorem q_2_94 : Cond.methodLink "BeaconDelay" 78 yX6_read ∈ gw := gw_2 (i := 94) (by decide +kernel) rfl
theorem dX9_coast_25 : decode cX9_coast 25 = .ok (.invokevirtual 78, 3) := by decide +kernel
theorem dX9_coast_28 : decode cX9_coast 28 = .ok (.aload_n 0, 1) := by decide +kernel
theorem dX9_coast_29 : decode cX9_coast 29 = .ok (.getfield 25, 3) := by decide +kernel
theorem q_1_137 : Cond.fieldLink "BeaconDelay" 81 "BeaconDelay$Reader" "fault" "I" ∈ gw := gw_1 (i := 137) (by decide +kernel) rfl
theorem dX9_coast_32 : decode cX9_coast 32 = .ok (.getfield 81, 3) := by decide +kernel
theorem dX9_coast_35 : decode cX9_coast 35 = .ok (.ifCond .eq 14, 3) := by decide +kernel
theorem dX9_coast_38 : decode cX9_coast 38 = .ok (.bipush (-30), 2) := by decide +kernel
theorem dX9_coast_40 : decode cX9_coast 40 = .ok (.aload_n 0, 1) := by decide +kernel
theorem dX9_coast_41 : decode cX9_coast 41 = .ok (.getfield 25, 3) := by decide +kernel
theorem dX9_coast_44 : decode cX9_coast 44 = .ok (.getfield 81, 3) := by decide +kernel
theorem dX9_coast_47 : decode cX9_coast 47 = .ok (.isub, 1) := by decide +kernel
theorem dX9_coast_48 : decode cX9_coast 48 = .ok (.ireturn, 1) := by decide +kernel
set_option maxHeartbeats 4000000 in
set_option maxRecDepth 100000 in
theorem c_X9_coast_0 (l : Launch) (V : GV) (y : Nat → Nat) (p0 : Int32) : Ct l V yX9_coast (.code yX9_coast cX9_coast 3 (some .int)) 4 [.ref (y 0), .int p0] [(y 0, .inr (9, [.ref (y 1), .int 0, .ref (y 2), .ref (y 10), .ref (y 19), .ref (y 25), .ref (y 26), .ref (y 30), .ref (y 31), .ref (y 32), .null, .null, .int 0, .int 0, .int 0])), (y 1, aB V 900 (fun _ => 0)), (y 10, .inr (6, [.ref (y 11), .int 0, .int (-1), .ref (y 1), .int 0, .int 0, .int 0, .int 0, .int 0])), (y 11, .inr (1, [.int 0, .int 0, .int 0, .int 0, .int 0, .int 0, .ref (y 12), .ref (y 13), .ref (y 14), .ref (y 15), .ref (y 16), .ref (y 17), .ref (y 18), .int 0, .int 0, .int 0, .int 0, .int 0]))] 0 0 (QI V (fun (r : Int32) (w : va_W) => (p0 < 0 ∧ r = (-3) ∧ w = [(y 0, .inr (9, [.ref (y 1), .int 0, .ref (y 2), .ref (y 10), .ref (y 19), .ref (y 25), .ref (y 26), .ref (y 30), .ref (y 31), .ref (y 32), .null, .null, .int 0, .int 0, .int 0])), (y 1, aB V 900 (fun _ => 0)), (y 10, .inr (6, [.ref (y 11), .int 0, .int (-1), .ref (y 1), .int 0, .int 0, .int 0, .int 0, .int 0])), (y 11, .inr (1, [.int 0, .int 0, .int 0, .int 0, .int 0, .int 0, .ref (y 12), .ref (y 13), .ref (y 14), .ref (y 15), .ref (y 16), .ref (y 17), .ref (y 18), .int 0, .int 0, .int 0, .int 0, .int 0]))]) ∨ ((¬ p0 < 0) ∧ (¬ p0 ≤ 0) ∧ r = (-3) ∧ w = [(y 0, .inr (9, [.ref (y 1), .int 0, .ref (y 2), .ref (y 10), .ref (y 19), .ref (y 25), .ref (y 26), .ref (y 30), .ref (y 31), .ref (y 32), .null, .null, .int 0, .int 0, .int 0])), (y 1, aB V 900 (fun _ => 0)), (y 10, .inr (6, [.ref (y 11), .int 0, .int (-1), .ref (y 1), .int 0, .int 0, .int 0, .int 0, .int 0])), (y 11, .inr (1, [.int 0, .int 0, .int 0, .int 0, .int 0, .int 0, .ref (y 12), .ref (y 13), .ref (y 14), .ref (y 15), .ref (y 16), .ref (y 17), .ref (y 18), .int 0, .int 0, .int 0, .int 0, .int 0]))]) ∨ ((¬ p0 < 0) ∧ p0 ≤ 0 ∧ p0 = 0 ∧ r = (-32) ∧ w = [(y 0, .inr (9, [.ref (y 1), .int 0, .ref (y 2), .ref (y 10), .ref (y 19), .ref (y 25), .ref (y 26), .ref (y 30), .ref (y 31), .ref (y 32), .null, .null, .int 0, .int 0, .int 0])), (y 1, aB V 900 (fun _ => 0)), (y 10, .inr (6, [.ref (y 11), .int 2, .int 0, .ref (y 1), .int 0, .int 4, .int 0, .int 0, .int 0])), (y 11, .inr (1, [.int 1, .int 0, .int 0, .int 0, .int 0, .int 0, .ref (y 12), .ref (y 13), .ref (y 14), .ref (y 15), .ref (y 16), .ref (y 17), .ref (y 18), .int 0, .int 0, .int 0, .int 0, .int 0]))]))) := by
  refine Ct.of (by decide) (Nat.le_of_ble_eq_true rfl) (fun p e s m below meth c A ls hx hb hr hml hown hlk hnm hg hP hK hD hE hA hS hl => ?_)
  have hl : lv_has ls 3 [(0, .ref (y 0)), (1, .int p0)] := hl
  refine lv_iload_n hx hb dX9_coast_0 rfl (lv_at hl 1 rfl) ?_
  refine lv_if_lt (tgt := 12) hx hb dX9_coast_1 (by decide) (fun c_1 => ?_) (fun c_1 => ?_)
  · refine lv_bipush (v := (-3)) hx hb dX9_coast_12 (by decide) ?_
    exact fiI hx hb hr hlk hK hP hD hS dX9_coast_14 (Nat.le_of_ble_eq_true rfl) (Nat.le_of_ble_eq_true rfl) (Or.inl ⟨c_1, rfl, rfl⟩)
  · refine lv_iload_n hx hb dX9_coast_4 rfl (lv_at hl 1 rfl) ?_
    refine lv_aload_n hx hb dX9_coast_5 rfl (lv_at hl 0 rfl) ?_
    refine va_get (ci := 9) (v := .int 0) (C := RX9) (T := TX9) (N := 15) hx hb hg inX9 hown hK hP 0 rfl rfl 1 (by decide) (hg _ q_2_37) (fun _ h9 => h9) rfl dX9_coast_6 ?_
    refine lv_icmp_le (tgt := 15) hx hb dX9_coast_9 (by decide) (fun c_2 => ?_) (fun c_2 => ?_)
    · have c_3 : p0 = 0 := by simp only [tI_lt, tI_le, tI_eq, tL_lt, tL_le, tL_eq, tWx, (by decide : (0 : Int32).toInt = 0)] at c_1 c_2 ⊢; omega
      rcases c_3 with rfl
      · refine lv_aload_n hx hb dX9_coast_15 rfl (lv_at hl 0 rfl) ?_
        refine lv_iconst (v := 0) hx hb dX9_coast_16 (by decide) ?_
        refine va_put (ci := 9) (v := .int 0) (ty := .int) (C := RX9) (T := TX9) (N := 15) hx hb hg inX9 tyX9 tyX9_ok nmX9 hown hK hP hD hS 0 rfl rfl 1 (by decide) (hg _ q_2_37) (fun _ h9 => h9) rfl (by decide +kernel) rfl rfl (Nat.le_of_ble_eq_true rfl) dX9_coast_17 (fun H locs hP hD hS => ?_)
        have hP : va_P V.1 vwCl [(y 0, .inr (9, [.ref (y 1), .int 0, .ref (y 2), .ref (y 10), .ref (y 19), .ref (y 25), .ref (y 26), .ref (y 30), .ref (y 31), .ref (y 32), .null, .null, .int 0, .int 0, .int 0])), (y 1, aB V 900 (fun _ => 0)), (y 10, .inr (6, [.ref (y 11), .int 0, .int (-1), .ref (y 1), .int 0, .int 0, .int 0, .int 0, .int 0])), (y 11, .inr (1, [.int 0, .int 0, .int 0, .int 0, .int 0, .int 0, .ref (y 12), .ref (y 13), .ref (y 14), .ref (y 15), .ref (y 16), .ref (y 17), .ref (y 18), .int 0, .int 0, .int 0, .int 0, .int 0]))] H := hP
        have hD : va_D A [(y 0, .inr (9, [.ref (y 1), .int 0, .ref (y 2), .ref (y 10), .ref (y 19), .ref (y 25), .ref (y 26), .ref (y 30), .ref (y 31), .ref (y 32), .null, .null, .int 0, .int 0, .int 0])), (y 1, aB V 900 (fun _ => 0)), (y 10, .inr (6, [.ref (y 11), .int 0, .int (-1), .ref (y 1), .int 0, .int 0, .int 0, .int 0, .int 0])), (y 11, .inr (1, [.int 0, .int 0, .int 0, .int 0, .int 0, .int 0, .ref (y 12), .ref (y 13), .ref (y 14), .ref (y 15), .ref (y 16), .ref (y 17), .ref (y 18), .int 0, .int 0, .int 0, .int 0, .int 0]))] := hD
        refine lv_aload_n hx hb dX9_coast_20 rfl (lv_at hl 0 rfl) ?_
        refine va_get (ci := 9) (v := .ref (y 10)) (C := RX9) (T := TX9) (N := 15) hx hb hg inX9 hown hK hP 0 rfl rfl 3 (by decide) (hg _ q_2_39) (fun _ h9 => h9) rfl dX9_coast_21 ?_
        refine lv_iload_n hx hb dX9_coast_24 rfl (lv_at hl 1 rfl) ?_
        refine jnV (wr := [(y 0, .inr (9, [.ref (y 1), .int 0, .ref (y 2), .ref (y 10), .ref (y 19), .ref (y 25), .ref (y 26), .ref (y 30), .ref (y 31), .ref (y 32), .null, .null, .int 0, .int 0, .int 0]))]) (rnV (rest := []) ⟨hx, hb, hml, hown, hg⟩ (c_X6_read_0 l V y) mt_X6_read q_2_94 ⟨Nat.le_of_ble_eq_true rfl, Nat.le_of_ble_eq_true rfl⟩ hK hP hD hS hA hE [1, 2, 3] rfl rfl 2 rfl rfl rfl rfl hl.1 rfl (Nat.le_of_ble_eq_true rfl) dX9_coast_25 ⟨Nat.le_of_ble_eq_true rfl, Nat.le_of_ble_eq_true rfl⟩) hP hD hS hA [1, 2, 3] [0] rfl rfl rfl (by decide) (fun  w H locs hw hP hD hS => ?_)
        subst hw
        have hP : va_P V.1 vwCl [(y 0, .inr (9, [.ref (y 1), .int 0, .ref (y 2), .ref (y 10), .ref (y 19), .ref (y 25), .ref (y 26), .ref (y 30), .ref (y 31), .ref (y 32), .null, .null, .int 0, .int 0, .int 0])), (y 1, aB V 900 (fun _ => 0)), (y 10, .inr (6, [.ref (y 11), .int 2, .int 0, .ref (y 1), .int 0, .int 4, .int 0, .int 0, .int 0])), (y 11, .inr (1, [.int 1, .int 0, .int 0, .int 0, .int 0, .int 0, .ref (y 12), .ref (y 13), .ref (y 14), .ref (y 15), .ref (y 16), .ref (y 17), .ref (y 18), .int 0, .int 0, .int 0, .int 0, .int 0]))] H := hP
        have hD : va_D A [(y 0, .inr (9, [.ref (y 1), .int 0, .ref (y 2), .ref (y 10), .ref (y 19), .ref (y 25), .ref (y 26), .ref (y 30), .ref (y 31), .ref (y 32), .null, .null, .int 0, .int 0, .int 0])), (y 1, aB V 900 (fun _ => 0)), (y 10, .inr (6, [.ref (y 11), .int 2, .int 0, .ref (y 1), .int 0, .int 4, .int 0, .int 0, .int 0])), (y 11, .inr (1, [.int 1, .int 0, .int 0, .int 0, .int 0, .int 0, .ref (y 12), .ref (y 13), .ref (y 14), .ref (y 15), .ref (y 16), .ref (y 17), .ref (y 18), .int 0, .int 0, .int 0, .int 0, .int 0]))] := hD
        refine lv_aload_n hx hb dX9_coast_28 rfl (lv_at hl 0 rfl) ?_
        refine va_get (ci := 9) (v := .ref (y 10)) (C := RX9) (T := TX9) (N := 15) hx hb hg inX9 hown hK hP 0 rfl rfl 3 (by decide) (hg _ q_2_39) (fun _ h9 => h9) rfl dX9_coast_29 ?_
        refine va_get (ci := 6) (v := .int 2) (C := RX6) (T := TX6) (N := 9) hx hb hg inX6 hown hK hP 2 rfl rfl 1 (by decide) (hg _ q_1_137) (fun _ h9 => h9) rfl dX9_coast_32 ?_
        refine lv_if_eq (tgt := 49) hx hb dX9_coast_35 (by decide) (fun c_4 => absurd c_4 (by decide)) (fun _ => ?_)
        refine lv_bipush (v := (-30)) hx hb dX9_coast_38 (by decide) ?_
        refine lv_aload_n hx hb dX9_coast_40 rfl (lv_at hl 0 rfl) ?_
        refine va_get (ci := 9) (v := .ref (y 10)) (C := RX9) (T := TX9) (N := 15) hx hb hg inX9 hown hK hP 0 rfl rfl 3 (by decide) (hg _ q_2_39) (fun _ h9 => h9) rfl dX9_coast_41 ?_
        refine va_get (ci := 6) (v := .int 2) (C := RX6) (T := TX6) (N := 9) hx hb hg inX6 hown hK hP 2 rfl rfl 1 (by decide) (hg _ q_1_137) (fun _ h9 => h9) rfl dX9_coast_44 ?_
        refine lv_isub hx hb dX9_coast_47 ?_
        refine tpi (y := (-32)) (by decide +kernel) ?_
        exact fiI hx hb hr hlk hK hP hD hS dX9_coast_48 (Nat.le_of_ble_eq_true rfl) (Nat.le_of_ble_eq_true rfl) (Or.inr (Or.inr (⟨c_1, c_2, rfl, rfl, rfl⟩)))
    · refine lv_bipush (v := (-3)) hx hb dX9_coast_12 (by decide) ?_
      exact fiI hx hb hr hlk hK hP hD hS dX9_coast_14 (Nat.le_of_ble_eq_true rfl) (Nat.le_of_ble_eq_true rfl) (Or.inr (Or.inl ⟨c_1, c_2, rfl, rfl⟩))
theorem dX10_fault_0 : decode cX10_fault 0 = .ok (.aload_n 0, 1) := by decide +kernel
theorem dX10_fault_1 : decode cX10_fault 1 = .ok (.iconst 0, 1) := by decide +kernel
theorem dX10_fault_2 : decode cX10_fault 2 = .ok (.putfield 1, 3) := by decide +kernel
theorem dX10_fault_5 : decode cX10_fault 5 = .ok (.iload_n 1, 1) := by decide +kernel
theorem dX10_fault_6 : decode cX10_fault 6 = .ok (.ifCond .ne 10, 3) := by decide +kernel
theorem dX10_fault_16 : decode cX10_fault 16 = .ok (.iload_n 1, 1) := by decide +kernel
theorem dX10_fault_17 : decode cX10_fault 17 = .ok (.iconst 1, 1) := by decide +kernel
theorem dX10_fault_18 : decode cX10_fault 18 = .ok (.if_icmp .ne 10, 3) := by decide +kernel
theorem dX10_fault_28 : decode cX10_fault 28 = .ok (.iconst (-1), 1) := by decide +kernel
theorem dX10_fault_29 : decode cX10_fault 29 = .ok (.ireturn, 1) := by decide +kernel
theorem dX10_fault_21 : decode cX10_fault 21 = .ok (.aload_n 0, 1) := by decide +kernel
theorem dX10_fault_22 : decode cX10_fault 22 = .ok (.getfield 27, 3) := by decide +kernel
theorem dX10_fault_25 : decode cX10_fault 25 = .ok (.goto 4, 3) := by decide +kernel
theorem dX10_fault_9 : decode cX10_fault 9 = .ok (.aload_n 0, 1) := by decide +kernel
theorem dX10_fault_10 : decode cX10_fault 10 = .ok (.getfield 225, 3) := by decide +kernel
theorem dX10_fault_13 : decode cX10_fault 13 = .ok (.goto 16, 3) := by decide +kernel
set_option maxHeartbeats 4000000 in
set_option maxRecDepth 100000 in
theorem c_X10_fault_0 (l : Launch) (V : GV) (z : Nat → Nat) (p0 : Int32) : Ct l V yX10_fault (.code yX10_fault cX10_fault 2 (some .int)) 1 [.ref (z 0), .int p0] [(z 0, .inr (10, mo z 0 0 0 0 0 0 0 0 0 0 (-1) 0 0 0 0 0))] 0 0 (QI V (fun (r : Int32) (w : va_W) => ((¬ p0 = 0) ∧ (¬ p0 = 1) ∧ r = (-1) ∧ w = [(z 0, .inr (10, mo z 0 0 0 0 0 0 0 0 0 0 (-1) 0 0 0 0 0))]) ∨ ((¬ p0 = 0) ∧ p0 = 1 ∧ r = (-1) ∧ w = [(z 0, .inr (10, mo z 0 0 0 0 0 0 0 0 0 0 (-1) 0 0 0 0 0))]) ∨ (p0 = 0 ∧ r = 0 ∧ w = [(z 0, .inr (10, mo z 0 0 0 0 0 0 0 0 0 0 (-1) 0 0 0 0 0))]))) := by
  refine Ct.of (by decide) (Nat.le_of_ble_eq_true rfl) (fun p e s m below meth c A ls hx hb hr hml hown hlk hnm hg hP hK hD hE hA hS hl => ?_)
  have hl : lv_has ls 2 [(0, .ref (z 0)), (1, .int p0)] := hl
  refine lv_aload_n hx hb dX10_fault_0 rfl (lv_at hl 0 rfl) ?_
  refine lv_iconst (v := 0) hx hb dX10_fault_1 (by decide) ?_
  refine va_put (ci := 10) (v := .int 0) (ty := .int) (C := RX10) (T := TX10) (N := 40) hx hb hg inX10 tyX10 tyX10_ok nmX10 hown hK hP hD hS 0 rfl rfl 0 (by decide) (hg _ q_5_224) (fun _ h9 => h9) rfl (by decide +kernel) rfl rfl (Nat.le_of_ble_eq_true rfl) dX10_fault_2 (fun H locs hP hD hS => ?_)
  have hP : va_P V.1 vwCl [(z 0, .inr (10, mo z 0 0 0 0 0 0 0 0 0 0 (-1) 0 0 0 0 0))] H := hP
  have hD : va_D A [(z 0, .inr (10, mo z 0 0 0 0 0 0 0 0 0 0 (-1) 0 0 0 0 0))] := hD
  refine lv_iload_n hx hb dX10_fault_5 rfl (lv_at hl 1 rfl) ?_
  refine lv_if_ne (tgt := 16) hx hb dX10_fault_6 (by decide) (fun c_1 => ?_) (fun c_1 => ?_)
  · refine lv_iload_n hx hb dX10_fault_16 rfl (lv_at hl 1 rfl) ?_
    refine lv_iconst (v := 1) hx hb dX10_fault_17 (by decide) ?_
    refine lv_icmp_ne (tgt := 28) hx hb dX10_fault_18 (by decide) (fun c_2 => ?_) (fun c_2 => ?_)
    · refine lv_iconst (v := (-1)) hx hb dX10_fault_28 (by decide) ?_
      exact fiI hx hb hr hlk hK hP hD hS dX10_fault_29 (Nat.le_of_ble_eq_true rfl) (Nat.le_of_ble_eq_true rfl) (Or.inl ⟨c_1, c_2, rfl, rfl⟩)
    · refine lv_aload_n hx hb dX10_fault_21 rfl (lv_at hl 0 rfl) ?_
      refine va_get (ci := 10) (v := .int (-1)) (C := RX10) (T := TX10) (N := 40) hx hb hg inX10 hown hK hP 0 rfl rfl 14 (by decide) (hg _ q_5_238) (fun _ h9 => h9) rfl dX10_fault_22 ?_
      refine lv_goto (tgt := 29) hx hb dX10_fault_25 (by decide) ?_
      exact fiI hx hb hr hlk hK hP hD hS dX10_fault_29 (Nat.le_of_ble_eq_true rfl) (Nat.le_of_ble_eq_true rfl) (Or.inr (Or.inl ⟨c_1, c_2, rfl, rfl⟩))
  · refine lv_aload_n hx hb dX10_fault_9 rfl (lv_at hl 0 rfl) ?_
    refine va_get (ci := 10) (v := .int 0) (C := RX10) (T := TX10) (N := 40) hx hb hg inX10 hown hK hP 0 rfl rfl 13 (by decide) (hg _ q_5_237) (fun _ h9 => h9) rfl dX10_fault_10 ?_
    refine lv_goto (tgt := 29) hx hb dX10_fault_13 (by decide) ?_
    exact fiI hx hb hr hlk hK hP hD hS dX10_fault_29 (Nat.le_of_ble_eq_true rfl) (Nat.le_of_ble_eq_true rfl) (Or.inr (Or.inr (⟨c_1, rfl, rfl⟩)))
theorem dX9_fault_0 : decode cX9_fault 0 = .ok (.iload_n 1, 1) := by decide +kernel
theorem dX9_fault_1 : decode cX9_fault 1 = .ok (.ifCond .ne 13, 3) := by decide +kernel
theorem dX9_fault_14 : decode cX9_fault 14 = .ok (.iload_n 1, 1) := by decide +kernel
theorem dX9_fault_15 : decode cX9_fault 15 = .ok (.iconst 1, 1) := by decide +kernel
theorem dX9_fault_16 : decode cX9_fault 16 = .ok (.if_icmp .ne 13, 3) := by decide +kernel
theorem dX9_fault_29 : decode cX9_fault 29 = .ok (.iconst (-1), 1) := by decide +kernel
theorem dX9_fault_30 : decode cX9_fault 30 = .ok (.ireturn, 1) := by decide +kernel
theorem dX9_fault_19 : decode cX9_fault 19 = .ok (.aload_n 0, 1) := by decide +kernel
theorem dX9_fault_20 : decode cX9_fault 20 = .ok (.getfield 25, 3) := by decide +kernel
theorem q_1_139 : Cond.fieldLink "BeaconDelay" 125 "BeaconDelay$Reader" "faultPlace" "I" ∈ gw := gw_1 (i := 139) (by decide +kernel) rfl
theorem dX9_fault_23 : decode cX9_fault 23 = .ok (.getfield 125, 3) := by decide +kernel
theorem dX9_fault_26 : decode cX9_fault 26 = .ok (.goto 4, 3) := by decide +kernel
theorem dX9_fault_4 : decode cX9_fault 4 = .ok (.aload_n 0, 1) := by decide +kernel
theorem dX9_fault_5 : decode cX9_fault 5 = .ok (.getfield 25, 3) := by decide +kernel
theorem dX9_fault_8 : decode cX9_fault 8 = .ok (.getfield 81, 3) := by decide +kernel
theorem dX9_fault_11 : decode cX9_fault 11 = .ok (.goto 19, 3) := by decide +kernel
set_option maxHeartbeats 4000000 in
set_option maxRecDepth 100000 in
theorem c_X9_fault_0 (l : Launch) (V : GV) (y : Nat → Nat) (p0 : Int32) : Ct l V yX9_fault (.code yX9_fault cX9_fault 2 (some .int)) 1 [.ref (y 0), .int p0] [(y 0, .inr (9, [.ref (y 1), .int 0, .ref (y 2), .ref (y 10), .ref (y 19), .ref (y 25), .ref (y 26), .ref (y 30), .ref (y 31), .ref (y 32), .null, .null, .int 0, .int 0, .int 0])), (y 10, .inr (6, [.ref (y 11), .int 0, .int (-1), .ref (y 1), .int 0, .int 0, .int 0, .int 0, .int 0]))] 0 0 (QI V (fun (r : Int32) (w : va_W) => ((¬ p0 = 0) ∧ (¬ p0 = 1) ∧ r = (-1) ∧ w = [(y 0, .inr (9, [.ref (y 1), .int 0, .ref (y 2), .ref (y 10), .ref (y 19), .ref (y 25), .ref (y 26), .ref (y 30), .ref (y 31), .ref (y 32), .null, .null, .int 0, .int 0, .int 0])), (y 10, .inr (6, [.ref (y 11), .int 0, .int (-1), .ref (y 1), .int 0, .int 0, .int 0, .int 0, .int 0]))]) ∨ ((¬ p0 = 0) ∧ p0 = 1 ∧ r = (-1) ∧ w = [(y 0, .inr (9, [.ref (y 1), .int 0, .ref (y 2), .ref (y 10), .ref (y 19), .ref (y 25), .ref (y 26), .ref (y 30), .ref (y 31), .ref (y 32), .null, .null, .int 0, .int 0, .int 0])), (y 10, .inr (6, [.ref (y 11), .int 0, .int (-1), .ref (y 1), .int 0, .int 0, .int 0, .int 0, .int 0]))]) ∨ (p0 = 0 ∧ r = 0 ∧ w = [(y 0, .inr (9, [.ref (y 1), .int 0, .ref (y 2), .ref (y 10), .ref (y 19), .ref (y 25), .ref (y 26), .ref (y 30), .ref (y 31), .ref (y 32), .null, .null, .int 0, .int 0, .int 0])), (y 10, .inr (6, [.ref (y 11), .int 0, .int (-1), .ref (y 1), .int 0, .int 0, .int 0, .int 0, .int 0]))]))) := by
  refine Ct.of (by decide) (Nat.le_of_ble_eq_true rfl) (fun p e s m below meth c A ls hx hb hr hml hown hlk hnm hg hP hK hD hE hA hS hl => ?_)
  have hl : lv_has ls 2 [(0, .ref (y 0)), (1, .int p0)] := hl
  refine lv_iload_n hx hb dX9_fault_0 rfl (lv_at hl 1 rfl) ?_
  refine lv_if_ne (tgt := 14) hx hb dX9_fault_1 (by decide) (fun c_1 => ?_) (fun c_1 => ?_)
  · refine lv_iload_n hx hb dX9_fault_14 rfl (lv_at hl 1 rfl) ?_
    refine lv_iconst (v := 1) hx hb dX9_fault_15 (by decide) ?_
    refine lv_icmp_ne (tgt := 29) hx hb dX9_fault_16 (by decide) (fun c_2 => ?_) (fun c_2 => ?_)
    · refine lv_iconst (v := (-1)) hx hb dX9_fault_29 (by decide) ?_
      exact fiI hx hb hr hlk hK hP hD hS dX9_fault_30 (Nat.le_of_ble_eq_true rfl) (Nat.le_of_ble_eq_true rfl) (Or.inl ⟨c_1, c_2, rfl, rfl⟩)
    · refine lv_aload_n hx hb dX9_fault_19 rfl (lv_at hl 0 rfl) ?_
      refine va_get (ci := 9) (v := .ref (y 10)) (C := RX9) (T := TX9) (N := 15) hx hb hg inX9 hown hK hP 0 rfl rfl 3 (by decide) (hg _ q_2_39) (fun _ h9 => h9) rfl dX9_fault_20 ?_
      refine va_get (ci := 6) (v := .int (-1)) (C := RX6) (T := TX6) (N := 9) hx hb hg inX6 hown hK hP 1 rfl rfl 2 (by decide) (hg _ q_1_139) (fun _ h9 => h9) rfl dX9_fault_23 ?_
      refine lv_goto (tgt := 30) hx hb dX9_fault_26 (by decide) ?_
      exact fiI hx hb hr hlk hK hP hD hS dX9_fault_30 (Nat.le_of_ble_eq_true rfl) (Nat.le_of_ble_eq_true rfl) (Or.inr (Or.inl ⟨c_1, c_2, rfl, rfl⟩))
  · refine lv_aload_n hx hb dX9_fault_4 rfl (lv_at hl 0 rfl) ?_
    refine va_get (ci := 9) (v := .ref (y 10)) (C := RX9) (T := TX9) (N := 15) hx hb hg inX9 hown hK hP 0 rfl rfl 3 (by decide) (hg _ q_2_39) (fun _ h9 => h9) rfl dX9_fault_5 ?_
    refine va_get (ci := 6) (v := .int 0) (C := RX6) (T := TX6) (N := 9) hx hb hg inX6 hown hK hP 1 rfl rfl 1 (by decide) (hg _ q_1_137) (fun _ h9 => h9) rfl dX9_fault_8 ?_
    refine lv_goto (tgt := 30) hx hb dX9_fault_11 (by decide) ?_
    exact fiI hx hb hr hlk hK hP hD hS dX9_fault_30 (Nat.le_of_ble_eq_true rfl) (Nat.le_of_ble_eq_true rfl) (Or.inr (Or.inr (⟨c_1, rfl, rfl⟩)))
theorem dX10_isHill_0 : decode cX10_isHill 0 = .ok (.lload_n 1, 1) := by decide +kernel
theorem dX10_isHill_1 : decode cX10_isHill 1 = .ok (.lconst 0, 1) := by decide +kernel
theorem dX10_isHill_2 : decode cX10_isHill 2 = .ok (.aload_n 0, 1) := by decide +kernel
theorem dX10_isHill_3 : decode cX10_isHill 3 = .ok (.getfield 13, 3) := by decide +kernel
theorem dX10_isHill_6 : decode cX10_isHill 6 = .ok (.iconst 1, 1) := by decide +kernel
theorem dX10_isHill_7 : decode cX10_isHill 7 = .ok (.iaload, 1) := by decide +kernel
theorem dX10_isHill_8 : decode cX10_isHill 8 = .ok (.iconst 1, 1) := by decide +kernel
theorem dX10_isHill_9 : decode cX10_isHill 9 = .ok (.isub, 1) := by decide +kernel
theorem dX10_isHill_10 : decode cX10_isHill 10 = .ok (.i2l, 1) := by decide +kernel
theorem dX10_isHill_11 : decode cX10_isHill 11 = .ok (.invokestatic 159, 3) := by decide +kernel
theorem dX10_isHill_14 : decode cX10_isHill 14 = .ok (.ireturn, 1) := by decide +kernel
set_option maxHeartbeats 4000000 in
set_option maxRecDepth 100000 in
theorem c_X10_isHill_0 (l : Launch) (V : GV) (z : Nat → Nat) (j0 : Int64) : Ct l V yX10_isHill (.code yX10_isHill cX10_isHill 3 (some .boolean)) 2 [.ref (z 0), .long j0] [(z 0, .inr (10, mo z 0 0 0 0 0 0 0 0 0 0 (-1) 0 0 0 0 0)), (z 1, aI V 3075 (fun _ => 0))] 0 0 (QI V (fun (r : Int32) (w : va_W) => (r = 0 ∧ w = [(z 0, .inr (10, mo z 0 0 0 0 0 0 0 0 0 0 (-1) 0 0 0 0 0)), (z 1, aI V 3075 (fun _ => 0))]))) := by
  refine Ct.of (by decide) (Nat.le_of_ble_eq_true rfl) (fun p e s m below meth c A ls hx hb hr hml hown hlk hnm hg hP hK hD hE hA hS hl => ?_)
  have hl : lv_has ls 3 [(0, .ref (z 0)), (1, .long j0)] := hl
  refine lv_lload_n hx hb dX10_isHill_0 rfl (lv_at hl 1 rfl) ?_
  refine lv_lconst (v := 0) hx hb dX10_isHill_1 (by decide) ?_
  refine lv_aload_n hx hb dX10_isHill_2 rfl (lv_at hl 0 rfl) ?_
  refine va_get (ci := 10) (v := .ref (z 1)) (C := RX10) (T := TX10) (N := 40) hx hb hg inX10 hown hK hP 0 rfl rfl 1 (by decide) (hg _ q_5_225) (fun _ h9 => h9) rfl dX10_isHill_3 ?_
  refine lv_iconst (v := 1) hx hb dX10_isHill_6 (by decide) ?_
  refine va_iald hx hb hK hP 1 0 rfl rfl (vin (by decide +kernel)) dX10_isHill_7 ?_
  refine tpi (y := 0) (rfl) ?_
  refine lv_iconst (v := 1) hx hb dX10_isHill_8 (by decide) ?_
  refine lv_isub hx hb dX10_isHill_9 ?_
  refine tpi (y := (-1)) (by decide +kernel) ?_
  refine lv_i2l (v := (-1)) hx hb dX10_isHill_10 (by decide +kernel) ?_
  refine jnI (wr := [(z 0, .inr (10, mo z 0 0 0 0 0 0 0 0 0 0 (-1) 0 0 0 0 0)), (z 1, aI V 3075 (fun _ => 0))]) (rnS (rest := []) ⟨hx, hb, hml, hown, hg⟩ (c_X10_within_0 l V j0 0 ((-1))) mt_X10_within q_6_114 ⟨Nat.le_of_ble_eq_true rfl, Nat.le_of_ble_eq_true rfl⟩ hK hP hD hS hA hE [] rfl rfl rfl hl.1 rfl (Nat.le_of_ble_eq_true rfl) dX10_isHill_11 ⟨Nat.le_of_ble_eq_true rfl, Nat.le_of_ble_eq_true rfl⟩) hP hD hS hA [] [0, 1] rfl rfl rfl (by decide) (fun r_1 w H locs hw hP hD hS => ?_)
  rcases hw with ⟨c_2, rfl, rfl⟩ | ⟨c_3, c_4, rfl, rfl⟩ | ⟨c_5, c_6, rfl, rfl⟩
  · have hP : va_P V.1 vwCl [(z 0, .inr (10, mo z 0 0 0 0 0 0 0 0 0 0 (-1) 0 0 0 0 0)), (z 1, aI V 3075 (fun _ => 0))] H := hP
    have hD : va_D A [(z 0, .inr (10, mo z 0 0 0 0 0 0 0 0 0 0 (-1) 0 0 0 0 0)), (z 1, aI V 3075 (fun _ => 0))] := hD
    exact fiZ rfl hx hb hr hlk hK hP hD hS dX10_isHill_14 (Nat.le_of_ble_eq_true rfl) (Nat.le_of_ble_eq_true rfl) (⟨rfl, rfl⟩)
  · have hP : va_P V.1 vwCl [(z 0, .inr (10, mo z 0 0 0 0 0 0 0 0 0 0 (-1) 0 0 0 0 0)), (z 1, aI V 3075 (fun _ => 0))] H := hP
    have hD : va_D A [(z 0, .inr (10, mo z 0 0 0 0 0 0 0 0 0 0 (-1) 0 0 0 0 0)), (z 1, aI V 3075 (fun _ => 0))] := hD
    exact fiZ rfl hx hb hr hlk hK hP hD hS dX10_isHill_14 (Nat.le_of_ble_eq_true rfl) (Nat.le_of_ble_eq_true rfl) (⟨rfl, rfl⟩)
  · exact False.elim (by simp only [tI_lt, tI_le, tI_eq, tL_lt, tL_le, tL_eq, tWx, (by decide : ((-1) : Int64).toInt = -1), (by decide : (0 : Int64).toInt = 0)] at c_5 c_6; omega)
theorem dX10_hill_0 : decode cX10_hill 0 = .ok (.aload_n 0, 1) := by decide +kernel
theorem dX10_hill_1 : decode cX10_hill 1 = .ok (.iconst 0, 1) := by decide +kernel
theorem dX10_hill_2 : decode cX10_hill 2 = .ok (.putfield 1, 3) := by decide +kernel
theorem dX10_hill_5 : decode cX10_hill 5 = .ok (.aload_n 0, 1) := by decide +kernel
theorem dX10_hill_6 : decode cX10_hill 6 = .ok (.iload_n 1, 1) := by decide +kernel
theorem dX10_hill_7 : decode cX10_hill 7 = .ok (.i2l, 1) := by decide +kernel
theorem q_6_238 : Cond.code yX10_isHill prog_12_method_36_code 3 (some FieldType.boolean) ∈ gw := gw_6 (i := 238) (rfl) rfl
theorem q_6_237 : Cond.instanceMethod yX10_isHill ∈ gw := gw_6 (i := 237) (by decide +kernel) rfl
theorem q_s_79 : Cond.selects "BeaconDelayModel" yX10_isHill yX10_isHill ∈ gw := gw_s (i := 79) (by decide +kernel) rfl
theorem mt_X10_isHill : MtV yX10_isHill cX10_isHill 3 (some .boolean) 1 := ⟨⟨q_6_238, q_1_9, by decide +kernel, by decide +kernel, by decide +kernel⟩, q_6_237, q_s_79⟩
theorem q_6_235 : Cond.methodLink "BeaconDelayModel" 262 yX10_isHill ∈ gw := gw_6 (i := 235) (by decide +kernel) rfl
theorem dX10_hill_8 : decode cX10_hill 8 = .ok (.invokevirtual 262, 3) := by decide +kernel
theorem dX10_hill_11 : decode cX10_hill 11 = .ok (.ifCond .ne 6, 3) := by decide +kernel
theorem dX10_hill_14 : decode cX10_hill 14 = .ok (.bipush (-2), 2) := by decide +kernel
theorem dX10_hill_16 : decode cX10_hill 16 = .ok (.ireturn, 1) := by decide +kernel
set_option maxHeartbeats 4000000 in
set_option maxRecDepth 100000 in
theorem c_X10_hill_0 (l : Launch) (V : GV) (z : Nat → Nat) (p0 : Int32) (p1 : Int32) : Ct l V yX10_hill (.code yX10_hill cX10_hill 3 (some .int)) 3 [.ref (z 0), .int p0, .int p1] [(z 0, .inr (10, mo z 0 0 0 0 0 0 0 0 0 0 (-1) 0 0 0 0 0)), (z 1, aI V 3075 (fun _ => 0))] 0 0 (QI V (fun (r : Int32) (w : va_W) => (r = (-2) ∧ w = [(z 0, .inr (10, mo z 0 0 0 0 0 0 0 0 0 0 (-1) 0 0 0 0 0)), (z 1, aI V 3075 (fun _ => 0))]))) := by
  refine Ct.of (by decide) (Nat.le_of_ble_eq_true rfl) (fun p e s m below meth c A ls hx hb hr hml hown hlk hnm hg hP hK hD hE hA hS hl => ?_)
  have hl : lv_has ls 3 [(0, .ref (z 0)), (1, .int p0), (2, .int p1)] := hl
  refine lv_aload_n hx hb dX10_hill_0 rfl (lv_at hl 0 rfl) ?_
  refine lv_iconst (v := 0) hx hb dX10_hill_1 (by decide) ?_
  refine va_put (ci := 10) (v := .int 0) (ty := .int) (C := RX10) (T := TX10) (N := 40) hx hb hg inX10 tyX10 tyX10_ok nmX10 hown hK hP hD hS 0 rfl rfl 0 (by decide) (hg _ q_5_224) (fun _ h9 => h9) rfl (by decide +kernel) rfl rfl (Nat.le_of_ble_eq_true rfl) dX10_hill_2 (fun H locs hP hD hS => ?_)
  have hP : va_P V.1 vwCl [(z 0, .inr (10, mo z 0 0 0 0 0 0 0 0 0 0 (-1) 0 0 0 0 0)), (z 1, aI V 3075 (fun _ => 0))] H := hP
  have hD : va_D A [(z 0, .inr (10, mo z 0 0 0 0 0 0 0 0 0 0 (-1) 0 0 0 0 0)), (z 1, aI V 3075 (fun _ => 0))] := hD
  refine lv_aload_n hx hb dX10_hill_5 rfl (lv_at hl 0 rfl) ?_
  refine lv_iload_n hx hb dX10_hill_6 rfl (lv_at hl 1 rfl) ?_
  refine lv_i2l (v := p0.toInt64) hx hb dX10_hill_7 rfl ?_
  refine jnI (wr := []) (rnV (rest := []) ⟨hx, hb, hml, hown, hg⟩ (c_X10_isHill_0 l V z p0.toInt64) mt_X10_isHill q_6_235 ⟨Nat.le_of_ble_eq_true rfl, Nat.le_of_ble_eq_true rfl⟩ hK hP hD hS hA hE [0, 1] rfl rfl 0 rfl rfl rfl rfl hl.1 rfl (Nat.le_of_ble_eq_true rfl) dX10_hill_8 ⟨Nat.le_of_ble_eq_true rfl, Nat.le_of_ble_eq_true rfl⟩) hP hD hS hA [0, 1] [] rfl rfl rfl (by decide) (fun r_1 w H locs hw hP hD hS => ?_)
  obtain ⟨rfl, rfl⟩ := hw
  have hP : va_P V.1 vwCl [(z 0, .inr (10, mo z 0 0 0 0 0 0 0 0 0 0 (-1) 0 0 0 0 0)), (z 1, aI V 3075 (fun _ => 0))] H := hP
  have hD : va_D A [(z 0, .inr (10, mo z 0 0 0 0 0 0 0 0 0 0 (-1) 0 0 0 0 0)), (z 1, aI V 3075 (fun _ => 0))] := hD
  refine lv_if_ne (tgt := 17) hx hb dX10_hill_11 (by decide) (fun c_2 => absurd c_2 (by decide)) (fun _ => ?_)
  refine lv_bipush (v := (-2)) hx hb dX10_hill_14 (by decide) ?_
  exact fiI hx hb hr hlk hK hP hD hS dX10_hill_16 (Nat.le_of_ble_eq_true rfl) (Nat.le_of_ble_eq_true rfl) (⟨rfl, rfl⟩)
theorem dX9_isHill_0 : decode cX9_isHill 0 = .ok (.iload_n 1, 1) := by decide +kernel
theorem dX9_isHill_1 : decode cX9_isHill 1 = .ok (.ifCond .lt 18, 3) := by decide +kernel
theorem dX9_isHill_19 : decode cX9_isHill 19 = .ok (.iconst 0, 1) := by decide +kernel
theorem dX9_isHill_20 : decode cX9_isHill 20 = .ok (.ireturn, 1) := by decide +kernel
theorem dX9_isHill_4 : decode cX9_isHill 4 = .ok (.iload_n 1, 1) := by decide +kernel
theorem dX9_isHill_5 : decode cX9_isHill 5 = .ok (.aload_n 0, 1) := by decide +kernel
theorem dX9_isHill_6 : decode cX9_isHill 6 = .ok (.getfield 16, 3) := by decide +kernel
theorem q_1_41 : Cond.fieldLink "BeaconDelay" 159 "BeaconDelay$Coast" "hills" "I" ∈ gw := gw_1 (i := 41) (by decide +kernel) rfl
theorem dX9_isHill_9 : decode cX9_isHill 9 = .ok (.getfield 159, 3) := by decide +kernel
theorem dX9_isHill_12 : decode cX9_isHill 12 = .ok (.if_icmp .ge 7, 3) := by decide +kernel
set_option maxHeartbeats 4000000 in
set_option maxRecDepth 100000 in
theorem c_X9_isHill_0 (l : Launch) (V : GV) (y : Nat → Nat) (p0 : Int32) : Ct l V yX9_isHill (.code yX9_isHill cX9_isHill 2 (some .boolean)) 1 [.ref (y 0), .int p0] [(y 0, .inr (9, [.ref (y 1), .int 0, .ref (y 2), .ref (y 10), .ref (y 19), .ref (y 25), .ref (y 26), .ref (y 30), .ref (y 31), .ref (y 32), .null, .null, .int 0, .int 0, .int 0])), (y 2, .inr (1, [.int 0, .int 0, .int 0, .int 0, .int 0, .int 0, .ref (y 3), .ref (y 4), .ref (y 5), .ref (y 6), .ref (y 7), .ref (y 8), .ref (y 9), .int 0, .int 0, .int 0, .int 0, .int 0]))] 0 0 (QI V (fun (r : Int32) (w : va_W) => (r = 0 ∧ w = [(y 0, .inr (9, [.ref (y 1), .int 0, .ref (y 2), .ref (y 10), .ref (y 19), .ref (y 25), .ref (y 26), .ref (y 30), .ref (y 31), .ref (y 32), .null, .null, .int 0, .int 0, .int 0])), (y 2, .inr (1, [.int 0, .int 0, .int 0, .int 0, .int 0, .int 0, .ref (y 3), .ref (y 4), .ref (y 5), .ref (y 6), .ref (y 7), .ref (y 8), .ref (y 9), .int 0, .int 0, .int 0, .int 0, .int 0]))]))) := by
  refine Ct.of (by decide) (Nat.le_of_ble_eq_true rfl) (fun p e s m below meth c A ls hx hb hr hml hown hlk hnm hg hP hK hD hE hA hS hl => ?_)
  have hl : lv_has ls 2 [(0, .ref (y 0)), (1, .int p0)] := hl
  refine lv_iload_n hx hb dX9_isHill_0 rfl (lv_at hl 1 rfl) ?_
  refine lv_if_lt (tgt := 19) hx hb dX9_isHill_1 (by decide) (fun c_1 => ?_) (fun c_1 => ?_)
  · refine lv_iconst (v := 0) hx hb dX9_isHill_19 (by decide) ?_
    exact fiZ rfl hx hb hr hlk hK hP hD hS dX9_isHill_20 (Nat.le_of_ble_eq_true rfl) (Nat.le_of_ble_eq_true rfl) (⟨rfl, rfl⟩)
  · refine lv_iload_n hx hb dX9_isHill_4 rfl (lv_at hl 1 rfl) ?_
    refine lv_aload_n hx hb dX9_isHill_5 rfl (lv_at hl 0 rfl) ?_
    refine va_get (ci := 9) (v := .ref (y 2)) (C := RX9) (T := TX9) (N := 15) hx hb hg inX9 hown hK hP 0 rfl rfl 2 (by decide) (hg _ q_2_38) (fun _ h9 => h9) rfl dX9_isHill_6 ?_
    refine va_get (ci := 1) (v := .int 0) (C := RX1) (T := TX1) (N := 18) hx hb hg inX1 hown hK hP 1 rfl rfl 1 (by decide) (hg _ q_1_41) (fun _ h9 => h9) rfl dX9_isHill_9 ?_
    refine lv_icmp_ge (tgt := 19) hx hb dX9_isHill_12 (by decide) (fun _ => ?_) (fun c_2 => False.elim (by have c_3 : ¬ 0 ≤ p0 := c_2; exact (by simp only [tI_lt, tI_le, tI_eq, tL_lt, tL_le, tL_eq, tWx, (by decide : (0 : Int32).toInt = 0)] at c_1 c_3; omega)))
    refine lv_iconst (v := 0) hx hb dX9_isHill_19 (by decide) ?_
    exact fiZ rfl hx hb hr hlk hK hP hD hS dX9_isHill_20 (Nat.le_of_ble_eq_true rfl) (Nat.le_of_ble_eq_true rfl) (⟨rfl, rfl⟩)
theorem dX9_hill_0 : decode cX9_hill 0 = .ok (.aload_n 0, 1) := by decide +kernel
theorem dX9_hill_1 : decode cX9_hill 1 = .ok (.iload_n 1, 1) := by decide +kernel
theorem q_3_125 : Cond.code yX9_isHill prog_1_method_11_code 2 (some FieldType.boolean) ∈ gw := gw_3 (i := 125) (rfl) rfl
theorem q_3_124 : Cond.instanceMethod yX9_isHill ∈ gw := gw_3 (i := 124) (by decide +kernel) rfl
theorem q_s_23 : Cond.selects "BeaconDelay" yX9_isHill yX9_isHill ∈ gw := gw_s (i := 23) (by decide +kernel) rfl
theorem mt_X9_isHill : MtV yX9_isHill cX9_isHill 2 (some .boolean) 1 := ⟨⟨q_3_125, q_1_1, by decide +kernel, by decide +kernel, by decide +kernel⟩, q_3_124, q_s_23⟩
theorem q_3_122 : Cond.methodLink "BeaconDelay" 128 yX9_isHill ∈ gw := gw_3 (i := 122) (by decide +kernel) rfl
theorem dX9_hill_2 : decode cX9_hill 2 = .ok (.invokevirtual 128, 3) := by decide +kernel
theorem dX9_hill_5 : decode cX9_hill 5 = .ok (.ifCond .ne 6, 3) := by decide +kernel
theorem dX9_hill_8 : decode cX9_hill 8 = .ok (.bipush (-2), 2) := by decide +kernel
theorem dX9_hill_10 : decode cX9_hill 10 = .ok (.ireturn, 1) := by decide +kernel
set_option maxHeartbeats 4000000 in
set_option maxRecDepth 100000 in
theorem c_X9_hill_0 (l : Launch) (V : GV) (y : Nat → Nat) (p0 : Int32) (p1 : Int32) : Ct l V yX9_hill (.code yX9_hill cX9_hill 3 (some .int)) 2 [.ref (y 0), .int p0, .int p1] [(y 0, .inr (9, [.ref (y 1), .int 0, .ref (y 2), .ref (y 10), .ref (y 19), .ref (y 25), .ref (y 26), .ref (y 30), .ref (y 31), .ref (y 32), .null, .null, .int 0, .int 0, .int 0])), (y 2, .inr (1, [.int 0, .int 0, .int 0, .int 0, .int 0, .int 0, .ref (y 3), .ref (y 4), .ref (y 5), .ref (y 6), .ref (y 7), .ref (y 8), .ref (y 9), .int 0, .int 0, .int 0, .int 0, .int 0]))] 0 0 (QI V (fun (r : Int32) (w : va_W) => (r = (-2) ∧ w = [(y 0, .inr (9, [.ref (y 1), .int 0, .ref (y 2), .ref (y 10), .ref (y 19), .ref (y 25), .ref (y 26), .ref (y 30), .ref (y 31), .ref (y 32), .null, .null, .int 0, .int 0, .int 0])), (y 2, .inr (1, [.int 0, .int 0, .int 0, .int 0, .int 0, .int 0, .ref (y 3), .ref (y 4), .ref (y 5), .ref (y 6), .ref (y 7), .ref (y 8), .ref (y 9), .int 0, .int 0, .int 0, .int 0, .int 0]))]))) := by
  refine Ct.of (by decide) (Nat.le_of_ble_eq_true rfl) (fun p e s m below meth c A ls hx hb hr hml hown hlk hnm hg hP hK hD hE hA hS hl => ?_)
  have hl : lv_has ls 3 [(0, .ref (y 0)), (1, .int p0), (2, .int p1)] := hl
  refine lv_aload_n hx hb dX9_hill_0 rfl (lv_at hl 0 rfl) ?_
  refine lv_iload_n hx hb dX9_hill_1 rfl (lv_at hl 1 rfl) ?_
  refine jnI (wr := []) (rnV (rest := []) ⟨hx, hb, hml, hown, hg⟩ (c_X9_isHill_0 l V y p0) mt_X9_isHill q_3_122 ⟨Nat.le_of_ble_eq_true rfl, Nat.le_of_ble_eq_true rfl⟩ hK hP hD hS hA hE [0, 1] rfl rfl 0 rfl rfl rfl rfl hl.1 rfl (Nat.le_of_ble_eq_true rfl) dX9_hill_2 ⟨Nat.le_of_ble_eq_true rfl, Nat.le_of_ble_eq_true rfl⟩) hP hD hS hA [0, 1] [] rfl rfl rfl (by decide) (fun r_1 w H locs hw hP hD hS => ?_)
  obtain ⟨rfl, rfl⟩ := hw
  have hP : va_P V.1 vwCl [(y 0, .inr (9, [.ref (y 1), .int 0, .ref (y 2), .ref (y 10), .ref (y 19), .ref (y 25), .ref (y 26), .ref (y 30), .ref (y 31), .ref (y 32), .null, .null, .int 0, .int 0, .int 0])), (y 2, .inr (1, [.int 0, .int 0, .int 0, .int 0, .int 0, .int 0, .ref (y 3), .ref (y 4), .ref (y 5), .ref (y 6), .ref (y 7), .ref (y 8), .ref (y 9), .int 0, .int 0, .int 0, .int 0, .int 0]))] H := hP
  have hD : va_D A [(y 0, .inr (9, [.ref (y 1), .int 0, .ref (y 2), .ref (y 10), .ref (y 19), .ref (y 25), .ref (y 26), .ref (y 30), .ref (y 31), .ref (y 32), .null, .null, .int 0, .int 0, .int 0])), (y 2, .inr (1, [.int 0, .int 0, .int 0, .int 0, .int 0, .int 0, .ref (y 3), .ref (y 4), .ref (y 5), .ref (y 6), .ref (y 7), .ref (y 8), .ref (y 9), .int 0, .int 0, .int 0, .int 0, .int 0]))] := hD
  refine lv_if_ne (tgt := 11) hx hb dX9_hill_5 (by decide) (fun c_2 => absurd c_2 (by decide)) (fun _ => ?_)
  refine lv_bipush (v := (-2)) hx hb dX9_hill_8 (by decide) ?_
  exact fiI hx hb hr hlk hK hP hD hS dX9_hill_10 (Nat.le_of_ble_eq_true rfl) (Nat.le_of_ble_eq_true rfl) (⟨rfl, rfl⟩)
theorem dX10_village_0 : decode cX10_village 0 = .ok (.aload_n 0, 1) := by decide +kernel
theorem dX10_village_1 : decode cX10_village 1 = .ok (.iconst 0, 1) := by decide +kernel
theorem dX10_village_2 : decode cX10_village 2 = .ok (.putfield 1, 3) := by decide +kernel
theorem dX10_village_5 : decode cX10_village 5 = .ok (.iload_n 1, 1) := by decide +kernel
theorem dX10_village_6 : decode cX10_village 6 = .ok (.i2l, 1) := by decide +kernel
theorem dX10_village_7 : decode cX10_village 7 = .ok (.lconst 0, 1) := by decide +kernel
theorem dX10_village_8 : decode cX10_village 8 = .ok (.aload_n 0, 1) := by decide +kernel
theorem dX10_village_9 : decode cX10_village 9 = .ok (.getfield 13, 3) := by decide +kernel
theorem dX10_village_12 : decode cX10_village 12 = .ok (.iconst 2, 1) := by decide +kernel
theorem dX10_village_13 : decode cX10_village 13 = .ok (.iaload, 1) := by decide +kernel
theorem dX10_village_14 : decode cX10_village 14 = .ok (.iconst 1, 1) := by decide +kernel
theorem dX10_village_15 : decode cX10_village 15 = .ok (.isub, 1) := by decide +kernel
theorem dX10_village_16 : decode cX10_village 16 = .ok (.i2l, 1) := by decide +kernel
theorem dX10_village_17 : decode cX10_village 17 = .ok (.invokestatic 159, 3) := by decide +kernel
theorem dX10_village_20 : decode cX10_village 20 = .ok (.ifCond .eq 15, 3) := by decide +kernel
theorem dX10_village_35 : decode cX10_village 35 = .ok (.bipush (-2), 2) := by decide +kernel
theorem dX10_village_37 : decode cX10_village 37 = .ok (.ireturn, 1) := by decide +kernel
set_option maxHeartbeats 4000000 in
set_option maxRecDepth 100000 in
theorem c_X10_village_0 (l : Launch) (V : GV) (z : Nat → Nat) (p0 : Int32) : Ct l V yX10_village (.code yX10_village cX10_village 2 (some .int)) 2 [.ref (z 0), .int p0] [(z 0, .inr (10, mo z 0 0 0 0 0 0 0 0 0 0 (-1) 0 0 0 0 0)), (z 1, aI V 3075 (fun _ => 0))] 0 0 (QI V (fun (r : Int32) (w : va_W) => (r = (-2) ∧ w = [(z 0, .inr (10, mo z 0 0 0 0 0 0 0 0 0 0 (-1) 0 0 0 0 0)), (z 1, aI V 3075 (fun _ => 0))]))) := by
  refine Ct.of (by decide) (Nat.le_of_ble_eq_true rfl) (fun p e s m below meth c A ls hx hb hr hml hown hlk hnm hg hP hK hD hE hA hS hl => ?_)
  have hl : lv_has ls 2 [(0, .ref (z 0)), (1, .int p0)] := hl
  refine lv_aload_n hx hb dX10_village_0 rfl (lv_at hl 0 rfl) ?_
  refine lv_iconst (v := 0) hx hb dX10_village_1 (by decide) ?_
  refine va_put (ci := 10) (v := .int 0) (ty := .int) (C := RX10) (T := TX10) (N := 40) hx hb hg inX10 tyX10 tyX10_ok nmX10 hown hK hP hD hS 0 rfl rfl 0 (by decide) (hg _ q_5_224) (fun _ h9 => h9) rfl (by decide +kernel) rfl rfl (Nat.le_of_ble_eq_true rfl) dX10_village_2 (fun H locs hP hD hS => ?_)
  have hP : va_P V.1 vwCl [(z 0, .inr (10, mo z 0 0 0 0 0 0 0 0 0 0 (-1) 0 0 0 0 0)), (z 1, aI V 3075 (fun _ => 0))] H := hP
  have hD : va_D A [(z 0, .inr (10, mo z 0 0 0 0 0 0 0 0 0 0 (-1) 0 0 0 0 0)), (z 1, aI V 3075 (fun _ => 0))] := hD
  refine lv_iload_n hx hb dX10_village_5 rfl (lv_at hl 1 rfl) ?_
  refine lv_i2l (v := p0.toInt64) hx hb dX10_village_6 rfl ?_
  refine lv_lconst (v := 0) hx hb dX10_village_7 (by decide) ?_
  refine lv_aload_n hx hb dX10_village_8 rfl (lv_at hl 0 rfl) ?_
  refine va_get (ci := 10) (v := .ref (z 1)) (C := RX10) (T := TX10) (N := 40) hx hb hg inX10 hown hK hP 0 rfl rfl 1 (by decide) (hg _ q_5_225) (fun _ h9 => h9) rfl dX10_village_9 ?_
  refine lv_iconst (v := 2) hx hb dX10_village_12 (by decide) ?_
  refine va_iald hx hb hK hP 1 0 rfl rfl (vin (by decide +kernel)) dX10_village_13 ?_
  refine tpi (y := 0) (rfl) ?_
  refine lv_iconst (v := 1) hx hb dX10_village_14 (by decide) ?_
  refine lv_isub hx hb dX10_village_15 ?_
  refine tpi (y := (-1)) (by decide +kernel) ?_
  refine lv_i2l (v := (-1)) hx hb dX10_village_16 (by decide +kernel) ?_
  refine jnI (wr := [(z 0, .inr (10, mo z 0 0 0 0 0 0 0 0 0 0 (-1) 0 0 0 0 0)), (z 1, aI V 3075 (fun _ => 0))]) (rnS (rest := []) ⟨hx, hb, hml, hown, hg⟩ (c_X10_within_0 l V p0.toInt64 0 ((-1))) mt_X10_within q_6_114 ⟨Nat.le_of_ble_eq_true rfl, Nat.le_of_ble_eq_true rfl⟩ hK hP hD hS hA hE [] rfl rfl rfl hl.1 rfl (Nat.le_of_ble_eq_true rfl) dX10_village_17 ⟨Nat.le_of_ble_eq_true rfl, Nat.le_of_ble_eq_true rfl⟩) hP hD hS hA [] [0, 1] rfl rfl rfl (by decide) (fun r_1 w H locs hw hP hD hS => ?_)
  rcases hw with ⟨c_2, rfl, rfl⟩ | ⟨c_3, c_4, rfl, rfl⟩ | ⟨c_5, c_6, rfl, rfl⟩
  · have hP : va_P V.1 vwCl [(z 0, .inr (10, mo z 0 0 0 0 0 0 0 0 0 0 (-1) 0 0 0 0 0)), (z 1, aI V 3075 (fun _ => 0))] H := hP
    have hD : va_D A [(z 0, .inr (10, mo z 0 0 0 0 0 0 0 0 0 0 (-1) 0 0 0 0 0)), (z 1, aI V 3075 (fun _ => 0))] := hD
    refine lv_if_eq (tgt := 35) hx hb dX10_village_20 (by decide) (fun _ => ?_) (fun c_7 => absurd c_7 (by decide))
    refine lv_bipush (v := (-2)) hx hb dX10_village_35 (by decide) ?_
    exact fiI hx hb hr hlk hK hP hD hS dX10_village_37 (Nat.le_of_ble_eq_true rfl) (Nat.le_of_ble_eq_true rfl) (⟨rfl, rfl⟩)
  · have hP : va_P V.1 vwCl [(z 0, .inr (10, mo z 0 0 0 0 0 0 0 0 0 0 (-1) 0 0 0 0 0)), (z 1, aI V 3075 (fun _ => 0))] H := hP
    have hD : va_D A [(z 0, .inr (10, mo z 0 0 0 0 0 0 0 0 0 0 (-1) 0 0 0 0 0)), (z 1, aI V 3075 (fun _ => 0))] := hD
    refine lv_if_eq (tgt := 35) hx hb dX10_village_20 (by decide) (fun _ => ?_) (fun c_8 => absurd c_8 (by decide))
    refine lv_bipush (v := (-2)) hx hb dX10_village_35 (by decide) ?_
    exact fiI hx hb hr hlk hK hP hD hS dX10_village_37 (Nat.le_of_ble_eq_true rfl) (Nat.le_of_ble_eq_true rfl) (⟨rfl, rfl⟩)
  · exact False.elim (by simp only [tI_lt, tI_le, tI_eq, tL_lt, tL_le, tL_eq, tWx, (by decide : ((-1) : Int64).toInt = -1), (by decide : (0 : Int64).toInt = 0)] at c_5 c_6; omega)
theorem dX9_village_0 : decode cX9_village 0 = .ok (.iload_n 1, 1) := by decide +kernel
theorem dX9_village_1 : decode cX9_village 1 = .ok (.ifCond .lt 14, 3) := by decide +kernel
theorem dX9_village_15 : decode cX9_village 15 = .ok (.bipush (-2), 2) := by decide +kernel
theorem dX9_village_17 : decode cX9_village 17 = .ok (.goto 12, 3) := by decide +kernel
theorem dX9_village_29 : decode cX9_village 29 = .ok (.ireturn, 1) := by decide +kernel
theorem dX9_village_4 : decode cX9_village 4 = .ok (.iload_n 1, 1) := by decide +kernel
theorem dX9_village_5 : decode cX9_village 5 = .ok (.aload_n 0, 1) := by decide +kernel
theorem dX9_village_6 : decode cX9_village 6 = .ok (.getfield 16, 3) := by decide +kernel
theorem q_1_44 : Cond.fieldLink "BeaconDelay" 145 "BeaconDelay$Coast" "villages" "I" ∈ gw := gw_1 (i := 44) (by decide +kernel) rfl
theorem dX9_village_9 : decode cX9_village 9 = .ok (.getfield 145, 3) := by decide +kernel
theorem dX9_village_12 : decode cX9_village 12 = .ok (.if_icmp .lt 8, 3) := by decide +kernel
set_option maxHeartbeats 4000000 in
set_option maxRecDepth 100000 in
theorem c_X9_village_0 (l : Launch) (V : GV) (y : Nat → Nat) (p0 : Int32) : Ct l V yX9_village (.code yX9_village cX9_village 2 (some .int)) 1 [.ref (y 0), .int p0] [(y 0, .inr (9, [.ref (y 1), .int 0, .ref (y 2), .ref (y 10), .ref (y 19), .ref (y 25), .ref (y 26), .ref (y 30), .ref (y 31), .ref (y 32), .null, .null, .int 0, .int 0, .int 0])), (y 2, .inr (1, [.int 0, .int 0, .int 0, .int 0, .int 0, .int 0, .ref (y 3), .ref (y 4), .ref (y 5), .ref (y 6), .ref (y 7), .ref (y 8), .ref (y 9), .int 0, .int 0, .int 0, .int 0, .int 0]))] 0 0 (QI V (fun (r : Int32) (w : va_W) => (r = (-2) ∧ w = [(y 0, .inr (9, [.ref (y 1), .int 0, .ref (y 2), .ref (y 10), .ref (y 19), .ref (y 25), .ref (y 26), .ref (y 30), .ref (y 31), .ref (y 32), .null, .null, .int 0, .int 0, .int 0])), (y 2, .inr (1, [.int 0, .int 0, .int 0, .int 0, .int 0, .int 0, .ref (y 3), .ref (y 4), .ref (y 5), .ref (y 6), .ref (y 7), .ref (y 8), .ref (y 9), .int 0, .int 0, .int 0, .int 0, .int 0]))]))) := by
  refine Ct.of (by decide) (Nat.le_of_ble_eq_true rfl) (fun p e s m below meth c A ls hx hb hr hml hown hlk hnm hg hP hK hD hE hA hS hl => ?_)
  have hl : lv_has ls 2 [(0, .ref (y 0)), (1, .int p0)] := hl
  refine lv_iload_n hx hb dX9_village_0 rfl (lv_at hl 1 rfl) ?_
  refine lv_if_lt (tgt := 15) hx hb dX9_village_1 (by decide) (fun c_1 => ?_) (fun c_1 => ?_)
  · refine lv_bipush (v := (-2)) hx hb dX9_village_15 (by decide) ?_
    refine lv_goto (tgt := 29) hx hb dX9_village_17 (by decide) ?_
    exact fiI hx hb hr hlk hK hP hD hS dX9_village_29 (Nat.le_of_ble_eq_true rfl) (Nat.le_of_ble_eq_true rfl) (⟨rfl, rfl⟩)
  · refine lv_iload_n hx hb dX9_village_4 rfl (lv_at hl 1 rfl) ?_
    refine lv_aload_n hx hb dX9_village_5 rfl (lv_at hl 0 rfl) ?_
    refine va_get (ci := 9) (v := .ref (y 2)) (C := RX9) (T := TX9) (N := 15) hx hb hg inX9 hown hK hP 0 rfl rfl 2 (by decide) (hg _ q_2_38) (fun _ h9 => h9) rfl dX9_village_6 ?_
    refine va_get (ci := 1) (v := .int 0) (C := RX1) (T := TX1) (N := 18) hx hb hg inX1 hown hK hP 1 rfl rfl 2 (by decide) (hg _ q_1_44) (fun _ h9 => h9) rfl dX9_village_9 ?_
    refine lv_icmp_lt (tgt := 20) hx hb dX9_village_12 (by decide) (fun c_2 => False.elim (by have c_3 : p0 < 0 := c_2; exact (by simp only [tI_lt, tI_le, tI_eq, tL_lt, tL_le, tL_eq, tWx, (by decide : (0 : Int32).toInt = 0)] at c_1 c_3; omega))) (fun _ => ?_)
    refine lv_bipush (v := (-2)) hx hb dX9_village_15 (by decide) ?_
    refine lv_goto (tgt := 29) hx hb dX9_village_17 (by decide) ?_
    exact fiI hx hb hr hlk hK hP hD hS dX9_village_29 (Nat.le_of_ble_eq_true rfl) (Nat.le_of_ble_eq_true rfl) (⟨rfl, rfl⟩)
theorem dX10_takes_0 : decode cX10_takes 0 = .ok (.aload_n 0, 1) := by decide +kernel
theorem dX10_takes_1 : decode cX10_takes 1 = .ok (.iconst 0, 1) := by decide +kernel
theorem dX10_takes_2 : decode cX10_takes 2 = .ok (.putfield 1, 3) := by decide +kernel
theorem dX10_takes_5 : decode cX10_takes 5 = .ok (.aload_n 0, 1) := by decide +kernel
theorem dX10_takes_6 : decode cX10_takes 6 = .ok (.iload_n 2, 1) := by decide +kernel
theorem dX10_takes_7 : decode cX10_takes 7 = .ok (.i2l, 1) := by decide +kernel
theorem dX10_takes_8 : decode cX10_takes 8 = .ok (.invokevirtual 262, 3) := by decide +kernel
theorem dX10_takes_11 : decode cX10_takes 11 = .ok (.ifCond .ne 6, 3) := by decide +kernel
theorem dX10_takes_14 : decode cX10_takes 14 = .ok (.bipush (-2), 2) := by decide +kernel
theorem dX10_takes_16 : decode cX10_takes 16 = .ok (.ireturn, 1) := by decide +kernel
set_option maxHeartbeats 4000000 in
set_option maxRecDepth 100000 in
theorem c_X10_takes_0 (l : Launch) (V : GV) (z : Nat → Nat) (p0 : Int32) (p1 : Int32) : Ct l V yX10_takes (.code yX10_takes cX10_takes 3 (some .int)) 3 [.ref (z 0), .int p0, .int p1] [(z 0, .inr (10, mo z 0 0 0 0 0 0 0 0 0 0 (-1) 0 0 0 0 0)), (z 1, aI V 3075 (fun _ => 0))] 0 0 (QI V (fun (r : Int32) (w : va_W) => (r = (-2) ∧ w = [(z 0, .inr (10, mo z 0 0 0 0 0 0 0 0 0 0 (-1) 0 0 0 0 0)), (z 1, aI V 3075 (fun _ => 0))]))) := by
  refine Ct.of (by decide) (Nat.le_of_ble_eq_true rfl) (fun p e s m below meth c A ls hx hb hr hml hown hlk hnm hg hP hK hD hE hA hS hl => ?_)
  have hl : lv_has ls 3 [(0, .ref (z 0)), (1, .int p0), (2, .int p1)] := hl
  refine lv_aload_n hx hb dX10_takes_0 rfl (lv_at hl 0 rfl) ?_
  refine lv_iconst (v := 0) hx hb dX10_takes_1 (by decide) ?_
  refine va_put (ci := 10) (v := .int 0) (ty := .int) (C := RX10) (T := TX10) (N := 40) hx hb hg inX10 tyX10 tyX10_ok nmX10 hown hK hP hD hS 0 rfl rfl 0 (by decide) (hg _ q_5_224) (fun _ h9 => h9) rfl (by decide +kernel) rfl rfl (Nat.le_of_ble_eq_true rfl) dX10_takes_2 (fun H locs hP hD hS => ?_)
  have hP : va_P V.1 vwCl [(z 0, .inr (10, mo z 0 0 0 0 0 0 0 0 0 0 (-1) 0 0 0 0 0)), (z 1, aI V 3075 (fun _ => 0))] H := hP
  have hD : va_D A [(z 0, .inr (10, mo z 0 0 0 0 0 0 0 0 0 0 (-1) 0 0 0 0 0)), (z 1, aI V 3075 (fun _ => 0))] := hD
  refine lv_aload_n hx hb dX10_takes_5 rfl (lv_at hl 0 rfl) ?_
  refine lv_iload_n hx hb dX10_takes_6 rfl (lv_at hl 2 rfl) ?_
  refine lv_i2l (v := p1.toInt64) hx hb dX10_takes_7 rfl ?_
  refine jnI (wr := []) (rnV (rest := []) ⟨hx, hb, hml, hown, hg⟩ (c_X10_isHill_0 l V z p1.toInt64) mt_X10_isHill q_6_235 ⟨Nat.le_of_ble_eq_true rfl, Nat.le_of_ble_eq_true rfl⟩ hK hP hD hS hA hE [0, 1] rfl rfl 0 rfl rfl rfl rfl hl.1 rfl (Nat.le_of_ble_eq_true rfl) dX10_takes_8 ⟨Nat.le_of_ble_eq_true rfl, Nat.le_of_ble_eq_true rfl⟩) hP hD hS hA [0, 1] [] rfl rfl rfl (by decide) (fun r_1 w H locs hw hP hD hS => ?_)
  obtain ⟨rfl, rfl⟩ := hw
  have hP : va_P V.1 vwCl [(z 0, .inr (10, mo z 0 0 0 0 0 0 0 0 0 0 (-1) 0 0 0 0 0)), (z 1, aI V 3075 (fun _ => 0))] H := hP
  have hD : va_D A [(z 0, .inr (10, mo z 0 0 0 0 0 0 0 0 0 0 (-1) 0 0 0 0 0)), (z 1, aI V 3075 (fun _ => 0))] := hD
  refine lv_if_ne (tgt := 17) hx hb dX10_takes_11 (by decide) (fun c_2 => absurd c_2 (by decide)) (fun _ => ?_)
  refine lv_bipush (v := (-2)) hx hb dX10_takes_14 (by decide) ?_
  exact fiI hx hb hr hlk hK hP hD hS dX10_takes_16 (Nat.le_of_ble_eq_true rfl) (Nat.le_of_ble_eq_true rfl) (⟨rfl, rfl⟩)
theorem dX9_takes_0 : decode cX9_takes 0 = .ok (.aload_n 0, 1) := by decide +kernel
theorem dX9_takes_1 : decode cX9_takes 1 = .ok (.iload_n 2, 1) := by decide +kernel
theorem dX9_takes_2 : decode cX9_takes 2 = .ok (.invokevirtual 128, 3) := by decide +kernel
theorem dX9_takes_5 : decode cX9_takes 5 = .ok (.ifCond .ne 6, 3) := by decide +kernel
theorem dX9_takes_8 : decode cX9_takes 8 = .ok (.bipush (-2), 2) := by decide +kernel
theorem dX9_takes_10 : decode cX9_takes 10 = .ok (.ireturn, 1) := by decide +kernel
set_option maxHeartbeats 4000000 in
set_option maxRecDepth 100000 in
theorem c_X9_takes_0 (l : Launch) (V : GV) (y : Nat → Nat) (p0 : Int32) (p1 : Int32) : Ct l V yX9_takes (.code yX9_takes cX9_takes 3 (some .int)) 2 [.ref (y 0), .int p0, .int p1] [(y 0, .inr (9, [.ref (y 1), .int 0, .ref (y 2), .ref (y 10), .ref (y 19), .ref (y 25), .ref (y 26), .ref (y 30), .ref (y 31), .ref (y 32), .null, .null, .int 0, .int 0, .int 0])), (y 2, .inr (1, [.int 0, .int 0, .int 0, .int 0, .int 0, .int 0, .ref (y 3), .ref (y 4), .ref (y 5), .ref (y 6), .ref (y 7), .ref (y 8), .ref (y 9), .int 0, .int 0, .int 0, .int 0, .int 0]))] 0 0 (QI V (fun (r : Int32) (w : va_W) => (r = (-2) ∧ w = [(y 0, .inr (9, [.ref (y 1), .int 0, .ref (y 2), .ref (y 10), .ref (y 19), .ref (y 25), .ref (y 26), .ref (y 30), .ref (y 31), .ref (y 32), .null, .null, .int 0, .int 0, .int 0])), (y 2, .inr (1, [.int 0, .int 0, .int 0, .int 0, .int 0, .int 0, .ref (y 3), .ref (y 4), .ref (y 5), .ref (y 6), .ref (y 7), .ref (y 8), .ref (y 9), .int 0, .int 0, .int 0, .int 0, .int 0]))]))) := by
  refine Ct.of (by decide) (Nat.le_of_ble_eq_true rfl) (fun p e s m below meth c A ls hx hb hr hml hown hlk hnm hg hP hK hD hE hA hS hl => ?_)
  have hl : lv_has ls 3 [(0, .ref (y 0)), (1, .int p0), (2, .int p1)] := hl
  refine lv_aload_n hx hb dX9_takes_0 rfl (lv_at hl 0 rfl) ?_
  refine lv_iload_n hx hb dX9_takes_1 rfl (lv_at hl 2 rfl) ?_
  refine jnI (wr := []) (rnV (rest := []) ⟨hx, hb, hml, hown, hg⟩ (c_X9_isHill_0 l V y p1) mt_X9_isHill q_3_122 ⟨Nat.le_of_ble_eq_true rfl, Nat.le_of_ble_eq_true rfl⟩ hK hP hD hS hA hE [0, 1] rfl rfl 0 rfl rfl rfl rfl hl.1 rfl (Nat.le_of_ble_eq_true rfl) dX9_takes_2 ⟨Nat.le_of_ble_eq_true rfl, Nat.le_of_ble_eq_true rfl⟩) hP hD hS hA [0, 1] [] rfl rfl rfl (by decide) (fun r_1 w H locs hw hP hD hS => ?_)
  obtain ⟨rfl, rfl⟩ := hw
  have hP : va_P V.1 vwCl [(y 0, .inr (9, [.ref (y 1), .int 0, .ref (y 2), .ref (y 10), .ref (y 19), .ref (y 25), .ref (y 26), .ref (y 30), .ref (y 31), .ref (y 32), .null, .null, .int 0, .int 0, .int 0])), (y 2, .inr (1, [.int 0, .int 0, .int 0, .int 0, .int 0, .int 0, .ref (y 3), .ref (y 4), .ref (y 5), .ref (y 6), .ref (y 7), .ref (y 8), .ref (y 9), .int 0, .int 0, .int 0, .int 0, .int 0]))] H := hP
  have hD : va_D A [(y 0, .inr (9, [.ref (y 1), .int 0, .ref (y 2), .ref (y 10), .ref (y 19), .ref (y 25), .ref (y 26), .ref (y 30), .ref (y 31), .ref (y 32), .null, .null, .int 0, .int 0, .int 0])), (y 2, .inr (1, [.int 0, .int 0, .int 0, .int 0, .int 0, .int 0, .ref (y 3), .ref (y 4), .ref (y 5), .ref (y 6), .ref (y 7), .ref (y 8), .ref (y 9), .int 0, .int 0, .int 0, .int 0, .int 0]))] := hD
  refine lv_if_ne (tgt := 11) hx hb dX9_takes_5 (by decide) (fun c_2 => absurd c_2 (by decide)) (fun _ => ?_)
  refine lv_bipush (v := (-2)) hx hb dX9_takes_8 (by decide) ?_
  exact fiI hx hb hr hlk hK hP hD hS dX9_takes_10 (Nat.le_of_ble_eq_true rfl) (Nat.le_of_ble_eq_true rfl) (⟨rfl, rfl⟩)
theorem dX10_by_0 : decode cX10_by 0 = .ok (.aload_n 0, 1) := by decide +kernel
theorem dX10_by_1 : decode cX10_by 1 = .ok (.iconst 0, 1) := by decide +kernel
theorem dX10_by_2 : decode cX10_by 2 = .ok (.putfield 1, 3) := by decide +kernel
theorem dX10_by_5 : decode cX10_by 5 = .ok (.aload_n 0, 1) := by decide +kernel
theorem dX10_by_6 : decode cX10_by 6 = .ok (.iload_n 2, 1) := by decide +kernel
theorem dX10_by_7 : decode cX10_by 7 = .ok (.i2l, 1) := by decide +kernel
theorem dX10_by_8 : decode cX10_by 8 = .ok (.invokevirtual 262, 3) := by decide +kernel
theorem dX10_by_11 : decode cX10_by 11 = .ok (.ifCond .ne 6, 3) := by decide +kernel
theorem dX10_by_14 : decode cX10_by 14 = .ok (.bipush (-2), 2) := by decide +kernel
theorem dX10_by_16 : decode cX10_by 16 = .ok (.ireturn, 1) := by decide +kernel
set_option maxHeartbeats 4000000 in
set_option maxRecDepth 100000 in
theorem c_X10_by_0 (l : Launch) (V : GV) (z : Nat → Nat) (p0 : Int32) (p1 : Int32) : Ct l V yX10_by (.code yX10_by cX10_by 3 (some .int)) 3 [.ref (z 0), .int p0, .int p1] [(z 0, .inr (10, mo z 0 0 0 0 0 0 0 0 0 0 (-1) 0 0 0 0 0)), (z 1, aI V 3075 (fun _ => 0))] 0 0 (QI V (fun (r : Int32) (w : va_W) => (r = (-2) ∧ w = [(z 0, .inr (10, mo z 0 0 0 0 0 0 0 0 0 0 (-1) 0 0 0 0 0)), (z 1, aI V 3075 (fun _ => 0))]))) := by
  refine Ct.of (by decide) (Nat.le_of_ble_eq_true rfl) (fun p e s m below meth c A ls hx hb hr hml hown hlk hnm hg hP hK hD hE hA hS hl => ?_)
  have hl : lv_has ls 3 [(0, .ref (z 0)), (1, .int p0), (2, .int p1)] := hl
  refine lv_aload_n hx hb dX10_by_0 rfl (lv_at hl 0 rfl) ?_
  refine lv_iconst (v := 0) hx hb dX10_by_1 (by decide) ?_
  refine va_put (ci := 10) (v := .int 0) (ty := .int) (C := RX10) (T := TX10) (N := 40) hx hb hg inX10 tyX10 tyX10_ok nmX10 hown hK hP hD hS 0 rfl rfl 0 (by decide) (hg _ q_5_224) (fun _ h9 => h9) rfl (by decide +kernel) rfl rfl (Nat.le_of_ble_eq_true rfl) dX10_by_2 (fun H locs hP hD hS => ?_)
  have hP : va_P V.1 vwCl [(z 0, .inr (10, mo z 0 0 0 0 0 0 0 0 0 0 (-1) 0 0 0 0 0)), (z 1, aI V 3075 (fun _ => 0))] H := hP
  have hD : va_D A [(z 0, .inr (10, mo z 0 0 0 0 0 0 0 0 0 0 (-1) 0 0 0 0 0)), (z 1, aI V 3075 (fun _ => 0))] := hD
  refine lv_aload_n hx hb dX10_by_5 rfl (lv_at hl 0 rfl) ?_
  refine lv_iload_n hx hb dX10_by_6 rfl (lv_at hl 2 rfl) ?_
  refine lv_i2l (v := p1.toInt64) hx hb dX10_by_7 rfl ?_
  refine jnI (wr := []) (rnV (rest := []) ⟨hx, hb, hml, hown, hg⟩ (c_X10_isHill_0 l V z p1.toInt64) mt_X10_isHill q_6_235 ⟨Nat.le_of_ble_eq_true rfl, Nat.le_of_ble_eq_true rfl⟩ hK hP hD hS hA hE [0, 1] rfl rfl 0 rfl rfl rfl rfl hl.1 rfl (Nat.le_of_ble_eq_true rfl) dX10_by_8 ⟨Nat.le_of_ble_eq_true rfl, Nat.le_of_ble_eq_true rfl⟩) hP hD hS hA [0, 1] [] rfl rfl rfl (by decide) (fun r_1 w H locs hw hP hD hS => ?_)
  obtain ⟨rfl, rfl⟩ := hw
  have hP : va_P V.1 vwCl [(z 0, .inr (10, mo z 0 0 0 0 0 0 0 0 0 0 (-1) 0 0 0 0 0)), (z 1, aI V 3075 (fun _ => 0))] H := hP
  have hD : va_D A [(z 0, .inr (10, mo z 0 0 0 0 0 0 0 0 0 0 (-1) 0 0 0 0 0)), (z 1, aI V 3075 (fun _ => 0))] := hD
  refine lv_if_ne (tgt := 17) hx hb dX10_by_11 (by decide) (fun c_2 => absurd c_2 (by decide)) (fun _ => ?_)
  refine lv_bipush (v := (-2)) hx hb dX10_by_14 (by decide) ?_
  exact fiI hx hb hr hlk hK hP hD hS dX10_by_16 (Nat.le_of_ble_eq_true rfl) (Nat.le_of_ble_eq_true rfl) (⟨rfl, rfl⟩)
theorem dX9_by_0 : decode cX9_by 0 = .ok (.aload_n 0, 1) := by decide +kernel
theorem dX9_by_1 : decode cX9_by 1 = .ok (.iload_n 2, 1) := by decide +kernel
theorem dX9_by_2 : decode cX9_by 2 = .ok (.invokevirtual 128, 3) := by decide +kernel
theorem dX9_by_5 : decode cX9_by 5 = .ok (.ifCond .ne 6, 3) := by decide +kernel
theorem dX9_by_8 : decode cX9_by 8 = .ok (.bipush (-2), 2) := by decide +kernel
theorem dX9_by_10 : decode cX9_by 10 = .ok (.ireturn, 1) := by decide +kernel
set_option maxHeartbeats 4000000 in
set_option maxRecDepth 100000 in
theorem c_X9_by_0 (l : Launch) (V : GV) (y : Nat → Nat) (p0 : Int32) (p1 : Int32) : Ct l V yX9_by (.code yX9_by cX9_by 3 (some .int)) 2 [.ref (y 0), .int p0, .int p1] [(y 0, .inr (9, [.ref (y 1), .int 0, .ref (y 2), .ref (y 10), .ref (y 19), .ref (y 25), .ref (y 26), .ref (y 30), .ref (y 31), .ref (y 32), .null, .null, .int 0, .int 0, .int 0])), (y 2, .inr (1, [.int 0, .int 0, .int 0, .int 0, .int 0, .int 0, .ref (y 3), .ref (y 4), .ref (y 5), .ref (y 6), .ref (y 7), .ref (y 8), .ref (y 9), .int 0, .int 0, .int 0, .int 0, .int 0]))] 0 0 (QI V (fun (r : Int32) (w : va_W) => (r = (-2) ∧ w = [(y 0, .inr (9, [.ref (y 1), .int 0, .ref (y 2), .ref (y 10), .ref (y 19), .ref (y 25), .ref (y 26), .ref (y 30), .ref (y 31), .ref (y 32), .null, .null, .int 0, .int 0, .int 0])), (y 2, .inr (1, [.int 0, .int 0, .int 0, .int 0, .int 0, .int 0, .ref (y 3), .ref (y 4), .ref (y 5), .ref (y 6), .ref (y 7), .ref (y 8), .ref (y 9), .int 0, .int 0, .int 0, .int 0, .int 0]))]))) := by
  refine Ct.of (by decide) (Nat.le_of_ble_eq_true rfl) (fun p e s m below meth c A ls hx hb hr hml hown hlk hnm hg hP hK hD hE hA hS hl => ?_)
  have hl : lv_has ls 3 [(0, .ref (y 0)), (1, .int p0), (2, .int p1)] := hl
  refine lv_aload_n hx hb dX9_by_0 rfl (lv_at hl 0 rfl) ?_
  refine lv_iload_n hx hb dX9_by_1 rfl (lv_at hl 2 rfl) ?_
  refine jnI (wr := []) (rnV (rest := []) ⟨hx, hb, hml, hown, hg⟩ (c_X9_isHill_0 l V y p1) mt_X9_isHill q_3_122 ⟨Nat.le_of_ble_eq_true rfl, Nat.le_of_ble_eq_true rfl⟩ hK hP hD hS hA hE [0, 1] rfl rfl 0 rfl rfl rfl rfl hl.1 rfl (Nat.le_of_ble_eq_true rfl) dX9_by_2 ⟨Nat.le_of_ble_eq_true rfl, Nat.le_of_ble_eq_true rfl⟩) hP hD hS hA [0, 1] [] rfl rfl rfl (by decide) (fun r_1 w H locs hw hP hD hS => ?_)
  obtain ⟨rfl, rfl⟩ := hw
  have hP : va_P V.1 vwCl [(y 0, .inr (9, [.ref (y 1), .int 0, .ref (y 2), .ref (y 10), .ref (y 19), .ref (y 25), .ref (y 26), .ref (y 30), .ref (y 31), .ref (y 32), .null, .null, .int 0, .int 0, .int 0])), (y 2, .inr (1, [.int 0, .int 0, .int 0, .int 0, .int 0, .int 0, .ref (y 3), .ref (y 4), .ref (y 5), .ref (y 6), .ref (y 7), .ref (y 8), .ref (y 9), .int 0, .int 0, .int 0, .int 0, .int 0]))] H := hP
  have hD : va_D A [(y 0, .inr (9, [.ref (y 1), .int 0, .ref (y 2), .ref (y 10), .ref (y 19), .ref (y 25), .ref (y 26), .ref (y 30), .ref (y 31), .ref (y 32), .null, .null, .int 0, .int 0, .int 0])), (y 2, .inr (1, [.int 0, .int 0, .int 0, .int 0, .int 0, .int 0, .ref (y 3), .ref (y 4), .ref (y 5), .ref (y 6), .ref (y 7), .ref (y 8), .ref (y 9), .int 0, .int 0, .int 0, .int 0, .int 0]))] := hD
  refine lv_if_ne (tgt := 11) hx hb dX9_by_5 (by decide) (fun c_2 => absurd c_2 (by decide)) (fun _ => ?_)
  refine lv_bipush (v := (-2)) hx hb dX9_by_8 (by decide) ?_
  exact fiI hx hb hr hlk hK hP hD hS dX9_by_10 (Nat.le_of_ble_eq_true rfl) (Nat.le_of_ble_eq_true rfl) (⟨rfl, rfl⟩)
theorem dX10_isNight_0 : decode cX10_isNight 0 = .ok (.lload_n 1, 1) := by decide +kernel
theorem dX10_isNight_1 : decode cX10_isNight 1 = .ok (.lconst 0, 1) := by decide +kernel
theorem dX10_isNight_2 : decode cX10_isNight 2 = .ok (.lcmp, 1) := by decide +kernel
theorem dX10_isNight_3 : decode cX10_isNight 3 = .ok (.ifCond .eq 20, 3) := by decide +kernel
theorem dX10_isNight_23 : decode cX10_isNight 23 = .ok (.iconst 1, 1) := by decide +kernel
theorem dX10_isNight_24 : decode cX10_isNight 24 = .ok (.goto 4, 3) := by decide +kernel
theorem dX10_isNight_28 : decode cX10_isNight 28 = .ok (.ireturn, 1) := by decide +kernel
theorem dX10_isNight_6 : decode cX10_isNight 6 = .ok (.lload_n 1, 1) := by decide +kernel
theorem dX10_isNight_7 : decode cX10_isNight 7 = .ok (.lconst 1, 1) := by decide +kernel
theorem dX10_isNight_8 : decode cX10_isNight 8 = .ok (.aload_n 0, 1) := by decide +kernel
theorem dX10_isNight_9 : decode cX10_isNight 9 = .ok (.getfield 13, 3) := by decide +kernel
theorem dX10_isNight_12 : decode cX10_isNight 12 = .ok (.iconst 1, 1) := by decide +kernel
theorem dX10_isNight_13 : decode cX10_isNight 13 = .ok (.iaload, 1) := by decide +kernel
theorem dX10_isNight_14 : decode cX10_isNight 14 = .ok (.iconst 1, 1) := by decide +kernel
theorem dX10_isNight_15 : decode cX10_isNight 15 = .ok (.isub, 1) := by decide +kernel
theorem dX10_isNight_16 : decode cX10_isNight 16 = .ok (.i2l, 1) := by decide +kernel
theorem dX10_isNight_17 : decode cX10_isNight 17 = .ok (.invokestatic 159, 3) := by decide +kernel
theorem dX10_isNight_20 : decode cX10_isNight 20 = .ok (.ifCond .eq 7, 3) := by decide +kernel
theorem dX10_isNight_27 : decode cX10_isNight 27 = .ok (.iconst 0, 1) := by decide +kernel
set_option maxHeartbeats 4000000 in
set_option maxRecDepth 100000 in
theorem c_X10_isNight_0 (l : Launch) (V : GV) (z : Nat → Nat) (j0 : Int64) : Ct l V yX10_isNight (.code yX10_isNight cX10_isNight 3 (some .boolean)) 2 [.ref (z 0), .long j0] [(z 0, .inr (10, mo z 0 0 0 0 0 0 0 0 0 0 (-1) 0 0 0 0 0)), (z 1, aI V 3075 (fun _ => 0))] 0 0 (QI V (fun (r : Int32) (w : va_W) => (j0 = 0 ∧ r = 1 ∧ w = [(z 0, .inr (10, mo z 0 0 0 0 0 0 0 0 0 0 (-1) 0 0 0 0 0)), (z 1, aI V 3075 (fun _ => 0))]) ∨ ((¬ j0 = 0) ∧ j0 < 1 ∧ r = 0 ∧ w = [(z 0, .inr (10, mo z 0 0 0 0 0 0 0 0 0 0 (-1) 0 0 0 0 0)), (z 1, aI V 3075 (fun _ => 0))]) ∨ ((¬ j0 = 0) ∧ (¬ j0 < 1) ∧ (-1) < j0 ∧ r = 0 ∧ w = [(z 0, .inr (10, mo z 0 0 0 0 0 0 0 0 0 0 (-1) 0 0 0 0 0)), (z 1, aI V 3075 (fun _ => 0))]))) := by
  refine Ct.of (by decide) (Nat.le_of_ble_eq_true rfl) (fun p e s m below meth c A ls hx hb hr hml hown hlk hnm hg hP hK hD hE hA hS hl => ?_)
  have hl : lv_has ls 3 [(0, .ref (z 0)), (1, .long j0)] := hl
  refine lv_lload_n hx hb dX10_isNight_0 rfl (lv_at hl 1 rfl) ?_
  refine lv_lconst (v := 0) hx hb dX10_isNight_1 (by decide) ?_
  refine W.lcmp hx hb dX10_isNight_2 ?_
  refine lv_if_eq (tgt := 23) hx hb dX10_isNight_3 (by decide) (fun c_1 => ?_) (fun c_1 => ?_)
  · replace c_1 : j0 = 0 := (lg_cmp_eq _ _).mp c_1
    refine lv_iconst (v := 1) hx hb dX10_isNight_23 (by decide) ?_
    refine lv_goto (tgt := 28) hx hb dX10_isNight_24 (by decide) ?_
    exact fiZ rfl hx hb hr hlk hK hP hD hS dX10_isNight_28 (Nat.le_of_ble_eq_true rfl) (Nat.le_of_ble_eq_true rfl) (Or.inl ⟨c_1, rfl, rfl⟩)
  · replace c_1 : ¬ j0 = 0 := fun z => c_1 ((lg_cmp_eq _ _).mpr z)
    refine lv_lload_n hx hb dX10_isNight_6 rfl (lv_at hl 1 rfl) ?_
    refine lv_lconst (v := 1) hx hb dX10_isNight_7 (by decide) ?_
    refine lv_aload_n hx hb dX10_isNight_8 rfl (lv_at hl 0 rfl) ?_
    refine va_get (ci := 10) (v := .ref (z 1)) (C := RX10) (T := TX10) (N := 40) hx hb hg inX10 hown hK hP 0 rfl rfl 1 (by decide) (hg _ q_5_225) (fun _ h9 => h9) rfl dX10_isNight_9 ?_
    refine lv_iconst (v := 1) hx hb dX10_isNight_12 (by decide) ?_
    refine va_iald hx hb hK hP 1 0 rfl rfl (vin (by decide +kernel)) dX10_isNight_13 ?_
    refine tpi (y := 0) (rfl) ?_
    refine lv_iconst (v := 1) hx hb dX10_isNight_14 (by decide) ?_
    refine lv_isub hx hb dX10_isNight_15 ?_
    refine tpi (y := (-1)) (by decide +kernel) ?_
    refine lv_i2l (v := (-1)) hx hb dX10_isNight_16 (by decide +kernel) ?_
    refine jnI (wr := [(z 0, .inr (10, mo z 0 0 0 0 0 0 0 0 0 0 (-1) 0 0 0 0 0)), (z 1, aI V 3075 (fun _ => 0))]) (rnS (rest := []) ⟨hx, hb, hml, hown, hg⟩ (c_X10_within_0 l V j0 1 ((-1))) mt_X10_within q_6_114 ⟨Nat.le_of_ble_eq_true rfl, Nat.le_of_ble_eq_true rfl⟩ hK hP hD hS hA hE [] rfl rfl rfl hl.1 rfl (Nat.le_of_ble_eq_true rfl) dX10_isNight_17 ⟨Nat.le_of_ble_eq_true rfl, Nat.le_of_ble_eq_true rfl⟩) hP hD hS hA [] [0, 1] rfl rfl rfl (by decide) (fun r_2 w H locs hw hP hD hS => ?_)
    rcases hw with ⟨c_3, rfl, rfl⟩ | ⟨c_4, c_5, rfl, rfl⟩ | ⟨c_6, c_7, rfl, rfl⟩
    · have hP : va_P V.1 vwCl [(z 0, .inr (10, mo z 0 0 0 0 0 0 0 0 0 0 (-1) 0 0 0 0 0)), (z 1, aI V 3075 (fun _ => 0))] H := hP
      have hD : va_D A [(z 0, .inr (10, mo z 0 0 0 0 0 0 0 0 0 0 (-1) 0 0 0 0 0)), (z 1, aI V 3075 (fun _ => 0))] := hD
      refine lv_if_eq (tgt := 27) hx hb dX10_isNight_20 (by decide) (fun _ => ?_) (fun c_8 => absurd c_8 (by decide))
      refine lv_iconst (v := 0) hx hb dX10_isNight_27 (by decide) ?_
      exact fiZ rfl hx hb hr hlk hK hP hD hS dX10_isNight_28 (Nat.le_of_ble_eq_true rfl) (Nat.le_of_ble_eq_true rfl) (Or.inr (Or.inl ⟨c_1, c_3, rfl, rfl⟩))
    · have hP : va_P V.1 vwCl [(z 0, .inr (10, mo z 0 0 0 0 0 0 0 0 0 0 (-1) 0 0 0 0 0)), (z 1, aI V 3075 (fun _ => 0))] H := hP
      have hD : va_D A [(z 0, .inr (10, mo z 0 0 0 0 0 0 0 0 0 0 (-1) 0 0 0 0 0)), (z 1, aI V 3075 (fun _ => 0))] := hD
      refine lv_if_eq (tgt := 27) hx hb dX10_isNight_20 (by decide) (fun _ => ?_) (fun c_9 => absurd c_9 (by decide))
      refine lv_iconst (v := 0) hx hb dX10_isNight_27 (by decide) ?_
      exact fiZ rfl hx hb hr hlk hK hP hD hS dX10_isNight_28 (Nat.le_of_ble_eq_true rfl) (Nat.le_of_ble_eq_true rfl) (Or.inr (Or.inr (⟨c_1, c_4, c_5, rfl, rfl⟩)))
    · exact False.elim (by simp only [tI_lt, tI_le, tI_eq, tL_lt, tL_le, tL_eq, tWx, (by decide : ((-1) : Int64).toInt = -1), (by decide : (0 : Int64).toInt = 0), (by decide : (1 : Int64).toInt = 1)] at c_1 c_6 c_7; omega)
theorem dX10_stores_0 : decode cX10_stores 0 = .ok (.iconst 0, 1) := by decide +kernel
theorem dX10_stores_1 : decode cX10_stores 1 = .ok (.istore_n 1, 1) := by decide +kernel
theorem dX10_stores_2 : decode cX10_stores 2 = .ok (.iload_n 1, 1) := by decide +kernel
theorem dX10_stores_3 : decode cX10_stores 3 = .ok (.bipush 7, 2) := by decide +kernel
theorem dX10_stores_5 : decode cX10_stores 5 = .ok (.if_icmp .ge 24, 3) := by decide +kernel
theorem dX10_stores_8 : decode cX10_stores 8 = .ok (.aload_n 0, 1) := by decide +kernel
theorem dX10_stores_9 : decode cX10_stores 9 = .ok (.getfield 36, 3) := by decide +kernel
theorem dX10_stores_12 : decode cX10_stores 12 = .ok (.iload_n 1, 1) := by decide +kernel
theorem dX10_stores_13 : decode cX10_stores 13 = .ok (.aload_n 0, 1) := by decide +kernel
theorem dX10_stores_14 : decode cX10_stores 14 = .ok (.getfield 13, 3) := by decide +kernel
theorem dX10_stores_17 : decode cX10_stores 17 = .ok (.bipush 46, 2) := by decide +kernel
theorem dX10_stores_19 : decode cX10_stores 19 = .ok (.iload_n 1, 1) := by decide +kernel
theorem dX10_stores_20 : decode cX10_stores 20 = .ok (.iadd, 1) := by decide +kernel
theorem dX10_stores_21 : decode cX10_stores 21 = .ok (.iaload, 1) := by decide +kernel
theorem dX10_stores_22 : decode cX10_stores 22 = .ok (.iastore, 1) := by decide +kernel
theorem dX10_stores_23 : decode cX10_stores 23 = .ok (.iinc 1 1, 3) := by decide +kernel
theorem dX10_stores_26 : decode cX10_stores 26 = .ok (.goto (-24), 3) := by decide +kernel
theorem dX10_stores_29 : decode cX10_stores 29 = .ok (.return_, 1) := by decide +kernel
set_option maxHeartbeats 4000000 in
set_option maxRecDepth 100000 in
theorem c_X10_stores_0 (l : Launch) (V : GV) (z : Nat → Nat) : Ct l V yX10_stores (.code yX10_stores cX10_stores 2 none) 1 [.ref (z 0)] [(z 17, aI V 7 (fun _ => 0)), (z 0, .inr (10, mo z 0 0 0 0 0 0 0 0 0 0 (-1) 0 0 0 0 0)), (z 1, aI V 3075 (fun _ => 0))] 0 0 (QV V (fun (w : va_W) => (w = [(z 17, aI V 7 (fun _ => 0)), (z 0, .inr (10, mo z 0 0 0 0 0 0 0 0 0 0 (-1) 0 0 0 0 0)), (z 1, aI V 3075 (fun _ => 0))]))) := by
  refine Ct.of (by decide) (Nat.le_of_ble_eq_true rfl) (fun p e s m below meth c A ls hx hb hr hml hown hlk hnm hg hP hK hD hE hA hS hl => ?_)
  have hl : lv_has ls 2 [(0, .ref (z 0))] := hl
  refine lv_iconst (v := 0) hx hb dX10_stores_0 (by decide) ?_
  refine lv_istore_n (lv' := [(1, .int 0), (0, .ref (z 0))]) hx hb dX10_stores_1 rfl hl (by decide) rfl (fun ls hl => ?_)
  refine lv_iload_n hx hb dX10_stores_2 rfl (lv_at hl 0 rfl) ?_
  refine lv_bipush (v := 7) hx hb dX10_stores_3 (by decide) ?_
  refine lv_icmp_ge (tgt := 29) hx hb dX10_stores_5 (by decide) (fun c_1 => absurd c_1 (by decide)) (fun _ => ?_)
  refine lv_aload_n hx hb dX10_stores_8 rfl (lv_at hl 1 rfl) ?_
  refine va_get (ci := 10) (v := .ref (z 17)) (C := RX10) (T := TX10) (N := 40) hx hb hg inX10 hown hK hP 1 rfl rfl 17 (by decide) (hg _ q_6_1) (fun _ h9 => h9) rfl dX10_stores_9 ?_
  refine lv_iload_n hx hb dX10_stores_12 rfl (lv_at hl 0 rfl) ?_
  refine lv_aload_n hx hb dX10_stores_13 rfl (lv_at hl 1 rfl) ?_
  refine va_get (ci := 10) (v := .ref (z 1)) (C := RX10) (T := TX10) (N := 40) hx hb hg inX10 hown hK hP 1 rfl rfl 1 (by decide) (hg _ q_5_225) (fun _ h9 => h9) rfl dX10_stores_14 ?_
  refine lv_bipush (v := 46) hx hb dX10_stores_17 (by decide) ?_
  refine lv_iload_n hx hb dX10_stores_19 rfl (lv_at hl 0 rfl) ?_
  refine lv_iadd hx hb dX10_stores_20 ?_
  refine tpi (y := 46) (by decide +kernel) ?_
  refine va_iald hx hb hK hP 2 0 rfl rfl (vin (by decide +kernel)) dX10_stores_21 ?_
  refine tpi (y := 0) (rfl) ?_
  refine va_iast hx hb hK hP hD hS 0 0 rfl rfl (vin (by decide +kernel)) dX10_stores_22 (fun H locs hP hD hS => ?_)
  have hP : va_P V.1 vwCl [(z 17, aI V 7 (upd (fun _ => 0) 0 0)), (z 0, .inr (10, mo z 0 0 0 0 0 0 0 0 0 0 (-1) 0 0 0 0 0)), (z 1, aI V 3075 (fun _ => 0))] H := hP
  have hD : va_D A [(z 17, aI V 7 (upd (fun _ => 0) 0 0)), (z 0, .inr (10, mo z 0 0 0 0 0 0 0 0 0 0 (-1) 0 0 0 0 0)), (z 1, aI V 3075 (fun _ => 0))] := hD
  have hP : va_P V.1 vwCl [(z 17, aI V 7 (fun _ => 0)), (z 0, .inr (10, mo z 0 0 0 0 0 0 0 0 0 0 (-1) 0 0 0 0 0)), (z 1, aI V 3075 (fun _ => 0))] H := by rw [upd0] at hP; exact hP
  have hD : va_D A [(z 17, aI V 7 (fun _ => 0)), (z 0, .inr (10, mo z 0 0 0 0 0 0 0 0 0 0 (-1) 0 0 0 0 0)), (z 1, aI V 3075 (fun _ => 0))] := by rw [upd0] at hD; exact hD
  refine lv_iinc (v := 1) (lv' := [(1, .int 1), (0, .ref (z 0))]) hx hb dX10_stores_23 hl (k := 0) rfl (by decide +kernel) (by decide) rfl (fun ls hl => ?_)
  refine lv_goto (tgt := 2) hx hb dX10_stores_26 (by decide) ?_
  refine lv_iload_n hx hb dX10_stores_2 rfl (lv_at hl 0 rfl) ?_
  refine lv_bipush (v := 7) hx hb dX10_stores_3 (by decide) ?_
  refine lv_icmp_ge (tgt := 29) hx hb dX10_stores_5 (by decide) (fun c_2 => absurd c_2 (by decide)) (fun _ => ?_)
  refine lv_aload_n hx hb dX10_stores_8 rfl (lv_at hl 1 rfl) ?_
  refine va_get (ci := 10) (v := .ref (z 17)) (C := RX10) (T := TX10) (N := 40) hx hb hg inX10 hown hK hP 1 rfl rfl 17 (by decide) (hg _ q_6_1) (fun _ h9 => h9) rfl dX10_stores_9 ?_
  refine lv_iload_n hx hb dX10_stores_12 rfl (lv_at hl 0 rfl) ?_
  refine lv_aload_n hx hb dX10_stores_13 rfl (lv_at hl 1 rfl) ?_
  refine va_get (ci := 10) (v := .ref (z 1)) (C := RX10) (T := TX10) (N := 40) hx hb hg inX10 hown hK hP 1 rfl rfl 1 (by decide) (hg _ q_5_225) (fun _ h9 => h9) rfl dX10_stores_14 ?_
  refine lv_bipush (v := 46) hx hb dX10_stores_17 (by decide) ?_
  refine lv_iload_n hx hb dX10_stores_19 rfl (lv_at hl 0 rfl) ?_
  refine lv_iadd hx hb dX10_stores_20 ?_
  refine tpi (y := 47) (by decide +kernel) ?_
  refine va_iald hx hb hK hP 2 0 rfl rfl (vin (by decide +kernel)) dX10_stores_21 ?_
  refine tpi (y := 0) (rfl) ?_
  refine va_iast hx hb hK hP hD hS 0 0 rfl rfl (vin (by decide +kernel)) dX10_stores_22 (fun H locs hP hD hS => ?_)
  have hP : va_P V.1 vwCl [(z 17, aI V 7 (upd (fun _ => 0) 1 0)), (z 0, .inr (10, mo z 0 0 0 0 0 0 0 0 0 0 (-1) 0 0 0 0 0)), (z 1, aI V 3075 (fun _ => 0))] H := hP
  have hD : va_D A [(z 17, aI V 7 (upd (fun _ => 0) 1 0)), (z 0, .inr (10, mo z 0 0 0 0 0 0 0 0 0 0 (-1) 0 0 0 0 0)), (z 1, aI V 3075 (fun _ => 0))] := hD
  have hP : va_P V.1 vwCl [(z 17, aI V 7 (fun _ => 0)), (z 0, .inr (10, mo z 0 0 0 0 0 0 0 0 0 0 (-1) 0 0 0 0 0)), (z 1, aI V 3075 (fun _ => 0))] H := by rw [upd0] at hP; exact hP
  have hD : va_D A [(z 17, aI V 7 (fun _ => 0)), (z 0, .inr (10, mo z 0 0 0 0 0 0 0 0 0 0 (-1) 0 0 0 0 0)), (z 1, aI V 3075 (fun _ => 0))] := by rw [upd0] at hD; exact hD
  refine lv_iinc (v := 2) (lv' := [(1, .int 2), (0, .ref (z 0))]) hx hb dX10_stores_23 hl (k := 0) rfl (by decide +kernel) (by decide) rfl (fun ls hl => ?_)
  refine lv_goto (tgt := 2) hx hb dX10_stores_26 (by decide) ?_
  refine lv_iload_n hx hb dX10_stores_2 rfl (lv_at hl 0 rfl) ?_
  refine lv_bipush (v := 7) hx hb dX10_stores_3 (by decide) ?_
  refine lv_icmp_ge (tgt := 29) hx hb dX10_stores_5 (by decide) (fun c_3 => absurd c_3 (by decide)) (fun _ => ?_)
  refine lv_aload_n hx hb dX10_stores_8 rfl (lv_at hl 1 rfl) ?_
  refine va_get (ci := 10) (v := .ref (z 17)) (C := RX10) (T := TX10) (N := 40) hx hb hg inX10 hown hK hP 1 rfl rfl 17 (by decide) (hg _ q_6_1) (fun _ h9 => h9) rfl dX10_stores_9 ?_
  refine lv_iload_n hx hb dX10_stores_12 rfl (lv_at hl 0 rfl) ?_
  refine lv_aload_n hx hb dX10_stores_13 rfl (lv_at hl 1 rfl) ?_
  refine va_get (ci := 10) (v := .ref (z 1)) (C := RX10) (T := TX10) (N := 40) hx hb hg inX10 hown hK hP 1 rfl rfl 1 (by decide) (hg _ q_5_225) (fun _ h9 => h9) rfl dX10_stores_14 ?_
  refine lv_bipush (v := 46) hx hb dX10_stores_17 (by decide) ?_
  refine lv_iload_n hx hb dX10_stores_19 rfl (lv_at hl 0 rfl) ?_
  refine lv_iadd hx hb dX10_stores_20 ?_
  refine tpi (y := 48) (by decide +kernel) ?_
  refine va_iald hx hb hK hP 2 0 rfl rfl (vin (by decide +kernel)) dX10_stores_21 ?_
  refine tpi (y := 0) (rfl) ?_
  refine va_iast hx hb hK hP hD hS 0 0 rfl rfl (vin (by decide +kernel)) dX10_stores_22 (fun H locs hP hD hS => ?_)
  have hP : va_P V.1 vwCl [(z 17, aI V 7 (upd (fun _ => 0) 2 0)), (z 0, .inr (10, mo z 0 0 0 0 0 0 0 0 0 0 (-1) 0 0 0 0 0)), (z 1, aI V 3075 (fun _ => 0))] H := hP
  have hD : va_D A [(z 17, aI V 7 (upd (fun _ => 0) 2 0)), (z 0, .inr (10, mo z 0 0 0 0 0 0 0 0 0 0 (-1) 0 0 0 0 0)), (z 1, aI V 3075 (fun _ => 0))] := hD
  have hP : va_P V.1 vwCl [(z 17, aI V 7 (fun _ => 0)), (z 0, .inr (10, mo z 0 0 0 0 0 0 0 0 0 0 (-1) 0 0 0 0 0)), (z 1, aI V 3075 (fun _ => 0))] H := by rw [upd0] at hP; exact hP
  have hD : va_D A [(z 17, aI V 7 (fun _ => 0)), (z 0, .inr (10, mo z 0 0 0 0 0 0 0 0 0 0 (-1) 0 0 0 0 0)), (z 1, aI V 3075 (fun _ => 0))] := by rw [upd0] at hD; exact hD
  refine lv_iinc (v := 3) (lv' := [(1, .int 3), (0, .ref (z 0))]) hx hb dX10_stores_23 hl (k := 0) rfl (by decide +kernel) (by decide) rfl (fun ls hl => ?_)
  refine lv_goto (tgt := 2) hx hb dX10_stores_26 (by decide) ?_
  refine lv_iload_n hx hb dX10_stores_2 rfl (lv_at hl 0 rfl) ?_
  refine lv_bipush (v := 7) hx hb dX10_stores_3 (by decide) ?_
  refine lv_icmp_ge (tgt := 29) hx hb dX10_stores_5 (by decide) (fun c_4 => absurd c_4 (by decide)) (fun _ => ?_)
  refine lv_aload_n hx hb dX10_stores_8 rfl (lv_at hl 1 rfl) ?_
  refine va_get (ci := 10) (v := .ref (z 17)) (C := RX10) (T := TX10) (N := 40) hx hb hg inX10 hown hK hP 1 rfl rfl 17 (by decide) (hg _ q_6_1) (fun _ h9 => h9) rfl dX10_stores_9 ?_
  refine lv_iload_n hx hb dX10_stores_12 rfl (lv_at hl 0 rfl) ?_
  refine lv_aload_n hx hb dX10_stores_13 rfl (lv_at hl 1 rfl) ?_
  refine va_get (ci := 10) (v := .ref (z 1)) (C := RX10) (T := TX10) (N := 40) hx hb hg inX10 hown hK hP 1 rfl rfl 1 (by decide) (hg _ q_5_225) (fun _ h9 => h9) rfl dX10_stores_14 ?_
  refine lv_bipush (v := 46) hx hb dX10_stores_17 (by decide) ?_
  refine lv_iload_n hx hb dX10_stores_19 rfl (lv_at hl 0 rfl) ?_
  refine lv_iadd hx hb dX10_stores_20 ?_
  refine tpi (y := 49) (by decide +kernel) ?_
  refine va_iald hx hb hK hP 2 0 rfl rfl (vin (by decide +kernel)) dX10_stores_21 ?_
  refine tpi (y := 0) (rfl) ?_
  refine va_iast hx hb hK hP hD hS 0 0 rfl rfl (vin (by decide +kernel)) dX10_stores_22 (fun H locs hP hD hS => ?_)
  have hP : va_P V.1 vwCl [(z 17, aI V 7 (upd (fun _ => 0) 3 0)), (z 0, .inr (10, mo z 0 0 0 0 0 0 0 0 0 0 (-1) 0 0 0 0 0)), (z 1, aI V 3075 (fun _ => 0))] H := hP
  have hD : va_D A [(z 17, aI V 7 (upd (fun _ => 0) 3 0)), (z 0, .inr (10, mo z 0 0 0 0 0 0 0 0 0 0 (-1) 0 0 0 0 0)), (z 1, aI V 3075 (fun _ => 0))] := hD
  have hP : va_P V.1 vwCl [(z 17, aI V 7 (fun _ => 0)), (z 0, .inr (10, mo z 0 0 0 0 0 0 0 0 0 0 (-1) 0 0 0 0 0)), (z 1, aI V 3075 (fun _ => 0))] H := by rw [upd0] at hP; exact hP
  have hD : va_D A [(z 17, aI V 7 (fun _ => 0)), (z 0, .inr (10, mo z 0 0 0 0 0 0 0 0 0 0 (-1) 0 0 0 0 0)), (z 1, aI V 3075 (fun _ => 0))] := by rw [upd0] at hD; exact hD
  refine lv_iinc (v := 4) (lv' := [(1, .int 4), (0, .ref (z 0))]) hx hb dX10_stores_23 hl (k := 0) rfl (by decide +kernel) (by decide) rfl (fun ls hl => ?_)
  refine lv_goto (tgt := 2) hx hb dX10_stores_26 (by decide) ?_
  refine lv_iload_n hx hb dX10_stores_2 rfl (lv_at hl 0 rfl) ?_
  refine lv_bipush (v := 7) hx hb dX10_stores_3 (by decide) ?_
  refine lv_icmp_ge (tgt := 29) hx hb dX10_stores_5 (by decide) (fun c_5 => absurd c_5 (by decide)) (fun _ => ?_)
  refine lv_aload_n hx hb dX10_stores_8 rfl (lv_at hl 1 rfl) ?_
  refine va_get (ci := 10) (v := .ref (z 17)) (C := RX10) (T := TX10) (N := 40) hx hb hg inX10 hown hK hP 1 rfl rfl 17 (by decide) (hg _ q_6_1) (fun _ h9 => h9) rfl dX10_stores_9 ?_
  refine lv_iload_n hx hb dX10_stores_12 rfl (lv_at hl 0 rfl) ?_
  refine lv_aload_n hx hb dX10_stores_13 rfl (lv_at hl 1 rfl) ?_
  refine va_get (ci := 10) (v := .ref (z 1)) (C := RX10) (T := TX10) (N := 40) hx hb hg inX10 hown hK hP 1 rfl rfl 1 (by decide) (hg _ q_5_225) (fun _ h9 => h9) rfl dX10_stores_14 ?_
  refine lv_bipush (v := 46) hx hb dX10_stores_17 (by decide) ?_
  refine lv_iload_n hx hb dX10_stores_19 rfl (lv_at hl 0 rfl) ?_
  refine lv_iadd hx hb dX10_stores_20 ?_
  refine tpi (y := 50) (by decide +kernel) ?_
  refine va_iald hx hb hK hP 2 0 rfl rfl (vin (by decide +kernel)) dX10_stores_21 ?_
  refine tpi (y := 0) (rfl) ?_
  refine va_iast hx hb hK hP hD hS 0 0 rfl rfl (vin (by decide +kernel)) dX10_stores_22 (fun H locs hP hD hS => ?_)
  have hP : va_P V.1 vwCl [(z 17, aI V 7 (upd (fun _ => 0) 4 0)), (z 0, .inr (10, mo z 0 0 0 0 0 0 0 0 0 0 (-1) 0 0 0 0 0)), (z 1, aI V 3075 (fun _ => 0))] H := hP
  have hD : va_D A [(z 17, aI V 7 (upd (fun _ => 0) 4 0)), (z 0, .inr (10, mo z 0 0 0 0 0 0 0 0 0 0 (-1) 0 0 0 0 0)), (z 1, aI V 3075 (fun _ => 0))] := hD
  have hP : va_P V.1 vwCl [(z 17, aI V 7 (fun _ => 0)), (z 0, .inr (10, mo z 0 0 0 0 0 0 0 0 0 0 (-1) 0 0 0 0 0)), (z 1, aI V 3075 (fun _ => 0))] H := by rw [upd0] at hP; exact hP
  have hD : va_D A [(z 17, aI V 7 (fun _ => 0)), (z 0, .inr (10, mo z 0 0 0 0 0 0 0 0 0 0 (-1) 0 0 0 0 0)), (z 1, aI V 3075 (fun _ => 0))] := by rw [upd0] at hD; exact hD
  refine lv_iinc (v := 5) (lv' := [(1, .int 5), (0, .ref (z 0))]) hx hb dX10_stores_23 hl (k := 0) rfl (by decide +kernel) (by decide) rfl (fun ls hl => ?_)
  refine lv_goto (tgt := 2) hx hb dX10_stores_26 (by decide) ?_
  refine lv_iload_n hx hb dX10_stores_2 rfl (lv_at hl 0 rfl) ?_
  refine lv_bipush (v := 7) hx hb dX10_stores_3 (by decide) ?_
  refine lv_icmp_ge (tgt := 29) hx hb dX10_stores_5 (by decide) (fun c_6 => absurd c_6 (by decide)) (fun _ => ?_)
  refine lv_aload_n hx hb dX10_stores_8 rfl (lv_at hl 1 rfl) ?_
  refine va_get (ci := 10) (v := .ref (z 17)) (C := RX10) (T := TX10) (N := 40) hx hb hg inX10 hown hK hP 1 rfl rfl 17 (by decide) (hg _ q_6_1) (fun _ h9 => h9) rfl dX10_stores_9 ?_
  refine lv_iload_n hx hb dX10_stores_12 rfl (lv_at hl 0 rfl) ?_
  refine lv_aload_n hx hb dX10_stores_13 rfl (lv_at hl 1 rfl) ?_
  refine va_get (ci := 10) (v := .ref (z 1)) (C := RX10) (T := TX10) (N := 40) hx hb hg inX10 hown hK hP 1 rfl rfl 1 (by decide) (hg _ q_5_225) (fun _ h9 => h9) rfl dX10_stores_14 ?_
  refine lv_bipush (v := 46) hx hb dX10_stores_17 (by decide) ?_
  refine lv_iload_n hx hb dX10_stores_19 rfl (lv_at hl 0 rfl) ?_
  refine lv_iadd hx hb dX10_stores_20 ?_
  refine tpi (y := 51) (by decide +kernel) ?_
  refine va_iald hx hb hK hP 2 0 rfl rfl (vin (by decide +kernel)) dX10_stores_21 ?_
  refine tpi (y := 0) (rfl) ?_
  refine va_iast hx hb hK hP hD hS 0 0 rfl rfl (vin (by decide +kernel)) dX10_stores_22 (fun H locs hP hD hS => ?_)
  have hP : va_P V.1 vwCl [(z 17, aI V 7 (upd (fun _ => 0) 5 0)), (z 0, .inr (10, mo z 0 0 0 0 0 0 0 0 0 0 (-1) 0 0 0 0 0)), (z 1, aI V 3075 (fun _ => 0))] H := hP
  have hD : va_D A [(z 17, aI V 7 (upd (fun _ => 0) 5 0)), (z 0, .inr (10, mo z 0 0 0 0 0 0 0 0 0 0 (-1) 0 0 0 0 0)), (z 1, aI V 3075 (fun _ => 0))] := hD
  have hP : va_P V.1 vwCl [(z 17, aI V 7 (fun _ => 0)), (z 0, .inr (10, mo z 0 0 0 0 0 0 0 0 0 0 (-1) 0 0 0 0 0)), (z 1, aI V 3075 (fun _ => 0))] H := by rw [upd0] at hP; exact hP
  have hD : va_D A [(z 17, aI V 7 (fun _ => 0)), (z 0, .inr (10, mo z 0 0 0 0 0 0 0 0 0 0 (-1) 0 0 0 0 0)), (z 1, aI V 3075 (fun _ => 0))] := by rw [upd0] at hD; exact hD
  refine lv_iinc (v := 6) (lv' := [(1, .int 6), (0, .ref (z 0))]) hx hb dX10_stores_23 hl (k := 0) rfl (by decide +kernel) (by decide) rfl (fun ls hl => ?_)
  refine lv_goto (tgt := 2) hx hb dX10_stores_26 (by decide) ?_
  refine lv_iload_n hx hb dX10_stores_2 rfl (lv_at hl 0 rfl) ?_
  refine lv_bipush (v := 7) hx hb dX10_stores_3 (by decide) ?_
  refine lv_icmp_ge (tgt := 29) hx hb dX10_stores_5 (by decide) (fun c_7 => absurd c_7 (by decide)) (fun _ => ?_)
  refine lv_aload_n hx hb dX10_stores_8 rfl (lv_at hl 1 rfl) ?_
  refine va_get (ci := 10) (v := .ref (z 17)) (C := RX10) (T := TX10) (N := 40) hx hb hg inX10 hown hK hP 1 rfl rfl 17 (by decide) (hg _ q_6_1) (fun _ h9 => h9) rfl dX10_stores_9 ?_
  refine lv_iload_n hx hb dX10_stores_12 rfl (lv_at hl 0 rfl) ?_
  refine lv_aload_n hx hb dX10_stores_13 rfl (lv_at hl 1 rfl) ?_
  refine va_get (ci := 10) (v := .ref (z 1)) (C := RX10) (T := TX10) (N := 40) hx hb hg inX10 hown hK hP 1 rfl rfl 1 (by decide) (hg _ q_5_225) (fun _ h9 => h9) rfl dX10_stores_14 ?_
  refine lv_bipush (v := 46) hx hb dX10_stores_17 (by decide) ?_
  refine lv_iload_n hx hb dX10_stores_19 rfl (lv_at hl 0 rfl) ?_
  refine lv_iadd hx hb dX10_stores_20 ?_
  refine tpi (y := 52) (by decide +kernel) ?_
  refine va_iald hx hb hK hP 2 0 rfl rfl (vin (by decide +kernel)) dX10_stores_21 ?_
  refine tpi (y := 0) (rfl) ?_
  refine va_iast hx hb hK hP hD hS 0 0 rfl rfl (vin (by decide +kernel)) dX10_stores_22 (fun H locs hP hD hS => ?_)
  have hP : va_P V.1 vwCl [(z 17, aI V 7 (upd (fun _ => 0) 6 0)), (z 0, .inr (10, mo z 0 0 0 0 0 0 0 0 0 0 (-1) 0 0 0 0 0)), (z 1, aI V 3075 (fun _ => 0))] H := hP
  have hD : va_D A [(z 17, aI V 7 (upd (fun _ => 0) 6 0)), (z 0, .inr (10, mo z 0 0 0 0 0 0 0 0 0 0 (-1) 0 0 0 0 0)), (z 1, aI V 3075 (fun _ => 0))] := hD
  have hP : va_P V.1 vwCl [(z 17, aI V 7 (fun _ => 0)), (z 0, .inr (10, mo z 0 0 0 0 0 0 0 0 0 0 (-1) 0 0 0 0 0)), (z 1, aI V 3075 (fun _ => 0))] H := by rw [upd0] at hP; exact hP
  have hD : va_D A [(z 17, aI V 7 (fun _ => 0)), (z 0, .inr (10, mo z 0 0 0 0 0 0 0 0 0 0 (-1) 0 0 0 0 0)), (z 1, aI V 3075 (fun _ => 0))] := by rw [upd0] at hD; exact hD
  refine lv_iinc (v := 7) (lv' := [(1, .int 7), (0, .ref (z 0))]) hx hb dX10_stores_23 hl (k := 0) rfl (by decide +kernel) (by decide) rfl (fun ls hl => ?_)
  refine lv_goto (tgt := 2) hx hb dX10_stores_26 (by decide) ?_
  refine lv_iload_n hx hb dX10_stores_2 rfl (lv_at hl 0 rfl) ?_
  refine lv_bipush (v := 7) hx hb dX10_stores_3 (by decide) ?_
  refine lv_icmp_ge (tgt := 29) hx hb dX10_stores_5 (by decide) (fun _ => ?_) (fun c_8 => absurd c_8 (by decide))
  exact fiV hx hb hr hlk hK hP hD hS dX10_stores_29 (Nat.le_of_ble_eq_true rfl) (Nat.le_of_ble_eq_true rfl) (rfl)
theorem dX10_standNow_0 : decode cX10_standNow 0 = .ok (.sipush 625, 3) := by decide +kernel
theorem dX10_standNow_3 : decode cX10_standNow 3 = .ok (.aload_n 0, 1) := by decide +kernel
theorem dX10_standNow_4 : decode cX10_standNow 4 = .ok (.getfield 13, 3) := by decide +kernel
theorem dX10_standNow_7 : decode cX10_standNow 7 = .ok (.bipush 50, 2) := by decide +kernel
theorem dX10_standNow_9 : decode cX10_standNow 9 = .ok (.iaload, 1) := by decide +kernel
theorem dX10_standNow_10 : decode cX10_standNow 10 = .ok (.imul, 1) := by decide +kernel
theorem dX10_standNow_11 : decode cX10_standNow 11 = .ok (.istore_n 1, 1) := by decide +kernel
theorem dX10_standNow_12 : decode cX10_standNow 12 = .ok (.iconst 0, 1) := by decide +kernel
theorem dX10_standNow_13 : decode cX10_standNow 13 = .ok (.istore_n 2, 1) := by decide +kernel
theorem dX10_standNow_14 : decode cX10_standNow 14 = .ok (.iload_n 2, 1) := by decide +kernel
theorem dX10_standNow_15 : decode cX10_standNow 15 = .ok (.aload_n 0, 1) := by decide +kernel
theorem dX10_standNow_16 : decode cX10_standNow 16 = .ok (.getfield 13, 3) := by decide +kernel
theorem dX10_standNow_19 : decode cX10_standNow 19 = .ok (.iconst 1, 1) := by decide +kernel
theorem dX10_standNow_20 : decode cX10_standNow 20 = .ok (.iaload, 1) := by decide +kernel
theorem dX10_standNow_21 : decode cX10_standNow 21 = .ok (.if_icmp .ge 26, 3) := by decide +kernel
theorem dX10_standNow_47 : decode cX10_standNow 47 = .ok (.iload_n 1, 1) := by decide +kernel
theorem dX10_standNow_48 : decode cX10_standNow 48 = .ok (.ireturn, 1) := by decide +kernel
set_option maxHeartbeats 4000000 in
set_option maxRecDepth 100000 in
theorem c_X10_standNow_0 (l : Launch) (V : GV) (z : Nat → Nat) : Ct l V yX10_standNow (.code yX10_standNow cX10_standNow 3 (some .int)) 1 [.ref (z 0)] [(z 0, .inr (10, mo z 0 0 0 0 0 0 0 0 0 0 (-1) 0 0 0 0 0)), (z 1, aI V 3075 (fun _ => 0))] 0 0 (QI V (fun (r : Int32) (w : va_W) => (r = 0 ∧ w = [(z 0, .inr (10, mo z 0 0 0 0 0 0 0 0 0 0 (-1) 0 0 0 0 0)), (z 1, aI V 3075 (fun _ => 0))]))) := by
  refine Ct.of (by decide) (Nat.le_of_ble_eq_true rfl) (fun p e s m below meth c A ls hx hb hr hml hown hlk hnm hg hP hK hD hE hA hS hl => ?_)
  have hl : lv_has ls 3 [(0, .ref (z 0))] := hl
  refine lv_sipush (v := 625) hx hb dX10_standNow_0 (by decide) ?_
  refine lv_aload_n hx hb dX10_standNow_3 rfl (lv_at hl 0 rfl) ?_
  refine va_get (ci := 10) (v := .ref (z 1)) (C := RX10) (T := TX10) (N := 40) hx hb hg inX10 hown hK hP 0 rfl rfl 1 (by decide) (hg _ q_5_225) (fun _ h9 => h9) rfl dX10_standNow_4 ?_
  refine lv_bipush (v := 50) hx hb dX10_standNow_7 (by decide) ?_
  refine va_iald hx hb hK hP 1 0 rfl rfl (vin (by decide +kernel)) dX10_standNow_9 ?_
  refine tpi (y := 0) (rfl) ?_
  refine lv_imul hx hb dX10_standNow_10 ?_
  refine tpi (y := 0) (by decide +kernel) ?_
  refine lv_istore_n (lv' := [(1, .int 0), (0, .ref (z 0))]) hx hb dX10_standNow_11 rfl hl (by decide) rfl (fun ls hl => ?_)
  refine lv_iconst (v := 0) hx hb dX10_standNow_12 (by decide) ?_
  refine lv_istore_n (lv' := [(2, .int 0), (1, .int 0), (0, .ref (z 0))]) hx hb dX10_standNow_13 rfl hl (by decide) rfl (fun ls hl => ?_)
  refine lv_iload_n hx hb dX10_standNow_14 rfl (lv_at hl 0 rfl) ?_
  refine lv_aload_n hx hb dX10_standNow_15 rfl (lv_at hl 2 rfl) ?_
  refine va_get (ci := 10) (v := .ref (z 1)) (C := RX10) (T := TX10) (N := 40) hx hb hg inX10 hown hK hP 0 rfl rfl 1 (by decide) (hg _ q_5_225) (fun _ h9 => h9) rfl dX10_standNow_16 ?_
  refine lv_iconst (v := 1) hx hb dX10_standNow_19 (by decide) ?_
  refine va_iald hx hb hK hP 1 0 rfl rfl (vin (by decide +kernel)) dX10_standNow_20 ?_
  refine tpi (y := 0) (rfl) ?_
  refine lv_icmp_ge (tgt := 47) hx hb dX10_standNow_21 (by decide) (fun _ => ?_) (fun c_1 => absurd c_1 (by decide))
  refine lv_iload_n hx hb dX10_standNow_47 rfl (lv_at hl 1 rfl) ?_
  exact fiI hx hb hr hlk hK hP hD hS dX10_standNow_48 (Nat.le_of_ble_eq_true rfl) (Nat.le_of_ble_eq_true rfl) (⟨rfl, rfl⟩)
theorem dX10_nightTo_0 : decode cX10_nightTo 0 = .ok (.iconst 0, 1) := by decide +kernel
theorem dX10_nightTo_1 : decode cX10_nightTo 1 = .ok (.istore 4, 2) := by decide +kernel
theorem dX10_nightTo_3 : decode cX10_nightTo 3 = .ok (.iconst 0, 1) := by decide +kernel
theorem dX10_nightTo_4 : decode cX10_nightTo 4 = .ok (.istore 5, 2) := by decide +kernel
theorem dX10_nightTo_6 : decode cX10_nightTo 6 = .ok (.iload 5, 2) := by decide +kernel
theorem dX10_nightTo_8 : decode cX10_nightTo 8 = .ok (.aload_n 0, 1) := by decide +kernel
theorem dX10_nightTo_9 : decode cX10_nightTo 9 = .ok (.getfield 13, 3) := by decide +kernel
theorem dX10_nightTo_12 : decode cX10_nightTo 12 = .ok (.iconst 1, 1) := by decide +kernel
theorem dX10_nightTo_13 : decode cX10_nightTo 13 = .ok (.iaload, 1) := by decide +kernel
theorem dX10_nightTo_14 : decode cX10_nightTo 14 = .ok (.if_icmp .ge 84, 3) := by decide +kernel
theorem dX10_nightTo_98 : decode cX10_nightTo 98 = .ok (.iload 4, 2) := by decide +kernel
theorem dX10_nightTo_100 : decode cX10_nightTo 100 = .ok (.ireturn, 1) := by decide +kernel
set_option maxHeartbeats 4000000 in
set_option maxRecDepth 100000 in
theorem c_X10_nightTo_0 (l : Launch) (V : GV) (z : Nat → Nat) (p0 : Int32) : Ct l V yX10_nightTo (.code yX10_nightTo cX10_nightTo 6 (some .int)) 1 [.ref (z 0), .int 0, .int p0, .int 0] [(z 0, .inr (10, mo z 0 0 0 0 0 0 0 0 0 0 (-1) 0 0 0 0 0)), (z 1, aI V 3075 (fun _ => 0))] 0 0 (QI V (fun (r : Int32) (w : va_W) => (r = 0 ∧ w = [(z 0, .inr (10, mo z 0 0 0 0 0 0 0 0 0 0 (-1) 0 0 0 0 0)), (z 1, aI V 3075 (fun _ => 0))]))) := by
  refine Ct.of (by decide) (Nat.le_of_ble_eq_true rfl) (fun p e s m below meth c A ls hx hb hr hml hown hlk hnm hg hP hK hD hE hA hS hl => ?_)
  have hl : lv_has ls 6 [(0, .ref (z 0)), (1, .int 0), (2, .int p0), (3, .int 0)] := hl
  refine lv_iconst (v := 0) hx hb dX10_nightTo_0 (by decide) ?_
  refine lv_istore (lv' := [(4, .int 0), (0, .ref (z 0)), (1, .int 0), (2, .int p0), (3, .int 0)]) hx hb dX10_nightTo_1 hl (by decide) rfl (fun ls hl => ?_)
  refine lv_iconst (v := 0) hx hb dX10_nightTo_3 (by decide) ?_
  refine lv_istore (lv' := [(5, .int 0), (4, .int 0), (0, .ref (z 0)), (1, .int 0), (2, .int p0), (3, .int 0)]) hx hb dX10_nightTo_4 hl (by decide) rfl (fun ls hl => ?_)
  refine lv_iload hx hb dX10_nightTo_6 (lv_at hl 0 rfl) ?_
  refine lv_aload_n hx hb dX10_nightTo_8 rfl (lv_at hl 2 rfl) ?_
  refine va_get (ci := 10) (v := .ref (z 1)) (C := RX10) (T := TX10) (N := 40) hx hb hg inX10 hown hK hP 0 rfl rfl 1 (by decide) (hg _ q_5_225) (fun _ h9 => h9) rfl dX10_nightTo_9 ?_
  refine lv_iconst (v := 1) hx hb dX10_nightTo_12 (by decide) ?_
  refine va_iald hx hb hK hP 1 0 rfl rfl (vin (by decide +kernel)) dX10_nightTo_13 ?_
  refine tpi (y := 0) (rfl) ?_
  refine lv_icmp_ge (tgt := 98) hx hb dX10_nightTo_14 (by decide) (fun _ => ?_) (fun c_1 => absurd c_1 (by decide))
  refine lv_iload hx hb dX10_nightTo_98 (lv_at hl 1 rfl) ?_
  exact fiI hx hb hr hlk hK hP hD hS dX10_nightTo_100 (Nat.le_of_ble_eq_true rfl) (Nat.le_of_ble_eq_true rfl) (⟨rfl, rfl⟩)
theorem dX10_tookIn_0 : decode cX10_tookIn 0 = .ok (.iload_n 0, 1) := by decide +kernel
theorem dX10_tookIn_1 : decode cX10_tookIn 1 = .ok (.sipush 625, 3) := by decide +kernel
theorem dX10_tookIn_4 : decode cX10_tookIn 4 = .ok (.idiv, 1) := by decide +kernel
theorem dX10_tookIn_5 : decode cX10_tookIn 5 = .ok (.ireturn, 1) := by decide +kernel
set_option maxHeartbeats 4000000 in
set_option maxRecDepth 100000 in
theorem c_X10_tookIn_0 (l : Launch) (V : GV) : Ct l V yX10_tookIn (.code yX10_tookIn cX10_tookIn 1 (some .int)) 1 [.int 0] [] 0 0 (QI V (fun (r : Int32) (w : va_W) => (r = 0 ∧ w = []))) := by
  refine Ct.of (by decide) (Nat.le_of_ble_eq_true rfl) (fun p e s m below meth c A ls hx hb hr hml hown hlk hnm hg hP hK hD hE hA hS hl => ?_)
  have hl : lv_has ls 1 [(0, .int 0)] := hl
  refine lv_iload_n hx hb dX10_tookIn_0 rfl (lv_at hl 0 rfl) ?_
  refine lv_sipush (v := 625) hx hb dX10_tookIn_1 (by decide) ?_
  refine lv_idiv hx hb dX10_tookIn_4 (by decide) ?_
  refine tpi (y := 0) (by decide +kernel) ?_
  exact fiI hx hb hr hlk hK hP hD hS dX10_tookIn_5 (Nat.le_of_ble_eq_true rfl) (Nat.le_of_ble_eq_true rfl) (⟨rfl, rfl⟩)
theorem dX10_isStand_0 : decode cX10_isStand 0 = .ok (.iconst 0, 1) := by decide +kernel
theorem dX10_isStand_1 : decode cX10_isStand 1 = .ok (.istore_n 2, 1) := by decide +kernel
theorem dX10_isStand_2 : decode cX10_isStand 2 = .ok (.iload_n 2, 1) := by decide +kernel
theorem dX10_isStand_3 : decode cX10_isStand 3 = .ok (.aload_n 0, 1) := by decide +kernel
theorem dX10_isStand_4 : decode cX10_isStand 4 = .ok (.getfield 13, 3) := by decide +kernel
theorem dX10_isStand_7 : decode cX10_isStand 7 = .ok (.iconst 1, 1) := by decide +kernel
theorem dX10_isStand_8 : decode cX10_isStand 8 = .ok (.iaload, 1) := by decide +kernel
theorem dX10_isStand_9 : decode cX10_isStand 9 = .ok (.if_icmp .ge 23, 3) := by decide +kernel
theorem dX10_isStand_32 : decode cX10_isStand 32 = .ok (.aload_n 0, 1) := by decide +kernel
theorem dX10_isStand_33 : decode cX10_isStand 33 = .ok (.getfield 13, 3) := by decide +kernel
theorem dX10_isStand_36 : decode cX10_isStand 36 = .ok (.bipush 50, 2) := by decide +kernel
theorem dX10_isStand_38 : decode cX10_isStand 38 = .ok (.iload_n 1, 1) := by decide +kernel
theorem q_7_31 : Cond.code yX10_tookIn prog_12_method_39_code 1 (some FieldType.int) ∈ gw := gw_7 (i := 31) (rfl) rfl
theorem q_7_30 : Cond.static yX10_tookIn ∈ gw := gw_7 (i := 30) (by decide +kernel) rfl
theorem mt_X10_tookIn : MtS yX10_tookIn cX10_tookIn 1 (some .int) 1 := ⟨⟨q_7_31, q_1_9, by decide +kernel, by decide +kernel, by decide +kernel⟩, q_7_30⟩
theorem q_7_29 : Cond.methodLink "BeaconDelayModel" 234 yX10_tookIn ∈ gw := gw_7 (i := 29) (by decide +kernel) rfl
theorem dX10_isStand_39 : decode cX10_isStand 39 = .ok (.invokestatic 234, 3) := by decide +kernel
theorem dX10_isStand_42 : decode cX10_isStand 42 = .ok (.iastore, 1) := by decide +kernel
theorem dX10_isStand_43 : decode cX10_isStand 43 = .ok (.return_, 1) := by decide +kernel
set_option maxHeartbeats 4000000 in
set_option maxRecDepth 100000 in
theorem c_X10_isStand_0 (l : Launch) (V : GV) (z : Nat → Nat) : Ct l V yX10_isStand (.code yX10_isStand cX10_isStand 3 none) 2 [.ref (z 0), .int 0] [(z 0, .inr (10, mo z 0 0 0 0 0 0 0 0 0 0 (-1) 0 0 0 0 0)), (z 1, aI V 3075 (fun _ => 0))] 0 0 (QV V (fun (w : va_W) => (w = [(z 0, .inr (10, mo z 0 0 0 0 0 0 0 0 0 0 (-1) 0 0 0 0 0)), (z 1, aI V 3075 (fun _ => 0))]))) := by
  refine Ct.of (by decide) (Nat.le_of_ble_eq_true rfl) (fun p e s m below meth c A ls hx hb hr hml hown hlk hnm hg hP hK hD hE hA hS hl => ?_)
  have hl : lv_has ls 3 [(0, .ref (z 0)), (1, .int 0)] := hl
  refine lv_iconst (v := 0) hx hb dX10_isStand_0 (by decide) ?_
  refine lv_istore_n (lv' := [(2, .int 0), (0, .ref (z 0)), (1, .int 0)]) hx hb dX10_isStand_1 rfl hl (by decide) rfl (fun ls hl => ?_)
  refine lv_iload_n hx hb dX10_isStand_2 rfl (lv_at hl 0 rfl) ?_
  refine lv_aload_n hx hb dX10_isStand_3 rfl (lv_at hl 1 rfl) ?_
  refine va_get (ci := 10) (v := .ref (z 1)) (C := RX10) (T := TX10) (N := 40) hx hb hg inX10 hown hK hP 0 rfl rfl 1 (by decide) (hg _ q_5_225) (fun _ h9 => h9) rfl dX10_isStand_4 ?_
  refine lv_iconst (v := 1) hx hb dX10_isStand_7 (by decide) ?_
  refine va_iald hx hb hK hP 1 0 rfl rfl (vin (by decide +kernel)) dX10_isStand_8 ?_
  refine tpi (y := 0) (rfl) ?_
  refine lv_icmp_ge (tgt := 32) hx hb dX10_isStand_9 (by decide) (fun _ => ?_) (fun c_1 => absurd c_1 (by decide))
  refine lv_aload_n hx hb dX10_isStand_32 rfl (lv_at hl 1 rfl) ?_
  refine va_get (ci := 10) (v := .ref (z 1)) (C := RX10) (T := TX10) (N := 40) hx hb hg inX10 hown hK hP 0 rfl rfl 1 (by decide) (hg _ q_5_225) (fun _ h9 => h9) rfl dX10_isStand_33 ?_
  refine lv_bipush (v := 50) hx hb dX10_isStand_36 (by decide) ?_
  refine lv_iload_n hx hb dX10_isStand_38 rfl (lv_at hl 2 rfl) ?_
  refine jnI (wr := [(z 0, .inr (10, mo z 0 0 0 0 0 0 0 0 0 0 (-1) 0 0 0 0 0)), (z 1, aI V 3075 (fun _ => 0))]) (rnS (rest := [.int 50, .ref (z 1)]) ⟨hx, hb, hml, hown, hg⟩ (c_X10_tookIn_0 l V) mt_X10_tookIn q_7_29 ⟨Nat.le_of_ble_eq_true rfl, Nat.le_of_ble_eq_true rfl⟩ hK hP hD hS hA hE [] rfl rfl rfl hl.1 rfl (Nat.le_of_ble_eq_true rfl) dX10_isStand_39 ⟨Nat.le_of_ble_eq_true rfl, Nat.le_of_ble_eq_true rfl⟩) hP hD hS hA [] [0, 1] rfl rfl rfl (by decide) (fun r_2 w H locs hw hP hD hS => ?_)
  obtain ⟨rfl, rfl⟩ := hw
  have hP : va_P V.1 vwCl [(z 0, .inr (10, mo z 0 0 0 0 0 0 0 0 0 0 (-1) 0 0 0 0 0)), (z 1, aI V 3075 (fun _ => 0))] H := hP
  have hD : va_D A [(z 0, .inr (10, mo z 0 0 0 0 0 0 0 0 0 0 (-1) 0 0 0 0 0)), (z 1, aI V 3075 (fun _ => 0))] := hD
  refine va_iast hx hb hK hP hD hS 1 0 rfl rfl (vin (by decide +kernel)) dX10_isStand_42 (fun H locs hP hD hS => ?_)
  have hP : va_P V.1 vwCl [(z 0, .inr (10, mo z 0 0 0 0 0 0 0 0 0 0 (-1) 0 0 0 0 0)), (z 1, aI V 3075 (upd (fun _ => 0) 50 0))] H := hP
  have hD : va_D A [(z 0, .inr (10, mo z 0 0 0 0 0 0 0 0 0 0 (-1) 0 0 0 0 0)), (z 1, aI V 3075 (upd (fun _ => 0) 50 0))] := hD
  have hP : va_P V.1 vwCl [(z 0, .inr (10, mo z 0 0 0 0 0 0 0 0 0 0 (-1) 0 0 0 0 0)), (z 1, aI V 3075 (fun _ => 0))] H := by rw [upd0] at hP; exact hP
  have hD : va_D A [(z 0, .inr (10, mo z 0 0 0 0 0 0 0 0 0 0 (-1) 0 0 0 0 0)), (z 1, aI V 3075 (fun _ => 0))] := by rw [upd0] at hD; exact hD
  exact fiV hx hb hr hlk hK hP hD hS dX10_isStand_43 (Nat.le_of_ble_eq_true rfl) (Nat.le_of_ble_eq_true rfl) (rfl)
theorem dX10_goesNight_0 : decode cX10_goesNight 0 = .ok (.aload_n 0, 1) := by decide +kernel
theorem dX10_goesNight_1 : decode cX10_goesNight 1 = .ok (.aload_n 0, 1) := by decide +kernel
theorem dX10_goesNight_2 : decode cX10_goesNight 2 = .ok (.aload_n 0, 1) := by decide +kernel
theorem q_7_14 : Cond.code yX10_standNow prog_12_method_40_code 3 (some FieldType.int) ∈ gw := gw_7 (i := 14) (rfl) rfl
theorem q_7_13 : Cond.instanceMethod yX10_standNow ∈ gw := gw_7 (i := 13) (by decide +kernel) rfl
theorem q_s_81 : Cond.selects "BeaconDelayModel" yX10_standNow yX10_standNow ∈ gw := gw_s (i := 81) (by decide +kernel) rfl
theorem mt_X10_standNow : MtV yX10_standNow cX10_standNow 3 (some .int) 0 := ⟨⟨q_7_14, q_1_9, by decide +kernel, by decide +kernel, by decide +kernel⟩, q_7_13, q_s_81⟩
theorem q_7_11 : Cond.methodLink "BeaconDelayModel" 269 yX10_standNow ∈ gw := gw_7 (i := 11) (by decide +kernel) rfl
theorem dX10_goesNight_3 : decode cX10_goesNight 3 = .ok (.invokevirtual 269, 3) := by decide +kernel
theorem dX10_goesNight_6 : decode cX10_goesNight 6 = .ok (.iload_n 1, 1) := by decide +kernel
theorem dX10_goesNight_7 : decode cX10_goesNight 7 = .ok (.aload_n 0, 1) := by decide +kernel
theorem dX10_goesNight_8 : decode cX10_goesNight 8 = .ok (.getfield 13, 3) := by decide +kernel
theorem dX10_goesNight_11 : decode cX10_goesNight 11 = .ok (.bipush 51, 2) := by decide +kernel
theorem dX10_goesNight_13 : decode cX10_goesNight 13 = .ok (.iaload, 1) := by decide +kernel
theorem q_7_21 : Cond.code yX10_nightTo prog_12_method_50_code 6 (some FieldType.int) ∈ gw := gw_7 (i := 21) (rfl) rfl
theorem q_7_20 : Cond.instanceMethod yX10_nightTo ∈ gw := gw_7 (i := 20) (by decide +kernel) rfl
theorem q_s_82 : Cond.selects "BeaconDelayModel" yX10_nightTo yX10_nightTo ∈ gw := gw_s (i := 82) (by decide +kernel) rfl
theorem mt_X10_nightTo : MtV yX10_nightTo cX10_nightTo 6 (some .int) 3 := ⟨⟨q_7_21, q_1_9, by decide +kernel, by decide +kernel, by decide +kernel⟩, q_7_20, q_s_82⟩
theorem q_7_18 : Cond.methodLink "BeaconDelayModel" 272 yX10_nightTo ∈ gw := gw_7 (i := 18) (by decide +kernel) rfl
theorem dX10_goesNight_14 : decode cX10_goesNight 14 = .ok (.invokevirtual 272, 3) := by decide +kernel
theorem q_7_71 : Cond.code yX10_isStand prog_12_method_41_code 3 none ∈ gw := gw_7 (i := 71) (rfl) rfl
theorem q_7_70 : Cond.instanceMethod yX10_isStand ∈ gw := gw_7 (i := 70) (by decide +kernel) rfl
theorem q_s_89 : Cond.selects "BeaconDelayModel" yX10_isStand yX10_isStand ∈ gw := gw_s (i := 89) (by decide +kernel) rfl
theorem mt_X10_isStand : MtV yX10_isStand cX10_isStand 3 none 1 := ⟨⟨q_7_71, q_1_9, by decide +kernel, by decide +kernel, by decide +kernel⟩, q_7_70, q_s_89⟩
theorem q_7_68 : Cond.methodLink "BeaconDelayModel" 275 yX10_isStand ∈ gw := gw_7 (i := 68) (by decide +kernel) rfl
theorem dX10_goesNight_17 : decode cX10_goesNight 17 = .ok (.invokevirtual 275, 3) := by decide +kernel
theorem dX10_goesNight_20 : decode cX10_goesNight 20 = .ok (.aload_n 0, 1) := by decide +kernel
theorem dX10_goesNight_21 : decode cX10_goesNight 21 = .ok (.getfield 13, 3) := by decide +kernel
theorem dX10_goesNight_24 : decode cX10_goesNight 24 = .ok (.bipush 52, 2) := by decide +kernel
theorem dX10_goesNight_26 : decode cX10_goesNight 26 = .ok (.dup2, 1) := by decide +kernel
theorem dX10_goesNight_27 : decode cX10_goesNight 27 = .ok (.iaload, 1) := by decide +kernel
theorem dX10_goesNight_28 : decode cX10_goesNight 28 = .ok (.iconst 1, 1) := by decide +kernel
theorem dX10_goesNight_29 : decode cX10_goesNight 29 = .ok (.iadd, 1) := by decide +kernel
theorem dX10_goesNight_30 : decode cX10_goesNight 30 = .ok (.iastore, 1) := by decide +kernel
theorem dX10_goesNight_31 : decode cX10_goesNight 31 = .ok (.return_, 1) := by decide +kernel
set_option maxHeartbeats 4000000 in
set_option maxRecDepth 100000 in
theorem c_X10_goesNight_0 (l : Launch) (V : GV) (z : Nat → Nat) (p0 : Int32) : Ct l V yX10_goesNight (.code yX10_goesNight cX10_goesNight 2 none) 3 [.ref (z 0), .int p0] [(z 0, .inr (10, mo z 0 0 0 0 0 0 0 0 0 0 (-1) 0 0 0 0 0)), (z 1, aI V 3075 (fun _ => 0))] 0 0 (QV V (fun (w : va_W) => (w = [(z 0, .inr (10, mo z 0 0 0 0 0 0 0 0 0 0 (-1) 0 0 0 0 0)), (z 1, aI V 3075 (upd (fun _ => 0) 52 1))]))) := by
  refine Ct.of (by decide) (Nat.le_of_ble_eq_true rfl) (fun p e s m below meth c A ls hx hb hr hml hown hlk hnm hg hP hK hD hE hA hS hl => ?_)
  have hl : lv_has ls 2 [(0, .ref (z 0)), (1, .int p0)] := hl
  refine lv_aload_n hx hb dX10_goesNight_0 rfl (lv_at hl 0 rfl) ?_
  refine lv_aload_n hx hb dX10_goesNight_1 rfl (lv_at hl 0 rfl) ?_
  refine lv_aload_n hx hb dX10_goesNight_2 rfl (lv_at hl 0 rfl) ?_
  refine jnI (wr := []) (rnV (rest := [.ref (z 0), .ref (z 0)]) ⟨hx, hb, hml, hown, hg⟩ (c_X10_standNow_0 l V z) mt_X10_standNow q_7_11 ⟨Nat.le_of_ble_eq_true rfl, Nat.le_of_ble_eq_true rfl⟩ hK hP hD hS hA hE [0, 1] rfl rfl 0 rfl rfl rfl rfl hl.1 rfl (Nat.le_of_ble_eq_true rfl) dX10_goesNight_3 ⟨Nat.le_of_ble_eq_true rfl, Nat.le_of_ble_eq_true rfl⟩) hP hD hS hA [0, 1] [] rfl rfl rfl (by decide) (fun r_1 w H locs hw hP hD hS => ?_)
  obtain ⟨rfl, rfl⟩ := hw
  have hP : va_P V.1 vwCl [(z 0, .inr (10, mo z 0 0 0 0 0 0 0 0 0 0 (-1) 0 0 0 0 0)), (z 1, aI V 3075 (fun _ => 0))] H := hP
  have hD : va_D A [(z 0, .inr (10, mo z 0 0 0 0 0 0 0 0 0 0 (-1) 0 0 0 0 0)), (z 1, aI V 3075 (fun _ => 0))] := hD
  refine lv_iload_n hx hb dX10_goesNight_6 rfl (lv_at hl 1 rfl) ?_
  refine lv_aload_n hx hb dX10_goesNight_7 rfl (lv_at hl 0 rfl) ?_
  refine va_get (ci := 10) (v := .ref (z 1)) (C := RX10) (T := TX10) (N := 40) hx hb hg inX10 hown hK hP 0 rfl rfl 1 (by decide) (hg _ q_5_225) (fun _ h9 => h9) rfl dX10_goesNight_8 ?_
  refine lv_bipush (v := 51) hx hb dX10_goesNight_11 (by decide) ?_
  refine va_iald hx hb hK hP 1 0 rfl rfl (vin (by decide +kernel)) dX10_goesNight_13 ?_
  refine tpi (y := 0) (rfl) ?_
  refine jnI (wr := []) (rnV (rest := [.ref (z 0)]) ⟨hx, hb, hml, hown, hg⟩ (c_X10_nightTo_0 l V z p0) mt_X10_nightTo q_7_18 ⟨Nat.le_of_ble_eq_true rfl, Nat.le_of_ble_eq_true rfl⟩ hK hP hD hS hA hE [0, 1] rfl rfl 0 rfl rfl rfl rfl hl.1 rfl (Nat.le_of_ble_eq_true rfl) dX10_goesNight_14 ⟨Nat.le_of_ble_eq_true rfl, Nat.le_of_ble_eq_true rfl⟩) hP hD hS hA [0, 1] [] rfl rfl rfl (by decide) (fun r_2 w H locs hw hP hD hS => ?_)
  obtain ⟨rfl, rfl⟩ := hw
  have hP : va_P V.1 vwCl [(z 0, .inr (10, mo z 0 0 0 0 0 0 0 0 0 0 (-1) 0 0 0 0 0)), (z 1, aI V 3075 (fun _ => 0))] H := hP
  have hD : va_D A [(z 0, .inr (10, mo z 0 0 0 0 0 0 0 0 0 0 (-1) 0 0 0 0 0)), (z 1, aI V 3075 (fun _ => 0))] := hD
  refine jnV (wr := []) (rnV (rest := []) ⟨hx, hb, hml, hown, hg⟩ (c_X10_isStand_0 l V z) mt_X10_isStand q_7_68 ⟨Nat.le_of_ble_eq_true rfl, Nat.le_of_ble_eq_true rfl⟩ hK hP hD hS hA hE [0, 1] rfl rfl 0 rfl rfl rfl rfl hl.1 rfl (Nat.le_of_ble_eq_true rfl) dX10_goesNight_17 ⟨Nat.le_of_ble_eq_true rfl, Nat.le_of_ble_eq_true rfl⟩) hP hD hS hA [0, 1] [] rfl rfl rfl (by decide) (fun  w H locs hw hP hD hS => ?_)
  subst hw
  have hP : va_P V.1 vwCl [(z 0, .inr (10, mo z 0 0 0 0 0 0 0 0 0 0 (-1) 0 0 0 0 0)), (z 1, aI V 3075 (fun _ => 0))] H := hP
  have hD : va_D A [(z 0, .inr (10, mo z 0 0 0 0 0 0 0 0 0 0 (-1) 0 0 0 0 0)), (z 1, aI V 3075 (fun _ => 0))] := hD
  refine lv_aload_n hx hb dX10_goesNight_20 rfl (lv_at hl 0 rfl) ?_
  refine va_get (ci := 10) (v := .ref (z 1)) (C := RX10) (T := TX10) (N := 40) hx hb hg inX10 hown hK hP 0 rfl rfl 1 (by decide) (hg _ q_5_225) (fun _ h9 => h9) rfl dX10_goesNight_21 ?_
  refine lv_bipush (v := 52) hx hb dX10_goesNight_24 (by decide) ?_
  refine lv_dup2_11 hx hb dX10_goesNight_26 rfl rfl ?_
  refine va_iald hx hb hK hP 1 0 rfl rfl (vin (by decide +kernel)) dX10_goesNight_27 ?_
  refine tpi (y := 0) (rfl) ?_
  refine lv_iconst (v := 1) hx hb dX10_goesNight_28 (by decide) ?_
  refine lv_iadd hx hb dX10_goesNight_29 ?_
  refine tpi (y := 1) (by decide +kernel) ?_
  refine va_iast hx hb hK hP hD hS 1 0 rfl rfl (vin (by decide +kernel)) dX10_goesNight_30 (fun H locs hP hD hS => ?_)
  have hP : va_P V.1 vwCl [(z 0, .inr (10, mo z 0 0 0 0 0 0 0 0 0 0 (-1) 0 0 0 0 0)), (z 1, aI V 3075 (upd (fun _ => 0) 52 1))] H := hP
  have hD : va_D A [(z 0, .inr (10, mo z 0 0 0 0 0 0 0 0 0 0 (-1) 0 0 0 0 0)), (z 1, aI V 3075 (upd (fun _ => 0) 52 1))] := hD
  exact fiV hx hb hr hlk hK hP hD hS dX10_goesNight_31 (Nat.le_of_ble_eq_true rfl) (Nat.le_of_ble_eq_true rfl) (rfl)
theorem dX10_notes_0 : decode cX10_notes 0 = .ok (.aload_n 0, 1) := by decide +kernel
theorem dX10_notes_1 : decode cX10_notes 1 = .ok (.getfield 13, 3) := by decide +kernel
theorem dX10_notes_4 : decode cX10_notes 4 = .ok (.bipush 53, 2) := by decide +kernel
theorem dX10_notes_6 : decode cX10_notes 6 = .ok (.iaload, 1) := by decide +kernel
theorem dX10_notes_7 : decode cX10_notes 7 = .ok (.bipush 10, 2) := by decide +kernel
theorem dX10_notes_9 : decode cX10_notes 9 = .ok (.if_icmp .ne 46, 3) := by decide +kernel
theorem dX10_notes_55 : decode cX10_notes 55 = .ok (.iconst 0, 1) := by decide +kernel
theorem dX10_notes_56 : decode cX10_notes 56 = .ok (.istore_n 1, 1) := by decide +kernel
theorem dX10_notes_57 : decode cX10_notes 57 = .ok (.iload_n 1, 1) := by decide +kernel
theorem dX10_notes_58 : decode cX10_notes 58 = .ok (.bipush 7, 2) := by decide +kernel
theorem dX10_notes_60 : decode cX10_notes 60 = .ok (.if_icmp .ge 35, 3) := by decide +kernel
theorem dX10_notes_63 : decode cX10_notes 63 = .ok (.aload_n 0, 1) := by decide +kernel
theorem dX10_notes_64 : decode cX10_notes 64 = .ok (.getfield 13, 3) := by decide +kernel
theorem dX10_notes_67 : decode cX10_notes 67 = .ok (.bipush 54, 2) := by decide +kernel
theorem dX10_notes_69 : decode cX10_notes 69 = .ok (.bipush 7, 2) := by decide +kernel
theorem dX10_notes_71 : decode cX10_notes 71 = .ok (.aload_n 0, 1) := by decide +kernel
theorem dX10_notes_72 : decode cX10_notes 72 = .ok (.getfield 13, 3) := by decide +kernel
theorem dX10_notes_75 : decode cX10_notes 75 = .ok (.bipush 53, 2) := by decide +kernel
theorem dX10_notes_77 : decode cX10_notes 77 = .ok (.iaload, 1) := by decide +kernel
theorem dX10_notes_78 : decode cX10_notes 78 = .ok (.imul, 1) := by decide +kernel
theorem dX10_notes_79 : decode cX10_notes 79 = .ok (.iadd, 1) := by decide +kernel
theorem dX10_notes_80 : decode cX10_notes 80 = .ok (.iload_n 1, 1) := by decide +kernel
theorem dX10_notes_81 : decode cX10_notes 81 = .ok (.iadd, 1) := by decide +kernel
theorem dX10_notes_82 : decode cX10_notes 82 = .ok (.aload_n 0, 1) := by decide +kernel
theorem dX10_notes_83 : decode cX10_notes 83 = .ok (.getfield 36, 3) := by decide +kernel
theorem dX10_notes_86 : decode cX10_notes 86 = .ok (.iload_n 1, 1) := by decide +kernel
theorem dX10_notes_87 : decode cX10_notes 87 = .ok (.iaload, 1) := by decide +kernel
theorem dX10_notes_88 : decode cX10_notes 88 = .ok (.iastore, 1) := by decide +kernel
theorem dX10_notes_89 : decode cX10_notes 89 = .ok (.iinc 1 1, 3) := by decide +kernel
theorem dX10_notes_92 : decode cX10_notes 92 = .ok (.goto (-35), 3) := by decide +kernel
theorem dX10_notes_95 : decode cX10_notes 95 = .ok (.aload_n 0, 1) := by decide +kernel
theorem dX10_notes_96 : decode cX10_notes 96 = .ok (.getfield 13, 3) := by decide +kernel
theorem dX10_notes_99 : decode cX10_notes 99 = .ok (.bipush 53, 2) := by decide +kernel
theorem dX10_notes_101 : decode cX10_notes 101 = .ok (.dup2, 1) := by decide +kernel
theorem dX10_notes_102 : decode cX10_notes 102 = .ok (.iaload, 1) := by decide +kernel
theorem dX10_notes_103 : decode cX10_notes 103 = .ok (.iconst 1, 1) := by decide +kernel
theorem dX10_notes_104 : decode cX10_notes 104 = .ok (.iadd, 1) := by decide +kernel
theorem dX10_notes_105 : decode cX10_notes 105 = .ok (.iastore, 1) := by decide +kernel
theorem dX10_notes_106 : decode cX10_notes 106 = .ok (.return_, 1) := by decide +kernel
set_option maxHeartbeats 4000000 in
set_option maxRecDepth 100000 in
theorem c_X10_notes_0 (l : Launch) (V : GV) (z : Nat → Nat) : Ct l V yX10_notes (.code yX10_notes cX10_notes 2 none) 1 [.ref (z 0)] [(z 17, aI V 7 (fun _ => 0)), (z 0, .inr (10, mo z 0 0 0 0 0 0 0 0 0 0 (-1) 0 0 0 0 0)), (z 1, aI V 3075 (upd (fun _ => 0) 52 1))] 0 0 (QV V (fun (w : va_W) => (w = [(z 17, aI V 7 (fun _ => 0)), (z 0, .inr (10, mo z 0 0 0 0 0 0 0 0 0 0 (-1) 0 0 0 0 0)), (z 1, aI V 3075 (upd (upd (fun _ => 0) 52 1) 53 1))]))) := by
  refine Ct.of (by decide) (Nat.le_of_ble_eq_true rfl) (fun p e s m below meth c A ls hx hb hr hml hown hlk hnm hg hP hK hD hE hA hS hl => ?_)
  have hl : lv_has ls 2 [(0, .ref (z 0))] := hl
  refine lv_aload_n hx hb dX10_notes_0 rfl (lv_at hl 0 rfl) ?_
  refine va_get (ci := 10) (v := .ref (z 1)) (C := RX10) (T := TX10) (N := 40) hx hb hg inX10 hown hK hP 1 rfl rfl 1 (by decide) (hg _ q_5_225) (fun _ h9 => h9) rfl dX10_notes_1 ?_
  refine lv_bipush (v := 53) hx hb dX10_notes_4 (by decide) ?_
  refine va_iald hx hb hK hP 2 0 rfl rfl (vin (by decide +kernel)) dX10_notes_6 ?_
  refine tpi (y := 0) (rfl) ?_
  refine lv_bipush (v := 10) hx hb dX10_notes_7 (by decide) ?_
  refine lv_icmp_ne (tgt := 55) hx hb dX10_notes_9 (by decide) (fun _ => ?_) (fun c_1 => absurd c_1 (by decide))
  refine lv_iconst (v := 0) hx hb dX10_notes_55 (by decide) ?_
  refine lv_istore_n (lv' := [(1, .int 0), (0, .ref (z 0))]) hx hb dX10_notes_56 rfl hl (by decide) rfl (fun ls hl => ?_)
  refine lv_iload_n hx hb dX10_notes_57 rfl (lv_at hl 0 rfl) ?_
  refine lv_bipush (v := 7) hx hb dX10_notes_58 (by decide) ?_
  refine lv_icmp_ge (tgt := 95) hx hb dX10_notes_60 (by decide) (fun c_2 => absurd c_2 (by decide)) (fun _ => ?_)
  refine lv_aload_n hx hb dX10_notes_63 rfl (lv_at hl 1 rfl) ?_
  refine va_get (ci := 10) (v := .ref (z 1)) (C := RX10) (T := TX10) (N := 40) hx hb hg inX10 hown hK hP 1 rfl rfl 1 (by decide) (hg _ q_5_225) (fun _ h9 => h9) rfl dX10_notes_64 ?_
  refine lv_bipush (v := 54) hx hb dX10_notes_67 (by decide) ?_
  refine lv_bipush (v := 7) hx hb dX10_notes_69 (by decide) ?_
  refine lv_aload_n hx hb dX10_notes_71 rfl (lv_at hl 1 rfl) ?_
  refine va_get (ci := 10) (v := .ref (z 1)) (C := RX10) (T := TX10) (N := 40) hx hb hg inX10 hown hK hP 1 rfl rfl 1 (by decide) (hg _ q_5_225) (fun _ h9 => h9) rfl dX10_notes_72 ?_
  refine lv_bipush (v := 53) hx hb dX10_notes_75 (by decide) ?_
  refine va_iald hx hb hK hP 2 0 rfl rfl (vin (by decide +kernel)) dX10_notes_77 ?_
  refine tpi (y := 0) (rfl) ?_
  refine lv_imul hx hb dX10_notes_78 ?_
  refine tpi (y := 0) (by decide +kernel) ?_
  refine lv_iadd hx hb dX10_notes_79 ?_
  refine tpi (y := 54) (by decide +kernel) ?_
  refine lv_iload_n hx hb dX10_notes_80 rfl (lv_at hl 0 rfl) ?_
  refine lv_iadd hx hb dX10_notes_81 ?_
  refine tpi (y := 54) (by decide +kernel) ?_
  refine lv_aload_n hx hb dX10_notes_82 rfl (lv_at hl 1 rfl) ?_
  refine va_get (ci := 10) (v := .ref (z 17)) (C := RX10) (T := TX10) (N := 40) hx hb hg inX10 hown hK hP 1 rfl rfl 17 (by decide) (hg _ q_6_1) (fun _ h9 => h9) rfl dX10_notes_83 ?_
  refine lv_iload_n hx hb dX10_notes_86 rfl (lv_at hl 0 rfl) ?_
  refine va_iald hx hb hK hP 0 0 rfl rfl (vin (by decide +kernel)) dX10_notes_87 ?_
  refine tpi (y := 0) (rfl) ?_
  refine va_iast hx hb hK hP hD hS 2 0 rfl rfl (vin (by decide +kernel)) dX10_notes_88 (fun H locs hP hD hS => ?_)
  have hP : va_P V.1 vwCl [(z 17, aI V 7 (fun _ => 0)), (z 0, .inr (10, mo z 0 0 0 0 0 0 0 0 0 0 (-1) 0 0 0 0 0)), (z 1, aI V 3075 (upd (upd (fun _ => 0) 52 1) 54 0))] H := hP
  have hD : va_D A [(z 17, aI V 7 (fun _ => 0)), (z 0, .inr (10, mo z 0 0 0 0 0 0 0 0 0 0 (-1) 0 0 0 0 0)), (z 1, aI V 3075 (upd (upd (fun _ => 0) 52 1) 54 0))] := hD
  have hP : va_P V.1 vwCl [(z 17, aI V 7 (fun _ => 0)), (z 0, .inr (10, mo z 0 0 0 0 0 0 0 0 0 0 (-1) 0 0 0 0 0)), (z 1, aI V 3075 (upd (fun _ => 0) 52 1))] H := by rw [updid (k := 54) (v := 0) rfl] at hP; exact hP
  have hD : va_D A [(z 17, aI V 7 (fun _ => 0)), (z 0, .inr (10, mo z 0 0 0 0 0 0 0 0 0 0 (-1) 0 0 0 0 0)), (z 1, aI V 3075 (upd (fun _ => 0) 52 1))] := by rw [updid (k := 54) (v := 0) rfl] at hD; exact hD
  refine lv_iinc (v := 1) (lv' := [(1, .int 1), (0, .ref (z 0))]) hx hb dX10_notes_89 hl (k := 0) rfl (by decide +kernel) (by decide) rfl (fun ls hl => ?_)
  refine lv_goto (tgt := 57) hx hb dX10_notes_92 (by decide) ?_
  refine lv_iload_n hx hb dX10_notes_57 rfl (lv_at hl 0 rfl) ?_
  refine lv_bipush (v := 7) hx hb dX10_notes_58 (by decide) ?_
  refine lv_icmp_ge (tgt := 95) hx hb dX10_notes_60 (by decide) (fun c_3 => absurd c_3 (by decide)) (fun _ => ?_)
  refine lv_aload_n hx hb dX10_notes_63 rfl (lv_at hl 1 rfl) ?_
  refine va_get (ci := 10) (v := .ref (z 1)) (C := RX10) (T := TX10) (N := 40) hx hb hg inX10 hown hK hP 1 rfl rfl 1 (by decide) (hg _ q_5_225) (fun _ h9 => h9) rfl dX10_notes_64 ?_
  refine lv_bipush (v := 54) hx hb dX10_notes_67 (by decide) ?_
  refine lv_bipush (v := 7) hx hb dX10_notes_69 (by decide) ?_
  refine lv_aload_n hx hb dX10_notes_71 rfl (lv_at hl 1 rfl) ?_
  refine va_get (ci := 10) (v := .ref (z 1)) (C := RX10) (T := TX10) (N := 40) hx hb hg inX10 hown hK hP 1 rfl rfl 1 (by decide) (hg _ q_5_225) (fun _ h9 => h9) rfl dX10_notes_72 ?_
  refine lv_bipush (v := 53) hx hb dX10_notes_75 (by decide) ?_
  refine va_iald hx hb hK hP 2 0 rfl rfl (vin (by decide +kernel)) dX10_notes_77 ?_
  refine tpi (y := 0) (rfl) ?_
  refine lv_imul hx hb dX10_notes_78 ?_
  refine tpi (y := 0) (by decide +kernel) ?_
  refine lv_iadd hx hb dX10_notes_79 ?_
  refine tpi (y := 54) (by decide +kernel) ?_
  refine lv_iload_n hx hb dX10_notes_80 rfl (lv_at hl 0 rfl) ?_
  refine lv_iadd hx hb dX10_notes_81 ?_
  refine tpi (y := 55) (by decide +kernel) ?_
  refine lv_aload_n hx hb dX10_notes_82 rfl (lv_at hl 1 rfl) ?_
  refine va_get (ci := 10) (v := .ref (z 17)) (C := RX10) (T := TX10) (N := 40) hx hb hg inX10 hown hK hP 1 rfl rfl 17 (by decide) (hg _ q_6_1) (fun _ h9 => h9) rfl dX10_notes_83 ?_
  refine lv_iload_n hx hb dX10_notes_86 rfl (lv_at hl 0 rfl) ?_
  refine va_iald hx hb hK hP 0 0 rfl rfl (vin (by decide +kernel)) dX10_notes_87 ?_
  refine tpi (y := 0) (rfl) ?_
  refine va_iast hx hb hK hP hD hS 2 0 rfl rfl (vin (by decide +kernel)) dX10_notes_88 (fun H locs hP hD hS => ?_)
  have hP : va_P V.1 vwCl [(z 17, aI V 7 (fun _ => 0)), (z 0, .inr (10, mo z 0 0 0 0 0 0 0 0 0 0 (-1) 0 0 0 0 0)), (z 1, aI V 3075 (upd (upd (fun _ => 0) 52 1) 55 0))] H := hP
  have hD : va_D A [(z 17, aI V 7 (fun _ => 0)), (z 0, .inr (10, mo z 0 0 0 0 0 0 0 0 0 0 (-1) 0 0 0 0 0)), (z 1, aI V 3075 (upd (upd (fun _ => 0) 52 1) 55 0))] := hD
  have hP : va_P V.1 vwCl [(z 17, aI V 7 (fun _ => 0)), (z 0, .inr (10, mo z 0 0 0 0 0 0 0 0 0 0 (-1) 0 0 0 0 0)), (z 1, aI V 3075 (upd (fun _ => 0) 52 1))] H := by rw [updid (k := 55) (v := 0) rfl] at hP; exact hP
  have hD : va_D A [(z 17, aI V 7 (fun _ => 0)), (z 0, .inr (10, mo z 0 0 0 0 0 0 0 0 0 0 (-1) 0 0 0 0 0)), (z 1, aI V 3075 (upd (fun _ => 0) 52 1))] := by rw [updid (k := 55) (v := 0) rfl] at hD; exact hD
  refine lv_iinc (v := 2) (lv' := [(1, .int 2), (0, .ref (z 0))]) hx hb dX10_notes_89 hl (k := 0) rfl (by decide +kernel) (by decide) rfl (fun ls hl => ?_)
  refine lv_goto (tgt := 57) hx hb dX10_notes_92 (by decide) ?_
  refine lv_iload_n hx hb dX10_notes_57 rfl (lv_at hl 0 rfl) ?_
  refine lv_bipush (v := 7) hx hb dX10_notes_58 (by decide) ?_
  refine lv_icmp_ge (tgt := 95) hx hb dX10_notes_60 (by decide) (fun c_4 => absurd c_4 (by decide)) (fun _ => ?_)
  refine lv_aload_n hx hb dX10_notes_63 rfl (lv_at hl 1 rfl) ?_
  refine va_get (ci := 10) (v := .ref (z 1)) (C := RX10) (T := TX10) (N := 40) hx hb hg inX10 hown hK hP 1 rfl rfl 1 (by decide) (hg _ q_5_225) (fun _ h9 => h9) rfl dX10_notes_64 ?_
  refine lv_bipush (v := 54) hx hb dX10_notes_67 (by decide) ?_
  refine lv_bipush (v := 7) hx hb dX10_notes_69 (by decide) ?_
  refine lv_aload_n hx hb dX10_notes_71 rfl (lv_at hl 1 rfl) ?_
  refine va_get (ci := 10) (v := .ref (z 1)) (C := RX10) (T := TX10) (N := 40) hx hb hg inX10 hown hK hP 1 rfl rfl 1 (by decide) (hg _ q_5_225) (fun _ h9 => h9) rfl dX10_notes_72 ?_
  refine lv_bipush (v := 53) hx hb dX10_notes_75 (by decide) ?_
  refine va_iald hx hb hK hP 2 0 rfl rfl (vin (by decide +kernel)) dX10_notes_77 ?_
  refine tpi (y := 0) (rfl) ?_
  refine lv_imul hx hb dX10_notes_78 ?_
  refine tpi (y := 0) (by decide +kernel) ?_
  refine lv_iadd hx hb dX10_notes_79 ?_
  refine tpi (y := 54) (by decide +kernel) ?_
  refine lv_iload_n hx hb dX10_notes_80 rfl (lv_at hl 0 rfl) ?_
  refine lv_iadd hx hb dX10_notes_81 ?_
  refine tpi (y := 56) (by decide +kernel) ?_
  refine lv_aload_n hx hb dX10_notes_82 rfl (lv_at hl 1 rfl) ?_
  refine va_get (ci := 10) (v := .ref (z 17)) (C := RX10) (T := TX10) (N := 40) hx hb hg inX10 hown hK hP 1 rfl rfl 17 (by decide) (hg _ q_6_1) (fun _ h9 => h9) rfl dX10_notes_83 ?_
  refine lv_iload_n hx hb dX10_notes_86 rfl (lv_at hl 0 rfl) ?_
  refine va_iald hx hb hK hP 0 0 rfl rfl (vin (by decide +kernel)) dX10_notes_87 ?_
  refine tpi (y := 0) (rfl) ?_
  refine va_iast hx hb hK hP hD hS 2 0 rfl rfl (vin (by decide +kernel)) dX10_notes_88 (fun H locs hP hD hS => ?_)
  have hP : va_P V.1 vwCl [(z 17, aI V 7 (fun _ => 0)), (z 0, .inr (10, mo z 0 0 0 0 0 0 0 0 0 0 (-1) 0 0 0 0 0)), (z 1, aI V 3075 (upd (upd (fun _ => 0) 52 1) 56 0))] H := hP
  have hD : va_D A [(z 17, aI V 7 (fun _ => 0)), (z 0, .inr (10, mo z 0 0 0 0 0 0 0 0 0 0 (-1) 0 0 0 0 0)), (z 1, aI V 3075 (upd (upd (fun _ => 0) 52 1) 56 0))] := hD
  have hP : va_P V.1 vwCl [(z 17, aI V 7 (fun _ => 0)), (z 0, .inr (10, mo z 0 0 0 0 0 0 0 0 0 0 (-1) 0 0 0 0 0)), (z 1, aI V 3075 (upd (fun _ => 0) 52 1))] H := by rw [updid (k := 56) (v := 0) rfl] at hP; exact hP
  have hD : va_D A [(z 17, aI V 7 (fun _ => 0)), (z 0, .inr (10, mo z 0 0 0 0 0 0 0 0 0 0 (-1) 0 0 0 0 0)), (z 1, aI V 3075 (upd (fun _ => 0) 52 1))] := by rw [updid (k := 56) (v := 0) rfl] at hD; exact hD
  refine lv_iinc (v := 3) (lv' := [(1, .int 3), (0, .ref (z 0))]) hx hb dX10_notes_89 hl (k := 0) rfl (by decide +kernel) (by decide) rfl (fun ls hl => ?_)
  refine lv_goto (tgt := 57) hx hb dX10_notes_92 (by decide) ?_
  refine lv_iload_n hx hb dX10_notes_57 rfl (lv_at hl 0 rfl) ?_
  refine lv_bipush (v := 7) hx hb dX10_notes_58 (by decide) ?_
  refine lv_icmp_ge (tgt := 95) hx hb dX10_notes_60 (by decide) (fun c_5 => absurd c_5 (by decide)) (fun _ => ?_)
  refine lv_aload_n hx hb dX10_notes_63 rfl (lv_at hl 1 rfl) ?_
  refine va_get (ci := 10) (v := .ref (z 1)) (C := RX10) (T := TX10) (N := 40) hx hb hg inX10 hown hK hP 1 rfl rfl 1 (by decide) (hg _ q_5_225) (fun _ h9 => h9) rfl dX10_notes_64 ?_
  refine lv_bipush (v := 54) hx hb dX10_notes_67 (by decide) ?_
  refine lv_bipush (v := 7) hx hb dX10_notes_69 (by decide) ?_
  refine lv_aload_n hx hb dX10_notes_71 rfl (lv_at hl 1 rfl) ?_
  refine va_get (ci := 10) (v := .ref (z 1)) (C := RX10) (T := TX10) (N := 40) hx hb hg inX10 hown hK hP 1 rfl rfl 1 (by decide) (hg _ q_5_225) (fun _ h9 => h9) rfl dX10_notes_72 ?_
  refine lv_bipush (v := 53) hx hb dX10_notes_75 (by decide) ?_
  refine va_iald hx hb hK hP 2 0 rfl rfl (vin (by decide +kernel)) dX10_notes_77 ?_
  refine tpi (y := 0) (rfl) ?_
  refine lv_imul hx hb dX10_notes_78 ?_
  refine tpi (y := 0) (by decide +kernel) ?_
  refine lv_iadd hx hb dX10_notes_79 ?_
  refine tpi (y := 54) (by decide +kernel) ?_
  refine lv_iload_n hx hb dX10_notes_80 rfl (lv_at hl 0 rfl) ?_
  refine lv_iadd hx hb dX10_notes_81 ?_
  refine tpi (y := 57) (by decide +kernel) ?_
  refine lv_aload_n hx hb dX10_notes_82 rfl (lv_at hl 1 rfl) ?_
  refine va_get (ci := 10) (v := .ref (z 17)) (C := RX10) (T := TX10) (N := 40) hx hb hg inX10 hown hK hP 1 rfl rfl 17 (by decide) (hg _ q_6_1) (fun _ h9 => h9) rfl dX10_notes_83 ?_
  refine lv_iload_n hx hb dX10_notes_86 rfl (lv_at hl 0 rfl) ?_
  refine va_iald hx hb hK hP 0 0 rfl rfl (vin (by decide +kernel)) dX10_notes_87 ?_
  refine tpi (y := 0) (rfl) ?_
  refine va_iast hx hb hK hP hD hS 2 0 rfl rfl (vin (by decide +kernel)) dX10_notes_88 (fun H locs hP hD hS => ?_)
  have hP : va_P V.1 vwCl [(z 17, aI V 7 (fun _ => 0)), (z 0, .inr (10, mo z 0 0 0 0 0 0 0 0 0 0 (-1) 0 0 0 0 0)), (z 1, aI V 3075 (upd (upd (fun _ => 0) 52 1) 57 0))] H := hP
  have hD : va_D A [(z 17, aI V 7 (fun _ => 0)), (z 0, .inr (10, mo z 0 0 0 0 0 0 0 0 0 0 (-1) 0 0 0 0 0)), (z 1, aI V 3075 (upd (upd (fun _ => 0) 52 1) 57 0))] := hD
  have hP : va_P V.1 vwCl [(z 17, aI V 7 (fun _ => 0)), (z 0, .inr (10, mo z 0 0 0 0 0 0 0 0 0 0 (-1) 0 0 0 0 0)), (z 1, aI V 3075 (upd (fun _ => 0) 52 1))] H := by rw [updid (k := 57) (v := 0) rfl] at hP; exact hP
  have hD : va_D A [(z 17, aI V 7 (fun _ => 0)), (z 0, .inr (10, mo z 0 0 0 0 0 0 0 0 0 0 (-1) 0 0 0 0 0)), (z 1, aI V 3075 (upd (fun _ => 0) 52 1))] := by rw [updid (k := 57) (v := 0) rfl] at hD; exact hD
  refine lv_iinc (v := 4) (lv' := [(1, .int 4), (0, .ref (z 0))]) hx hb dX10_notes_89 hl (k := 0) rfl (by decide +kernel) (by decide) rfl (fun ls hl => ?_)
  refine lv_goto (tgt := 57) hx hb dX10_notes_92 (by decide) ?_
  refine lv_iload_n hx hb dX10_notes_57 rfl (lv_at hl 0 rfl) ?_
  refine lv_bipush (v := 7) hx hb dX10_notes_58 (by decide) ?_
  refine lv_icmp_ge (tgt := 95) hx hb dX10_notes_60 (by decide) (fun c_6 => absurd c_6 (by decide)) (fun _ => ?_)
  refine lv_aload_n hx hb dX10_notes_63 rfl (lv_at hl 1 rfl) ?_
  refine va_get (ci := 10) (v := .ref (z 1)) (C := RX10) (T := TX10) (N := 40) hx hb hg inX10 hown hK hP 1 rfl rfl 1 (by decide) (hg _ q_5_225) (fun _ h9 => h9) rfl dX10_notes_64 ?_
  refine lv_bipush (v := 54) hx hb dX10_notes_67 (by decide) ?_
  refine lv_bipush (v := 7) hx hb dX10_notes_69 (by decide) ?_
  refine lv_aload_n hx hb dX10_notes_71 rfl (lv_at hl 1 rfl) ?_
  refine va_get (ci := 10) (v := .ref (z 1)) (C := RX10) (T := TX10) (N := 40) hx hb hg inX10 hown hK hP 1 rfl rfl 1 (by decide) (hg _ q_5_225) (fun _ h9 => h9) rfl dX10_notes_72 ?_
  refine lv_bipush (v := 53) hx hb dX10_notes_75 (by decide) ?_
  refine va_iald hx hb hK hP 2 0 rfl rfl (vin (by decide +kernel)) dX10_notes_77 ?_
  refine tpi (y := 0) (rfl) ?_
  refine lv_imul hx hb dX10_notes_78 ?_
  refine tpi (y := 0) (by decide +kernel) ?_
  refine lv_iadd hx hb dX10_notes_79 ?_
  refine tpi (y := 54) (by decide +kernel) ?_
  refine lv_iload_n hx hb dX10_notes_80 rfl (lv_at hl 0 rfl) ?_
  refine lv_iadd hx hb dX10_notes_81 ?_
  refine tpi (y := 58) (by decide +kernel) ?_
  refine lv_aload_n hx hb dX10_notes_82 rfl (lv_at hl 1 rfl) ?_
  refine va_get (ci := 10) (v := .ref (z 17)) (C := RX10) (T := TX10) (N := 40) hx hb hg inX10 hown hK hP 1 rfl rfl 17 (by decide) (hg _ q_6_1) (fun _ h9 => h9) rfl dX10_notes_83 ?_
  refine lv_iload_n hx hb dX10_notes_86 rfl (lv_at hl 0 rfl) ?_
  refine va_iald hx hb hK hP 0 0 rfl rfl (vin (by decide +kernel)) dX10_notes_87 ?_
  refine tpi (y := 0) (rfl) ?_
  refine va_iast hx hb hK hP hD hS 2 0 rfl rfl (vin (by decide +kernel)) dX10_notes_88 (fun H locs hP hD hS => ?_)
  have hP : va_P V.1 vwCl [(z 17, aI V 7 (fun _ => 0)), (z 0, .inr (10, mo z 0 0 0 0 0 0 0 0 0 0 (-1) 0 0 0 0 0)), (z 1, aI V 3075 (upd (upd (fun _ => 0) 52 1) 58 0))] H := hP
  have hD : va_D A [(z 17, aI V 7 (fun _ => 0)), (z 0, .inr (10, mo z 0 0 0 0 0 0 0 0 0 0 (-1) 0 0 0 0 0)), (z 1, aI V 3075 (upd (upd (fun _ => 0) 52 1) 58 0))] := hD
  have hP : va_P V.1 vwCl [(z 17, aI V 7 (fun _ => 0)), (z 0, .inr (10, mo z 0 0 0 0 0 0 0 0 0 0 (-1) 0 0 0 0 0)), (z 1, aI V 3075 (upd (fun _ => 0) 52 1))] H := by rw [updid (k := 58) (v := 0) rfl] at hP; exact hP
  have hD : va_D A [(z 17, aI V 7 (fun _ => 0)), (z 0, .inr (10, mo z 0 0 0 0 0 0 0 0 0 0 (-1) 0 0 0 0 0)), (z 1, aI V 3075 (upd (fun _ => 0) 52 1))] := by rw [updid (k := 58) (v := 0) rfl] at hD; exact hD
  refine lv_iinc (v := 5) (lv' := [(1, .int 5), (0, .ref (z 0))]) hx hb dX10_notes_89 hl (k := 0) rfl (by decide +kernel) (by decide) rfl (fun ls hl => ?_)
  refine lv_goto (tgt := 57) hx hb dX10_notes_92 (by decide) ?_
  refine lv_iload_n hx hb dX10_notes_57 rfl (lv_at hl 0 rfl) ?_
  refine lv_bipush (v := 7) hx hb dX10_notes_58 (by decide) ?_
  refine lv_icmp_ge (tgt := 95) hx hb dX10_notes_60 (by decide) (fun c_7 => absurd c_7 (by decide)) (fun _ => ?_)
  refine lv_aload_n hx hb dX10_notes_63 rfl (lv_at hl 1 rfl) ?_
  refine va_get (ci := 10) (v := .ref (z 1)) (C := RX10) (T := TX10) (N := 40) hx hb hg inX10 hown hK hP 1 rfl rfl 1 (by decide) (hg _ q_5_225) (fun _ h9 => h9) rfl dX10_notes_64 ?_
  refine lv_bipush (v := 54) hx hb dX10_notes_67 (by decide) ?_
  refine lv_bipush (v := 7) hx hb dX10_notes_69 (by decide) ?_
  refine lv_aload_n hx hb dX10_notes_71 rfl (lv_at hl 1 rfl) ?_
  refine va_get (ci := 10) (v := .ref (z 1)) (C := RX10) (T := TX10) (N := 40) hx hb hg inX10 hown hK hP 1 rfl rfl 1 (by decide) (hg _ q_5_225) (fun _ h9 => h9) rfl dX10_notes_72 ?_
  refine lv_bipush (v := 53) hx hb dX10_notes_75 (by decide) ?_
  refine va_iald hx hb hK hP 2 0 rfl rfl (vin (by decide +kernel)) dX10_notes_77 ?_
  refine tpi (y := 0) (rfl) ?_
  refine lv_imul hx hb dX10_notes_78 ?_
  refine tpi (y := 0) (by decide +kernel) ?_
  refine lv_iadd hx hb dX10_notes_79 ?_
  refine tpi (y := 54) (by decide +kernel) ?_
  refine lv_iload_n hx hb dX10_notes_80 rfl (lv_at hl 0 rfl) ?_
  refine lv_iadd hx hb dX10_notes_81 ?_
  refine tpi (y := 59) (by decide +kernel) ?_
  refine lv_aload_n hx hb dX10_notes_82 rfl (lv_at hl 1 rfl) ?_
  refine va_get (ci := 10) (v := .ref (z 17)) (C := RX10) (T := TX10) (N := 40) hx hb hg inX10 hown hK hP 1 rfl rfl 17 (by decide) (hg _ q_6_1) (fun _ h9 => h9) rfl dX10_notes_83 ?_
  refine lv_iload_n hx hb dX10_notes_86 rfl (lv_at hl 0 rfl) ?_
  refine va_iald hx hb hK hP 0 0 rfl rfl (vin (by decide +kernel)) dX10_notes_87 ?_
  refine tpi (y := 0) (rfl) ?_
  refine va_iast hx hb hK hP hD hS 2 0 rfl rfl (vin (by decide +kernel)) dX10_notes_88 (fun H locs hP hD hS => ?_)
  have hP : va_P V.1 vwCl [(z 17, aI V 7 (fun _ => 0)), (z 0, .inr (10, mo z 0 0 0 0 0 0 0 0 0 0 (-1) 0 0 0 0 0)), (z 1, aI V 3075 (upd (upd (fun _ => 0) 52 1) 59 0))] H := hP
  have hD : va_D A [(z 17, aI V 7 (fun _ => 0)), (z 0, .inr (10, mo z 0 0 0 0 0 0 0 0 0 0 (-1) 0 0 0 0 0)), (z 1, aI V 3075 (upd (upd (fun _ => 0) 52 1) 59 0))] := hD
  have hP : va_P V.1 vwCl [(z 17, aI V 7 (fun _ => 0)), (z 0, .inr (10, mo z 0 0 0 0 0 0 0 0 0 0 (-1) 0 0 0 0 0)), (z 1, aI V 3075 (upd (fun _ => 0) 52 1))] H := by rw [updid (k := 59) (v := 0) rfl] at hP; exact hP
  have hD : va_D A [(z 17, aI V 7 (fun _ => 0)), (z 0, .inr (10, mo z 0 0 0 0 0 0 0 0 0 0 (-1) 0 0 0 0 0)), (z 1, aI V 3075 (upd (fun _ => 0) 52 1))] := by rw [updid (k := 59) (v := 0) rfl] at hD; exact hD
  refine lv_iinc (v := 6) (lv' := [(1, .int 6), (0, .ref (z 0))]) hx hb dX10_notes_89 hl (k := 0) rfl (by decide +kernel) (by decide) rfl (fun ls hl => ?_)
  refine lv_goto (tgt := 57) hx hb dX10_notes_92 (by decide) ?_
  refine lv_iload_n hx hb dX10_notes_57 rfl (lv_at hl 0 rfl) ?_
  refine lv_bipush (v := 7) hx hb dX10_notes_58 (by decide) ?_
  refine lv_icmp_ge (tgt := 95) hx hb dX10_notes_60 (by decide) (fun c_8 => absurd c_8 (by decide)) (fun _ => ?_)
  refine lv_aload_n hx hb dX10_notes_63 rfl (lv_at hl 1 rfl) ?_
  refine va_get (ci := 10) (v := .ref (z 1)) (C := RX10) (T := TX10) (N := 40) hx hb hg inX10 hown hK hP 1 rfl rfl 1 (by decide) (hg _ q_5_225) (fun _ h9 => h9) rfl dX10_notes_64 ?_
  refine lv_bipush (v := 54) hx hb dX10_notes_67 (by decide) ?_
  refine lv_bipush (v := 7) hx hb dX10_notes_69 (by decide) ?_
  refine lv_aload_n hx hb dX10_notes_71 rfl (lv_at hl 1 rfl) ?_
  refine va_get (ci := 10) (v := .ref (z 1)) (C := RX10) (T := TX10) (N := 40) hx hb hg inX10 hown hK hP 1 rfl rfl 1 (by decide) (hg _ q_5_225) (fun _ h9 => h9) rfl dX10_notes_72 ?_
  refine lv_bipush (v := 53) hx hb dX10_notes_75 (by decide) ?_
  refine va_iald hx hb hK hP 2 0 rfl rfl (vin (by decide +kernel)) dX10_notes_77 ?_
  refine tpi (y := 0) (rfl) ?_
  refine lv_imul hx hb dX10_notes_78 ?_
  refine tpi (y := 0) (by decide +kernel) ?_
  refine lv_iadd hx hb dX10_notes_79 ?_
  refine tpi (y := 54) (by decide +kernel) ?_
  refine lv_iload_n hx hb dX10_notes_80 rfl (lv_at hl 0 rfl) ?_
  refine lv_iadd hx hb dX10_notes_81 ?_
  refine tpi (y := 60) (by decide +kernel) ?_
  refine lv_aload_n hx hb dX10_notes_82 rfl (lv_at hl 1 rfl) ?_
  refine va_get (ci := 10) (v := .ref (z 17)) (C := RX10) (T := TX10) (N := 40) hx hb hg inX10 hown hK hP 1 rfl rfl 17 (by decide) (hg _ q_6_1) (fun _ h9 => h9) rfl dX10_notes_83 ?_
  refine lv_iload_n hx hb dX10_notes_86 rfl (lv_at hl 0 rfl) ?_
  refine va_iald hx hb hK hP 0 0 rfl rfl (vin (by decide +kernel)) dX10_notes_87 ?_
  refine tpi (y := 0) (rfl) ?_
  refine va_iast hx hb hK hP hD hS 2 0 rfl rfl (vin (by decide +kernel)) dX10_notes_88 (fun H locs hP hD hS => ?_)
  have hP : va_P V.1 vwCl [(z 17, aI V 7 (fun _ => 0)), (z 0, .inr (10, mo z 0 0 0 0 0 0 0 0 0 0 (-1) 0 0 0 0 0)), (z 1, aI V 3075 (upd (upd (fun _ => 0) 52 1) 60 0))] H := hP
  have hD : va_D A [(z 17, aI V 7 (fun _ => 0)), (z 0, .inr (10, mo z 0 0 0 0 0 0 0 0 0 0 (-1) 0 0 0 0 0)), (z 1, aI V 3075 (upd (upd (fun _ => 0) 52 1) 60 0))] := hD
  have hP : va_P V.1 vwCl [(z 17, aI V 7 (fun _ => 0)), (z 0, .inr (10, mo z 0 0 0 0 0 0 0 0 0 0 (-1) 0 0 0 0 0)), (z 1, aI V 3075 (upd (fun _ => 0) 52 1))] H := by rw [updid (k := 60) (v := 0) rfl] at hP; exact hP
  have hD : va_D A [(z 17, aI V 7 (fun _ => 0)), (z 0, .inr (10, mo z 0 0 0 0 0 0 0 0 0 0 (-1) 0 0 0 0 0)), (z 1, aI V 3075 (upd (fun _ => 0) 52 1))] := by rw [updid (k := 60) (v := 0) rfl] at hD; exact hD
  refine lv_iinc (v := 7) (lv' := [(1, .int 7), (0, .ref (z 0))]) hx hb dX10_notes_89 hl (k := 0) rfl (by decide +kernel) (by decide) rfl (fun ls hl => ?_)
  refine lv_goto (tgt := 57) hx hb dX10_notes_92 (by decide) ?_
  refine lv_iload_n hx hb dX10_notes_57 rfl (lv_at hl 0 rfl) ?_
  refine lv_bipush (v := 7) hx hb dX10_notes_58 (by decide) ?_
  refine lv_icmp_ge (tgt := 95) hx hb dX10_notes_60 (by decide) (fun _ => ?_) (fun c_9 => absurd c_9 (by decide))
  refine lv_aload_n hx hb dX10_notes_95 rfl (lv_at hl 1 rfl) ?_
  refine va_get (ci := 10) (v := .ref (z 1)) (C := RX10) (T := TX10) (N := 40) hx hb hg inX10 hown hK hP 1 rfl rfl 1 (by decide) (hg _ q_5_225) (fun _ h9 => h9) rfl dX10_notes_96 ?_
  refine lv_bipush (v := 53) hx hb dX10_notes_99 (by decide) ?_
  refine lv_dup2_11 hx hb dX10_notes_101 rfl rfl ?_
  refine va_iald hx hb hK hP 2 0 rfl rfl (vin (by decide +kernel)) dX10_notes_102 ?_
  refine tpi (y := 0) (rfl) ?_
  refine lv_iconst (v := 1) hx hb dX10_notes_103 (by decide) ?_
  refine lv_iadd hx hb dX10_notes_104 ?_
  refine tpi (y := 1) (by decide +kernel) ?_
  refine va_iast hx hb hK hP hD hS 2 0 rfl rfl (vin (by decide +kernel)) dX10_notes_105 (fun H locs hP hD hS => ?_)
  have hP : va_P V.1 vwCl [(z 17, aI V 7 (fun _ => 0)), (z 0, .inr (10, mo z 0 0 0 0 0 0 0 0 0 0 (-1) 0 0 0 0 0)), (z 1, aI V 3075 (upd (upd (fun _ => 0) 52 1) 53 1))] H := hP
  have hD : va_D A [(z 17, aI V 7 (fun _ => 0)), (z 0, .inr (10, mo z 0 0 0 0 0 0 0 0 0 0 (-1) 0 0 0 0 0)), (z 1, aI V 3075 (upd (upd (fun _ => 0) 52 1) 53 1))] := hD
  exact fiV hx hb hr hlk hK hP hD hS dX10_notes_106 (Nat.le_of_ble_eq_true rfl) (Nat.le_of_ble_eq_true rfl) (rfl)
