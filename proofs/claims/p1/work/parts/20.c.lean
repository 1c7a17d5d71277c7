theorem dX10_century_0 : decode cX10_century 0 = .ok (.aload_n 0, 1) := by decide +kernel
theorem dX10_century_1 : decode cX10_century 1 = .ok (.iconst 0, 1) := by decide +kernel
theorem dX10_century_2 : decode cX10_century 2 = .ok (.putfield 1, 3) := by decide +kernel
theorem dX10_century_5 : decode cX10_century 5 = .ok (.iload_n 2, 1) := by decide +kernel
theorem dX10_century_6 : decode cX10_century 6 = .ok (.i2l, 1) := by decide +kernel
theorem dX10_century_7 : decode cX10_century 7 = .ok (.lconst 1, 1) := by decide +kernel
theorem dX10_century_8 : decode cX10_century 8 = .ok (.ldc2_w 336, 3) := by decide +kernel
theorem dX10_century_11 : decode cX10_century 11 = .ok (.invokestatic 159, 3) := by decide +kernel
theorem dX10_century_14 : decode cX10_century 14 = .ok (.ifCond .ne 6, 3) := by decide +kernel
theorem dX10_century_17 : decode cX10_century 17 = .ok (.bipush (-3), 2) := by decide +kernel
theorem dX10_century_19 : decode cX10_century 19 = .ok (.ireturn, 1) := by decide +kernel
theorem dX10_century_20 : decode cX10_century 20 = .ok (.aload_n 0, 1) := by decide +kernel
theorem dX10_century_21 : decode cX10_century 21 = .ok (.invokevirtual 278, 3) := by decide +kernel
theorem dX10_century_24 : decode cX10_century 24 = .ok (.aload_n 0, 1) := by decide +kernel
theorem dX10_century_25 : decode cX10_century 25 = .ok (.iload_n 1, 1) := by decide +kernel
theorem dX10_century_26 : decode cX10_century 26 = .ok (.putfield 330, 3) := by decide +kernel
theorem dX10_century_29 : decode cX10_century 29 = .ok (.iconst 0, 1) := by decide +kernel
theorem dX10_century_30 : decode cX10_century 30 = .ok (.istore_n 3, 1) := by decide +kernel
theorem dX10_century_31 : decode cX10_century 31 = .ok (.iconst 0, 1) := by decide +kernel
theorem dX10_century_32 : decode cX10_century 32 = .ok (.istore 4, 2) := by decide +kernel
theorem dX10_century_34 : decode cX10_century 34 = .ok (.iload 4, 2) := by decide +kernel
theorem dX10_century_36 : decode cX10_century 36 = .ok (.iload_n 2, 1) := by decide +kernel
theorem dX10_century_37 : decode cX10_century 37 = .ok (.if_icmp .ge 37, 3) := by decide +kernel
theorem dX10_century_74 : decode cX10_century 74 = .ok (.iload_n 3, 1) := by decide +kernel
theorem dX10_century_75 : decode cX10_century 75 = .ok (.ifCond .le 7, 3) := by decide +kernel
theorem dX10_century_82 : decode cX10_century 82 = .ok (.iload_n 3, 1) := by decide +kernel
theorem dX10_century_83 : decode cX10_century 83 = .ok (.ireturn, 1) := by decide +kernel
theorem dX10_century_78 : decode cX10_century 78 = .ok (.aload_n 0, 1) := by decide +kernel
theorem dX10_century_79 : decode cX10_century 79 = .ok (.invokevirtual 284, 3) := by decide +kernel
theorem dX10_century_40 : decode cX10_century 40 = .ok (.aload_n 0, 1) := by decide +kernel
theorem q_7_147 : Cond.code yX10_drawn prog_12_method_74_code 2 (some FieldType.int) ∈ gw := gw_7 (i := 147) (rfl) rfl
theorem q_7_146 : Cond.instanceMethod yX10_drawn ∈ gw := gw_7 (i := 146) (by decide +kernel) rfl
theorem q_s_99 : Cond.selects "BeaconDelayModel" yX10_drawn yX10_drawn ∈ gw := gw_s (i := 99) (by decide +kernel) rfl
theorem mt_X10_drawn : MtV yX10_drawn cX10_drawn 2 (some .int) 0 := ⟨⟨q_7_147, q_1_9, by decide +kernel, by decide +kernel, by decide +kernel⟩, q_7_146, q_s_99⟩
theorem q_7_144 : Cond.methodLink "BeaconDelayModel" 338 yX10_drawn ∈ gw := gw_7 (i := 144) (by decide +kernel) rfl
theorem dX10_century_41 : decode cX10_century 41 = .ok (.invokevirtual 338, 3) := by decide +kernel
theorem dX10_century_44 : decode cX10_century 44 = .ok (.istore 5, 2) := by decide +kernel
theorem dX10_century_46 : decode cX10_century 46 = .ok (.aload_n 0, 1) := by decide +kernel
theorem dX10_century_47 : decode cX10_century 47 = .ok (.iload 5, 2) := by decide +kernel
theorem dX10_century_49 : decode cX10_century 49 = .ok (.i2l, 1) := by decide +kernel
theorem q_7_119 : Cond.code yX10_whyNot prog_12_method_67_code 3 (some FieldType.int) ∈ gw := gw_7 (i := 119) (rfl) rfl
theorem q_7_118 : Cond.instanceMethod yX10_whyNot ∈ gw := gw_7 (i := 118) (by decide +kernel) rfl
theorem q_s_95 : Cond.selects "BeaconDelayModel" yX10_whyNot yX10_whyNot ∈ gw := gw_s (i := 95) (by decide +kernel) rfl
theorem mt_X10_whyNot : MtV yX10_whyNot cX10_whyNot 3 (some .int) 1 := ⟨⟨q_7_119, q_1_9, by decide +kernel, by decide +kernel, by decide +kernel⟩, q_7_118, q_s_95⟩
theorem q_7_116 : Cond.methodLink "BeaconDelayModel" 309 yX10_whyNot ∈ gw := gw_7 (i := 116) (by decide +kernel) rfl
theorem dX10_century_50 : decode cX10_century 50 = .ok (.invokevirtual 309, 3) := by decide +kernel
theorem dX10_century_53 : decode cX10_century 53 = .ok (.ifCond .eq 6, 3) := by decide +kernel
theorem dX10_century_59 : decode cX10_century 59 = .ok (.aload_n 0, 1) := by decide +kernel
theorem dX10_century_60 : decode cX10_century 60 = .ok (.iload 5, 2) := by decide +kernel
theorem q_7_126 : Cond.code yX10_does prog_12_method_68_code 2 none ∈ gw := gw_7 (i := 126) (rfl) rfl
theorem q_7_125 : Cond.instanceMethod yX10_does ∈ gw := gw_7 (i := 125) (by decide +kernel) rfl
theorem q_s_96 : Cond.selects "BeaconDelayModel" yX10_does yX10_does ∈ gw := gw_s (i := 96) (by decide +kernel) rfl
theorem mt_X10_does : MtV yX10_does cX10_does 2 none 1 := ⟨⟨q_7_126, q_1_9, by decide +kernel, by decide +kernel, by decide +kernel⟩, q_7_125, q_s_96⟩
theorem q_7_123 : Cond.methodLink "BeaconDelayModel" 312 yX10_does ∈ gw := gw_7 (i := 123) (by decide +kernel) rfl
theorem dX10_century_62 : decode cX10_century 62 = .ok (.invokevirtual 312, 3) := by decide +kernel
theorem dX10_century_65 : decode cX10_century 65 = .ok (.iinc 3 1, 3) := by decide +kernel
theorem dX10_century_68 : decode cX10_century 68 = .ok (.iinc 4 1, 3) := by decide +kernel
theorem dX10_century_71 : decode cX10_century 71 = .ok (.goto (-37), 3) := by decide +kernel
theorem dX10_century_56 : decode cX10_century 56 = .ok (.goto 12, 3) := by decide +kernel
set_option maxHeartbeats 4000000 in
set_option maxRecDepth 100000 in
theorem c_X10_century_0 (l : Launch) (V : GV) (z : Nat → Nat) (p0 : Int32) (p1 : Int32) : Ct l V yX10_century (.code yX10_century cX10_century 6 (some .int)) 5 [.ref (z 0), .int p0, .int p1] [(z 0, .inr (10, mo z 0 0 0 0 0 0 0 0 0 0 (-1) 0 0 0 0 0)), (z 17, aI V 7 (fun _ => 0)), (z 1, aI V 3075 (fun _ => 0))] 0 0 (QI V (fun (r : Int32) (w : va_W) => (p1.toInt64 < 1 ∧ r = (-3) ∧ w = [(z 0, .inr (10, mo z 0 0 0 0 0 0 0 0 0 0 (-1) 0 0 0 0 0)), (z 17, aI V 7 (fun _ => 0)), (z 1, aI V 3075 (fun _ => 0))]) ∨ ((¬ p1.toInt64 < 1) ∧ 40 < p1.toInt64 ∧ r = (-3) ∧ w = [(z 0, .inr (10, mo z 0 0 0 0 0 0 0 0 0 0 (-1) 0 0 0 0 0)), (z 17, aI V 7 (fun _ => 0)), (z 1, aI V 3075 (fun _ => 0))]) ∨ (∃ (v_12 : Int32) (v_13 : Int32) (x_14 : Int32), (¬ p1.toInt64 < 1) ∧ (¬ 40 < p1.toInt64) ∧ ((cn p0 p1.toNatClampNeg).2) ≤ 0 ∧ r = ((cn p0 p1.toNatClampNeg).2) ∧ w = [(z 0, .inr (10, mo z 0 0 0 0 0 0 0 0 0 0 (-1) 0 x_14 0 0 0)), (z 17, aI V 7 (fun _ => 0)), (z 1, aI V 3075 (upd (upd (fun _ => 0) 51 v_12) 52 v_13))]) ∨ (∃ (v_12 : Int32) (v_13 : Int32) (x_14 : Int32), (¬ p1.toInt64 < 1) ∧ (¬ 40 < p1.toInt64) ∧ (¬ ((cn p0 p1.toNatClampNeg).2) ≤ 0) ∧ r = ((cn p0 p1.toNatClampNeg).2) ∧ w = [(z 0, .inr (10, mo z 0 0 0 0 0 0 0 0 0 0 (-1) 0 x_14 0 0 0)), (z 17, aI V 7 (fun _ => 0)), (z 1, aI V 3075 (upd (upd (upd (fun _ => 0) 51 v_12) 52 v_13) 53 1))]))) := by
  refine Ct.of (by decide) (Nat.le_of_ble_eq_true rfl) (fun p e s m below meth c A ls hx hb hr hml hown hlk hnm hg hP hK hD hE hA hS hl => ?_)
  have hl : lv_has ls 6 [(0, .ref (z 0)), (1, .int p0), (2, .int p1)] := hl
  refine lv_aload_n hx hb dX10_century_0 rfl (lv_at hl 0 rfl) ?_
  refine lv_iconst (v := 0) hx hb dX10_century_1 (by decide) ?_
  refine va_put (ci := 10) (v := .int 0) (ty := .int) (C := RX10) (T := TX10) (N := 40) hx hb hg inX10 tyX10 tyX10_ok nmX10 hown hK hP hD hS 0 rfl rfl 0 (by decide) (hg _ q_5_224) (fun _ h9 => h9) rfl (by decide +kernel) rfl rfl (Nat.le_of_ble_eq_true rfl) dX10_century_2 (fun H locs hP hD hS => ?_)
  have hP : va_P V.1 vwCl [(z 0, .inr (10, mo z 0 0 0 0 0 0 0 0 0 0 (-1) 0 0 0 0 0)), (z 17, aI V 7 (fun _ => 0)), (z 1, aI V 3075 (fun _ => 0))] H := hP
  have hD : va_D A [(z 0, .inr (10, mo z 0 0 0 0 0 0 0 0 0 0 (-1) 0 0 0 0 0)), (z 17, aI V 7 (fun _ => 0)), (z 1, aI V 3075 (fun _ => 0))] := hD
  refine lv_iload_n hx hb dX10_century_5 rfl (lv_at hl 2 rfl) ?_
  refine lv_i2l (v := p1.toInt64) hx hb dX10_century_6 rfl ?_
  refine lv_lconst (v := 1) hx hb dX10_century_7 (by decide) ?_
  refine lv_ldc2 (v := 40) hx hb hown (hg _ q_7_143) dX10_century_8 ?_
  refine jnI (wr := [(z 0, .inr (10, mo z 0 0 0 0 0 0 0 0 0 0 (-1) 0 0 0 0 0)), (z 17, aI V 7 (fun _ => 0)), (z 1, aI V 3075 (fun _ => 0))]) (rnS (rest := []) ⟨hx, hb, hml, hown, hg⟩ (c_X10_within_0 l V p1.toInt64 1 40) mt_X10_within q_6_114 ⟨Nat.le_of_ble_eq_true rfl, Nat.le_of_ble_eq_true rfl⟩ hK hP hD hS hA hE [] rfl rfl rfl hl.1 rfl (Nat.le_of_ble_eq_true rfl) dX10_century_11 ⟨Nat.le_of_ble_eq_true rfl, Nat.le_of_ble_eq_true rfl⟩) hP hD hS hA [] [0, 1, 2] rfl rfl rfl (by decide) (fun r_1 w H locs hw hP hD hS => ?_)
  rcases hw with ⟨c_2, rfl, rfl⟩ | ⟨c_3, c_4, rfl, rfl⟩ | ⟨c_5, c_6, rfl, rfl⟩
  · have hP : va_P V.1 vwCl [(z 0, .inr (10, mo z 0 0 0 0 0 0 0 0 0 0 (-1) 0 0 0 0 0)), (z 17, aI V 7 (fun _ => 0)), (z 1, aI V 3075 (fun _ => 0))] H := hP
    have hD : va_D A [(z 0, .inr (10, mo z 0 0 0 0 0 0 0 0 0 0 (-1) 0 0 0 0 0)), (z 17, aI V 7 (fun _ => 0)), (z 1, aI V 3075 (fun _ => 0))] := hD
    refine lv_if_ne (tgt := 20) hx hb dX10_century_14 (by decide) (fun c_7 => absurd c_7 (by decide)) (fun _ => ?_)
    refine lv_bipush (v := (-3)) hx hb dX10_century_17 (by decide) ?_
    exact fiI hx hb hr hlk hK hP hD hS dX10_century_19 (Nat.le_of_ble_eq_true rfl) (Nat.le_of_ble_eq_true rfl) (Or.inl ⟨c_2, rfl, rfl⟩)
  · have hP : va_P V.1 vwCl [(z 0, .inr (10, mo z 0 0 0 0 0 0 0 0 0 0 (-1) 0 0 0 0 0)), (z 17, aI V 7 (fun _ => 0)), (z 1, aI V 3075 (fun _ => 0))] H := hP
    have hD : va_D A [(z 0, .inr (10, mo z 0 0 0 0 0 0 0 0 0 0 (-1) 0 0 0 0 0)), (z 17, aI V 7 (fun _ => 0)), (z 1, aI V 3075 (fun _ => 0))] := hD
    refine lv_if_ne (tgt := 20) hx hb dX10_century_14 (by decide) (fun c_8 => absurd c_8 (by decide)) (fun _ => ?_)
    refine lv_bipush (v := (-3)) hx hb dX10_century_17 (by decide) ?_
    exact fiI hx hb hr hlk hK hP hD hS dX10_century_19 (Nat.le_of_ble_eq_true rfl) (Nat.le_of_ble_eq_true rfl) (Or.inr (Or.inl ⟨c_3, c_4, rfl, rfl⟩))
  · have hP : va_P V.1 vwCl [(z 0, .inr (10, mo z 0 0 0 0 0 0 0 0 0 0 (-1) 0 0 0 0 0)), (z 17, aI V 7 (fun _ => 0)), (z 1, aI V 3075 (fun _ => 0))] H := hP
    have hD : va_D A [(z 0, .inr (10, mo z 0 0 0 0 0 0 0 0 0 0 (-1) 0 0 0 0 0)), (z 17, aI V 7 (fun _ => 0)), (z 1, aI V 3075 (fun _ => 0))] := hD
    refine lv_if_ne (tgt := 20) hx hb dX10_century_14 (by decide) (fun _ => ?_) (fun c_9 => absurd c_9 (by decide))
    refine lv_aload_n hx hb dX10_century_20 rfl (lv_at hl 0 rfl) ?_
    refine jnV (wr := []) (rnV (rest := []) ⟨hx, hb, hml, hown, hg⟩ (c_X10_stores_0 l V z) mt_X10_stores q_7_60 ⟨Nat.le_of_ble_eq_true rfl, Nat.le_of_ble_eq_true rfl⟩ hK hP hD hS hA hE [1, 0, 2] rfl rfl 0 rfl rfl rfl rfl hl.1 rfl (Nat.le_of_ble_eq_true rfl) dX10_century_21 ⟨Nat.le_of_ble_eq_true rfl, Nat.le_of_ble_eq_true rfl⟩) hP hD hS hA [1, 0, 2] [] rfl rfl rfl (by decide) (fun  w H locs hw hP hD hS => ?_)
    subst hw
    have hP : va_P V.1 vwCl [(z 17, aI V 7 (fun _ => 0)), (z 0, .inr (10, mo z 0 0 0 0 0 0 0 0 0 0 (-1) 0 0 0 0 0)), (z 1, aI V 3075 (fun _ => 0))] H := hP
    have hD : va_D A [(z 17, aI V 7 (fun _ => 0)), (z 0, .inr (10, mo z 0 0 0 0 0 0 0 0 0 0 (-1) 0 0 0 0 0)), (z 1, aI V 3075 (fun _ => 0))] := hD
    refine lv_aload_n hx hb dX10_century_24 rfl (lv_at hl 0 rfl) ?_
    refine lv_iload_n hx hb dX10_century_25 rfl (lv_at hl 1 rfl) ?_
    refine va_put (ci := 10) (v := .int p0) (ty := .int) (C := RX10) (T := TX10) (N := 40) hx hb hg inX10 tyX10 tyX10_ok nmX10 hown hK hP hD hS 1 rfl rfl 19 (by decide) (hg _ q_6_3) (fun _ h9 => h9) rfl (by decide +kernel) rfl rfl (Nat.le_of_ble_eq_true rfl) dX10_century_26 (fun H locs hP hD hS => ?_)
    have hP : va_P V.1 vwCl [(z 17, aI V 7 (fun _ => 0)), (z 0, .inr (10, mo z 0 0 0 0 0 0 0 0 0 0 (-1) 0 p0 0 0 0)), (z 1, aI V 3075 (fun _ => 0))] H := hP
    have hD : va_D A [(z 17, aI V 7 (fun _ => 0)), (z 0, .inr (10, mo z 0 0 0 0 0 0 0 0 0 0 (-1) 0 p0 0 0 0)), (z 1, aI V 3075 (fun _ => 0))] := hD
    refine lv_iconst (v := 0) hx hb dX10_century_29 (by decide) ?_
    refine lv_istore_n (lv' := [(3, .int 0), (0, .ref (z 0)), (1, .int p0), (2, .int p1)]) hx hb dX10_century_30 rfl hl (by decide) rfl (fun ls hl => ?_)
    refine lv_iconst (v := 0) hx hb dX10_century_31 (by decide) ?_
    refine lv_istore (lv' := [(4, .int 0), (3, .int 0), (0, .ref (z 0)), (1, .int p0), (2, .int p1)]) hx hb dX10_century_32 hl (by decide) rfl (fun ls hl => ?_)
    obtain ⟨N_10, lN_10, hN_10, rfl⟩ : ∃ j : Nat, 1 ≤ j ∧ j ≤ 40 ∧ p1 = nI j := natOf (M := 40) (by decide) (m := 1) (c := 1) (by decide) (by simp only [tI_lt, tI_le, tI_eq, tL_lt, tL_le, tL_eq, tWx, (by decide : (0 : Int32).toInt = 0), (by decide : (1 : Int32).toInt = 1), (by decide : (1 : Int64).toInt = 1), (by decide : (40 : Int32).toInt = 40), (by decide : (40 : Int64).toInt = 40)] at c_5 c_6 ⊢; omega) (by simp only [tI_lt, tI_le, tI_eq, tL_lt, tL_le, tL_eq, tWx, (by decide : (0 : Int32).toInt = 0), (by decide : (1 : Int32).toInt = 1), (by decide : (1 : Int64).toInt = 1), (by decide : (40 : Int32).toInt = 40), (by decide : (40 : Int64).toInt = 40)] at c_5 c_6 ⊢; omega)
    have hP : va_P V.1 vwCl [(z 17, aI V 7 (fun _ => 0)), (z 0, .inr (10, mo z 0 0 0 0 0 0 0 0 0 0 (-1) 0 p0 0 0 0)), (z 1, aI V 3075 (upd (fun _ => 0) 51 0))] H := by rw [updid (k := 51) (v := 0) rfl]; exact hP
    have hD : va_D A [(z 17, aI V 7 (fun _ => 0)), (z 0, .inr (10, mo z 0 0 0 0 0 0 0 0 0 0 (-1) 0 p0 0 0 0)), (z 1, aI V 3075 (upd (fun _ => 0) 51 0))] := by rw [updid (k := 51) (v := 0) rfl]; exact hD
    have hP : va_P V.1 vwCl [(z 17, aI V 7 (fun _ => 0)), (z 0, .inr (10, mo z 0 0 0 0 0 0 0 0 0 0 (-1) 0 p0 0 0 0)), (z 1, aI V 3075 (upd (upd (fun _ => 0) 51 0) 52 0))] H := by rw [updid (k := 52) (v := 0) rfl]; exact hP
    have hD : va_D A [(z 17, aI V 7 (fun _ => 0)), (z 0, .inr (10, mo z 0 0 0 0 0 0 0 0 0 0 (-1) 0 p0 0 0 0)), (z 1, aI V 3075 (upd (upd (fun _ => 0) 51 0) 52 0))] := by rw [updid (k := 52) (v := 0) rfl]; exact hD
    refine loopW N_10 (X := fun (i_11 : Nat) (H : Heap) (locs : List Loc) (ls : Array Slot) => ∃ (v_12 : Int32) (v_13 : Int32) (x_14 : Int32) (x_15 : Int32), 0 ≤ i_11 ∧ (x_14, x_15) = cn p0 i_11 ∧ va_P V.1 vwCl [(z 17, aI V 7 (fun _ => 0)), (z 0, .inr (10, mo z 0 0 0 0 0 0 0 0 0 0 (-1) 0 x_14 0 0 0)), (z 1, aI V 3075 (upd (upd (fun _ => 0) 51 v_12) 52 v_13))] H ∧ va_D A [(z 17, aI V 7 (fun _ => 0)), (z 0, .inr (10, mo z 0 0 0 0 0 0 0 0 0 0 (-1) 0 x_14 0 0 0)), (z 1, aI V 3075 (upd (upd (fun _ => 0) 51 v_12) 52 v_13))] ∧ va_S A s.heap H locs ∧ lv_has ls 6 [(4, .int (nI i_11)), (3, .int x_15), (0, .ref (z 0)), (1, .int p0), (2, .int (nI N_10))]) (g := fun ls => F0 m 34 ls []) (fun i_11 H locs ls hi_i_11 hX ih_i_11 => ?_) 0 (by omega) ⟨0, 0, p0, 0, Nat.le_refl _, rfl, hP, hD, hS, lv_sub hl [0, 1, 2, 3, 4] rfl⟩
    obtain ⟨v_12, v_13, x_14, x_15, hlo_i_11, hcd_i_11, hP, hD, hS, hl⟩ := hX
    refine lv_iload hx hb dX10_century_34 (lv_at hl 0 rfl) ?_
    refine lv_iload_n hx hb dX10_century_36 rfl (lv_at hl 4 rfl) ?_
    refine lv_icmp_ge (tgt := 74) hx hb dX10_century_37 (by decide) (fun c_16 => ?_) (fun c_16 => ?_)
    · have e_17 : i_11 = N_10 := by have q9 := (nI_leI (a := N_10) (b := i_11) (by omega) (by omega)).mp c_16; omega
      rw [e_17] at hl
      have hl : lv_has ls 6 [(4, .int (nI N_10)), (3, .int x_15), (0, .ref (z 0)), (1, .int p0), (2, .int (nI N_10))] := hl
      rw [e_17] at hcd_i_11
      obtain rfl : x_15 = (cn p0 (nI N_10).toNatClampNeg).2 := by rw [nI_clamp (by omega)]; exact congrArg Prod.snd hcd_i_11
      have hl : lv_has ls 6 [(4, .int (nI N_10)), (3, .int ((cn p0 (nI N_10).toNatClampNeg).2)), (0, .ref (z 0)), (1, .int p0), (2, .int (nI N_10))] := hl
      refine lv_iload_n hx hb dX10_century_74 rfl (lv_at hl 1 rfl) ?_
      refine lv_if_le (tgt := 82) hx hb dX10_century_75 (by decide) (fun c_18 => ?_) (fun c_18 => ?_)
      · refine lv_iload_n hx hb dX10_century_82 rfl (lv_at hl 1 rfl) ?_
        have hP := subP (ws' := [(z 0, .inr (10, mo z 0 0 0 0 0 0 0 0 0 0 (-1) 0 x_14 0 0 0)), (z 17, aI V 7 (fun _ => 0)), (z 1, aI V 3075 (upd (upd (fun _ => 0) 51 v_12) 52 v_13))]) hP [1, 0, 2] rfl
        have hD := hD.sub (ws' := [(z 0, .inr (10, mo z 0 0 0 0 0 0 0 0 0 0 (-1) 0 x_14 0 0 0)), (z 17, aI V 7 (fun _ => 0)), (z 1, aI V 3075 (upd (upd (fun _ => 0) 51 v_12) 52 v_13))]) [1, 0, 2] rfl rfl
        exact fiI hx hb hr hlk hK hP hD hS dX10_century_83 (Nat.le_of_ble_eq_true rfl) (Nat.le_of_ble_eq_true rfl) (Or.inr (Or.inr (Or.inl ⟨v_12, v_13, x_14, c_5, c_6, c_18, rfl, rfl⟩)))
      · refine lv_aload_n hx hb dX10_century_78 rfl (lv_at hl 2 rfl) ?_
        refine jnV (wr := []) (rnV (rest := []) ⟨hx, hb, hml, hown, hg⟩ (c_X10_notes_3 l V z x_14 v_12 v_13) mt_X10_notes q_7_72 ⟨Nat.le_of_ble_eq_true rfl, Nat.le_of_ble_eq_true rfl⟩ hK hP hD hS hA hE [0, 1, 2] rfl rfl 1 rfl rfl rfl rfl hl.1 rfl (Nat.le_of_ble_eq_true rfl) dX10_century_79 ⟨Nat.le_of_ble_eq_true rfl, Nat.le_of_ble_eq_true rfl⟩) hP hD hS hA [0, 1, 2] [] rfl rfl rfl (by decide) (fun  w H locs hw hP hD hS => ?_)
        subst hw
        have hP : va_P V.1 vwCl [(z 17, aI V 7 (fun _ => 0)), (z 0, .inr (10, mo z 0 0 0 0 0 0 0 0 0 0 (-1) 0 x_14 0 0 0)), (z 1, aI V 3075 (upd (upd (upd (fun _ => 0) 51 v_12) 52 v_13) 53 1))] H := hP
        have hD : va_D A [(z 17, aI V 7 (fun _ => 0)), (z 0, .inr (10, mo z 0 0 0 0 0 0 0 0 0 0 (-1) 0 x_14 0 0 0)), (z 1, aI V 3075 (upd (upd (upd (fun _ => 0) 51 v_12) 52 v_13) 53 1))] := hD
        refine lv_iload_n hx hb dX10_century_82 rfl (lv_at hl 1 rfl) ?_
        have hP := subP (ws' := [(z 0, .inr (10, mo z 0 0 0 0 0 0 0 0 0 0 (-1) 0 x_14 0 0 0)), (z 17, aI V 7 (fun _ => 0)), (z 1, aI V 3075 (upd (upd (upd (fun _ => 0) 51 v_12) 52 v_13) 53 1))]) hP [1, 0, 2] rfl
        have hD := hD.sub (ws' := [(z 0, .inr (10, mo z 0 0 0 0 0 0 0 0 0 0 (-1) 0 x_14 0 0 0)), (z 17, aI V 7 (fun _ => 0)), (z 1, aI V 3075 (upd (upd (upd (fun _ => 0) 51 v_12) 52 v_13) 53 1))]) [1, 0, 2] rfl rfl
        exact fiI hx hb hr hlk hK hP hD hS dX10_century_83 (Nat.le_of_ble_eq_true rfl) (Nat.le_of_ble_eq_true rfl) (Or.inr (Or.inr (Or.inr (⟨v_12, v_13, x_14, c_5, c_6, c_18, rfl, rfl⟩))))
    · have e_17 : i_11 < N_10 := by rcases Nat.lt_or_ge i_11 N_10 with q9 | q9; exact q9; exact absurd (nI_le q9 (by omega)) c_16
      refine lv_aload_n hx hb dX10_century_40 rfl (lv_at hl 2 rfl) ?_
      refine jnI (wr := [(z 17, aI V 7 (fun _ => 0)), (z 1, aI V 3075 (upd (upd (fun _ => 0) 51 v_12) 52 v_13))]) (rnV (rest := []) ⟨hx, hb, hml, hown, hg⟩ (c_X10_drawn_0 l V z x_14) mt_X10_drawn q_7_144 ⟨Nat.le_of_ble_eq_true rfl, Nat.le_of_ble_eq_true rfl⟩ hK hP hD hS hA hE [1] rfl rfl 1 rfl rfl rfl rfl hl.1 rfl (Nat.le_of_ble_eq_true rfl) dX10_century_41 ⟨Nat.le_of_ble_eq_true rfl, Nat.le_of_ble_eq_true rfl⟩) hP hD hS hA [1] [0, 2] rfl rfl rfl (by decide) (fun r_19 w H locs hw hP hD hS => ?_)
      rcases hw with ⟨c_20, rfl, rfl⟩ | ⟨c_21, rfl, rfl⟩ | ⟨c_22, rfl, rfl⟩ | ⟨c_23, c_24, rfl, rfl⟩ | ⟨c_25, c_26, rfl, rfl⟩ | ⟨c_27, c_28, rfl, rfl⟩ | ⟨c_29, c_30, rfl, rfl⟩ | ⟨c_31, c_32, rfl, rfl⟩ | ⟨c_33, c_34, rfl, rfl⟩ | ⟨c_35, c_36, rfl, rfl⟩ | ⟨c_37, c_38, rfl, rfl⟩ | ⟨c_39, c_40, rfl, rfl⟩ | ⟨c_41, c_42, rfl, rfl⟩ | ⟨c_43, c_44, rfl, rfl⟩ | ⟨c_45, c_46, rfl, rfl⟩ | ⟨c_47, c_48, rfl, rfl⟩ | ⟨c_49, c_50, rfl, rfl⟩ | ⟨c_51, c_52, rfl, rfl⟩ | ⟨c_53, c_54, rfl, rfl⟩ | ⟨c_55, c_56, rfl, rfl⟩ | ⟨c_57, c_58, rfl, rfl⟩
      · have hP : va_P V.1 vwCl [(z 17, aI V 7 (fun _ => 0)), (z 1, aI V 3075 (upd (upd (fun _ => 0) 51 v_12) 52 v_13)), (z 0, .inr (10, mo z 0 0 0 0 0 0 0 0 0 0 (-1) 0 ((1103515245 * x_14) + 12345) 0 0 0))] H := hP
        have hD : va_D A [(z 17, aI V 7 (fun _ => 0)), (z 1, aI V 3075 (upd (upd (fun _ => 0) 51 v_12) 52 v_13)), (z 0, .inr (10, mo z 0 0 0 0 0 0 0 0 0 0 (-1) 0 ((1103515245 * x_14) + 12345) 0 0 0))] := hD
        refine lv_istore (lv' := [(5, .int 0), (4, .int (nI i_11)), (3, .int x_15), (0, .ref (z 0)), (1, .int p0), (2, .int (nI N_10))]) hx hb dX10_century_44 hl (by decide) rfl (fun ls hl => ?_)
        refine lv_aload_n hx hb dX10_century_46 rfl (lv_at hl 3 rfl) ?_
        refine lv_iload hx hb dX10_century_47 (lv_at hl 0 rfl) ?_
        refine lv_i2l (v := 0) hx hb dX10_century_49 (by decide +kernel) ?_
        refine jnI (wr := [(z 17, aI V 7 (fun _ => 0)), (z 1, aI V 3075 (upd (upd (fun _ => 0) 51 v_12) 52 v_13))]) (rnV (rest := []) ⟨hx, hb, hml, hown, hg⟩ (c_X10_whyNot_0 l V z (((1103515245 * x_14) + 12345))) mt_X10_whyNot q_7_116 ⟨Nat.le_of_ble_eq_true rfl, Nat.le_of_ble_eq_true rfl⟩ hK hP hD hS hA hE [2] rfl rfl 2 rfl rfl rfl rfl hl.1 rfl (Nat.le_of_ble_eq_true rfl) dX10_century_50 ⟨Nat.le_of_ble_eq_true rfl, Nat.le_of_ble_eq_true rfl⟩) hP hD hS hA [2] [0, 1] rfl rfl rfl (by decide) (fun r_59 w H locs hw hP hD hS => ?_)
        obtain ⟨rfl, rfl⟩ := hw
        have hP : va_P V.1 vwCl [(z 17, aI V 7 (fun _ => 0)), (z 1, aI V 3075 (upd (upd (fun _ => 0) 51 v_12) 52 v_13)), (z 0, .inr (10, mo z 0 0 0 0 0 0 0 0 0 0 (-1) 0 ((1103515245 * x_14) + 12345) 0 0 0))] H := hP
        have hD : va_D A [(z 17, aI V 7 (fun _ => 0)), (z 1, aI V 3075 (upd (upd (fun _ => 0) 51 v_12) 52 v_13)), (z 0, .inr (10, mo z 0 0 0 0 0 0 0 0 0 0 (-1) 0 ((1103515245 * x_14) + 12345) 0 0 0))] := hD
        refine lv_if_eq (tgt := 59) hx hb dX10_century_53 (by decide) (fun _ => ?_) (fun c_60 => absurd c_60 (by decide))
        refine lv_aload_n hx hb dX10_century_59 rfl (lv_at hl 3 rfl) ?_
        refine lv_iload hx hb dX10_century_60 (lv_at hl 0 rfl) ?_
        refine jnV (wr := [(z 17, aI V 7 (fun _ => 0))]) (rnV (rest := []) ⟨hx, hb, hml, hown, hg⟩ (c_X10_does_0 l V z v_12 v_13 (((1103515245 * x_14) + 12345))) mt_X10_does q_7_123 ⟨Nat.le_of_ble_eq_true rfl, Nat.le_of_ble_eq_true rfl⟩ hK hP hD hS hA hE [1, 2] rfl rfl 2 rfl rfl rfl rfl hl.1 rfl (Nat.le_of_ble_eq_true rfl) dX10_century_62 ⟨Nat.le_of_ble_eq_true rfl, Nat.le_of_ble_eq_true rfl⟩) hP hD hS hA [1, 2] [0] rfl rfl rfl (by decide) (fun  w H locs hw hP hD hS => ?_)
        subst hw
        have hP : va_P V.1 vwCl [(z 17, aI V 7 (fun _ => 0)), (z 1, aI V 3075 (upd (upd (fun _ => 0) 51 v_12) 52 (v_13 + 1))), (z 0, .inr (10, mo z 0 0 0 0 0 0 0 0 0 0 (-1) 0 ((1103515245 * x_14) + 12345) 0 0 0))] H := hP
        have hD : va_D A [(z 17, aI V 7 (fun _ => 0)), (z 1, aI V 3075 (upd (upd (fun _ => 0) 51 v_12) 52 (v_13 + 1))), (z 0, .inr (10, mo z 0 0 0 0 0 0 0 0 0 0 (-1) 0 ((1103515245 * x_14) + 12345) 0 0 0))] := hD
        refine lv_iinc (v := (x_15 + 1)) (lv' := [(3, .int (x_15 + 1)), (5, .int 0), (4, .int (nI i_11)), (0, .ref (z 0)), (1, .int p0), (2, .int (nI N_10))]) hx hb dX10_century_65 hl (k := 2) rfl rfl (by decide) rfl (fun ls hl => ?_)
        refine lv_iinc (v := nI (i_11 + 1)) (lv' := [(4, .int (nI (i_11 + 1))), (3, .int (x_15 + 1)), (5, .int 0), (0, .ref (z 0)), (1, .int p0), (2, .int (nI N_10))]) hx hb dX10_century_68 hl (k := 2) rfl (nI_add i_11 1) (by decide) rfl (fun ls hl => ?_)
        refine lv_goto (tgt := 34) hx hb dX10_century_71 (by decide) ?_
        have hP := subP (ws' := [(z 17, aI V 7 (fun _ => 0)), (z 0, .inr (10, mo z 0 0 0 0 0 0 0 0 0 0 (-1) 0 ((1103515245 * x_14) + 12345) 0 0 0)), (z 1, aI V 3075 (upd (upd (fun _ => 0) 51 v_12) 52 (v_13 + 1)))]) hP [0, 2, 1] rfl
        have hD := hD.sub (ws' := [(z 17, aI V 7 (fun _ => 0)), (z 0, .inr (10, mo z 0 0 0 0 0 0 0 0 0 0 (-1) 0 ((1103515245 * x_14) + 12345) 0 0 0)), (z 1, aI V 3075 (upd (upd (fun _ => 0) 51 v_12) 52 (v_13 + 1)))]) [0, 2, 1] rfl rfl
        exact ih_i_11 e_17 _ _ _ ⟨v_12, (v_13 + 1), ((1103515245 * x_14) + 12345), (x_15 + 1), (by omega), (cn_go hcd_i_11 (cst_l c_20 (by decide))), hP, hD, hS, lv_sub hl [0, 1, 3, 4, 5] rfl⟩
      · have hP : va_P V.1 vwCl [(z 17, aI V 7 (fun _ => 0)), (z 1, aI V 3075 (upd (upd (fun _ => 0) 51 v_12) 52 v_13)), (z 0, .inr (10, mo z 0 0 0 0 0 0 0 0 0 0 (-1) 0 ((1103515245 * x_14) + 12345) 0 0 0))] H := hP
        have hD : va_D A [(z 17, aI V 7 (fun _ => 0)), (z 1, aI V 3075 (upd (upd (fun _ => 0) 51 v_12) 52 v_13)), (z 0, .inr (10, mo z 0 0 0 0 0 0 0 0 0 0 (-1) 0 ((1103515245 * x_14) + 12345) 0 0 0))] := hD
        refine lv_istore (lv' := [(5, .int 0), (4, .int (nI i_11)), (3, .int x_15), (0, .ref (z 0)), (1, .int p0), (2, .int (nI N_10))]) hx hb dX10_century_44 hl (by decide) rfl (fun ls hl => ?_)
        refine lv_aload_n hx hb dX10_century_46 rfl (lv_at hl 3 rfl) ?_
        refine lv_iload hx hb dX10_century_47 (lv_at hl 0 rfl) ?_
        refine lv_i2l (v := 0) hx hb dX10_century_49 (by decide +kernel) ?_
        refine jnI (wr := [(z 17, aI V 7 (fun _ => 0)), (z 1, aI V 3075 (upd (upd (fun _ => 0) 51 v_12) 52 v_13))]) (rnV (rest := []) ⟨hx, hb, hml, hown, hg⟩ (c_X10_whyNot_0 l V z (((1103515245 * x_14) + 12345))) mt_X10_whyNot q_7_116 ⟨Nat.le_of_ble_eq_true rfl, Nat.le_of_ble_eq_true rfl⟩ hK hP hD hS hA hE [2] rfl rfl 2 rfl rfl rfl rfl hl.1 rfl (Nat.le_of_ble_eq_true rfl) dX10_century_50 ⟨Nat.le_of_ble_eq_true rfl, Nat.le_of_ble_eq_true rfl⟩) hP hD hS hA [2] [0, 1] rfl rfl rfl (by decide) (fun r_61 w H locs hw hP hD hS => ?_)
        obtain ⟨rfl, rfl⟩ := hw
        have hP : va_P V.1 vwCl [(z 17, aI V 7 (fun _ => 0)), (z 1, aI V 3075 (upd (upd (fun _ => 0) 51 v_12) 52 v_13)), (z 0, .inr (10, mo z 0 0 0 0 0 0 0 0 0 0 (-1) 0 ((1103515245 * x_14) + 12345) 0 0 0))] H := hP
        have hD : va_D A [(z 17, aI V 7 (fun _ => 0)), (z 1, aI V 3075 (upd (upd (fun _ => 0) 51 v_12) 52 v_13)), (z 0, .inr (10, mo z 0 0 0 0 0 0 0 0 0 0 (-1) 0 ((1103515245 * x_14) + 12345) 0 0 0))] := hD
        refine lv_if_eq (tgt := 59) hx hb dX10_century_53 (by decide) (fun _ => ?_) (fun c_62 => absurd c_62 (by decide))
        refine lv_aload_n hx hb dX10_century_59 rfl (lv_at hl 3 rfl) ?_
        refine lv_iload hx hb dX10_century_60 (lv_at hl 0 rfl) ?_
        refine jnV (wr := [(z 17, aI V 7 (fun _ => 0))]) (rnV (rest := []) ⟨hx, hb, hml, hown, hg⟩ (c_X10_does_0 l V z v_12 v_13 (((1103515245 * x_14) + 12345))) mt_X10_does q_7_123 ⟨Nat.le_of_ble_eq_true rfl, Nat.le_of_ble_eq_true rfl⟩ hK hP hD hS hA hE [1, 2] rfl rfl 2 rfl rfl rfl rfl hl.1 rfl (Nat.le_of_ble_eq_true rfl) dX10_century_62 ⟨Nat.le_of_ble_eq_true rfl, Nat.le_of_ble_eq_true rfl⟩) hP hD hS hA [1, 2] [0] rfl rfl rfl (by decide) (fun  w H locs hw hP hD hS => ?_)
        subst hw
        have hP : va_P V.1 vwCl [(z 17, aI V 7 (fun _ => 0)), (z 1, aI V 3075 (upd (upd (fun _ => 0) 51 v_12) 52 (v_13 + 1))), (z 0, .inr (10, mo z 0 0 0 0 0 0 0 0 0 0 (-1) 0 ((1103515245 * x_14) + 12345) 0 0 0))] H := hP
        have hD : va_D A [(z 17, aI V 7 (fun _ => 0)), (z 1, aI V 3075 (upd (upd (fun _ => 0) 51 v_12) 52 (v_13 + 1))), (z 0, .inr (10, mo z 0 0 0 0 0 0 0 0 0 0 (-1) 0 ((1103515245 * x_14) + 12345) 0 0 0))] := hD
        refine lv_iinc (v := (x_15 + 1)) (lv' := [(3, .int (x_15 + 1)), (5, .int 0), (4, .int (nI i_11)), (0, .ref (z 0)), (1, .int p0), (2, .int (nI N_10))]) hx hb dX10_century_65 hl (k := 2) rfl rfl (by decide) rfl (fun ls hl => ?_)
        refine lv_iinc (v := nI (i_11 + 1)) (lv' := [(4, .int (nI (i_11 + 1))), (3, .int (x_15 + 1)), (5, .int 0), (0, .ref (z 0)), (1, .int p0), (2, .int (nI N_10))]) hx hb dX10_century_68 hl (k := 2) rfl (nI_add i_11 1) (by decide) rfl (fun ls hl => ?_)
        refine lv_goto (tgt := 34) hx hb dX10_century_71 (by decide) ?_
        have hP := subP (ws' := [(z 17, aI V 7 (fun _ => 0)), (z 0, .inr (10, mo z 0 0 0 0 0 0 0 0 0 0 (-1) 0 ((1103515245 * x_14) + 12345) 0 0 0)), (z 1, aI V 3075 (upd (upd (fun _ => 0) 51 v_12) 52 (v_13 + 1)))]) hP [0, 2, 1] rfl
        have hD := hD.sub (ws' := [(z 17, aI V 7 (fun _ => 0)), (z 0, .inr (10, mo z 0 0 0 0 0 0 0 0 0 0 (-1) 0 ((1103515245 * x_14) + 12345) 0 0 0)), (z 1, aI V 3075 (upd (upd (fun _ => 0) 51 v_12) 52 (v_13 + 1)))]) [0, 2, 1] rfl rfl
        exact ih_i_11 e_17 _ _ _ ⟨v_12, (v_13 + 1), ((1103515245 * x_14) + 12345), (x_15 + 1), (by omega), (cn_go hcd_i_11 (cst_l c_21 (by decide))), hP, hD, hS, lv_sub hl [0, 1, 3, 4, 5] rfl⟩
      · have hP : va_P V.1 vwCl [(z 17, aI V 7 (fun _ => 0)), (z 1, aI V 3075 (upd (upd (fun _ => 0) 51 v_12) 52 v_13)), (z 0, .inr (10, mo z 0 0 0 0 0 0 0 0 0 0 (-1) 0 ((1103515245 * x_14) + 12345) 0 0 0))] H := hP
        have hD : va_D A [(z 17, aI V 7 (fun _ => 0)), (z 1, aI V 3075 (upd (upd (fun _ => 0) 51 v_12) 52 v_13)), (z 0, .inr (10, mo z 0 0 0 0 0 0 0 0 0 0 (-1) 0 ((1103515245 * x_14) + 12345) 0 0 0))] := hD
        refine lv_istore (lv' := [(5, .int 0), (4, .int (nI i_11)), (3, .int x_15), (0, .ref (z 0)), (1, .int p0), (2, .int (nI N_10))]) hx hb dX10_century_44 hl (by decide) rfl (fun ls hl => ?_)
        refine lv_aload_n hx hb dX10_century_46 rfl (lv_at hl 3 rfl) ?_
        refine lv_iload hx hb dX10_century_47 (lv_at hl 0 rfl) ?_
        refine lv_i2l (v := 0) hx hb dX10_century_49 (by decide +kernel) ?_
        refine jnI (wr := [(z 17, aI V 7 (fun _ => 0)), (z 1, aI V 3075 (upd (upd (fun _ => 0) 51 v_12) 52 v_13))]) (rnV (rest := []) ⟨hx, hb, hml, hown, hg⟩ (c_X10_whyNot_0 l V z (((1103515245 * x_14) + 12345))) mt_X10_whyNot q_7_116 ⟨Nat.le_of_ble_eq_true rfl, Nat.le_of_ble_eq_true rfl⟩ hK hP hD hS hA hE [2] rfl rfl 2 rfl rfl rfl rfl hl.1 rfl (Nat.le_of_ble_eq_true rfl) dX10_century_50 ⟨Nat.le_of_ble_eq_true rfl, Nat.le_of_ble_eq_true rfl⟩) hP hD hS hA [2] [0, 1] rfl rfl rfl (by decide) (fun r_63 w H locs hw hP hD hS => ?_)
        obtain ⟨rfl, rfl⟩ := hw
        have hP : va_P V.1 vwCl [(z 17, aI V 7 (fun _ => 0)), (z 1, aI V 3075 (upd (upd (fun _ => 0) 51 v_12) 52 v_13)), (z 0, .inr (10, mo z 0 0 0 0 0 0 0 0 0 0 (-1) 0 ((1103515245 * x_14) + 12345) 0 0 0))] H := hP
        have hD : va_D A [(z 17, aI V 7 (fun _ => 0)), (z 1, aI V 3075 (upd (upd (fun _ => 0) 51 v_12) 52 v_13)), (z 0, .inr (10, mo z 0 0 0 0 0 0 0 0 0 0 (-1) 0 ((1103515245 * x_14) + 12345) 0 0 0))] := hD
        refine lv_if_eq (tgt := 59) hx hb dX10_century_53 (by decide) (fun _ => ?_) (fun c_64 => absurd c_64 (by decide))
        refine lv_aload_n hx hb dX10_century_59 rfl (lv_at hl 3 rfl) ?_
        refine lv_iload hx hb dX10_century_60 (lv_at hl 0 rfl) ?_
        refine jnV (wr := [(z 17, aI V 7 (fun _ => 0))]) (rnV (rest := []) ⟨hx, hb, hml, hown, hg⟩ (c_X10_does_0 l V z v_12 v_13 (((1103515245 * x_14) + 12345))) mt_X10_does q_7_123 ⟨Nat.le_of_ble_eq_true rfl, Nat.le_of_ble_eq_true rfl⟩ hK hP hD hS hA hE [1, 2] rfl rfl 2 rfl rfl rfl rfl hl.1 rfl (Nat.le_of_ble_eq_true rfl) dX10_century_62 ⟨Nat.le_of_ble_eq_true rfl, Nat.le_of_ble_eq_true rfl⟩) hP hD hS hA [1, 2] [0] rfl rfl rfl (by decide) (fun  w H locs hw hP hD hS => ?_)
        subst hw
        have hP : va_P V.1 vwCl [(z 17, aI V 7 (fun _ => 0)), (z 1, aI V 3075 (upd (upd (fun _ => 0) 51 v_12) 52 (v_13 + 1))), (z 0, .inr (10, mo z 0 0 0 0 0 0 0 0 0 0 (-1) 0 ((1103515245 * x_14) + 12345) 0 0 0))] H := hP
        have hD : va_D A [(z 17, aI V 7 (fun _ => 0)), (z 1, aI V 3075 (upd (upd (fun _ => 0) 51 v_12) 52 (v_13 + 1))), (z 0, .inr (10, mo z 0 0 0 0 0 0 0 0 0 0 (-1) 0 ((1103515245 * x_14) + 12345) 0 0 0))] := hD
        refine lv_iinc (v := (x_15 + 1)) (lv' := [(3, .int (x_15 + 1)), (5, .int 0), (4, .int (nI i_11)), (0, .ref (z 0)), (1, .int p0), (2, .int (nI N_10))]) hx hb dX10_century_65 hl (k := 2) rfl rfl (by decide) rfl (fun ls hl => ?_)
        refine lv_iinc (v := nI (i_11 + 1)) (lv' := [(4, .int (nI (i_11 + 1))), (3, .int (x_15 + 1)), (5, .int 0), (0, .ref (z 0)), (1, .int p0), (2, .int (nI N_10))]) hx hb dX10_century_68 hl (k := 2) rfl (nI_add i_11 1) (by decide) rfl (fun ls hl => ?_)
        refine lv_goto (tgt := 34) hx hb dX10_century_71 (by decide) ?_
        have hP := subP (ws' := [(z 17, aI V 7 (fun _ => 0)), (z 0, .inr (10, mo z 0 0 0 0 0 0 0 0 0 0 (-1) 0 ((1103515245 * x_14) + 12345) 0 0 0)), (z 1, aI V 3075 (upd (upd (fun _ => 0) 51 v_12) 52 (v_13 + 1)))]) hP [0, 2, 1] rfl
        have hD := hD.sub (ws' := [(z 17, aI V 7 (fun _ => 0)), (z 0, .inr (10, mo z 0 0 0 0 0 0 0 0 0 0 (-1) 0 ((1103515245 * x_14) + 12345) 0 0 0)), (z 1, aI V 3075 (upd (upd (fun _ => 0) 51 v_12) 52 (v_13 + 1)))]) [0, 2, 1] rfl rfl
        exact ih_i_11 e_17 _ _ _ ⟨v_12, (v_13 + 1), ((1103515245 * x_14) + 12345), (x_15 + 1), (by omega), (cn_go hcd_i_11 (cst_l c_22 (by decide))), hP, hD, hS, lv_sub hl [0, 1, 3, 4, 5] rfl⟩
      · have hP : va_P V.1 vwCl [(z 17, aI V 7 (fun _ => 0)), (z 1, aI V 3075 (upd (upd (fun _ => 0) 51 v_12) 52 v_13)), (z 0, .inr (10, mo z 0 0 0 0 0 0 0 0 0 0 (-1) 0 ((1103515245 * ((1103515245 * x_14) + 12345)) + 12345) 0 0 0))] H := hP
        have hD : va_D A [(z 17, aI V 7 (fun _ => 0)), (z 1, aI V 3075 (upd (upd (fun _ => 0) 51 v_12) 52 v_13)), (z 0, .inr (10, mo z 0 0 0 0 0 0 0 0 0 0 (-1) 0 ((1103515245 * ((1103515245 * x_14) + 12345)) + 12345) 0 0 0))] := hD
        refine lv_istore (lv' := [(5, .int 0), (4, .int (nI i_11)), (3, .int x_15), (0, .ref (z 0)), (1, .int p0), (2, .int (nI N_10))]) hx hb dX10_century_44 hl (by decide) rfl (fun ls hl => ?_)
        refine lv_aload_n hx hb dX10_century_46 rfl (lv_at hl 3 rfl) ?_
        refine lv_iload hx hb dX10_century_47 (lv_at hl 0 rfl) ?_
        refine lv_i2l (v := 0) hx hb dX10_century_49 (by decide +kernel) ?_
        refine jnI (wr := [(z 17, aI V 7 (fun _ => 0)), (z 1, aI V 3075 (upd (upd (fun _ => 0) 51 v_12) 52 v_13))]) (rnV (rest := []) ⟨hx, hb, hml, hown, hg⟩ (c_X10_whyNot_0 l V z (((1103515245 * ((1103515245 * x_14) + 12345)) + 12345))) mt_X10_whyNot q_7_116 ⟨Nat.le_of_ble_eq_true rfl, Nat.le_of_ble_eq_true rfl⟩ hK hP hD hS hA hE [2] rfl rfl 2 rfl rfl rfl rfl hl.1 rfl (Nat.le_of_ble_eq_true rfl) dX10_century_50 ⟨Nat.le_of_ble_eq_true rfl, Nat.le_of_ble_eq_true rfl⟩) hP hD hS hA [2] [0, 1] rfl rfl rfl (by decide) (fun r_65 w H locs hw hP hD hS => ?_)
        obtain ⟨rfl, rfl⟩ := hw
        have hP : va_P V.1 vwCl [(z 17, aI V 7 (fun _ => 0)), (z 1, aI V 3075 (upd (upd (fun _ => 0) 51 v_12) 52 v_13)), (z 0, .inr (10, mo z 0 0 0 0 0 0 0 0 0 0 (-1) 0 ((1103515245 * ((1103515245 * x_14) + 12345)) + 12345) 0 0 0))] H := hP
        have hD : va_D A [(z 17, aI V 7 (fun _ => 0)), (z 1, aI V 3075 (upd (upd (fun _ => 0) 51 v_12) 52 v_13)), (z 0, .inr (10, mo z 0 0 0 0 0 0 0 0 0 0 (-1) 0 ((1103515245 * ((1103515245 * x_14) + 12345)) + 12345) 0 0 0))] := hD
        refine lv_if_eq (tgt := 59) hx hb dX10_century_53 (by decide) (fun _ => ?_) (fun c_66 => absurd c_66 (by decide))
        refine lv_aload_n hx hb dX10_century_59 rfl (lv_at hl 3 rfl) ?_
        refine lv_iload hx hb dX10_century_60 (lv_at hl 0 rfl) ?_
        refine jnV (wr := [(z 17, aI V 7 (fun _ => 0))]) (rnV (rest := []) ⟨hx, hb, hml, hown, hg⟩ (c_X10_does_0 l V z v_12 v_13 (((1103515245 * ((1103515245 * x_14) + 12345)) + 12345))) mt_X10_does q_7_123 ⟨Nat.le_of_ble_eq_true rfl, Nat.le_of_ble_eq_true rfl⟩ hK hP hD hS hA hE [1, 2] rfl rfl 2 rfl rfl rfl rfl hl.1 rfl (Nat.le_of_ble_eq_true rfl) dX10_century_62 ⟨Nat.le_of_ble_eq_true rfl, Nat.le_of_ble_eq_true rfl⟩) hP hD hS hA [1, 2] [0] rfl rfl rfl (by decide) (fun  w H locs hw hP hD hS => ?_)
        subst hw
        have hP : va_P V.1 vwCl [(z 17, aI V 7 (fun _ => 0)), (z 1, aI V 3075 (upd (upd (fun _ => 0) 51 v_12) 52 (v_13 + 1))), (z 0, .inr (10, mo z 0 0 0 0 0 0 0 0 0 0 (-1) 0 ((1103515245 * ((1103515245 * x_14) + 12345)) + 12345) 0 0 0))] H := hP
        have hD : va_D A [(z 17, aI V 7 (fun _ => 0)), (z 1, aI V 3075 (upd (upd (fun _ => 0) 51 v_12) 52 (v_13 + 1))), (z 0, .inr (10, mo z 0 0 0 0 0 0 0 0 0 0 (-1) 0 ((1103515245 * ((1103515245 * x_14) + 12345)) + 12345) 0 0 0))] := hD
        refine lv_iinc (v := (x_15 + 1)) (lv' := [(3, .int (x_15 + 1)), (5, .int 0), (4, .int (nI i_11)), (0, .ref (z 0)), (1, .int p0), (2, .int (nI N_10))]) hx hb dX10_century_65 hl (k := 2) rfl rfl (by decide) rfl (fun ls hl => ?_)
        refine lv_iinc (v := nI (i_11 + 1)) (lv' := [(4, .int (nI (i_11 + 1))), (3, .int (x_15 + 1)), (5, .int 0), (0, .ref (z 0)), (1, .int p0), (2, .int (nI N_10))]) hx hb dX10_century_68 hl (k := 2) rfl (nI_add i_11 1) (by decide) rfl (fun ls hl => ?_)
        refine lv_goto (tgt := 34) hx hb dX10_century_71 (by decide) ?_
        have hP := subP (ws' := [(z 17, aI V 7 (fun _ => 0)), (z 0, .inr (10, mo z 0 0 0 0 0 0 0 0 0 0 (-1) 0 ((1103515245 * ((1103515245 * x_14) + 12345)) + 12345) 0 0 0)), (z 1, aI V 3075 (upd (upd (fun _ => 0) 51 v_12) 52 (v_13 + 1)))]) hP [0, 2, 1] rfl
        have hD := hD.sub (ws' := [(z 17, aI V 7 (fun _ => 0)), (z 0, .inr (10, mo z 0 0 0 0 0 0 0 0 0 0 (-1) 0 ((1103515245 * ((1103515245 * x_14) + 12345)) + 12345) 0 0 0)), (z 1, aI V 3075 (upd (upd (fun _ => 0) 51 v_12) 52 (v_13 + 1)))]) [0, 2, 1] rfl rfl
        exact ih_i_11 e_17 _ _ _ ⟨v_12, (v_13 + 1), ((1103515245 * ((1103515245 * x_14) + 12345)) + 12345), (x_15 + 1), (by omega), (cn_go hcd_i_11 (cst_30 c_23 c_24)), hP, hD, hS, lv_sub hl [0, 1, 3, 4, 5] rfl⟩
      · have hP : va_P V.1 vwCl [(z 17, aI V 7 (fun _ => 0)), (z 1, aI V 3075 (upd (upd (fun _ => 0) 51 v_12) 52 v_13)), (z 0, .inr (10, mo z 0 0 0 0 0 0 0 0 0 0 (-1) 0 ((1103515245 * ((1103515245 * x_14) + 12345)) + 12345) 0 0 0))] H := hP
        have hD : va_D A [(z 17, aI V 7 (fun _ => 0)), (z 1, aI V 3075 (upd (upd (fun _ => 0) 51 v_12) 52 v_13)), (z 0, .inr (10, mo z 0 0 0 0 0 0 0 0 0 0 (-1) 0 ((1103515245 * ((1103515245 * x_14) + 12345)) + 12345) 0 0 0))] := hD
        refine lv_istore (lv' := [(5, .int 1), (4, .int (nI i_11)), (3, .int x_15), (0, .ref (z 0)), (1, .int p0), (2, .int (nI N_10))]) hx hb dX10_century_44 hl (by decide) rfl (fun ls hl => ?_)
        refine lv_aload_n hx hb dX10_century_46 rfl (lv_at hl 3 rfl) ?_
        refine lv_iload hx hb dX10_century_47 (lv_at hl 0 rfl) ?_
        refine lv_i2l (v := 1) hx hb dX10_century_49 (by decide +kernel) ?_
        refine jnI (wr := [(z 17, aI V 7 (fun _ => 0))]) (rnV (rest := []) ⟨hx, hb, hml, hown, hg⟩ (c_X10_whyNot_1 l V z v_12 v_13 (((1103515245 * ((1103515245 * x_14) + 12345)) + 12345))) mt_X10_whyNot q_7_116 ⟨Nat.le_of_ble_eq_true rfl, Nat.le_of_ble_eq_true rfl⟩ hK hP hD hS hA hE [1, 2] rfl rfl 2 rfl rfl rfl rfl hl.1 rfl (Nat.le_of_ble_eq_true rfl) dX10_century_50 ⟨Nat.le_of_ble_eq_true rfl, Nat.le_of_ble_eq_true rfl⟩) hP hD hS hA [1, 2] [0] rfl rfl rfl (by decide) (fun r_67 w H locs hw hP hD hS => ?_)
        obtain ⟨rfl, rfl⟩ := hw
        have hP : va_P V.1 vwCl [(z 17, aI V 7 (fun _ => 0)), (z 1, aI V 3075 (upd (upd (fun _ => 0) 51 v_12) 52 v_13)), (z 0, .inr (10, mo z 0 0 0 0 0 0 0 0 0 0 (-1) 0 ((1103515245 * ((1103515245 * x_14) + 12345)) + 12345) 0 0 0))] H := hP
        have hD : va_D A [(z 17, aI V 7 (fun _ => 0)), (z 1, aI V 3075 (upd (upd (fun _ => 0) 51 v_12) 52 v_13)), (z 0, .inr (10, mo z 0 0 0 0 0 0 0 0 0 0 (-1) 0 ((1103515245 * ((1103515245 * x_14) + 12345)) + 12345) 0 0 0))] := hD
        refine lv_if_eq (tgt := 59) hx hb dX10_century_53 (by decide) (fun c_68 => absurd c_68 (by decide)) (fun _ => ?_)
        refine lv_goto (tgt := 68) hx hb dX10_century_56 (by decide) ?_
        refine lv_iinc (v := nI (i_11 + 1)) (lv' := [(4, .int (nI (i_11 + 1))), (5, .int 1), (3, .int x_15), (0, .ref (z 0)), (1, .int p0), (2, .int (nI N_10))]) hx hb dX10_century_68 hl (k := 1) rfl (nI_add i_11 1) (by decide) rfl (fun ls hl => ?_)
        refine lv_goto (tgt := 34) hx hb dX10_century_71 (by decide) ?_
        have hP := subP (ws' := [(z 17, aI V 7 (fun _ => 0)), (z 0, .inr (10, mo z 0 0 0 0 0 0 0 0 0 0 (-1) 0 ((1103515245 * ((1103515245 * x_14) + 12345)) + 12345) 0 0 0)), (z 1, aI V 3075 (upd (upd (fun _ => 0) 51 v_12) 52 v_13))]) hP [0, 2, 1] rfl
        have hD := hD.sub (ws' := [(z 17, aI V 7 (fun _ => 0)), (z 0, .inr (10, mo z 0 0 0 0 0 0 0 0 0 0 (-1) 0 ((1103515245 * ((1103515245 * x_14) + 12345)) + 12345) 0 0 0)), (z 1, aI V 3075 (upd (upd (fun _ => 0) 51 v_12) 52 v_13))]) [0, 2, 1] rfl rfl
        exact ih_i_11 e_17 _ _ _ ⟨v_12, v_13, ((1103515245 * ((1103515245 * x_14) + 12345)) + 12345), x_15, (by omega), (cn_go hcd_i_11 (cst_3n c_25 c_26 (by decide))), hP, hD, hS, lv_sub hl [0, 2, 3, 4, 5] rfl⟩
      · have hP : va_P V.1 vwCl [(z 17, aI V 7 (fun _ => 0)), (z 1, aI V 3075 (upd (upd (fun _ => 0) 51 v_12) 52 v_13)), (z 0, .inr (10, mo z 0 0 0 0 0 0 0 0 0 0 (-1) 0 ((1103515245 * ((1103515245 * x_14) + 12345)) + 12345) 0 0 0))] H := hP
        have hD : va_D A [(z 17, aI V 7 (fun _ => 0)), (z 1, aI V 3075 (upd (upd (fun _ => 0) 51 v_12) 52 v_13)), (z 0, .inr (10, mo z 0 0 0 0 0 0 0 0 0 0 (-1) 0 ((1103515245 * ((1103515245 * x_14) + 12345)) + 12345) 0 0 0))] := hD
        refine lv_istore (lv' := [(5, .int 2), (4, .int (nI i_11)), (3, .int x_15), (0, .ref (z 0)), (1, .int p0), (2, .int (nI N_10))]) hx hb dX10_century_44 hl (by decide) rfl (fun ls hl => ?_)
        refine lv_aload_n hx hb dX10_century_46 rfl (lv_at hl 3 rfl) ?_
        refine lv_iload hx hb dX10_century_47 (lv_at hl 0 rfl) ?_
        refine lv_i2l (v := 2) hx hb dX10_century_49 (by decide +kernel) ?_
        refine jnI (wr := [(z 17, aI V 7 (fun _ => 0))]) (rnV (rest := []) ⟨hx, hb, hml, hown, hg⟩ (c_X10_whyNot_2 l V z v_12 v_13 (((1103515245 * ((1103515245 * x_14) + 12345)) + 12345))) mt_X10_whyNot q_7_116 ⟨Nat.le_of_ble_eq_true rfl, Nat.le_of_ble_eq_true rfl⟩ hK hP hD hS hA hE [1, 2] rfl rfl 2 rfl rfl rfl rfl hl.1 rfl (Nat.le_of_ble_eq_true rfl) dX10_century_50 ⟨Nat.le_of_ble_eq_true rfl, Nat.le_of_ble_eq_true rfl⟩) hP hD hS hA [1, 2] [0] rfl rfl rfl (by decide) (fun r_69 w H locs hw hP hD hS => ?_)
        obtain ⟨rfl, rfl⟩ := hw
        have hP : va_P V.1 vwCl [(z 17, aI V 7 (fun _ => 0)), (z 1, aI V 3075 (upd (upd (fun _ => 0) 51 v_12) 52 v_13)), (z 0, .inr (10, mo z 0 0 0 0 0 0 0 0 0 0 (-1) 0 ((1103515245 * ((1103515245 * x_14) + 12345)) + 12345) 0 0 0))] H := hP
        have hD : va_D A [(z 17, aI V 7 (fun _ => 0)), (z 1, aI V 3075 (upd (upd (fun _ => 0) 51 v_12) 52 v_13)), (z 0, .inr (10, mo z 0 0 0 0 0 0 0 0 0 0 (-1) 0 ((1103515245 * ((1103515245 * x_14) + 12345)) + 12345) 0 0 0))] := hD
        refine lv_if_eq (tgt := 59) hx hb dX10_century_53 (by decide) (fun c_70 => absurd c_70 (by decide)) (fun _ => ?_)
        refine lv_goto (tgt := 68) hx hb dX10_century_56 (by decide) ?_
        refine lv_iinc (v := nI (i_11 + 1)) (lv' := [(4, .int (nI (i_11 + 1))), (5, .int 2), (3, .int x_15), (0, .ref (z 0)), (1, .int p0), (2, .int (nI N_10))]) hx hb dX10_century_68 hl (k := 1) rfl (nI_add i_11 1) (by decide) rfl (fun ls hl => ?_)
        refine lv_goto (tgt := 34) hx hb dX10_century_71 (by decide) ?_
        have hP := subP (ws' := [(z 17, aI V 7 (fun _ => 0)), (z 0, .inr (10, mo z 0 0 0 0 0 0 0 0 0 0 (-1) 0 ((1103515245 * ((1103515245 * x_14) + 12345)) + 12345) 0 0 0)), (z 1, aI V 3075 (upd (upd (fun _ => 0) 51 v_12) 52 v_13))]) hP [0, 2, 1] rfl
        have hD := hD.sub (ws' := [(z 17, aI V 7 (fun _ => 0)), (z 0, .inr (10, mo z 0 0 0 0 0 0 0 0 0 0 (-1) 0 ((1103515245 * ((1103515245 * x_14) + 12345)) + 12345) 0 0 0)), (z 1, aI V 3075 (upd (upd (fun _ => 0) 51 v_12) 52 v_13))]) [0, 2, 1] rfl rfl
        exact ih_i_11 e_17 _ _ _ ⟨v_12, v_13, ((1103515245 * ((1103515245 * x_14) + 12345)) + 12345), x_15, (by omega), (cn_go hcd_i_11 (cst_3n c_27 c_28 (by decide))), hP, hD, hS, lv_sub hl [0, 2, 3, 4, 5] rfl⟩
      · have hP : va_P V.1 vwCl [(z 17, aI V 7 (fun _ => 0)), (z 1, aI V 3075 (upd (upd (fun _ => 0) 51 v_12) 52 v_13)), (z 0, .inr (10, mo z 0 0 0 0 0 0 0 0 0 0 (-1) 0 ((1103515245 * ((1103515245 * x_14) + 12345)) + 12345) 0 0 0))] H := hP
        have hD : va_D A [(z 17, aI V 7 (fun _ => 0)), (z 1, aI V 3075 (upd (upd (fun _ => 0) 51 v_12) 52 v_13)), (z 0, .inr (10, mo z 0 0 0 0 0 0 0 0 0 0 (-1) 0 ((1103515245 * ((1103515245 * x_14) + 12345)) + 12345) 0 0 0))] := hD
        refine lv_istore (lv' := [(5, .int 3), (4, .int (nI i_11)), (3, .int x_15), (0, .ref (z 0)), (1, .int p0), (2, .int (nI N_10))]) hx hb dX10_century_44 hl (by decide) rfl (fun ls hl => ?_)
        refine lv_aload_n hx hb dX10_century_46 rfl (lv_at hl 3 rfl) ?_
        refine lv_iload hx hb dX10_century_47 (lv_at hl 0 rfl) ?_
        refine lv_i2l (v := 3) hx hb dX10_century_49 (by decide +kernel) ?_
        refine jnI (wr := [(z 17, aI V 7 (fun _ => 0))]) (rnV (rest := []) ⟨hx, hb, hml, hown, hg⟩ (c_X10_whyNot_3 l V z v_12 v_13 (((1103515245 * ((1103515245 * x_14) + 12345)) + 12345))) mt_X10_whyNot q_7_116 ⟨Nat.le_of_ble_eq_true rfl, Nat.le_of_ble_eq_true rfl⟩ hK hP hD hS hA hE [1, 2] rfl rfl 2 rfl rfl rfl rfl hl.1 rfl (Nat.le_of_ble_eq_true rfl) dX10_century_50 ⟨Nat.le_of_ble_eq_true rfl, Nat.le_of_ble_eq_true rfl⟩) hP hD hS hA [1, 2] [0] rfl rfl rfl (by decide) (fun r_71 w H locs hw hP hD hS => ?_)
        obtain ⟨rfl, rfl⟩ := hw
        have hP : va_P V.1 vwCl [(z 17, aI V 7 (fun _ => 0)), (z 1, aI V 3075 (upd (upd (fun _ => 0) 51 v_12) 52 v_13)), (z 0, .inr (10, mo z 0 0 0 0 0 0 0 0 0 0 (-1) 0 ((1103515245 * ((1103515245 * x_14) + 12345)) + 12345) 0 0 0))] H := hP
        have hD : va_D A [(z 17, aI V 7 (fun _ => 0)), (z 1, aI V 3075 (upd (upd (fun _ => 0) 51 v_12) 52 v_13)), (z 0, .inr (10, mo z 0 0 0 0 0 0 0 0 0 0 (-1) 0 ((1103515245 * ((1103515245 * x_14) + 12345)) + 12345) 0 0 0))] := hD
        refine lv_if_eq (tgt := 59) hx hb dX10_century_53 (by decide) (fun c_72 => absurd c_72 (by decide)) (fun _ => ?_)
        refine lv_goto (tgt := 68) hx hb dX10_century_56 (by decide) ?_
        refine lv_iinc (v := nI (i_11 + 1)) (lv' := [(4, .int (nI (i_11 + 1))), (5, .int 3), (3, .int x_15), (0, .ref (z 0)), (1, .int p0), (2, .int (nI N_10))]) hx hb dX10_century_68 hl (k := 1) rfl (nI_add i_11 1) (by decide) rfl (fun ls hl => ?_)
        refine lv_goto (tgt := 34) hx hb dX10_century_71 (by decide) ?_
        have hP := subP (ws' := [(z 17, aI V 7 (fun _ => 0)), (z 0, .inr (10, mo z 0 0 0 0 0 0 0 0 0 0 (-1) 0 ((1103515245 * ((1103515245 * x_14) + 12345)) + 12345) 0 0 0)), (z 1, aI V 3075 (upd (upd (fun _ => 0) 51 v_12) 52 v_13))]) hP [0, 2, 1] rfl
        have hD := hD.sub (ws' := [(z 17, aI V 7 (fun _ => 0)), (z 0, .inr (10, mo z 0 0 0 0 0 0 0 0 0 0 (-1) 0 ((1103515245 * ((1103515245 * x_14) + 12345)) + 12345) 0 0 0)), (z 1, aI V 3075 (upd (upd (fun _ => 0) 51 v_12) 52 v_13))]) [0, 2, 1] rfl rfl
        exact ih_i_11 e_17 _ _ _ ⟨v_12, v_13, ((1103515245 * ((1103515245 * x_14) + 12345)) + 12345), x_15, (by omega), (cn_go hcd_i_11 (cst_3n c_29 c_30 (by decide))), hP, hD, hS, lv_sub hl [0, 2, 3, 4, 5] rfl⟩
      · have hP : va_P V.1 vwCl [(z 17, aI V 7 (fun _ => 0)), (z 1, aI V 3075 (upd (upd (fun _ => 0) 51 v_12) 52 v_13)), (z 0, .inr (10, mo z 0 0 0 0 0 0 0 0 0 0 (-1) 0 ((1103515245 * ((1103515245 * x_14) + 12345)) + 12345) 0 0 0))] H := hP
        have hD : va_D A [(z 17, aI V 7 (fun _ => 0)), (z 1, aI V 3075 (upd (upd (fun _ => 0) 51 v_12) 52 v_13)), (z 0, .inr (10, mo z 0 0 0 0 0 0 0 0 0 0 (-1) 0 ((1103515245 * ((1103515245 * x_14) + 12345)) + 12345) 0 0 0))] := hD
        refine lv_istore (lv' := [(5, .int 10), (4, .int (nI i_11)), (3, .int x_15), (0, .ref (z 0)), (1, .int p0), (2, .int (nI N_10))]) hx hb dX10_century_44 hl (by decide) rfl (fun ls hl => ?_)
        refine lv_aload_n hx hb dX10_century_46 rfl (lv_at hl 3 rfl) ?_
        refine lv_iload hx hb dX10_century_47 (lv_at hl 0 rfl) ?_
        refine lv_i2l (v := 10) hx hb dX10_century_49 (by decide +kernel) ?_
        refine jnI (wr := [(z 17, aI V 7 (fun _ => 0))]) (rnV (rest := []) ⟨hx, hb, hml, hown, hg⟩ (c_X10_whyNot_4 l V z v_12 v_13 (((1103515245 * ((1103515245 * x_14) + 12345)) + 12345))) mt_X10_whyNot q_7_116 ⟨Nat.le_of_ble_eq_true rfl, Nat.le_of_ble_eq_true rfl⟩ hK hP hD hS hA hE [1, 2] rfl rfl 2 rfl rfl rfl rfl hl.1 rfl (Nat.le_of_ble_eq_true rfl) dX10_century_50 ⟨Nat.le_of_ble_eq_true rfl, Nat.le_of_ble_eq_true rfl⟩) hP hD hS hA [1, 2] [0] rfl rfl rfl (by decide) (fun r_73 w H locs hw hP hD hS => ?_)
        obtain ⟨rfl, rfl⟩ := hw
        have hP : va_P V.1 vwCl [(z 17, aI V 7 (fun _ => 0)), (z 1, aI V 3075 (upd (upd (fun _ => 0) 51 v_12) 52 v_13)), (z 0, .inr (10, mo z 0 0 0 0 0 0 0 0 0 0 (-1) 0 ((1103515245 * ((1103515245 * x_14) + 12345)) + 12345) 0 0 0))] H := hP
        have hD : va_D A [(z 17, aI V 7 (fun _ => 0)), (z 1, aI V 3075 (upd (upd (fun _ => 0) 51 v_12) 52 v_13)), (z 0, .inr (10, mo z 0 0 0 0 0 0 0 0 0 0 (-1) 0 ((1103515245 * ((1103515245 * x_14) + 12345)) + 12345) 0 0 0))] := hD
        refine lv_if_eq (tgt := 59) hx hb dX10_century_53 (by decide) (fun c_74 => absurd c_74 (by decide)) (fun _ => ?_)
        refine lv_goto (tgt := 68) hx hb dX10_century_56 (by decide) ?_
        refine lv_iinc (v := nI (i_11 + 1)) (lv' := [(4, .int (nI (i_11 + 1))), (5, .int 10), (3, .int x_15), (0, .ref (z 0)), (1, .int p0), (2, .int (nI N_10))]) hx hb dX10_century_68 hl (k := 1) rfl (nI_add i_11 1) (by decide) rfl (fun ls hl => ?_)
        refine lv_goto (tgt := 34) hx hb dX10_century_71 (by decide) ?_
        have hP := subP (ws' := [(z 17, aI V 7 (fun _ => 0)), (z 0, .inr (10, mo z 0 0 0 0 0 0 0 0 0 0 (-1) 0 ((1103515245 * ((1103515245 * x_14) + 12345)) + 12345) 0 0 0)), (z 1, aI V 3075 (upd (upd (fun _ => 0) 51 v_12) 52 v_13))]) hP [0, 2, 1] rfl
        have hD := hD.sub (ws' := [(z 17, aI V 7 (fun _ => 0)), (z 0, .inr (10, mo z 0 0 0 0 0 0 0 0 0 0 (-1) 0 ((1103515245 * ((1103515245 * x_14) + 12345)) + 12345) 0 0 0)), (z 1, aI V 3075 (upd (upd (fun _ => 0) 51 v_12) 52 v_13))]) [0, 2, 1] rfl rfl
        exact ih_i_11 e_17 _ _ _ ⟨v_12, v_13, ((1103515245 * ((1103515245 * x_14) + 12345)) + 12345), x_15, (by omega), (cn_go hcd_i_11 (cst_4 c_31)), hP, hD, hS, lv_sub hl [0, 2, 3, 4, 5] rfl⟩
      · have hP : va_P V.1 vwCl [(z 17, aI V 7 (fun _ => 0)), (z 1, aI V 3075 (upd (upd (fun _ => 0) 51 v_12) 52 v_13)), (z 0, .inr (10, mo z 0 0 0 0 0 0 0 0 0 0 (-1) 0 ((1103515245 * ((1103515245 * x_14) + 12345)) + 12345) 0 0 0))] H := hP
        have hD : va_D A [(z 17, aI V 7 (fun _ => 0)), (z 1, aI V 3075 (upd (upd (fun _ => 0) 51 v_12) 52 v_13)), (z 0, .inr (10, mo z 0 0 0 0 0 0 0 0 0 0 (-1) 0 ((1103515245 * ((1103515245 * x_14) + 12345)) + 12345) 0 0 0))] := hD
        refine lv_istore (lv' := [(5, .int 11), (4, .int (nI i_11)), (3, .int x_15), (0, .ref (z 0)), (1, .int p0), (2, .int (nI N_10))]) hx hb dX10_century_44 hl (by decide) rfl (fun ls hl => ?_)
        refine lv_aload_n hx hb dX10_century_46 rfl (lv_at hl 3 rfl) ?_
        refine lv_iload hx hb dX10_century_47 (lv_at hl 0 rfl) ?_
        refine lv_i2l (v := 11) hx hb dX10_century_49 (by decide +kernel) ?_
        refine jnI (wr := [(z 17, aI V 7 (fun _ => 0))]) (rnV (rest := []) ⟨hx, hb, hml, hown, hg⟩ (c_X10_whyNot_5 l V z v_12 v_13 (((1103515245 * ((1103515245 * x_14) + 12345)) + 12345))) mt_X10_whyNot q_7_116 ⟨Nat.le_of_ble_eq_true rfl, Nat.le_of_ble_eq_true rfl⟩ hK hP hD hS hA hE [1, 2] rfl rfl 2 rfl rfl rfl rfl hl.1 rfl (Nat.le_of_ble_eq_true rfl) dX10_century_50 ⟨Nat.le_of_ble_eq_true rfl, Nat.le_of_ble_eq_true rfl⟩) hP hD hS hA [1, 2] [0] rfl rfl rfl (by decide) (fun r_75 w H locs hw hP hD hS => ?_)
        obtain ⟨rfl, rfl⟩ := hw
        have hP : va_P V.1 vwCl [(z 17, aI V 7 (fun _ => 0)), (z 1, aI V 3075 (upd (upd (fun _ => 0) 51 v_12) 52 v_13)), (z 0, .inr (10, mo z 0 0 0 0 0 0 0 0 0 0 (-1) 0 ((1103515245 * ((1103515245 * x_14) + 12345)) + 12345) 0 0 0))] H := hP
        have hD : va_D A [(z 17, aI V 7 (fun _ => 0)), (z 1, aI V 3075 (upd (upd (fun _ => 0) 51 v_12) 52 v_13)), (z 0, .inr (10, mo z 0 0 0 0 0 0 0 0 0 0 (-1) 0 ((1103515245 * ((1103515245 * x_14) + 12345)) + 12345) 0 0 0))] := hD
        refine lv_if_eq (tgt := 59) hx hb dX10_century_53 (by decide) (fun c_76 => absurd c_76 (by decide)) (fun _ => ?_)
        refine lv_goto (tgt := 68) hx hb dX10_century_56 (by decide) ?_
        refine lv_iinc (v := nI (i_11 + 1)) (lv' := [(4, .int (nI (i_11 + 1))), (5, .int 11), (3, .int x_15), (0, .ref (z 0)), (1, .int p0), (2, .int (nI N_10))]) hx hb dX10_century_68 hl (k := 1) rfl (nI_add i_11 1) (by decide) rfl (fun ls hl => ?_)
        refine lv_goto (tgt := 34) hx hb dX10_century_71 (by decide) ?_
        have hP := subP (ws' := [(z 17, aI V 7 (fun _ => 0)), (z 0, .inr (10, mo z 0 0 0 0 0 0 0 0 0 0 (-1) 0 ((1103515245 * ((1103515245 * x_14) + 12345)) + 12345) 0 0 0)), (z 1, aI V 3075 (upd (upd (fun _ => 0) 51 v_12) 52 v_13))]) hP [0, 2, 1] rfl
        have hD := hD.sub (ws' := [(z 17, aI V 7 (fun _ => 0)), (z 0, .inr (10, mo z 0 0 0 0 0 0 0 0 0 0 (-1) 0 ((1103515245 * ((1103515245 * x_14) + 12345)) + 12345) 0 0 0)), (z 1, aI V 3075 (upd (upd (fun _ => 0) 51 v_12) 52 v_13))]) [0, 2, 1] rfl rfl
        exact ih_i_11 e_17 _ _ _ ⟨v_12, v_13, ((1103515245 * ((1103515245 * x_14) + 12345)) + 12345), x_15, (by omega), (cn_go hcd_i_11 (cst_4 c_33)), hP, hD, hS, lv_sub hl [0, 2, 3, 4, 5] rfl⟩
      · have hP : va_P V.1 vwCl [(z 17, aI V 7 (fun _ => 0)), (z 1, aI V 3075 (upd (upd (fun _ => 0) 51 v_12) 52 v_13)), (z 0, .inr (10, mo z 0 0 0 0 0 0 0 0 0 0 (-1) 0 ((1103515245 * ((1103515245 * x_14) + 12345)) + 12345) 0 0 0))] H := hP
        have hD : va_D A [(z 17, aI V 7 (fun _ => 0)), (z 1, aI V 3075 (upd (upd (fun _ => 0) 51 v_12) 52 v_13)), (z 0, .inr (10, mo z 0 0 0 0 0 0 0 0 0 0 (-1) 0 ((1103515245 * ((1103515245 * x_14) + 12345)) + 12345) 0 0 0))] := hD
        refine lv_istore (lv' := [(5, .int 12), (4, .int (nI i_11)), (3, .int x_15), (0, .ref (z 0)), (1, .int p0), (2, .int (nI N_10))]) hx hb dX10_century_44 hl (by decide) rfl (fun ls hl => ?_)
        refine lv_aload_n hx hb dX10_century_46 rfl (lv_at hl 3 rfl) ?_
        refine lv_iload hx hb dX10_century_47 (lv_at hl 0 rfl) ?_
        refine lv_i2l (v := 12) hx hb dX10_century_49 (by decide +kernel) ?_
        refine jnI (wr := [(z 17, aI V 7 (fun _ => 0))]) (rnV (rest := []) ⟨hx, hb, hml, hown, hg⟩ (c_X10_whyNot_6 l V z v_12 v_13 (((1103515245 * ((1103515245 * x_14) + 12345)) + 12345))) mt_X10_whyNot q_7_116 ⟨Nat.le_of_ble_eq_true rfl, Nat.le_of_ble_eq_true rfl⟩ hK hP hD hS hA hE [1, 2] rfl rfl 2 rfl rfl rfl rfl hl.1 rfl (Nat.le_of_ble_eq_true rfl) dX10_century_50 ⟨Nat.le_of_ble_eq_true rfl, Nat.le_of_ble_eq_true rfl⟩) hP hD hS hA [1, 2] [0] rfl rfl rfl (by decide) (fun r_77 w H locs hw hP hD hS => ?_)
        obtain ⟨rfl, rfl⟩ := hw
        have hP : va_P V.1 vwCl [(z 17, aI V 7 (fun _ => 0)), (z 1, aI V 3075 (upd (upd (fun _ => 0) 51 v_12) 52 v_13)), (z 0, .inr (10, mo z 0 0 0 0 0 0 0 0 0 0 (-1) 0 ((1103515245 * ((1103515245 * x_14) + 12345)) + 12345) 0 0 0))] H := hP
        have hD : va_D A [(z 17, aI V 7 (fun _ => 0)), (z 1, aI V 3075 (upd (upd (fun _ => 0) 51 v_12) 52 v_13)), (z 0, .inr (10, mo z 0 0 0 0 0 0 0 0 0 0 (-1) 0 ((1103515245 * ((1103515245 * x_14) + 12345)) + 12345) 0 0 0))] := hD
        refine lv_if_eq (tgt := 59) hx hb dX10_century_53 (by decide) (fun c_78 => absurd c_78 (by decide)) (fun _ => ?_)
        refine lv_goto (tgt := 68) hx hb dX10_century_56 (by decide) ?_
        refine lv_iinc (v := nI (i_11 + 1)) (lv' := [(4, .int (nI (i_11 + 1))), (5, .int 12), (3, .int x_15), (0, .ref (z 0)), (1, .int p0), (2, .int (nI N_10))]) hx hb dX10_century_68 hl (k := 1) rfl (nI_add i_11 1) (by decide) rfl (fun ls hl => ?_)
        refine lv_goto (tgt := 34) hx hb dX10_century_71 (by decide) ?_
        have hP := subP (ws' := [(z 17, aI V 7 (fun _ => 0)), (z 0, .inr (10, mo z 0 0 0 0 0 0 0 0 0 0 (-1) 0 ((1103515245 * ((1103515245 * x_14) + 12345)) + 12345) 0 0 0)), (z 1, aI V 3075 (upd (upd (fun _ => 0) 51 v_12) 52 v_13))]) hP [0, 2, 1] rfl
        have hD := hD.sub (ws' := [(z 17, aI V 7 (fun _ => 0)), (z 0, .inr (10, mo z 0 0 0 0 0 0 0 0 0 0 (-1) 0 ((1103515245 * ((1103515245 * x_14) + 12345)) + 12345) 0 0 0)), (z 1, aI V 3075 (upd (upd (fun _ => 0) 51 v_12) 52 v_13))]) [0, 2, 1] rfl rfl
        exact ih_i_11 e_17 _ _ _ ⟨v_12, v_13, ((1103515245 * ((1103515245 * x_14) + 12345)) + 12345), x_15, (by omega), (cn_go hcd_i_11 (cst_4 c_35)), hP, hD, hS, lv_sub hl [0, 2, 3, 4, 5] rfl⟩
      · have hP : va_P V.1 vwCl [(z 17, aI V 7 (fun _ => 0)), (z 1, aI V 3075 (upd (upd (fun _ => 0) 51 v_12) 52 v_13)), (z 0, .inr (10, mo z 0 0 0 0 0 0 0 0 0 0 (-1) 0 ((1103515245 * ((1103515245 * x_14) + 12345)) + 12345) 0 0 0))] H := hP
        have hD : va_D A [(z 17, aI V 7 (fun _ => 0)), (z 1, aI V 3075 (upd (upd (fun _ => 0) 51 v_12) 52 v_13)), (z 0, .inr (10, mo z 0 0 0 0 0 0 0 0 0 0 (-1) 0 ((1103515245 * ((1103515245 * x_14) + 12345)) + 12345) 0 0 0))] := hD
        refine lv_istore (lv' := [(5, .int 13), (4, .int (nI i_11)), (3, .int x_15), (0, .ref (z 0)), (1, .int p0), (2, .int (nI N_10))]) hx hb dX10_century_44 hl (by decide) rfl (fun ls hl => ?_)
        refine lv_aload_n hx hb dX10_century_46 rfl (lv_at hl 3 rfl) ?_
        refine lv_iload hx hb dX10_century_47 (lv_at hl 0 rfl) ?_
        refine lv_i2l (v := 13) hx hb dX10_century_49 (by decide +kernel) ?_
        refine jnI (wr := [(z 17, aI V 7 (fun _ => 0))]) (rnV (rest := []) ⟨hx, hb, hml, hown, hg⟩ (c_X10_whyNot_7 l V z v_12 v_13 (((1103515245 * ((1103515245 * x_14) + 12345)) + 12345))) mt_X10_whyNot q_7_116 ⟨Nat.le_of_ble_eq_true rfl, Nat.le_of_ble_eq_true rfl⟩ hK hP hD hS hA hE [1, 2] rfl rfl 2 rfl rfl rfl rfl hl.1 rfl (Nat.le_of_ble_eq_true rfl) dX10_century_50 ⟨Nat.le_of_ble_eq_true rfl, Nat.le_of_ble_eq_true rfl⟩) hP hD hS hA [1, 2] [0] rfl rfl rfl (by decide) (fun r_79 w H locs hw hP hD hS => ?_)
        obtain ⟨rfl, rfl⟩ := hw
        have hP : va_P V.1 vwCl [(z 17, aI V 7 (fun _ => 0)), (z 1, aI V 3075 (upd (upd (fun _ => 0) 51 v_12) 52 v_13)), (z 0, .inr (10, mo z 0 0 0 0 0 0 0 0 0 0 (-1) 0 ((1103515245 * ((1103515245 * x_14) + 12345)) + 12345) 0 0 0))] H := hP
        have hD : va_D A [(z 17, aI V 7 (fun _ => 0)), (z 1, aI V 3075 (upd (upd (fun _ => 0) 51 v_12) 52 v_13)), (z 0, .inr (10, mo z 0 0 0 0 0 0 0 0 0 0 (-1) 0 ((1103515245 * ((1103515245 * x_14) + 12345)) + 12345) 0 0 0))] := hD
        refine lv_if_eq (tgt := 59) hx hb dX10_century_53 (by decide) (fun c_80 => absurd c_80 (by decide)) (fun _ => ?_)
        refine lv_goto (tgt := 68) hx hb dX10_century_56 (by decide) ?_
        refine lv_iinc (v := nI (i_11 + 1)) (lv' := [(4, .int (nI (i_11 + 1))), (5, .int 13), (3, .int x_15), (0, .ref (z 0)), (1, .int p0), (2, .int (nI N_10))]) hx hb dX10_century_68 hl (k := 1) rfl (nI_add i_11 1) (by decide) rfl (fun ls hl => ?_)
        refine lv_goto (tgt := 34) hx hb dX10_century_71 (by decide) ?_
        have hP := subP (ws' := [(z 17, aI V 7 (fun _ => 0)), (z 0, .inr (10, mo z 0 0 0 0 0 0 0 0 0 0 (-1) 0 ((1103515245 * ((1103515245 * x_14) + 12345)) + 12345) 0 0 0)), (z 1, aI V 3075 (upd (upd (fun _ => 0) 51 v_12) 52 v_13))]) hP [0, 2, 1] rfl
        have hD := hD.sub (ws' := [(z 17, aI V 7 (fun _ => 0)), (z 0, .inr (10, mo z 0 0 0 0 0 0 0 0 0 0 (-1) 0 ((1103515245 * ((1103515245 * x_14) + 12345)) + 12345) 0 0 0)), (z 1, aI V 3075 (upd (upd (fun _ => 0) 51 v_12) 52 v_13))]) [0, 2, 1] rfl rfl
        exact ih_i_11 e_17 _ _ _ ⟨v_12, v_13, ((1103515245 * ((1103515245 * x_14) + 12345)) + 12345), x_15, (by omega), (cn_go hcd_i_11 (cst_4 c_37)), hP, hD, hS, lv_sub hl [0, 2, 3, 4, 5] rfl⟩
      · have hP : va_P V.1 vwCl [(z 17, aI V 7 (fun _ => 0)), (z 1, aI V 3075 (upd (upd (fun _ => 0) 51 v_12) 52 v_13)), (z 0, .inr (10, mo z 0 0 0 0 0 0 0 0 0 0 (-1) 0 ((1103515245 * ((1103515245 * x_14) + 12345)) + 12345) 0 0 0))] H := hP
        have hD : va_D A [(z 17, aI V 7 (fun _ => 0)), (z 1, aI V 3075 (upd (upd (fun _ => 0) 51 v_12) 52 v_13)), (z 0, .inr (10, mo z 0 0 0 0 0 0 0 0 0 0 (-1) 0 ((1103515245 * ((1103515245 * x_14) + 12345)) + 12345) 0 0 0))] := hD
        refine lv_istore (lv' := [(5, .int 20), (4, .int (nI i_11)), (3, .int x_15), (0, .ref (z 0)), (1, .int p0), (2, .int (nI N_10))]) hx hb dX10_century_44 hl (by decide) rfl (fun ls hl => ?_)
        refine lv_aload_n hx hb dX10_century_46 rfl (lv_at hl 3 rfl) ?_
        refine lv_iload hx hb dX10_century_47 (lv_at hl 0 rfl) ?_
        refine lv_i2l (v := 20) hx hb dX10_century_49 (by decide +kernel) ?_
        refine jnI (wr := [(z 17, aI V 7 (fun _ => 0)), (z 1, aI V 3075 (upd (upd (fun _ => 0) 51 v_12) 52 v_13)), (z 0, .inr (10, mo z 0 0 0 0 0 0 0 0 0 0 (-1) 0 ((1103515245 * ((1103515245 * x_14) + 12345)) + 12345) 0 0 0))]) (rnV (rest := []) ⟨hx, hb, hml, hown, hg⟩ (c_X10_whyNot_8 l V z) mt_X10_whyNot q_7_116 ⟨Nat.le_of_ble_eq_true rfl, Nat.le_of_ble_eq_true rfl⟩ hK hP hD hS hA hE [] rfl rfl 2 rfl rfl rfl rfl hl.1 rfl (Nat.le_of_ble_eq_true rfl) dX10_century_50 ⟨Nat.le_of_ble_eq_true rfl, Nat.le_of_ble_eq_true rfl⟩) hP hD hS hA [] [0, 1, 2] rfl rfl rfl (by decide) (fun r_81 w H locs hw hP hD hS => ?_)
        obtain ⟨rfl, rfl⟩ := hw
        have hP : va_P V.1 vwCl [(z 17, aI V 7 (fun _ => 0)), (z 1, aI V 3075 (upd (upd (fun _ => 0) 51 v_12) 52 v_13)), (z 0, .inr (10, mo z 0 0 0 0 0 0 0 0 0 0 (-1) 0 ((1103515245 * ((1103515245 * x_14) + 12345)) + 12345) 0 0 0))] H := hP
        have hD : va_D A [(z 17, aI V 7 (fun _ => 0)), (z 1, aI V 3075 (upd (upd (fun _ => 0) 51 v_12) 52 v_13)), (z 0, .inr (10, mo z 0 0 0 0 0 0 0 0 0 0 (-1) 0 ((1103515245 * ((1103515245 * x_14) + 12345)) + 12345) 0 0 0))] := hD
        refine lv_if_eq (tgt := 59) hx hb dX10_century_53 (by decide) (fun _ => ?_) (fun c_82 => absurd c_82 (by decide))
        refine lv_aload_n hx hb dX10_century_59 rfl (lv_at hl 3 rfl) ?_
        refine lv_iload hx hb dX10_century_60 (lv_at hl 0 rfl) ?_
        refine jnV (wr := [(z 17, aI V 7 (fun _ => 0))]) (rnV (rest := []) ⟨hx, hb, hml, hown, hg⟩ (c_X10_does_1 l V z v_12 v_13 (((1103515245 * ((1103515245 * x_14) + 12345)) + 12345))) mt_X10_does q_7_123 ⟨Nat.le_of_ble_eq_true rfl, Nat.le_of_ble_eq_true rfl⟩ hK hP hD hS hA hE [1, 2] rfl rfl 2 rfl rfl rfl rfl hl.1 rfl (Nat.le_of_ble_eq_true rfl) dX10_century_62 ⟨Nat.le_of_ble_eq_true rfl, Nat.le_of_ble_eq_true rfl⟩) hP hD hS hA [1, 2] [0] rfl rfl rfl (by decide) (fun  w H locs hw hP hD hS => ?_)
        subst hw
        have hP : va_P V.1 vwCl [(z 17, aI V 7 (fun _ => 0)), (z 1, aI V 3075 (upd (upd (fun _ => 0) 51 0) 52 v_13)), (z 0, .inr (10, mo z 0 0 0 0 0 0 0 0 0 0 (-1) 0 ((1103515245 * ((1103515245 * x_14) + 12345)) + 12345) 0 0 0))] H := hP
        have hD : va_D A [(z 17, aI V 7 (fun _ => 0)), (z 1, aI V 3075 (upd (upd (fun _ => 0) 51 0) 52 v_13)), (z 0, .inr (10, mo z 0 0 0 0 0 0 0 0 0 0 (-1) 0 ((1103515245 * ((1103515245 * x_14) + 12345)) + 12345) 0 0 0))] := hD
        refine lv_iinc (v := (x_15 + 1)) (lv' := [(3, .int (x_15 + 1)), (5, .int 20), (4, .int (nI i_11)), (0, .ref (z 0)), (1, .int p0), (2, .int (nI N_10))]) hx hb dX10_century_65 hl (k := 2) rfl rfl (by decide) rfl (fun ls hl => ?_)
        refine lv_iinc (v := nI (i_11 + 1)) (lv' := [(4, .int (nI (i_11 + 1))), (3, .int (x_15 + 1)), (5, .int 20), (0, .ref (z 0)), (1, .int p0), (2, .int (nI N_10))]) hx hb dX10_century_68 hl (k := 2) rfl (nI_add i_11 1) (by decide) rfl (fun ls hl => ?_)
        refine lv_goto (tgt := 34) hx hb dX10_century_71 (by decide) ?_
        have hP := subP (ws' := [(z 17, aI V 7 (fun _ => 0)), (z 0, .inr (10, mo z 0 0 0 0 0 0 0 0 0 0 (-1) 0 ((1103515245 * ((1103515245 * x_14) + 12345)) + 12345) 0 0 0)), (z 1, aI V 3075 (upd (upd (fun _ => 0) 51 0) 52 v_13))]) hP [0, 2, 1] rfl
        have hD := hD.sub (ws' := [(z 17, aI V 7 (fun _ => 0)), (z 0, .inr (10, mo z 0 0 0 0 0 0 0 0 0 0 (-1) 0 ((1103515245 * ((1103515245 * x_14) + 12345)) + 12345) 0 0 0)), (z 1, aI V 3075 (upd (upd (fun _ => 0) 51 0) 52 v_13))]) [0, 2, 1] rfl rfl
        exact ih_i_11 e_17 _ _ _ ⟨0, v_13, ((1103515245 * ((1103515245 * x_14) + 12345)) + 12345), (x_15 + 1), (by omega), (cn_go hcd_i_11 (cst_5 c_39)), hP, hD, hS, lv_sub hl [0, 1, 3, 4, 5] rfl⟩
      · have hP : va_P V.1 vwCl [(z 17, aI V 7 (fun _ => 0)), (z 1, aI V 3075 (upd (upd (fun _ => 0) 51 v_12) 52 v_13)), (z 0, .inr (10, mo z 0 0 0 0 0 0 0 0 0 0 (-1) 0 ((1103515245 * ((1103515245 * x_14) + 12345)) + 12345) 0 0 0))] H := hP
        have hD : va_D A [(z 17, aI V 7 (fun _ => 0)), (z 1, aI V 3075 (upd (upd (fun _ => 0) 51 v_12) 52 v_13)), (z 0, .inr (10, mo z 0 0 0 0 0 0 0 0 0 0 (-1) 0 ((1103515245 * ((1103515245 * x_14) + 12345)) + 12345) 0 0 0))] := hD
        refine lv_istore (lv' := [(5, .int 21), (4, .int (nI i_11)), (3, .int x_15), (0, .ref (z 0)), (1, .int p0), (2, .int (nI N_10))]) hx hb dX10_century_44 hl (by decide) rfl (fun ls hl => ?_)
        refine lv_aload_n hx hb dX10_century_46 rfl (lv_at hl 3 rfl) ?_
        refine lv_iload hx hb dX10_century_47 (lv_at hl 0 rfl) ?_
        refine lv_i2l (v := 21) hx hb dX10_century_49 (by decide +kernel) ?_
        refine jnI (wr := [(z 17, aI V 7 (fun _ => 0)), (z 1, aI V 3075 (upd (upd (fun _ => 0) 51 v_12) 52 v_13)), (z 0, .inr (10, mo z 0 0 0 0 0 0 0 0 0 0 (-1) 0 ((1103515245 * ((1103515245 * x_14) + 12345)) + 12345) 0 0 0))]) (rnV (rest := []) ⟨hx, hb, hml, hown, hg⟩ (c_X10_whyNot_9 l V z) mt_X10_whyNot q_7_116 ⟨Nat.le_of_ble_eq_true rfl, Nat.le_of_ble_eq_true rfl⟩ hK hP hD hS hA hE [] rfl rfl 2 rfl rfl rfl rfl hl.1 rfl (Nat.le_of_ble_eq_true rfl) dX10_century_50 ⟨Nat.le_of_ble_eq_true rfl, Nat.le_of_ble_eq_true rfl⟩) hP hD hS hA [] [0, 1, 2] rfl rfl rfl (by decide) (fun r_83 w H locs hw hP hD hS => ?_)
        obtain ⟨rfl, rfl⟩ := hw
        have hP : va_P V.1 vwCl [(z 17, aI V 7 (fun _ => 0)), (z 1, aI V 3075 (upd (upd (fun _ => 0) 51 v_12) 52 v_13)), (z 0, .inr (10, mo z 0 0 0 0 0 0 0 0 0 0 (-1) 0 ((1103515245 * ((1103515245 * x_14) + 12345)) + 12345) 0 0 0))] H := hP
        have hD : va_D A [(z 17, aI V 7 (fun _ => 0)), (z 1, aI V 3075 (upd (upd (fun _ => 0) 51 v_12) 52 v_13)), (z 0, .inr (10, mo z 0 0 0 0 0 0 0 0 0 0 (-1) 0 ((1103515245 * ((1103515245 * x_14) + 12345)) + 12345) 0 0 0))] := hD
        refine lv_if_eq (tgt := 59) hx hb dX10_century_53 (by decide) (fun _ => ?_) (fun c_84 => absurd c_84 (by decide))
        refine lv_aload_n hx hb dX10_century_59 rfl (lv_at hl 3 rfl) ?_
        refine lv_iload hx hb dX10_century_60 (lv_at hl 0 rfl) ?_
        refine jnV (wr := [(z 17, aI V 7 (fun _ => 0))]) (rnV (rest := []) ⟨hx, hb, hml, hown, hg⟩ (c_X10_does_2 l V z v_12 v_13 (((1103515245 * ((1103515245 * x_14) + 12345)) + 12345))) mt_X10_does q_7_123 ⟨Nat.le_of_ble_eq_true rfl, Nat.le_of_ble_eq_true rfl⟩ hK hP hD hS hA hE [1, 2] rfl rfl 2 rfl rfl rfl rfl hl.1 rfl (Nat.le_of_ble_eq_true rfl) dX10_century_62 ⟨Nat.le_of_ble_eq_true rfl, Nat.le_of_ble_eq_true rfl⟩) hP hD hS hA [1, 2] [0] rfl rfl rfl (by decide) (fun  w H locs hw hP hD hS => ?_)
        subst hw
        have hP : va_P V.1 vwCl [(z 17, aI V 7 (fun _ => 0)), (z 1, aI V 3075 (upd (upd (fun _ => 0) 51 1) 52 v_13)), (z 0, .inr (10, mo z 0 0 0 0 0 0 0 0 0 0 (-1) 0 ((1103515245 * ((1103515245 * x_14) + 12345)) + 12345) 0 0 0))] H := hP
        have hD : va_D A [(z 17, aI V 7 (fun _ => 0)), (z 1, aI V 3075 (upd (upd (fun _ => 0) 51 1) 52 v_13)), (z 0, .inr (10, mo z 0 0 0 0 0 0 0 0 0 0 (-1) 0 ((1103515245 * ((1103515245 * x_14) + 12345)) + 12345) 0 0 0))] := hD
        refine lv_iinc (v := (x_15 + 1)) (lv' := [(3, .int (x_15 + 1)), (5, .int 21), (4, .int (nI i_11)), (0, .ref (z 0)), (1, .int p0), (2, .int (nI N_10))]) hx hb dX10_century_65 hl (k := 2) rfl rfl (by decide) rfl (fun ls hl => ?_)
        refine lv_iinc (v := nI (i_11 + 1)) (lv' := [(4, .int (nI (i_11 + 1))), (3, .int (x_15 + 1)), (5, .int 21), (0, .ref (z 0)), (1, .int p0), (2, .int (nI N_10))]) hx hb dX10_century_68 hl (k := 2) rfl (nI_add i_11 1) (by decide) rfl (fun ls hl => ?_)
        refine lv_goto (tgt := 34) hx hb dX10_century_71 (by decide) ?_
        have hP := subP (ws' := [(z 17, aI V 7 (fun _ => 0)), (z 0, .inr (10, mo z 0 0 0 0 0 0 0 0 0 0 (-1) 0 ((1103515245 * ((1103515245 * x_14) + 12345)) + 12345) 0 0 0)), (z 1, aI V 3075 (upd (upd (fun _ => 0) 51 1) 52 v_13))]) hP [0, 2, 1] rfl
        have hD := hD.sub (ws' := [(z 17, aI V 7 (fun _ => 0)), (z 0, .inr (10, mo z 0 0 0 0 0 0 0 0 0 0 (-1) 0 ((1103515245 * ((1103515245 * x_14) + 12345)) + 12345) 0 0 0)), (z 1, aI V 3075 (upd (upd (fun _ => 0) 51 1) 52 v_13))]) [0, 2, 1] rfl rfl
        exact ih_i_11 e_17 _ _ _ ⟨1, v_13, ((1103515245 * ((1103515245 * x_14) + 12345)) + 12345), (x_15 + 1), (by omega), (cn_go hcd_i_11 (cst_5 c_41)), hP, hD, hS, lv_sub hl [0, 1, 3, 4, 5] rfl⟩
      · have hP : va_P V.1 vwCl [(z 17, aI V 7 (fun _ => 0)), (z 1, aI V 3075 (upd (upd (fun _ => 0) 51 v_12) 52 v_13)), (z 0, .inr (10, mo z 0 0 0 0 0 0 0 0 0 0 (-1) 0 ((1103515245 * ((1103515245 * x_14) + 12345)) + 12345) 0 0 0))] H := hP
        have hD : va_D A [(z 17, aI V 7 (fun _ => 0)), (z 1, aI V 3075 (upd (upd (fun _ => 0) 51 v_12) 52 v_13)), (z 0, .inr (10, mo z 0 0 0 0 0 0 0 0 0 0 (-1) 0 ((1103515245 * ((1103515245 * x_14) + 12345)) + 12345) 0 0 0))] := hD
        refine lv_istore (lv' := [(5, .int 22), (4, .int (nI i_11)), (3, .int x_15), (0, .ref (z 0)), (1, .int p0), (2, .int (nI N_10))]) hx hb dX10_century_44 hl (by decide) rfl (fun ls hl => ?_)
        refine lv_aload_n hx hb dX10_century_46 rfl (lv_at hl 3 rfl) ?_
        refine lv_iload hx hb dX10_century_47 (lv_at hl 0 rfl) ?_
        refine lv_i2l (v := 22) hx hb dX10_century_49 (by decide +kernel) ?_
        refine jnI (wr := [(z 17, aI V 7 (fun _ => 0)), (z 1, aI V 3075 (upd (upd (fun _ => 0) 51 v_12) 52 v_13)), (z 0, .inr (10, mo z 0 0 0 0 0 0 0 0 0 0 (-1) 0 ((1103515245 * ((1103515245 * x_14) + 12345)) + 12345) 0 0 0))]) (rnV (rest := []) ⟨hx, hb, hml, hown, hg⟩ (c_X10_whyNot_10 l V z) mt_X10_whyNot q_7_116 ⟨Nat.le_of_ble_eq_true rfl, Nat.le_of_ble_eq_true rfl⟩ hK hP hD hS hA hE [] rfl rfl 2 rfl rfl rfl rfl hl.1 rfl (Nat.le_of_ble_eq_true rfl) dX10_century_50 ⟨Nat.le_of_ble_eq_true rfl, Nat.le_of_ble_eq_true rfl⟩) hP hD hS hA [] [0, 1, 2] rfl rfl rfl (by decide) (fun r_85 w H locs hw hP hD hS => ?_)
        obtain ⟨rfl, rfl⟩ := hw
        have hP : va_P V.1 vwCl [(z 17, aI V 7 (fun _ => 0)), (z 1, aI V 3075 (upd (upd (fun _ => 0) 51 v_12) 52 v_13)), (z 0, .inr (10, mo z 0 0 0 0 0 0 0 0 0 0 (-1) 0 ((1103515245 * ((1103515245 * x_14) + 12345)) + 12345) 0 0 0))] H := hP
        have hD : va_D A [(z 17, aI V 7 (fun _ => 0)), (z 1, aI V 3075 (upd (upd (fun _ => 0) 51 v_12) 52 v_13)), (z 0, .inr (10, mo z 0 0 0 0 0 0 0 0 0 0 (-1) 0 ((1103515245 * ((1103515245 * x_14) + 12345)) + 12345) 0 0 0))] := hD
        refine lv_if_eq (tgt := 59) hx hb dX10_century_53 (by decide) (fun _ => ?_) (fun c_86 => absurd c_86 (by decide))
        refine lv_aload_n hx hb dX10_century_59 rfl (lv_at hl 3 rfl) ?_
        refine lv_iload hx hb dX10_century_60 (lv_at hl 0 rfl) ?_
        refine jnV (wr := [(z 17, aI V 7 (fun _ => 0))]) (rnV (rest := []) ⟨hx, hb, hml, hown, hg⟩ (c_X10_does_3 l V z v_12 v_13 (((1103515245 * ((1103515245 * x_14) + 12345)) + 12345))) mt_X10_does q_7_123 ⟨Nat.le_of_ble_eq_true rfl, Nat.le_of_ble_eq_true rfl⟩ hK hP hD hS hA hE [1, 2] rfl rfl 2 rfl rfl rfl rfl hl.1 rfl (Nat.le_of_ble_eq_true rfl) dX10_century_62 ⟨Nat.le_of_ble_eq_true rfl, Nat.le_of_ble_eq_true rfl⟩) hP hD hS hA [1, 2] [0] rfl rfl rfl (by decide) (fun  w H locs hw hP hD hS => ?_)
        subst hw
        have hP : va_P V.1 vwCl [(z 17, aI V 7 (fun _ => 0)), (z 1, aI V 3075 (upd (upd (fun _ => 0) 51 2) 52 v_13)), (z 0, .inr (10, mo z 0 0 0 0 0 0 0 0 0 0 (-1) 0 ((1103515245 * ((1103515245 * x_14) + 12345)) + 12345) 0 0 0))] H := hP
        have hD : va_D A [(z 17, aI V 7 (fun _ => 0)), (z 1, aI V 3075 (upd (upd (fun _ => 0) 51 2) 52 v_13)), (z 0, .inr (10, mo z 0 0 0 0 0 0 0 0 0 0 (-1) 0 ((1103515245 * ((1103515245 * x_14) + 12345)) + 12345) 0 0 0))] := hD
        refine lv_iinc (v := (x_15 + 1)) (lv' := [(3, .int (x_15 + 1)), (5, .int 22), (4, .int (nI i_11)), (0, .ref (z 0)), (1, .int p0), (2, .int (nI N_10))]) hx hb dX10_century_65 hl (k := 2) rfl rfl (by decide) rfl (fun ls hl => ?_)
        refine lv_iinc (v := nI (i_11 + 1)) (lv' := [(4, .int (nI (i_11 + 1))), (3, .int (x_15 + 1)), (5, .int 22), (0, .ref (z 0)), (1, .int p0), (2, .int (nI N_10))]) hx hb dX10_century_68 hl (k := 2) rfl (nI_add i_11 1) (by decide) rfl (fun ls hl => ?_)
        refine lv_goto (tgt := 34) hx hb dX10_century_71 (by decide) ?_
        have hP := subP (ws' := [(z 17, aI V 7 (fun _ => 0)), (z 0, .inr (10, mo z 0 0 0 0 0 0 0 0 0 0 (-1) 0 ((1103515245 * ((1103515245 * x_14) + 12345)) + 12345) 0 0 0)), (z 1, aI V 3075 (upd (upd (fun _ => 0) 51 2) 52 v_13))]) hP [0, 2, 1] rfl
        have hD := hD.sub (ws' := [(z 17, aI V 7 (fun _ => 0)), (z 0, .inr (10, mo z 0 0 0 0 0 0 0 0 0 0 (-1) 0 ((1103515245 * ((1103515245 * x_14) + 12345)) + 12345) 0 0 0)), (z 1, aI V 3075 (upd (upd (fun _ => 0) 51 2) 52 v_13))]) [0, 2, 1] rfl rfl
        exact ih_i_11 e_17 _ _ _ ⟨2, v_13, ((1103515245 * ((1103515245 * x_14) + 12345)) + 12345), (x_15 + 1), (by omega), (cn_go hcd_i_11 (cst_5 c_43)), hP, hD, hS, lv_sub hl [0, 1, 3, 4, 5] rfl⟩
      · have hP : va_P V.1 vwCl [(z 17, aI V 7 (fun _ => 0)), (z 1, aI V 3075 (upd (upd (fun _ => 0) 51 v_12) 52 v_13)), (z 0, .inr (10, mo z 0 0 0 0 0 0 0 0 0 0 (-1) 0 ((1103515245 * ((1103515245 * x_14) + 12345)) + 12345) 0 0 0))] H := hP
        have hD : va_D A [(z 17, aI V 7 (fun _ => 0)), (z 1, aI V 3075 (upd (upd (fun _ => 0) 51 v_12) 52 v_13)), (z 0, .inr (10, mo z 0 0 0 0 0 0 0 0 0 0 (-1) 0 ((1103515245 * ((1103515245 * x_14) + 12345)) + 12345) 0 0 0))] := hD
        refine lv_istore (lv' := [(5, .int 23), (4, .int (nI i_11)), (3, .int x_15), (0, .ref (z 0)), (1, .int p0), (2, .int (nI N_10))]) hx hb dX10_century_44 hl (by decide) rfl (fun ls hl => ?_)
        refine lv_aload_n hx hb dX10_century_46 rfl (lv_at hl 3 rfl) ?_
        refine lv_iload hx hb dX10_century_47 (lv_at hl 0 rfl) ?_
        refine lv_i2l (v := 23) hx hb dX10_century_49 (by decide +kernel) ?_
        refine jnI (wr := [(z 17, aI V 7 (fun _ => 0)), (z 1, aI V 3075 (upd (upd (fun _ => 0) 51 v_12) 52 v_13)), (z 0, .inr (10, mo z 0 0 0 0 0 0 0 0 0 0 (-1) 0 ((1103515245 * ((1103515245 * x_14) + 12345)) + 12345) 0 0 0))]) (rnV (rest := []) ⟨hx, hb, hml, hown, hg⟩ (c_X10_whyNot_11 l V z) mt_X10_whyNot q_7_116 ⟨Nat.le_of_ble_eq_true rfl, Nat.le_of_ble_eq_true rfl⟩ hK hP hD hS hA hE [] rfl rfl 2 rfl rfl rfl rfl hl.1 rfl (Nat.le_of_ble_eq_true rfl) dX10_century_50 ⟨Nat.le_of_ble_eq_true rfl, Nat.le_of_ble_eq_true rfl⟩) hP hD hS hA [] [0, 1, 2] rfl rfl rfl (by decide) (fun r_87 w H locs hw hP hD hS => ?_)
        obtain ⟨rfl, rfl⟩ := hw
        have hP : va_P V.1 vwCl [(z 17, aI V 7 (fun _ => 0)), (z 1, aI V 3075 (upd (upd (fun _ => 0) 51 v_12) 52 v_13)), (z 0, .inr (10, mo z 0 0 0 0 0 0 0 0 0 0 (-1) 0 ((1103515245 * ((1103515245 * x_14) + 12345)) + 12345) 0 0 0))] H := hP
        have hD : va_D A [(z 17, aI V 7 (fun _ => 0)), (z 1, aI V 3075 (upd (upd (fun _ => 0) 51 v_12) 52 v_13)), (z 0, .inr (10, mo z 0 0 0 0 0 0 0 0 0 0 (-1) 0 ((1103515245 * ((1103515245 * x_14) + 12345)) + 12345) 0 0 0))] := hD
        refine lv_if_eq (tgt := 59) hx hb dX10_century_53 (by decide) (fun _ => ?_) (fun c_88 => absurd c_88 (by decide))
        refine lv_aload_n hx hb dX10_century_59 rfl (lv_at hl 3 rfl) ?_
        refine lv_iload hx hb dX10_century_60 (lv_at hl 0 rfl) ?_
        refine jnV (wr := [(z 17, aI V 7 (fun _ => 0))]) (rnV (rest := []) ⟨hx, hb, hml, hown, hg⟩ (c_X10_does_4 l V z v_12 v_13 (((1103515245 * ((1103515245 * x_14) + 12345)) + 12345))) mt_X10_does q_7_123 ⟨Nat.le_of_ble_eq_true rfl, Nat.le_of_ble_eq_true rfl⟩ hK hP hD hS hA hE [1, 2] rfl rfl 2 rfl rfl rfl rfl hl.1 rfl (Nat.le_of_ble_eq_true rfl) dX10_century_62 ⟨Nat.le_of_ble_eq_true rfl, Nat.le_of_ble_eq_true rfl⟩) hP hD hS hA [1, 2] [0] rfl rfl rfl (by decide) (fun  w H locs hw hP hD hS => ?_)
        subst hw
        have hP : va_P V.1 vwCl [(z 17, aI V 7 (fun _ => 0)), (z 1, aI V 3075 (upd (upd (fun _ => 0) 51 3) 52 v_13)), (z 0, .inr (10, mo z 0 0 0 0 0 0 0 0 0 0 (-1) 0 ((1103515245 * ((1103515245 * x_14) + 12345)) + 12345) 0 0 0))] H := hP
        have hD : va_D A [(z 17, aI V 7 (fun _ => 0)), (z 1, aI V 3075 (upd (upd (fun _ => 0) 51 3) 52 v_13)), (z 0, .inr (10, mo z 0 0 0 0 0 0 0 0 0 0 (-1) 0 ((1103515245 * ((1103515245 * x_14) + 12345)) + 12345) 0 0 0))] := hD
        refine lv_iinc (v := (x_15 + 1)) (lv' := [(3, .int (x_15 + 1)), (5, .int 23), (4, .int (nI i_11)), (0, .ref (z 0)), (1, .int p0), (2, .int (nI N_10))]) hx hb dX10_century_65 hl (k := 2) rfl rfl (by decide) rfl (fun ls hl => ?_)
        refine lv_iinc (v := nI (i_11 + 1)) (lv' := [(4, .int (nI (i_11 + 1))), (3, .int (x_15 + 1)), (5, .int 23), (0, .ref (z 0)), (1, .int p0), (2, .int (nI N_10))]) hx hb dX10_century_68 hl (k := 2) rfl (nI_add i_11 1) (by decide) rfl (fun ls hl => ?_)
        refine lv_goto (tgt := 34) hx hb dX10_century_71 (by decide) ?_
        have hP := subP (ws' := [(z 17, aI V 7 (fun _ => 0)), (z 0, .inr (10, mo z 0 0 0 0 0 0 0 0 0 0 (-1) 0 ((1103515245 * ((1103515245 * x_14) + 12345)) + 12345) 0 0 0)), (z 1, aI V 3075 (upd (upd (fun _ => 0) 51 3) 52 v_13))]) hP [0, 2, 1] rfl
        have hD := hD.sub (ws' := [(z 17, aI V 7 (fun _ => 0)), (z 0, .inr (10, mo z 0 0 0 0 0 0 0 0 0 0 (-1) 0 ((1103515245 * ((1103515245 * x_14) + 12345)) + 12345) 0 0 0)), (z 1, aI V 3075 (upd (upd (fun _ => 0) 51 3) 52 v_13))]) [0, 2, 1] rfl rfl
        exact ih_i_11 e_17 _ _ _ ⟨3, v_13, ((1103515245 * ((1103515245 * x_14) + 12345)) + 12345), (x_15 + 1), (by omega), (cn_go hcd_i_11 (cst_5 c_45)), hP, hD, hS, lv_sub hl [0, 1, 3, 4, 5] rfl⟩
      · have hP : va_P V.1 vwCl [(z 17, aI V 7 (fun _ => 0)), (z 1, aI V 3075 (upd (upd (fun _ => 0) 51 v_12) 52 v_13)), (z 0, .inr (10, mo z 0 0 0 0 0 0 0 0 0 0 (-1) 0 ((1103515245 * ((1103515245 * x_14) + 12345)) + 12345) 0 0 0))] H := hP
        have hD : va_D A [(z 17, aI V 7 (fun _ => 0)), (z 1, aI V 3075 (upd (upd (fun _ => 0) 51 v_12) 52 v_13)), (z 0, .inr (10, mo z 0 0 0 0 0 0 0 0 0 0 (-1) 0 ((1103515245 * ((1103515245 * x_14) + 12345)) + 12345) 0 0 0))] := hD
        refine lv_istore (lv' := [(5, .int 24), (4, .int (nI i_11)), (3, .int x_15), (0, .ref (z 0)), (1, .int p0), (2, .int (nI N_10))]) hx hb dX10_century_44 hl (by decide) rfl (fun ls hl => ?_)
        refine lv_aload_n hx hb dX10_century_46 rfl (lv_at hl 3 rfl) ?_
        refine lv_iload hx hb dX10_century_47 (lv_at hl 0 rfl) ?_
        refine lv_i2l (v := 24) hx hb dX10_century_49 (by decide +kernel) ?_
        refine jnI (wr := [(z 17, aI V 7 (fun _ => 0)), (z 1, aI V 3075 (upd (upd (fun _ => 0) 51 v_12) 52 v_13)), (z 0, .inr (10, mo z 0 0 0 0 0 0 0 0 0 0 (-1) 0 ((1103515245 * ((1103515245 * x_14) + 12345)) + 12345) 0 0 0))]) (rnV (rest := []) ⟨hx, hb, hml, hown, hg⟩ (c_X10_whyNot_12 l V z) mt_X10_whyNot q_7_116 ⟨Nat.le_of_ble_eq_true rfl, Nat.le_of_ble_eq_true rfl⟩ hK hP hD hS hA hE [] rfl rfl 2 rfl rfl rfl rfl hl.1 rfl (Nat.le_of_ble_eq_true rfl) dX10_century_50 ⟨Nat.le_of_ble_eq_true rfl, Nat.le_of_ble_eq_true rfl⟩) hP hD hS hA [] [0, 1, 2] rfl rfl rfl (by decide) (fun r_89 w H locs hw hP hD hS => ?_)
        obtain ⟨rfl, rfl⟩ := hw
        have hP : va_P V.1 vwCl [(z 17, aI V 7 (fun _ => 0)), (z 1, aI V 3075 (upd (upd (fun _ => 0) 51 v_12) 52 v_13)), (z 0, .inr (10, mo z 0 0 0 0 0 0 0 0 0 0 (-1) 0 ((1103515245 * ((1103515245 * x_14) + 12345)) + 12345) 0 0 0))] H := hP
        have hD : va_D A [(z 17, aI V 7 (fun _ => 0)), (z 1, aI V 3075 (upd (upd (fun _ => 0) 51 v_12) 52 v_13)), (z 0, .inr (10, mo z 0 0 0 0 0 0 0 0 0 0 (-1) 0 ((1103515245 * ((1103515245 * x_14) + 12345)) + 12345) 0 0 0))] := hD
        refine lv_if_eq (tgt := 59) hx hb dX10_century_53 (by decide) (fun _ => ?_) (fun c_90 => absurd c_90 (by decide))
        refine lv_aload_n hx hb dX10_century_59 rfl (lv_at hl 3 rfl) ?_
        refine lv_iload hx hb dX10_century_60 (lv_at hl 0 rfl) ?_
        refine jnV (wr := [(z 17, aI V 7 (fun _ => 0))]) (rnV (rest := []) ⟨hx, hb, hml, hown, hg⟩ (c_X10_does_5 l V z v_12 v_13 (((1103515245 * ((1103515245 * x_14) + 12345)) + 12345))) mt_X10_does q_7_123 ⟨Nat.le_of_ble_eq_true rfl, Nat.le_of_ble_eq_true rfl⟩ hK hP hD hS hA hE [1, 2] rfl rfl 2 rfl rfl rfl rfl hl.1 rfl (Nat.le_of_ble_eq_true rfl) dX10_century_62 ⟨Nat.le_of_ble_eq_true rfl, Nat.le_of_ble_eq_true rfl⟩) hP hD hS hA [1, 2] [0] rfl rfl rfl (by decide) (fun  w H locs hw hP hD hS => ?_)
        subst hw
        have hP : va_P V.1 vwCl [(z 17, aI V 7 (fun _ => 0)), (z 1, aI V 3075 (upd (upd (fun _ => 0) 51 4) 52 v_13)), (z 0, .inr (10, mo z 0 0 0 0 0 0 0 0 0 0 (-1) 0 ((1103515245 * ((1103515245 * x_14) + 12345)) + 12345) 0 0 0))] H := hP
        have hD : va_D A [(z 17, aI V 7 (fun _ => 0)), (z 1, aI V 3075 (upd (upd (fun _ => 0) 51 4) 52 v_13)), (z 0, .inr (10, mo z 0 0 0 0 0 0 0 0 0 0 (-1) 0 ((1103515245 * ((1103515245 * x_14) + 12345)) + 12345) 0 0 0))] := hD
        refine lv_iinc (v := (x_15 + 1)) (lv' := [(3, .int (x_15 + 1)), (5, .int 24), (4, .int (nI i_11)), (0, .ref (z 0)), (1, .int p0), (2, .int (nI N_10))]) hx hb dX10_century_65 hl (k := 2) rfl rfl (by decide) rfl (fun ls hl => ?_)
        refine lv_iinc (v := nI (i_11 + 1)) (lv' := [(4, .int (nI (i_11 + 1))), (3, .int (x_15 + 1)), (5, .int 24), (0, .ref (z 0)), (1, .int p0), (2, .int (nI N_10))]) hx hb dX10_century_68 hl (k := 2) rfl (nI_add i_11 1) (by decide) rfl (fun ls hl => ?_)
        refine lv_goto (tgt := 34) hx hb dX10_century_71 (by decide) ?_
        have hP := subP (ws' := [(z 17, aI V 7 (fun _ => 0)), (z 0, .inr (10, mo z 0 0 0 0 0 0 0 0 0 0 (-1) 0 ((1103515245 * ((1103515245 * x_14) + 12345)) + 12345) 0 0 0)), (z 1, aI V 3075 (upd (upd (fun _ => 0) 51 4) 52 v_13))]) hP [0, 2, 1] rfl
        have hD := hD.sub (ws' := [(z 17, aI V 7 (fun _ => 0)), (z 0, .inr (10, mo z 0 0 0 0 0 0 0 0 0 0 (-1) 0 ((1103515245 * ((1103515245 * x_14) + 12345)) + 12345) 0 0 0)), (z 1, aI V 3075 (upd (upd (fun _ => 0) 51 4) 52 v_13))]) [0, 2, 1] rfl rfl
        exact ih_i_11 e_17 _ _ _ ⟨4, v_13, ((1103515245 * ((1103515245 * x_14) + 12345)) + 12345), (x_15 + 1), (by omega), (cn_go hcd_i_11 (cst_5 c_47)), hP, hD, hS, lv_sub hl [0, 1, 3, 4, 5] rfl⟩
      · have hP : va_P V.1 vwCl [(z 17, aI V 7 (fun _ => 0)), (z 1, aI V 3075 (upd (upd (fun _ => 0) 51 v_12) 52 v_13)), (z 0, .inr (10, mo z 0 0 0 0 0 0 0 0 0 0 (-1) 0 ((1103515245 * ((1103515245 * x_14) + 12345)) + 12345) 0 0 0))] H := hP
        have hD : va_D A [(z 17, aI V 7 (fun _ => 0)), (z 1, aI V 3075 (upd (upd (fun _ => 0) 51 v_12) 52 v_13)), (z 0, .inr (10, mo z 0 0 0 0 0 0 0 0 0 0 (-1) 0 ((1103515245 * ((1103515245 * x_14) + 12345)) + 12345) 0 0 0))] := hD
        refine lv_istore (lv' := [(5, .int 25), (4, .int (nI i_11)), (3, .int x_15), (0, .ref (z 0)), (1, .int p0), (2, .int (nI N_10))]) hx hb dX10_century_44 hl (by decide) rfl (fun ls hl => ?_)
        refine lv_aload_n hx hb dX10_century_46 rfl (lv_at hl 3 rfl) ?_
        refine lv_iload hx hb dX10_century_47 (lv_at hl 0 rfl) ?_
        refine lv_i2l (v := 25) hx hb dX10_century_49 (by decide +kernel) ?_
        refine jnI (wr := [(z 17, aI V 7 (fun _ => 0)), (z 1, aI V 3075 (upd (upd (fun _ => 0) 51 v_12) 52 v_13)), (z 0, .inr (10, mo z 0 0 0 0 0 0 0 0 0 0 (-1) 0 ((1103515245 * ((1103515245 * x_14) + 12345)) + 12345) 0 0 0))]) (rnV (rest := []) ⟨hx, hb, hml, hown, hg⟩ (c_X10_whyNot_13 l V z) mt_X10_whyNot q_7_116 ⟨Nat.le_of_ble_eq_true rfl, Nat.le_of_ble_eq_true rfl⟩ hK hP hD hS hA hE [] rfl rfl 2 rfl rfl rfl rfl hl.1 rfl (Nat.le_of_ble_eq_true rfl) dX10_century_50 ⟨Nat.le_of_ble_eq_true rfl, Nat.le_of_ble_eq_true rfl⟩) hP hD hS hA [] [0, 1, 2] rfl rfl rfl (by decide) (fun r_91 w H locs hw hP hD hS => ?_)
        obtain ⟨rfl, rfl⟩ := hw
        have hP : va_P V.1 vwCl [(z 17, aI V 7 (fun _ => 0)), (z 1, aI V 3075 (upd (upd (fun _ => 0) 51 v_12) 52 v_13)), (z 0, .inr (10, mo z 0 0 0 0 0 0 0 0 0 0 (-1) 0 ((1103515245 * ((1103515245 * x_14) + 12345)) + 12345) 0 0 0))] H := hP
        have hD : va_D A [(z 17, aI V 7 (fun _ => 0)), (z 1, aI V 3075 (upd (upd (fun _ => 0) 51 v_12) 52 v_13)), (z 0, .inr (10, mo z 0 0 0 0 0 0 0 0 0 0 (-1) 0 ((1103515245 * ((1103515245 * x_14) + 12345)) + 12345) 0 0 0))] := hD
        refine lv_if_eq (tgt := 59) hx hb dX10_century_53 (by decide) (fun _ => ?_) (fun c_92 => absurd c_92 (by decide))
        refine lv_aload_n hx hb dX10_century_59 rfl (lv_at hl 3 rfl) ?_
        refine lv_iload hx hb dX10_century_60 (lv_at hl 0 rfl) ?_
        refine jnV (wr := [(z 17, aI V 7 (fun _ => 0))]) (rnV (rest := []) ⟨hx, hb, hml, hown, hg⟩ (c_X10_does_6 l V z v_12 v_13 (((1103515245 * ((1103515245 * x_14) + 12345)) + 12345))) mt_X10_does q_7_123 ⟨Nat.le_of_ble_eq_true rfl, Nat.le_of_ble_eq_true rfl⟩ hK hP hD hS hA hE [1, 2] rfl rfl 2 rfl rfl rfl rfl hl.1 rfl (Nat.le_of_ble_eq_true rfl) dX10_century_62 ⟨Nat.le_of_ble_eq_true rfl, Nat.le_of_ble_eq_true rfl⟩) hP hD hS hA [1, 2] [0] rfl rfl rfl (by decide) (fun  w H locs hw hP hD hS => ?_)
        subst hw
        have hP : va_P V.1 vwCl [(z 17, aI V 7 (fun _ => 0)), (z 1, aI V 3075 (upd (upd (fun _ => 0) 51 5) 52 v_13)), (z 0, .inr (10, mo z 0 0 0 0 0 0 0 0 0 0 (-1) 0 ((1103515245 * ((1103515245 * x_14) + 12345)) + 12345) 0 0 0))] H := hP
        have hD : va_D A [(z 17, aI V 7 (fun _ => 0)), (z 1, aI V 3075 (upd (upd (fun _ => 0) 51 5) 52 v_13)), (z 0, .inr (10, mo z 0 0 0 0 0 0 0 0 0 0 (-1) 0 ((1103515245 * ((1103515245 * x_14) + 12345)) + 12345) 0 0 0))] := hD
        refine lv_iinc (v := (x_15 + 1)) (lv' := [(3, .int (x_15 + 1)), (5, .int 25), (4, .int (nI i_11)), (0, .ref (z 0)), (1, .int p0), (2, .int (nI N_10))]) hx hb dX10_century_65 hl (k := 2) rfl rfl (by decide) rfl (fun ls hl => ?_)
        refine lv_iinc (v := nI (i_11 + 1)) (lv' := [(4, .int (nI (i_11 + 1))), (3, .int (x_15 + 1)), (5, .int 25), (0, .ref (z 0)), (1, .int p0), (2, .int (nI N_10))]) hx hb dX10_century_68 hl (k := 2) rfl (nI_add i_11 1) (by decide) rfl (fun ls hl => ?_)
        refine lv_goto (tgt := 34) hx hb dX10_century_71 (by decide) ?_
        have hP := subP (ws' := [(z 17, aI V 7 (fun _ => 0)), (z 0, .inr (10, mo z 0 0 0 0 0 0 0 0 0 0 (-1) 0 ((1103515245 * ((1103515245 * x_14) + 12345)) + 12345) 0 0 0)), (z 1, aI V 3075 (upd (upd (fun _ => 0) 51 5) 52 v_13))]) hP [0, 2, 1] rfl
        have hD := hD.sub (ws' := [(z 17, aI V 7 (fun _ => 0)), (z 0, .inr (10, mo z 0 0 0 0 0 0 0 0 0 0 (-1) 0 ((1103515245 * ((1103515245 * x_14) + 12345)) + 12345) 0 0 0)), (z 1, aI V 3075 (upd (upd (fun _ => 0) 51 5) 52 v_13))]) [0, 2, 1] rfl rfl
        exact ih_i_11 e_17 _ _ _ ⟨5, v_13, ((1103515245 * ((1103515245 * x_14) + 12345)) + 12345), (x_15 + 1), (by omega), (cn_go hcd_i_11 (cst_5 c_49)), hP, hD, hS, lv_sub hl [0, 1, 3, 4, 5] rfl⟩
      · have hP : va_P V.1 vwCl [(z 17, aI V 7 (fun _ => 0)), (z 1, aI V 3075 (upd (upd (fun _ => 0) 51 v_12) 52 v_13)), (z 0, .inr (10, mo z 0 0 0 0 0 0 0 0 0 0 (-1) 0 ((1103515245 * ((1103515245 * x_14) + 12345)) + 12345) 0 0 0))] H := hP
        have hD : va_D A [(z 17, aI V 7 (fun _ => 0)), (z 1, aI V 3075 (upd (upd (fun _ => 0) 51 v_12) 52 v_13)), (z 0, .inr (10, mo z 0 0 0 0 0 0 0 0 0 0 (-1) 0 ((1103515245 * ((1103515245 * x_14) + 12345)) + 12345) 0 0 0))] := hD
        refine lv_istore (lv' := [(5, .int 26), (4, .int (nI i_11)), (3, .int x_15), (0, .ref (z 0)), (1, .int p0), (2, .int (nI N_10))]) hx hb dX10_century_44 hl (by decide) rfl (fun ls hl => ?_)
        refine lv_aload_n hx hb dX10_century_46 rfl (lv_at hl 3 rfl) ?_
        refine lv_iload hx hb dX10_century_47 (lv_at hl 0 rfl) ?_
        refine lv_i2l (v := 26) hx hb dX10_century_49 (by decide +kernel) ?_
        refine jnI (wr := [(z 17, aI V 7 (fun _ => 0)), (z 1, aI V 3075 (upd (upd (fun _ => 0) 51 v_12) 52 v_13)), (z 0, .inr (10, mo z 0 0 0 0 0 0 0 0 0 0 (-1) 0 ((1103515245 * ((1103515245 * x_14) + 12345)) + 12345) 0 0 0))]) (rnV (rest := []) ⟨hx, hb, hml, hown, hg⟩ (c_X10_whyNot_14 l V z) mt_X10_whyNot q_7_116 ⟨Nat.le_of_ble_eq_true rfl, Nat.le_of_ble_eq_true rfl⟩ hK hP hD hS hA hE [] rfl rfl 2 rfl rfl rfl rfl hl.1 rfl (Nat.le_of_ble_eq_true rfl) dX10_century_50 ⟨Nat.le_of_ble_eq_true rfl, Nat.le_of_ble_eq_true rfl⟩) hP hD hS hA [] [0, 1, 2] rfl rfl rfl (by decide) (fun r_93 w H locs hw hP hD hS => ?_)
        obtain ⟨rfl, rfl⟩ := hw
        have hP : va_P V.1 vwCl [(z 17, aI V 7 (fun _ => 0)), (z 1, aI V 3075 (upd (upd (fun _ => 0) 51 v_12) 52 v_13)), (z 0, .inr (10, mo z 0 0 0 0 0 0 0 0 0 0 (-1) 0 ((1103515245 * ((1103515245 * x_14) + 12345)) + 12345) 0 0 0))] H := hP
        have hD : va_D A [(z 17, aI V 7 (fun _ => 0)), (z 1, aI V 3075 (upd (upd (fun _ => 0) 51 v_12) 52 v_13)), (z 0, .inr (10, mo z 0 0 0 0 0 0 0 0 0 0 (-1) 0 ((1103515245 * ((1103515245 * x_14) + 12345)) + 12345) 0 0 0))] := hD
        refine lv_if_eq (tgt := 59) hx hb dX10_century_53 (by decide) (fun _ => ?_) (fun c_94 => absurd c_94 (by decide))
        refine lv_aload_n hx hb dX10_century_59 rfl (lv_at hl 3 rfl) ?_
        refine lv_iload hx hb dX10_century_60 (lv_at hl 0 rfl) ?_
        refine jnV (wr := [(z 17, aI V 7 (fun _ => 0))]) (rnV (rest := []) ⟨hx, hb, hml, hown, hg⟩ (c_X10_does_7 l V z v_12 v_13 (((1103515245 * ((1103515245 * x_14) + 12345)) + 12345))) mt_X10_does q_7_123 ⟨Nat.le_of_ble_eq_true rfl, Nat.le_of_ble_eq_true rfl⟩ hK hP hD hS hA hE [1, 2] rfl rfl 2 rfl rfl rfl rfl hl.1 rfl (Nat.le_of_ble_eq_true rfl) dX10_century_62 ⟨Nat.le_of_ble_eq_true rfl, Nat.le_of_ble_eq_true rfl⟩) hP hD hS hA [1, 2] [0] rfl rfl rfl (by decide) (fun  w H locs hw hP hD hS => ?_)
        subst hw
        have hP : va_P V.1 vwCl [(z 17, aI V 7 (fun _ => 0)), (z 1, aI V 3075 (upd (upd (fun _ => 0) 51 6) 52 v_13)), (z 0, .inr (10, mo z 0 0 0 0 0 0 0 0 0 0 (-1) 0 ((1103515245 * ((1103515245 * x_14) + 12345)) + 12345) 0 0 0))] H := hP
        have hD : va_D A [(z 17, aI V 7 (fun _ => 0)), (z 1, aI V 3075 (upd (upd (fun _ => 0) 51 6) 52 v_13)), (z 0, .inr (10, mo z 0 0 0 0 0 0 0 0 0 0 (-1) 0 ((1103515245 * ((1103515245 * x_14) + 12345)) + 12345) 0 0 0))] := hD
        refine lv_iinc (v := (x_15 + 1)) (lv' := [(3, .int (x_15 + 1)), (5, .int 26), (4, .int (nI i_11)), (0, .ref (z 0)), (1, .int p0), (2, .int (nI N_10))]) hx hb dX10_century_65 hl (k := 2) rfl rfl (by decide) rfl (fun ls hl => ?_)
        refine lv_iinc (v := nI (i_11 + 1)) (lv' := [(4, .int (nI (i_11 + 1))), (3, .int (x_15 + 1)), (5, .int 26), (0, .ref (z 0)), (1, .int p0), (2, .int (nI N_10))]) hx hb dX10_century_68 hl (k := 2) rfl (nI_add i_11 1) (by decide) rfl (fun ls hl => ?_)
        refine lv_goto (tgt := 34) hx hb dX10_century_71 (by decide) ?_
        have hP := subP (ws' := [(z 17, aI V 7 (fun _ => 0)), (z 0, .inr (10, mo z 0 0 0 0 0 0 0 0 0 0 (-1) 0 ((1103515245 * ((1103515245 * x_14) + 12345)) + 12345) 0 0 0)), (z 1, aI V 3075 (upd (upd (fun _ => 0) 51 6) 52 v_13))]) hP [0, 2, 1] rfl
        have hD := hD.sub (ws' := [(z 17, aI V 7 (fun _ => 0)), (z 0, .inr (10, mo z 0 0 0 0 0 0 0 0 0 0 (-1) 0 ((1103515245 * ((1103515245 * x_14) + 12345)) + 12345) 0 0 0)), (z 1, aI V 3075 (upd (upd (fun _ => 0) 51 6) 52 v_13))]) [0, 2, 1] rfl rfl
        exact ih_i_11 e_17 _ _ _ ⟨6, v_13, ((1103515245 * ((1103515245 * x_14) + 12345)) + 12345), (x_15 + 1), (by omega), (cn_go hcd_i_11 (cst_5 c_51)), hP, hD, hS, lv_sub hl [0, 1, 3, 4, 5] rfl⟩
      · have hP : va_P V.1 vwCl [(z 17, aI V 7 (fun _ => 0)), (z 1, aI V 3075 (upd (upd (fun _ => 0) 51 v_12) 52 v_13)), (z 0, .inr (10, mo z 0 0 0 0 0 0 0 0 0 0 (-1) 0 ((1103515245 * ((1103515245 * x_14) + 12345)) + 12345) 0 0 0))] H := hP
        have hD : va_D A [(z 17, aI V 7 (fun _ => 0)), (z 1, aI V 3075 (upd (upd (fun _ => 0) 51 v_12) 52 v_13)), (z 0, .inr (10, mo z 0 0 0 0 0 0 0 0 0 0 (-1) 0 ((1103515245 * ((1103515245 * x_14) + 12345)) + 12345) 0 0 0))] := hD
        refine lv_istore (lv' := [(5, .int 27), (4, .int (nI i_11)), (3, .int x_15), (0, .ref (z 0)), (1, .int p0), (2, .int (nI N_10))]) hx hb dX10_century_44 hl (by decide) rfl (fun ls hl => ?_)
        refine lv_aload_n hx hb dX10_century_46 rfl (lv_at hl 3 rfl) ?_
        refine lv_iload hx hb dX10_century_47 (lv_at hl 0 rfl) ?_
        refine lv_i2l (v := 27) hx hb dX10_century_49 (by decide +kernel) ?_
        refine jnI (wr := [(z 17, aI V 7 (fun _ => 0)), (z 1, aI V 3075 (upd (upd (fun _ => 0) 51 v_12) 52 v_13)), (z 0, .inr (10, mo z 0 0 0 0 0 0 0 0 0 0 (-1) 0 ((1103515245 * ((1103515245 * x_14) + 12345)) + 12345) 0 0 0))]) (rnV (rest := []) ⟨hx, hb, hml, hown, hg⟩ (c_X10_whyNot_15 l V z) mt_X10_whyNot q_7_116 ⟨Nat.le_of_ble_eq_true rfl, Nat.le_of_ble_eq_true rfl⟩ hK hP hD hS hA hE [] rfl rfl 2 rfl rfl rfl rfl hl.1 rfl (Nat.le_of_ble_eq_true rfl) dX10_century_50 ⟨Nat.le_of_ble_eq_true rfl, Nat.le_of_ble_eq_true rfl⟩) hP hD hS hA [] [0, 1, 2] rfl rfl rfl (by decide) (fun r_95 w H locs hw hP hD hS => ?_)
        obtain ⟨rfl, rfl⟩ := hw
        have hP : va_P V.1 vwCl [(z 17, aI V 7 (fun _ => 0)), (z 1, aI V 3075 (upd (upd (fun _ => 0) 51 v_12) 52 v_13)), (z 0, .inr (10, mo z 0 0 0 0 0 0 0 0 0 0 (-1) 0 ((1103515245 * ((1103515245 * x_14) + 12345)) + 12345) 0 0 0))] H := hP
        have hD : va_D A [(z 17, aI V 7 (fun _ => 0)), (z 1, aI V 3075 (upd (upd (fun _ => 0) 51 v_12) 52 v_13)), (z 0, .inr (10, mo z 0 0 0 0 0 0 0 0 0 0 (-1) 0 ((1103515245 * ((1103515245 * x_14) + 12345)) + 12345) 0 0 0))] := hD
        refine lv_if_eq (tgt := 59) hx hb dX10_century_53 (by decide) (fun _ => ?_) (fun c_96 => absurd c_96 (by decide))
        refine lv_aload_n hx hb dX10_century_59 rfl (lv_at hl 3 rfl) ?_
        refine lv_iload hx hb dX10_century_60 (lv_at hl 0 rfl) ?_
        refine jnV (wr := [(z 17, aI V 7 (fun _ => 0))]) (rnV (rest := []) ⟨hx, hb, hml, hown, hg⟩ (c_X10_does_8 l V z v_12 v_13 (((1103515245 * ((1103515245 * x_14) + 12345)) + 12345))) mt_X10_does q_7_123 ⟨Nat.le_of_ble_eq_true rfl, Nat.le_of_ble_eq_true rfl⟩ hK hP hD hS hA hE [1, 2] rfl rfl 2 rfl rfl rfl rfl hl.1 rfl (Nat.le_of_ble_eq_true rfl) dX10_century_62 ⟨Nat.le_of_ble_eq_true rfl, Nat.le_of_ble_eq_true rfl⟩) hP hD hS hA [1, 2] [0] rfl rfl rfl (by decide) (fun  w H locs hw hP hD hS => ?_)
        subst hw
        have hP : va_P V.1 vwCl [(z 17, aI V 7 (fun _ => 0)), (z 1, aI V 3075 (upd (upd (fun _ => 0) 51 7) 52 v_13)), (z 0, .inr (10, mo z 0 0 0 0 0 0 0 0 0 0 (-1) 0 ((1103515245 * ((1103515245 * x_14) + 12345)) + 12345) 0 0 0))] H := hP
        have hD : va_D A [(z 17, aI V 7 (fun _ => 0)), (z 1, aI V 3075 (upd (upd (fun _ => 0) 51 7) 52 v_13)), (z 0, .inr (10, mo z 0 0 0 0 0 0 0 0 0 0 (-1) 0 ((1103515245 * ((1103515245 * x_14) + 12345)) + 12345) 0 0 0))] := hD
        refine lv_iinc (v := (x_15 + 1)) (lv' := [(3, .int (x_15 + 1)), (5, .int 27), (4, .int (nI i_11)), (0, .ref (z 0)), (1, .int p0), (2, .int (nI N_10))]) hx hb dX10_century_65 hl (k := 2) rfl rfl (by decide) rfl (fun ls hl => ?_)
        refine lv_iinc (v := nI (i_11 + 1)) (lv' := [(4, .int (nI (i_11 + 1))), (3, .int (x_15 + 1)), (5, .int 27), (0, .ref (z 0)), (1, .int p0), (2, .int (nI N_10))]) hx hb dX10_century_68 hl (k := 2) rfl (nI_add i_11 1) (by decide) rfl (fun ls hl => ?_)
        refine lv_goto (tgt := 34) hx hb dX10_century_71 (by decide) ?_
        have hP := subP (ws' := [(z 17, aI V 7 (fun _ => 0)), (z 0, .inr (10, mo z 0 0 0 0 0 0 0 0 0 0 (-1) 0 ((1103515245 * ((1103515245 * x_14) + 12345)) + 12345) 0 0 0)), (z 1, aI V 3075 (upd (upd (fun _ => 0) 51 7) 52 v_13))]) hP [0, 2, 1] rfl
        have hD := hD.sub (ws' := [(z 17, aI V 7 (fun _ => 0)), (z 0, .inr (10, mo z 0 0 0 0 0 0 0 0 0 0 (-1) 0 ((1103515245 * ((1103515245 * x_14) + 12345)) + 12345) 0 0 0)), (z 1, aI V 3075 (upd (upd (fun _ => 0) 51 7) 52 v_13))]) [0, 2, 1] rfl rfl
        exact ih_i_11 e_17 _ _ _ ⟨7, v_13, ((1103515245 * ((1103515245 * x_14) + 12345)) + 12345), (x_15 + 1), (by omega), (cn_go hcd_i_11 (cst_5 c_53)), hP, hD, hS, lv_sub hl [0, 1, 3, 4, 5] rfl⟩
      · have hP : va_P V.1 vwCl [(z 17, aI V 7 (fun _ => 0)), (z 1, aI V 3075 (upd (upd (fun _ => 0) 51 v_12) 52 v_13)), (z 0, .inr (10, mo z 0 0 0 0 0 0 0 0 0 0 (-1) 0 ((1103515245 * ((1103515245 * x_14) + 12345)) + 12345) 0 0 0))] H := hP
        have hD : va_D A [(z 17, aI V 7 (fun _ => 0)), (z 1, aI V 3075 (upd (upd (fun _ => 0) 51 v_12) 52 v_13)), (z 0, .inr (10, mo z 0 0 0 0 0 0 0 0 0 0 (-1) 0 ((1103515245 * ((1103515245 * x_14) + 12345)) + 12345) 0 0 0))] := hD
        refine lv_istore (lv' := [(5, .int 28), (4, .int (nI i_11)), (3, .int x_15), (0, .ref (z 0)), (1, .int p0), (2, .int (nI N_10))]) hx hb dX10_century_44 hl (by decide) rfl (fun ls hl => ?_)
        refine lv_aload_n hx hb dX10_century_46 rfl (lv_at hl 3 rfl) ?_
        refine lv_iload hx hb dX10_century_47 (lv_at hl 0 rfl) ?_
        refine lv_i2l (v := 28) hx hb dX10_century_49 (by decide +kernel) ?_
        refine jnI (wr := [(z 17, aI V 7 (fun _ => 0)), (z 1, aI V 3075 (upd (upd (fun _ => 0) 51 v_12) 52 v_13)), (z 0, .inr (10, mo z 0 0 0 0 0 0 0 0 0 0 (-1) 0 ((1103515245 * ((1103515245 * x_14) + 12345)) + 12345) 0 0 0))]) (rnV (rest := []) ⟨hx, hb, hml, hown, hg⟩ (c_X10_whyNot_16 l V z) mt_X10_whyNot q_7_116 ⟨Nat.le_of_ble_eq_true rfl, Nat.le_of_ble_eq_true rfl⟩ hK hP hD hS hA hE [] rfl rfl 2 rfl rfl rfl rfl hl.1 rfl (Nat.le_of_ble_eq_true rfl) dX10_century_50 ⟨Nat.le_of_ble_eq_true rfl, Nat.le_of_ble_eq_true rfl⟩) hP hD hS hA [] [0, 1, 2] rfl rfl rfl (by decide) (fun r_97 w H locs hw hP hD hS => ?_)
        obtain ⟨rfl, rfl⟩ := hw
        have hP : va_P V.1 vwCl [(z 17, aI V 7 (fun _ => 0)), (z 1, aI V 3075 (upd (upd (fun _ => 0) 51 v_12) 52 v_13)), (z 0, .inr (10, mo z 0 0 0 0 0 0 0 0 0 0 (-1) 0 ((1103515245 * ((1103515245 * x_14) + 12345)) + 12345) 0 0 0))] H := hP
        have hD : va_D A [(z 17, aI V 7 (fun _ => 0)), (z 1, aI V 3075 (upd (upd (fun _ => 0) 51 v_12) 52 v_13)), (z 0, .inr (10, mo z 0 0 0 0 0 0 0 0 0 0 (-1) 0 ((1103515245 * ((1103515245 * x_14) + 12345)) + 12345) 0 0 0))] := hD
        refine lv_if_eq (tgt := 59) hx hb dX10_century_53 (by decide) (fun _ => ?_) (fun c_98 => absurd c_98 (by decide))
        refine lv_aload_n hx hb dX10_century_59 rfl (lv_at hl 3 rfl) ?_
        refine lv_iload hx hb dX10_century_60 (lv_at hl 0 rfl) ?_
        refine jnV (wr := [(z 17, aI V 7 (fun _ => 0))]) (rnV (rest := []) ⟨hx, hb, hml, hown, hg⟩ (c_X10_does_9 l V z v_12 v_13 (((1103515245 * ((1103515245 * x_14) + 12345)) + 12345))) mt_X10_does q_7_123 ⟨Nat.le_of_ble_eq_true rfl, Nat.le_of_ble_eq_true rfl⟩ hK hP hD hS hA hE [1, 2] rfl rfl 2 rfl rfl rfl rfl hl.1 rfl (Nat.le_of_ble_eq_true rfl) dX10_century_62 ⟨Nat.le_of_ble_eq_true rfl, Nat.le_of_ble_eq_true rfl⟩) hP hD hS hA [1, 2] [0] rfl rfl rfl (by decide) (fun  w H locs hw hP hD hS => ?_)
        subst hw
        have hP : va_P V.1 vwCl [(z 17, aI V 7 (fun _ => 0)), (z 1, aI V 3075 (upd (upd (fun _ => 0) 51 8) 52 v_13)), (z 0, .inr (10, mo z 0 0 0 0 0 0 0 0 0 0 (-1) 0 ((1103515245 * ((1103515245 * x_14) + 12345)) + 12345) 0 0 0))] H := hP
        have hD : va_D A [(z 17, aI V 7 (fun _ => 0)), (z 1, aI V 3075 (upd (upd (fun _ => 0) 51 8) 52 v_13)), (z 0, .inr (10, mo z 0 0 0 0 0 0 0 0 0 0 (-1) 0 ((1103515245 * ((1103515245 * x_14) + 12345)) + 12345) 0 0 0))] := hD
        refine lv_iinc (v := (x_15 + 1)) (lv' := [(3, .int (x_15 + 1)), (5, .int 28), (4, .int (nI i_11)), (0, .ref (z 0)), (1, .int p0), (2, .int (nI N_10))]) hx hb dX10_century_65 hl (k := 2) rfl rfl (by decide) rfl (fun ls hl => ?_)
        refine lv_iinc (v := nI (i_11 + 1)) (lv' := [(4, .int (nI (i_11 + 1))), (3, .int (x_15 + 1)), (5, .int 28), (0, .ref (z 0)), (1, .int p0), (2, .int (nI N_10))]) hx hb dX10_century_68 hl (k := 2) rfl (nI_add i_11 1) (by decide) rfl (fun ls hl => ?_)
        refine lv_goto (tgt := 34) hx hb dX10_century_71 (by decide) ?_
        have hP := subP (ws' := [(z 17, aI V 7 (fun _ => 0)), (z 0, .inr (10, mo z 0 0 0 0 0 0 0 0 0 0 (-1) 0 ((1103515245 * ((1103515245 * x_14) + 12345)) + 12345) 0 0 0)), (z 1, aI V 3075 (upd (upd (fun _ => 0) 51 8) 52 v_13))]) hP [0, 2, 1] rfl
        have hD := hD.sub (ws' := [(z 17, aI V 7 (fun _ => 0)), (z 0, .inr (10, mo z 0 0 0 0 0 0 0 0 0 0 (-1) 0 ((1103515245 * ((1103515245 * x_14) + 12345)) + 12345) 0 0 0)), (z 1, aI V 3075 (upd (upd (fun _ => 0) 51 8) 52 v_13))]) [0, 2, 1] rfl rfl
        exact ih_i_11 e_17 _ _ _ ⟨8, v_13, ((1103515245 * ((1103515245 * x_14) + 12345)) + 12345), (x_15 + 1), (by omega), (cn_go hcd_i_11 (cst_5 c_55)), hP, hD, hS, lv_sub hl [0, 1, 3, 4, 5] rfl⟩
      · have hP : va_P V.1 vwCl [(z 17, aI V 7 (fun _ => 0)), (z 1, aI V 3075 (upd (upd (fun _ => 0) 51 v_12) 52 v_13)), (z 0, .inr (10, mo z 0 0 0 0 0 0 0 0 0 0 (-1) 0 ((1103515245 * ((1103515245 * x_14) + 12345)) + 12345) 0 0 0))] H := hP
        have hD : va_D A [(z 17, aI V 7 (fun _ => 0)), (z 1, aI V 3075 (upd (upd (fun _ => 0) 51 v_12) 52 v_13)), (z 0, .inr (10, mo z 0 0 0 0 0 0 0 0 0 0 (-1) 0 ((1103515245 * ((1103515245 * x_14) + 12345)) + 12345) 0 0 0))] := hD
        refine lv_istore (lv' := [(5, .int 29), (4, .int (nI i_11)), (3, .int x_15), (0, .ref (z 0)), (1, .int p0), (2, .int (nI N_10))]) hx hb dX10_century_44 hl (by decide) rfl (fun ls hl => ?_)
        refine lv_aload_n hx hb dX10_century_46 rfl (lv_at hl 3 rfl) ?_
        refine lv_iload hx hb dX10_century_47 (lv_at hl 0 rfl) ?_
        refine lv_i2l (v := 29) hx hb dX10_century_49 (by decide +kernel) ?_
        refine jnI (wr := [(z 17, aI V 7 (fun _ => 0)), (z 1, aI V 3075 (upd (upd (fun _ => 0) 51 v_12) 52 v_13)), (z 0, .inr (10, mo z 0 0 0 0 0 0 0 0 0 0 (-1) 0 ((1103515245 * ((1103515245 * x_14) + 12345)) + 12345) 0 0 0))]) (rnV (rest := []) ⟨hx, hb, hml, hown, hg⟩ (c_X10_whyNot_17 l V z) mt_X10_whyNot q_7_116 ⟨Nat.le_of_ble_eq_true rfl, Nat.le_of_ble_eq_true rfl⟩ hK hP hD hS hA hE [] rfl rfl 2 rfl rfl rfl rfl hl.1 rfl (Nat.le_of_ble_eq_true rfl) dX10_century_50 ⟨Nat.le_of_ble_eq_true rfl, Nat.le_of_ble_eq_true rfl⟩) hP hD hS hA [] [0, 1, 2] rfl rfl rfl (by decide) (fun r_99 w H locs hw hP hD hS => ?_)
        obtain ⟨rfl, rfl⟩ := hw
        have hP : va_P V.1 vwCl [(z 17, aI V 7 (fun _ => 0)), (z 1, aI V 3075 (upd (upd (fun _ => 0) 51 v_12) 52 v_13)), (z 0, .inr (10, mo z 0 0 0 0 0 0 0 0 0 0 (-1) 0 ((1103515245 * ((1103515245 * x_14) + 12345)) + 12345) 0 0 0))] H := hP
        have hD : va_D A [(z 17, aI V 7 (fun _ => 0)), (z 1, aI V 3075 (upd (upd (fun _ => 0) 51 v_12) 52 v_13)), (z 0, .inr (10, mo z 0 0 0 0 0 0 0 0 0 0 (-1) 0 ((1103515245 * ((1103515245 * x_14) + 12345)) + 12345) 0 0 0))] := hD
        refine lv_if_eq (tgt := 59) hx hb dX10_century_53 (by decide) (fun _ => ?_) (fun c_100 => absurd c_100 (by decide))
        refine lv_aload_n hx hb dX10_century_59 rfl (lv_at hl 3 rfl) ?_
        refine lv_iload hx hb dX10_century_60 (lv_at hl 0 rfl) ?_
        refine jnV (wr := [(z 17, aI V 7 (fun _ => 0))]) (rnV (rest := []) ⟨hx, hb, hml, hown, hg⟩ (c_X10_does_10 l V z v_12 v_13 (((1103515245 * ((1103515245 * x_14) + 12345)) + 12345))) mt_X10_does q_7_123 ⟨Nat.le_of_ble_eq_true rfl, Nat.le_of_ble_eq_true rfl⟩ hK hP hD hS hA hE [1, 2] rfl rfl 2 rfl rfl rfl rfl hl.1 rfl (Nat.le_of_ble_eq_true rfl) dX10_century_62 ⟨Nat.le_of_ble_eq_true rfl, Nat.le_of_ble_eq_true rfl⟩) hP hD hS hA [1, 2] [0] rfl rfl rfl (by decide) (fun  w H locs hw hP hD hS => ?_)
        subst hw
        have hP : va_P V.1 vwCl [(z 17, aI V 7 (fun _ => 0)), (z 1, aI V 3075 (upd (upd (fun _ => 0) 51 9) 52 v_13)), (z 0, .inr (10, mo z 0 0 0 0 0 0 0 0 0 0 (-1) 0 ((1103515245 * ((1103515245 * x_14) + 12345)) + 12345) 0 0 0))] H := hP
        have hD : va_D A [(z 17, aI V 7 (fun _ => 0)), (z 1, aI V 3075 (upd (upd (fun _ => 0) 51 9) 52 v_13)), (z 0, .inr (10, mo z 0 0 0 0 0 0 0 0 0 0 (-1) 0 ((1103515245 * ((1103515245 * x_14) + 12345)) + 12345) 0 0 0))] := hD
        refine lv_iinc (v := (x_15 + 1)) (lv' := [(3, .int (x_15 + 1)), (5, .int 29), (4, .int (nI i_11)), (0, .ref (z 0)), (1, .int p0), (2, .int (nI N_10))]) hx hb dX10_century_65 hl (k := 2) rfl rfl (by decide) rfl (fun ls hl => ?_)
        refine lv_iinc (v := nI (i_11 + 1)) (lv' := [(4, .int (nI (i_11 + 1))), (3, .int (x_15 + 1)), (5, .int 29), (0, .ref (z 0)), (1, .int p0), (2, .int (nI N_10))]) hx hb dX10_century_68 hl (k := 2) rfl (nI_add i_11 1) (by decide) rfl (fun ls hl => ?_)
        refine lv_goto (tgt := 34) hx hb dX10_century_71 (by decide) ?_
        have hP := subP (ws' := [(z 17, aI V 7 (fun _ => 0)), (z 0, .inr (10, mo z 0 0 0 0 0 0 0 0 0 0 (-1) 0 ((1103515245 * ((1103515245 * x_14) + 12345)) + 12345) 0 0 0)), (z 1, aI V 3075 (upd (upd (fun _ => 0) 51 9) 52 v_13))]) hP [0, 2, 1] rfl
        have hD := hD.sub (ws' := [(z 17, aI V 7 (fun _ => 0)), (z 0, .inr (10, mo z 0 0 0 0 0 0 0 0 0 0 (-1) 0 ((1103515245 * ((1103515245 * x_14) + 12345)) + 12345) 0 0 0)), (z 1, aI V 3075 (upd (upd (fun _ => 0) 51 9) 52 v_13))]) [0, 2, 1] rfl rfl
        exact ih_i_11 e_17 _ _ _ ⟨9, v_13, ((1103515245 * ((1103515245 * x_14) + 12345)) + 12345), (x_15 + 1), (by omega), (cn_go hcd_i_11 (cst_5 c_57)), hP, hD, hS, lv_sub hl [0, 1, 3, 4, 5] rfl⟩
theorem q_4_13 : Cond.constant "BeaconDelay" 225 (1103515245 : Int32) ∈ gw := gw_4 (i := 13) (by decide +kernel) rfl
theorem dX9_drawnFrom_0 : decode cX9_drawnFrom 0 = .ok (.ldc 225, 2) := by decide +kernel
theorem dX9_drawnFrom_2 : decode cX9_drawnFrom 2 = .ok (.iload_n 0, 1) := by decide +kernel
theorem dX9_drawnFrom_3 : decode cX9_drawnFrom 3 = .ok (.imul, 1) := by decide +kernel
theorem dX9_drawnFrom_4 : decode cX9_drawnFrom 4 = .ok (.sipush 12345, 3) := by decide +kernel
theorem dX9_drawnFrom_7 : decode cX9_drawnFrom 7 = .ok (.iadd, 1) := by decide +kernel
theorem dX9_drawnFrom_8 : decode cX9_drawnFrom 8 = .ok (.ireturn, 1) := by decide +kernel
set_option maxHeartbeats 4000000 in
set_option maxRecDepth 100000 in
theorem c_X9_drawnFrom_0 (l : Launch) (V : GV) (p0 : Int32) : Ct l V yX9_drawnFrom (.code yX9_drawnFrom cX9_drawnFrom 1 (some .int)) 1 [.int p0] [] 0 0 (QI V (fun (r : Int32) (w : va_W) => (r = ((1103515245 * p0) + 12345) ∧ w = []))) := by
  refine Ct.of (by decide) (Nat.le_of_ble_eq_true rfl) (fun p e s m below meth c A ls hx hb hr hml hown hlk hnm hg hP hK hD hE hA hS hl => ?_)
  have hl : lv_has ls 1 [(0, .int p0)] := hl
  refine lv_ldc (v := 1103515245) hx hb hown (hg _ q_4_13) dX9_drawnFrom_0 ?_
  refine lv_iload_n hx hb dX9_drawnFrom_2 rfl (lv_at hl 0 rfl) ?_
  refine lv_imul hx hb dX9_drawnFrom_3 ?_
  refine lv_sipush (v := 12345) hx hb dX9_drawnFrom_4 (by decide) ?_
  refine lv_iadd hx hb dX9_drawnFrom_7 ?_
  exact fiI hx hb hr hlk hK hP hD hS dX9_drawnFrom_8 (Nat.le_of_ble_eq_true rfl) (Nat.le_of_ble_eq_true rfl) (⟨rfl, rfl⟩)
set_option maxHeartbeats 4000000 in
set_option maxRecDepth 100000 in
theorem c_X4_behind_2 (l : Launch) (V : GV) (y : Nat → Nat) (p0 : Int32) : Ct l V yX4_behind (.code yX4_behind cX4_behind 9 (some .int)) 1 [.ref (y 19), .int 0, .int p0, .int 0] [(y 2, .inr (1, [.int 0, .int 0, .int 0, .int 0, .int 0, .int 0, .ref (y 3), .ref (y 4), .ref (y 5), .ref (y 6), .ref (y 7), .ref (y 8), .ref (y 9), .int 0, .int 0, .int 0, .int 0, .int 0])), (y 19, .inr (4, [.ref (y 2), .ref (y 20), .ref (y 21), .ref (y 22), .ref (y 23), .ref (y 24)]))] 0 0 (QI V (fun (r : Int32) (w : va_W) => (r = 0 ∧ w = [(y 2, .inr (1, [.int 0, .int 0, .int 0, .int 0, .int 0, .int 0, .ref (y 3), .ref (y 4), .ref (y 5), .ref (y 6), .ref (y 7), .ref (y 8), .ref (y 9), .int 0, .int 0, .int 0, .int 0, .int 0])), (y 19, .inr (4, [.ref (y 2), .ref (y 20), .ref (y 21), .ref (y 22), .ref (y 23), .ref (y 24)]))]))) := by
  refine Ct.of (by decide) (Nat.le_of_ble_eq_true rfl) (fun p e s m below meth c A ls hx hb hr hml hown hlk hnm hg hP hK hD hE hA hS hl => ?_)
  have hl : lv_has ls 9 [(0, .ref (y 19)), (1, .int 0), (2, .int p0), (3, .int 0)] := hl
  refine lv_iconst (v := 0) hx hb dX4_behind_0 (by decide) ?_
  refine lv_istore (lv' := [(4, .int 0), (0, .ref (y 19)), (1, .int 0), (2, .int p0), (3, .int 0)]) hx hb dX4_behind_1 hl (by decide) rfl (fun ls hl => ?_)
  refine lv_iconst (v := 0) hx hb dX4_behind_3 (by decide) ?_
  refine lv_istore (lv' := [(5, .int 0), (4, .int 0), (0, .ref (y 19)), (1, .int 0), (2, .int p0), (3, .int 0)]) hx hb dX4_behind_4 hl (by decide) rfl (fun ls hl => ?_)
  refine lv_iconst (v := 0) hx hb dX4_behind_6 (by decide) ?_
  refine lv_istore (lv' := [(6, .int 0), (5, .int 0), (4, .int 0), (0, .ref (y 19)), (1, .int 0), (2, .int p0), (3, .int 0)]) hx hb dX4_behind_7 hl (by decide) rfl (fun ls hl => ?_)
  refine lv_iload hx hb dX4_behind_9 (lv_at hl 0 rfl) ?_
  refine lv_aload_n hx hb dX4_behind_11 rfl (lv_at hl 3 rfl) ?_
  refine va_get (ci := 4) (v := .ref (y 2)) (C := RX4) (T := TX4) (N := 6) hx hb hg inX4 hown hK hP 1 rfl rfl 0 (by decide) (hg _ q_1_171) (fun _ h9 => h9) rfl dX4_behind_12 ?_
  refine va_get (ci := 1) (v := .int 0) (C := RX1) (T := TX1) (N := 18) hx hb hg inX1 hown hK hP 0 rfl rfl 1 (by decide) (hg _ q_1_39) (fun _ h9 => h9) rfl dX4_behind_15 ?_
  refine lv_icmp_ge (tgt := 89) hx hb dX4_behind_18 (by decide) (fun _ => ?_) (fun c_1 => absurd c_1 (by decide))
  refine lv_iload hx hb dX4_behind_89 (lv_at hl 2 rfl) ?_
  exact fiI hx hb hr hlk hK hP hD hS dX4_behind_91 (Nat.le_of_ble_eq_true rfl) (Nat.le_of_ble_eq_true rfl) (⟨rfl, rfl⟩)
set_option maxHeartbeats 4000000 in
set_option maxRecDepth 100000 in
theorem c_X9_tryDeed_2 (l : Launch) (V : GV) (y : Nat → Nat) (p0 : Int32) (p1 : Int32) : Ct l V yX9_tryDeed (.code yX9_tryDeed cX9_tryDeed 4 (some .int)) 2 [.ref (y 0), .long 0] [(y 0, .inr (9, [.ref (y 1), .int 0, .ref (y 2), .ref (y 10), .ref (y 19), .ref (y 25), .ref (y 26), .ref (y 30), .ref (y 31), .ref (y 32), .null, .null, .int 0, .int p0, .int p1])), (y 2, .inr (1, [.int 0, .int 0, .int 0, .int 0, .int 0, .int 0, .ref (y 3), .ref (y 4), .ref (y 5), .ref (y 6), .ref (y 7), .ref (y 8), .ref (y 9), .int 0, .int 0, .int 0, .int 0, .int 0])), (y 19, .inr (4, [.ref (y 2), .ref (y 20), .ref (y 21), .ref (y 22), .ref (y 23), .ref (y 24)]))] 0 0 (QI V (fun (r : Int32) (w : va_W) => (r = 0 ∧ w = [(y 0, .inr (9, [.ref (y 1), .int 0, .ref (y 2), .ref (y 10), .ref (y 19), .ref (y 25), .ref (y 26), .ref (y 30), .ref (y 31), .ref (y 32), .null, .null, .int 0, .int p0, .int (p1 + 1)])), (y 2, .inr (1, [.int 0, .int 0, .int 0, .int 0, .int 0, .int 0, .ref (y 3), .ref (y 4), .ref (y 5), .ref (y 6), .ref (y 7), .ref (y 8), .ref (y 9), .int 0, .int 0, .int 0, .int 0, .int 0])), (y 19, .inr (4, [.ref (y 2), .ref (y 20), .ref (y 21), .ref (y 22), .ref (y 23), .ref (y 24)]))]))) := by
  refine Ct.of (by decide) (Nat.le_of_ble_eq_true rfl) (fun p e s m below meth c A ls hx hb hr hml hown hlk hnm hg hP hK hD hE hA hS hl => ?_)
  have hl : lv_has ls 4 [(0, .ref (y 0)), (1, .long 0)] := hl
  refine lv_lload_n hx hb dX9_tryDeed_0 rfl (lv_at hl 1 rfl) ?_
  refine lv_ldc2 (v := 10) hx hb hown (hg _ q_3_189) dX9_tryDeed_1 ?_
  refine W.lcmp hx hb dX9_tryDeed_4 ?_
  refine lv_if_lt (tgt := 41) hx hb dX9_tryDeed_5 (by decide) (fun _ => ?_) (fun c_1 => absurd (fun z => c_1 ((lg_cmp_lt _ _).mpr z)) (by decide))
  refine lv_lload_n hx hb dX9_tryDeed_41 rfl (lv_at hl 1 rfl) ?_
  refine lv_ldc2 (v := 20) hx hb hown (hg _ q_3_199) dX9_tryDeed_42 ?_
  refine W.lcmp hx hb dX9_tryDeed_45 ?_
  refine lv_if_lt (tgt := 68) hx hb dX9_tryDeed_46 (by decide) (fun _ => ?_) (fun c_2 => absurd (fun z => c_2 ((lg_cmp_lt _ _).mpr z)) (by decide))
  refine lv_aload_n hx hb dX9_tryDeed_68 rfl (lv_at hl 0 rfl) ?_
  refine lv_lload_n hx hb dX9_tryDeed_69 rfl (lv_at hl 1 rfl) ?_
  refine jnI (wr := [(y 0, .inr (9, [.ref (y 1), .int 0, .ref (y 2), .ref (y 10), .ref (y 19), .ref (y 25), .ref (y 26), .ref (y 30), .ref (y 31), .ref (y 32), .null, .null, .int 0, .int p0, .int p1])), (y 2, .inr (1, [.int 0, .int 0, .int 0, .int 0, .int 0, .int 0, .ref (y 3), .ref (y 4), .ref (y 5), .ref (y 6), .ref (y 7), .ref (y 8), .ref (y 9), .int 0, .int 0, .int 0, .int 0, .int 0])), (y 19, .inr (4, [.ref (y 2), .ref (y 20), .ref (y 21), .ref (y 22), .ref (y 23), .ref (y 24)]))]) (rnV (rest := []) ⟨hx, hb, hml, hown, hg⟩ (c_X9_isNight_1 l V y) mt_X9_isNight q_3_141 ⟨Nat.le_of_ble_eq_true rfl, Nat.le_of_ble_eq_true rfl⟩ hK hP hD hS hA hE [] rfl rfl 0 rfl rfl rfl rfl hl.1 rfl (Nat.le_of_ble_eq_true rfl) dX9_tryDeed_70 ⟨Nat.le_of_ble_eq_true rfl, Nat.le_of_ble_eq_true rfl⟩) hP hD hS hA [] [0, 1, 2] rfl rfl rfl (by decide) (fun r_3 w H locs hw hP hD hS => ?_)
  obtain ⟨rfl, rfl⟩ := hw
  have hP : va_P V.1 vwCl [(y 0, .inr (9, [.ref (y 1), .int 0, .ref (y 2), .ref (y 10), .ref (y 19), .ref (y 25), .ref (y 26), .ref (y 30), .ref (y 31), .ref (y 32), .null, .null, .int 0, .int p0, .int p1])), (y 2, .inr (1, [.int 0, .int 0, .int 0, .int 0, .int 0, .int 0, .ref (y 3), .ref (y 4), .ref (y 5), .ref (y 6), .ref (y 7), .ref (y 8), .ref (y 9), .int 0, .int 0, .int 0, .int 0, .int 0])), (y 19, .inr (4, [.ref (y 2), .ref (y 20), .ref (y 21), .ref (y 22), .ref (y 23), .ref (y 24)]))] H := hP
  have hD : va_D A [(y 0, .inr (9, [.ref (y 1), .int 0, .ref (y 2), .ref (y 10), .ref (y 19), .ref (y 25), .ref (y 26), .ref (y 30), .ref (y 31), .ref (y 32), .null, .null, .int 0, .int p0, .int p1])), (y 2, .inr (1, [.int 0, .int 0, .int 0, .int 0, .int 0, .int 0, .ref (y 3), .ref (y 4), .ref (y 5), .ref (y 6), .ref (y 7), .ref (y 8), .ref (y 9), .int 0, .int 0, .int 0, .int 0, .int 0])), (y 19, .inr (4, [.ref (y 2), .ref (y 20), .ref (y 21), .ref (y 22), .ref (y 23), .ref (y 24)]))] := hD
  refine lv_if_ne (tgt := 78) hx hb dX9_tryDeed_73 (by decide) (fun _ => ?_) (fun c_4 => absurd c_4 (by decide))
  refine lv_aload_n hx hb dX9_tryDeed_78 rfl (lv_at hl 0 rfl) ?_
  refine lv_aload_n hx hb dX9_tryDeed_79 rfl (lv_at hl 0 rfl) ?_
  refine va_get (ci := 9) (v := .ref (y 19)) (C := RX9) (T := TX9) (N := 15) hx hb hg inX9 hown hK hP 0 rfl rfl 4 (by decide) (hg _ q_2_40) (fun _ h9 => h9) rfl dX9_tryDeed_80 ?_
  refine lv_aload_n hx hb dX9_tryDeed_83 rfl (lv_at hl 0 rfl) ?_
  refine va_get (ci := 9) (v := .int 0) (C := RX9) (T := TX9) (N := 15) hx hb hg inX9 hown hK hP 0 rfl rfl 12 (by decide) (hg _ q_2_48) (fun _ h9 => h9) rfl dX9_tryDeed_84 ?_
  refine lv_aload_n hx hb dX9_tryDeed_87 rfl (lv_at hl 0 rfl) ?_
  refine va_get (ci := 9) (v := .int p0) (C := RX9) (T := TX9) (N := 15) hx hb hg inX9 hown hK hP 0 rfl rfl 13 (by decide) (hg _ q_2_49) (fun _ h9 => h9) rfl dX9_tryDeed_88 ?_
  refine lv_lload_n hx hb dX9_tryDeed_91 rfl (lv_at hl 1 rfl) ?_
  refine lv_l2i (v := 0) hx hb dX9_tryDeed_92 (by decide +kernel) ?_
  refine jnI (wr := [(y 0, .inr (9, [.ref (y 1), .int 0, .ref (y 2), .ref (y 10), .ref (y 19), .ref (y 25), .ref (y 26), .ref (y 30), .ref (y 31), .ref (y 32), .null, .null, .int 0, .int p0, .int p1]))]) (rnV (rest := [.ref (y 0)]) ⟨hx, hb, hml, hown, hg⟩ (c_X4_behind_2 l V y p0) mt_X4_behind q_3_145 ⟨Nat.le_of_ble_eq_true rfl, Nat.le_of_ble_eq_true rfl⟩ hK hP hD hS hA hE [1, 2] rfl rfl 2 rfl rfl rfl rfl hl.1 rfl (Nat.le_of_ble_eq_true rfl) dX9_tryDeed_93 ⟨Nat.le_of_ble_eq_true rfl, Nat.le_of_ble_eq_true rfl⟩) hP hD hS hA [1, 2] [0] rfl rfl rfl (by decide) (fun r_5 w H locs hw hP hD hS => ?_)
  obtain ⟨rfl, rfl⟩ := hw
  have hP : va_P V.1 vwCl [(y 0, .inr (9, [.ref (y 1), .int 0, .ref (y 2), .ref (y 10), .ref (y 19), .ref (y 25), .ref (y 26), .ref (y 30), .ref (y 31), .ref (y 32), .null, .null, .int 0, .int p0, .int p1])), (y 2, .inr (1, [.int 0, .int 0, .int 0, .int 0, .int 0, .int 0, .ref (y 3), .ref (y 4), .ref (y 5), .ref (y 6), .ref (y 7), .ref (y 8), .ref (y 9), .int 0, .int 0, .int 0, .int 0, .int 0])), (y 19, .inr (4, [.ref (y 2), .ref (y 20), .ref (y 21), .ref (y 22), .ref (y 23), .ref (y 24)]))] H := hP
  have hD : va_D A [(y 0, .inr (9, [.ref (y 1), .int 0, .ref (y 2), .ref (y 10), .ref (y 19), .ref (y 25), .ref (y 26), .ref (y 30), .ref (y 31), .ref (y 32), .null, .null, .int 0, .int p0, .int p1])), (y 2, .inr (1, [.int 0, .int 0, .int 0, .int 0, .int 0, .int 0, .ref (y 3), .ref (y 4), .ref (y 5), .ref (y 6), .ref (y 7), .ref (y 8), .ref (y 9), .int 0, .int 0, .int 0, .int 0, .int 0])), (y 19, .inr (4, [.ref (y 2), .ref (y 20), .ref (y 21), .ref (y 22), .ref (y 23), .ref (y 24)]))] := hD
  refine va_put (ci := 9) (v := .int 0) (ty := .int) (C := RX9) (T := TX9) (N := 15) hx hb hg inX9 tyX9 tyX9_ok nmX9 hown hK hP hD hS 0 rfl rfl 12 (by decide) (hg _ q_2_48) (fun _ h9 => h9) rfl (by decide +kernel) rfl rfl (Nat.le_of_ble_eq_true rfl) dX9_tryDeed_96 (fun H locs hP hD hS => ?_)
  have hP : va_P V.1 vwCl [(y 0, .inr (9, [.ref (y 1), .int 0, .ref (y 2), .ref (y 10), .ref (y 19), .ref (y 25), .ref (y 26), .ref (y 30), .ref (y 31), .ref (y 32), .null, .null, .int 0, .int p0, .int p1])), (y 2, .inr (1, [.int 0, .int 0, .int 0, .int 0, .int 0, .int 0, .ref (y 3), .ref (y 4), .ref (y 5), .ref (y 6), .ref (y 7), .ref (y 8), .ref (y 9), .int 0, .int 0, .int 0, .int 0, .int 0])), (y 19, .inr (4, [.ref (y 2), .ref (y 20), .ref (y 21), .ref (y 22), .ref (y 23), .ref (y 24)]))] H := hP
  have hD : va_D A [(y 0, .inr (9, [.ref (y 1), .int 0, .ref (y 2), .ref (y 10), .ref (y 19), .ref (y 25), .ref (y 26), .ref (y 30), .ref (y 31), .ref (y 32), .null, .null, .int 0, .int p0, .int p1])), (y 2, .inr (1, [.int 0, .int 0, .int 0, .int 0, .int 0, .int 0, .ref (y 3), .ref (y 4), .ref (y 5), .ref (y 6), .ref (y 7), .ref (y 8), .ref (y 9), .int 0, .int 0, .int 0, .int 0, .int 0])), (y 19, .inr (4, [.ref (y 2), .ref (y 20), .ref (y 21), .ref (y 22), .ref (y 23), .ref (y 24)]))] := hD
  refine lv_aload_n hx hb dX9_tryDeed_99 rfl (lv_at hl 0 rfl) ?_
  refine lv_dup hx hb dX9_tryDeed_100 rfl ?_
  refine va_get (ci := 9) (v := .int p1) (C := RX9) (T := TX9) (N := 15) hx hb hg inX9 hown hK hP 0 rfl rfl 14 (by decide) (hg _ q_2_50) (fun _ h9 => h9) rfl dX9_tryDeed_101 ?_
  refine lv_iconst (v := 1) hx hb dX9_tryDeed_104 (by decide) ?_
  refine lv_iadd hx hb dX9_tryDeed_105 ?_
  refine va_put (ci := 9) (v := .int (p1 + 1)) (ty := .int) (C := RX9) (T := TX9) (N := 15) hx hb hg inX9 tyX9 tyX9_ok nmX9 hown hK hP hD hS 0 rfl rfl 14 (by decide) (hg _ q_2_50) (fun _ h9 => h9) rfl (by decide +kernel) rfl rfl (Nat.le_of_ble_eq_true rfl) dX9_tryDeed_106 (fun H locs hP hD hS => ?_)
  have hP : va_P V.1 vwCl [(y 0, .inr (9, [.ref (y 1), .int 0, .ref (y 2), .ref (y 10), .ref (y 19), .ref (y 25), .ref (y 26), .ref (y 30), .ref (y 31), .ref (y 32), .null, .null, .int 0, .int p0, .int (p1 + 1)])), (y 2, .inr (1, [.int 0, .int 0, .int 0, .int 0, .int 0, .int 0, .ref (y 3), .ref (y 4), .ref (y 5), .ref (y 6), .ref (y 7), .ref (y 8), .ref (y 9), .int 0, .int 0, .int 0, .int 0, .int 0])), (y 19, .inr (4, [.ref (y 2), .ref (y 20), .ref (y 21), .ref (y 22), .ref (y 23), .ref (y 24)]))] H := hP
  have hD : va_D A [(y 0, .inr (9, [.ref (y 1), .int 0, .ref (y 2), .ref (y 10), .ref (y 19), .ref (y 25), .ref (y 26), .ref (y 30), .ref (y 31), .ref (y 32), .null, .null, .int 0, .int p0, .int (p1 + 1)])), (y 2, .inr (1, [.int 0, .int 0, .int 0, .int 0, .int 0, .int 0, .ref (y 3), .ref (y 4), .ref (y 5), .ref (y 6), .ref (y 7), .ref (y 8), .ref (y 9), .int 0, .int 0, .int 0, .int 0, .int 0])), (y 19, .inr (4, [.ref (y 2), .ref (y 20), .ref (y 21), .ref (y 22), .ref (y 23), .ref (y 24)]))] := hD
  refine lv_iconst (v := 0) hx hb dX9_tryDeed_109 (by decide) ?_
  exact fiI hx hb hr hlk hK hP hD hS dX9_tryDeed_110 (Nat.le_of_ble_eq_true rfl) (Nat.le_of_ble_eq_true rfl) (⟨rfl, rfl⟩)
theorem dX9_drawnDeed_0 : decode cX9_drawnDeed 0 = .ok (.iload_n 0, 1) := by decide +kernel
theorem dX9_drawnDeed_1 : decode cX9_drawnDeed 1 = .ok (.iconst 3, 1) := by decide +kernel
theorem dX9_drawnDeed_2 : decode cX9_drawnDeed 2 = .ok (.if_icmp .ne 9, 3) := by decide +kernel
theorem dX9_drawnDeed_5 : decode cX9_drawnDeed 5 = .ok (.iload_n 1, 1) := by decide +kernel
theorem dX9_drawnDeed_6 : decode cX9_drawnDeed 6 = .ok (.iconst 4, 1) := by decide +kernel
theorem dX9_drawnDeed_7 : decode cX9_drawnDeed 7 = .ok (.irem, 1) := by decide +kernel
theorem dX9_drawnDeed_8 : decode cX9_drawnDeed 8 = .ok (.goto 24, 3) := by decide +kernel
theorem dX9_drawnDeed_32 : decode cX9_drawnDeed 32 = .ok (.ireturn, 1) := by decide +kernel
set_option maxHeartbeats 4000000 in
set_option maxRecDepth 100000 in
theorem c_X9_drawnDeed_0 (l : Launch) (V : GV) (p0 : Int32) : Ct l V yX9_drawnDeed (.code yX9_drawnDeed cX9_drawnDeed 2 (some .int)) 1 [.int 3, .int p0] [] 0 0 (QI V (fun (r : Int32) (w : va_W) => (r = (p0 - p0 / 4 * 4) ∧ w = []))) := by
  refine Ct.of (by decide) (Nat.le_of_ble_eq_true rfl) (fun p e s m below meth c A ls hx hb hr hml hown hlk hnm hg hP hK hD hE hA hS hl => ?_)
  have hl : lv_has ls 2 [(0, .int 3), (1, .int p0)] := hl
  refine lv_iload_n hx hb dX9_drawnDeed_0 rfl (lv_at hl 0 rfl) ?_
  refine lv_iconst (v := 3) hx hb dX9_drawnDeed_1 (by decide) ?_
  refine lv_icmp_ne (tgt := 11) hx hb dX9_drawnDeed_2 (by decide) (fun c_1 => absurd c_1 (by decide)) (fun _ => ?_)
  refine lv_iload_n hx hb dX9_drawnDeed_5 rfl (lv_at hl 1 rfl) ?_
  refine lv_iconst (v := 4) hx hb dX9_drawnDeed_6 (by decide) ?_
  refine lv_irem hx hb dX9_drawnDeed_7 (by decide) ?_
  refine lv_goto (tgt := 32) hx hb dX9_drawnDeed_8 (by decide) ?_
  exact fiI hx hb hr hlk hK hP hD hS dX9_drawnDeed_32 (Nat.le_of_ble_eq_true rfl) (Nat.le_of_ble_eq_true rfl) (⟨rfl, rfl⟩)
set_option maxHeartbeats 4000000 in
set_option maxRecDepth 100000 in
theorem c_X9_isNight_2 (l : Launch) (V : GV) (y : Nat → Nat) (p0 : Int32) (p1 : Int32) : Ct l V yX9_isNight (.code yX9_isNight cX9_isNight 3 (some .boolean)) 1 [.ref (y 0), .long 1] [(y 0, .inr (9, [.ref (y 1), .int 0, .ref (y 2), .ref (y 10), .ref (y 19), .ref (y 25), .ref (y 26), .ref (y 30), .ref (y 31), .ref (y 32), .null, .null, .int 0, .int p0, .int p1])), (y 2, .inr (1, [.int 0, .int 0, .int 0, .int 0, .int 0, .int 0, .ref (y 3), .ref (y 4), .ref (y 5), .ref (y 6), .ref (y 7), .ref (y 8), .ref (y 9), .int 0, .int 0, .int 0, .int 0, .int 0]))] 0 0 (QI V (fun (r : Int32) (w : va_W) => (r = 0 ∧ w = [(y 0, .inr (9, [.ref (y 1), .int 0, .ref (y 2), .ref (y 10), .ref (y 19), .ref (y 25), .ref (y 26), .ref (y 30), .ref (y 31), .ref (y 32), .null, .null, .int 0, .int p0, .int p1])), (y 2, .inr (1, [.int 0, .int 0, .int 0, .int 0, .int 0, .int 0, .ref (y 3), .ref (y 4), .ref (y 5), .ref (y 6), .ref (y 7), .ref (y 8), .ref (y 9), .int 0, .int 0, .int 0, .int 0, .int 0]))]))) := by
  refine Ct.of (by decide) (Nat.le_of_ble_eq_true rfl) (fun p e s m below meth c A ls hx hb hr hml hown hlk hnm hg hP hK hD hE hA hS hl => ?_)
  have hl : lv_has ls 3 [(0, .ref (y 0)), (1, .long 1)] := hl
  refine lv_lload_n hx hb dX9_isNight_0 rfl (lv_at hl 1 rfl) ?_
  refine lv_lconst (v := 0) hx hb dX9_isNight_1 (by decide) ?_
  refine W.lcmp hx hb dX9_isNight_2 ?_
  refine lv_if_eq (tgt := 25) hx hb dX9_isNight_3 (by decide) (fun c_1 => absurd ((lg_cmp_eq _ _).mp c_1) (by decide)) (fun _ => ?_)
  refine lv_lload_n hx hb dX9_isNight_6 rfl (lv_at hl 1 rfl) ?_
  refine lv_lconst (v := 0) hx hb dX9_isNight_7 (by decide) ?_
  refine W.lcmp hx hb dX9_isNight_8 ?_
  refine lv_if_le (tgt := 29) hx hb dX9_isNight_9 (by decide) (fun c_2 => absurd ((lg_cmp_le _ _).mp c_2) (by decide)) (fun _ => ?_)
  refine lv_lload_n hx hb dX9_isNight_12 rfl (lv_at hl 1 rfl) ?_
  refine lv_aload_n hx hb dX9_isNight_13 rfl (lv_at hl 0 rfl) ?_
  refine va_get (ci := 9) (v := .ref (y 2)) (C := RX9) (T := TX9) (N := 15) hx hb hg inX9 hown hK hP 0 rfl rfl 2 (by decide) (hg _ q_2_38) (fun _ h9 => h9) rfl dX9_isNight_14 ?_
  refine va_get (ci := 1) (v := .int 0) (C := RX1) (T := TX1) (N := 18) hx hb hg inX1 hown hK hP 1 rfl rfl 1 (by decide) (hg _ q_1_41) (fun _ h9 => h9) rfl dX9_isNight_17 ?_
  refine lv_i2l (v := 0) hx hb dX9_isNight_20 (by decide +kernel) ?_
  refine W.lcmp hx hb dX9_isNight_21 ?_
  refine lv_if_ge (tgt := 29) hx hb dX9_isNight_22 (by decide) (fun _ => ?_) (fun c_3 => absurd (fun z => c_3 ((lg_cmp_ge _ _).mpr z)) (by decide))
  refine lv_iconst (v := 0) hx hb dX9_isNight_29 (by decide) ?_
  exact fiZ rfl hx hb hr hlk hK hP hD hS dX9_isNight_30 (Nat.le_of_ble_eq_true rfl) (Nat.le_of_ble_eq_true rfl) (⟨rfl, rfl⟩)
set_option maxHeartbeats 4000000 in
set_option maxRecDepth 100000 in
theorem c_X9_tryDeed_3 (l : Launch) (V : GV) (y : Nat → Nat) (p0 : Int32) (p1 : Int32) : Ct l V yX9_tryDeed (.code yX9_tryDeed cX9_tryDeed 4 (some .int)) 2 [.ref (y 0), .long 1] [(y 0, .inr (9, [.ref (y 1), .int 0, .ref (y 2), .ref (y 10), .ref (y 19), .ref (y 25), .ref (y 26), .ref (y 30), .ref (y 31), .ref (y 32), .null, .null, .int 0, .int p0, .int p1])), (y 2, .inr (1, [.int 0, .int 0, .int 0, .int 0, .int 0, .int 0, .ref (y 3), .ref (y 4), .ref (y 5), .ref (y 6), .ref (y 7), .ref (y 8), .ref (y 9), .int 0, .int 0, .int 0, .int 0, .int 0]))] 0 0 (QI V (fun (r : Int32) (w : va_W) => (r = 1 ∧ w = [(y 0, .inr (9, [.ref (y 1), .int 0, .ref (y 2), .ref (y 10), .ref (y 19), .ref (y 25), .ref (y 26), .ref (y 30), .ref (y 31), .ref (y 32), .null, .null, .int 0, .int p0, .int p1])), (y 2, .inr (1, [.int 0, .int 0, .int 0, .int 0, .int 0, .int 0, .ref (y 3), .ref (y 4), .ref (y 5), .ref (y 6), .ref (y 7), .ref (y 8), .ref (y 9), .int 0, .int 0, .int 0, .int 0, .int 0]))]))) := by
  refine Ct.of (by decide) (Nat.le_of_ble_eq_true rfl) (fun p e s m below meth c A ls hx hb hr hml hown hlk hnm hg hP hK hD hE hA hS hl => ?_)
  have hl : lv_has ls 4 [(0, .ref (y 0)), (1, .long 1)] := hl
  refine lv_lload_n hx hb dX9_tryDeed_0 rfl (lv_at hl 1 rfl) ?_
  refine lv_ldc2 (v := 10) hx hb hown (hg _ q_3_189) dX9_tryDeed_1 ?_
  refine W.lcmp hx hb dX9_tryDeed_4 ?_
  refine lv_if_lt (tgt := 41) hx hb dX9_tryDeed_5 (by decide) (fun _ => ?_) (fun c_1 => absurd (fun z => c_1 ((lg_cmp_lt _ _).mpr z)) (by decide))
  refine lv_lload_n hx hb dX9_tryDeed_41 rfl (lv_at hl 1 rfl) ?_
  refine lv_ldc2 (v := 20) hx hb hown (hg _ q_3_199) dX9_tryDeed_42 ?_
  refine W.lcmp hx hb dX9_tryDeed_45 ?_
  refine lv_if_lt (tgt := 68) hx hb dX9_tryDeed_46 (by decide) (fun _ => ?_) (fun c_2 => absurd (fun z => c_2 ((lg_cmp_lt _ _).mpr z)) (by decide))
  refine lv_aload_n hx hb dX9_tryDeed_68 rfl (lv_at hl 0 rfl) ?_
  refine lv_lload_n hx hb dX9_tryDeed_69 rfl (lv_at hl 1 rfl) ?_
  refine jnI (wr := []) (rnV (rest := []) ⟨hx, hb, hml, hown, hg⟩ (c_X9_isNight_2 l V y p0 p1) mt_X9_isNight q_3_141 ⟨Nat.le_of_ble_eq_true rfl, Nat.le_of_ble_eq_true rfl⟩ hK hP hD hS hA hE [0, 1] rfl rfl 0 rfl rfl rfl rfl hl.1 rfl (Nat.le_of_ble_eq_true rfl) dX9_tryDeed_70 ⟨Nat.le_of_ble_eq_true rfl, Nat.le_of_ble_eq_true rfl⟩) hP hD hS hA [0, 1] [] rfl rfl rfl (by decide) (fun r_3 w H locs hw hP hD hS => ?_)
  obtain ⟨rfl, rfl⟩ := hw
  have hP : va_P V.1 vwCl [(y 0, .inr (9, [.ref (y 1), .int 0, .ref (y 2), .ref (y 10), .ref (y 19), .ref (y 25), .ref (y 26), .ref (y 30), .ref (y 31), .ref (y 32), .null, .null, .int 0, .int p0, .int p1])), (y 2, .inr (1, [.int 0, .int 0, .int 0, .int 0, .int 0, .int 0, .ref (y 3), .ref (y 4), .ref (y 5), .ref (y 6), .ref (y 7), .ref (y 8), .ref (y 9), .int 0, .int 0, .int 0, .int 0, .int 0]))] H := hP
  have hD : va_D A [(y 0, .inr (9, [.ref (y 1), .int 0, .ref (y 2), .ref (y 10), .ref (y 19), .ref (y 25), .ref (y 26), .ref (y 30), .ref (y 31), .ref (y 32), .null, .null, .int 0, .int p0, .int p1])), (y 2, .inr (1, [.int 0, .int 0, .int 0, .int 0, .int 0, .int 0, .ref (y 3), .ref (y 4), .ref (y 5), .ref (y 6), .ref (y 7), .ref (y 8), .ref (y 9), .int 0, .int 0, .int 0, .int 0, .int 0]))] := hD
  refine lv_if_ne (tgt := 78) hx hb dX9_tryDeed_73 (by decide) (fun c_4 => absurd c_4 (by decide)) (fun _ => ?_)
  refine lv_iconst (v := 1) hx hb dX9_tryDeed_76 (by decide) ?_
  exact fiI hx hb hr hlk hK hP hD hS dX9_tryDeed_77 (Nat.le_of_ble_eq_true rfl) (Nat.le_of_ble_eq_true rfl) (⟨rfl, rfl⟩)
set_option maxHeartbeats 4000000 in
set_option maxRecDepth 100000 in
theorem c_X9_isNight_3 (l : Launch) (V : GV) (y : Nat → Nat) (p0 : Int32) (p1 : Int32) : Ct l V yX9_isNight (.code yX9_isNight cX9_isNight 3 (some .boolean)) 1 [.ref (y 0), .long 2] [(y 0, .inr (9, [.ref (y 1), .int 0, .ref (y 2), .ref (y 10), .ref (y 19), .ref (y 25), .ref (y 26), .ref (y 30), .ref (y 31), .ref (y 32), .null, .null, .int 0, .int p0, .int p1])), (y 2, .inr (1, [.int 0, .int 0, .int 0, .int 0, .int 0, .int 0, .ref (y 3), .ref (y 4), .ref (y 5), .ref (y 6), .ref (y 7), .ref (y 8), .ref (y 9), .int 0, .int 0, .int 0, .int 0, .int 0]))] 0 0 (QI V (fun (r : Int32) (w : va_W) => (r = 0 ∧ w = [(y 0, .inr (9, [.ref (y 1), .int 0, .ref (y 2), .ref (y 10), .ref (y 19), .ref (y 25), .ref (y 26), .ref (y 30), .ref (y 31), .ref (y 32), .null, .null, .int 0, .int p0, .int p1])), (y 2, .inr (1, [.int 0, .int 0, .int 0, .int 0, .int 0, .int 0, .ref (y 3), .ref (y 4), .ref (y 5), .ref (y 6), .ref (y 7), .ref (y 8), .ref (y 9), .int 0, .int 0, .int 0, .int 0, .int 0]))]))) := by
  refine Ct.of (by decide) (Nat.le_of_ble_eq_true rfl) (fun p e s m below meth c A ls hx hb hr hml hown hlk hnm hg hP hK hD hE hA hS hl => ?_)
  have hl : lv_has ls 3 [(0, .ref (y 0)), (1, .long 2)] := hl
  refine lv_lload_n hx hb dX9_isNight_0 rfl (lv_at hl 1 rfl) ?_
  refine lv_lconst (v := 0) hx hb dX9_isNight_1 (by decide) ?_
  refine W.lcmp hx hb dX9_isNight_2 ?_
  refine lv_if_eq (tgt := 25) hx hb dX9_isNight_3 (by decide) (fun c_1 => absurd ((lg_cmp_eq _ _).mp c_1) (by decide)) (fun _ => ?_)
  refine lv_lload_n hx hb dX9_isNight_6 rfl (lv_at hl 1 rfl) ?_
  refine lv_lconst (v := 0) hx hb dX9_isNight_7 (by decide) ?_
  refine W.lcmp hx hb dX9_isNight_8 ?_
  refine lv_if_le (tgt := 29) hx hb dX9_isNight_9 (by decide) (fun c_2 => absurd ((lg_cmp_le _ _).mp c_2) (by decide)) (fun _ => ?_)
  refine lv_lload_n hx hb dX9_isNight_12 rfl (lv_at hl 1 rfl) ?_
  refine lv_aload_n hx hb dX9_isNight_13 rfl (lv_at hl 0 rfl) ?_
  refine va_get (ci := 9) (v := .ref (y 2)) (C := RX9) (T := TX9) (N := 15) hx hb hg inX9 hown hK hP 0 rfl rfl 2 (by decide) (hg _ q_2_38) (fun _ h9 => h9) rfl dX9_isNight_14 ?_
  refine va_get (ci := 1) (v := .int 0) (C := RX1) (T := TX1) (N := 18) hx hb hg inX1 hown hK hP 1 rfl rfl 1 (by decide) (hg _ q_1_41) (fun _ h9 => h9) rfl dX9_isNight_17 ?_
  refine lv_i2l (v := 0) hx hb dX9_isNight_20 (by decide +kernel) ?_
  refine W.lcmp hx hb dX9_isNight_21 ?_
  refine lv_if_ge (tgt := 29) hx hb dX9_isNight_22 (by decide) (fun _ => ?_) (fun c_3 => absurd (fun z => c_3 ((lg_cmp_ge _ _).mpr z)) (by decide))
  refine lv_iconst (v := 0) hx hb dX9_isNight_29 (by decide) ?_
  exact fiZ rfl hx hb hr hlk hK hP hD hS dX9_isNight_30 (Nat.le_of_ble_eq_true rfl) (Nat.le_of_ble_eq_true rfl) (⟨rfl, rfl⟩)
set_option maxHeartbeats 4000000 in
set_option maxRecDepth 100000 in
theorem c_X9_tryDeed_4 (l : Launch) (V : GV) (y : Nat → Nat) (p0 : Int32) (p1 : Int32) : Ct l V yX9_tryDeed (.code yX9_tryDeed cX9_tryDeed 4 (some .int)) 2 [.ref (y 0), .long 2] [(y 0, .inr (9, [.ref (y 1), .int 0, .ref (y 2), .ref (y 10), .ref (y 19), .ref (y 25), .ref (y 26), .ref (y 30), .ref (y 31), .ref (y 32), .null, .null, .int 0, .int p0, .int p1])), (y 2, .inr (1, [.int 0, .int 0, .int 0, .int 0, .int 0, .int 0, .ref (y 3), .ref (y 4), .ref (y 5), .ref (y 6), .ref (y 7), .ref (y 8), .ref (y 9), .int 0, .int 0, .int 0, .int 0, .int 0]))] 0 0 (QI V (fun (r : Int32) (w : va_W) => (r = 1 ∧ w = [(y 0, .inr (9, [.ref (y 1), .int 0, .ref (y 2), .ref (y 10), .ref (y 19), .ref (y 25), .ref (y 26), .ref (y 30), .ref (y 31), .ref (y 32), .null, .null, .int 0, .int p0, .int p1])), (y 2, .inr (1, [.int 0, .int 0, .int 0, .int 0, .int 0, .int 0, .ref (y 3), .ref (y 4), .ref (y 5), .ref (y 6), .ref (y 7), .ref (y 8), .ref (y 9), .int 0, .int 0, .int 0, .int 0, .int 0]))]))) := by
  refine Ct.of (by decide) (Nat.le_of_ble_eq_true rfl) (fun p e s m below meth c A ls hx hb hr hml hown hlk hnm hg hP hK hD hE hA hS hl => ?_)
  have hl : lv_has ls 4 [(0, .ref (y 0)), (1, .long 2)] := hl
  refine lv_lload_n hx hb dX9_tryDeed_0 rfl (lv_at hl 1 rfl) ?_
  refine lv_ldc2 (v := 10) hx hb hown (hg _ q_3_189) dX9_tryDeed_1 ?_
  refine W.lcmp hx hb dX9_tryDeed_4 ?_
  refine lv_if_lt (tgt := 41) hx hb dX9_tryDeed_5 (by decide) (fun _ => ?_) (fun c_1 => absurd (fun z => c_1 ((lg_cmp_lt _ _).mpr z)) (by decide))
  refine lv_lload_n hx hb dX9_tryDeed_41 rfl (lv_at hl 1 rfl) ?_
  refine lv_ldc2 (v := 20) hx hb hown (hg _ q_3_199) dX9_tryDeed_42 ?_
  refine W.lcmp hx hb dX9_tryDeed_45 ?_
  refine lv_if_lt (tgt := 68) hx hb dX9_tryDeed_46 (by decide) (fun _ => ?_) (fun c_2 => absurd (fun z => c_2 ((lg_cmp_lt _ _).mpr z)) (by decide))
  refine lv_aload_n hx hb dX9_tryDeed_68 rfl (lv_at hl 0 rfl) ?_
  refine lv_lload_n hx hb dX9_tryDeed_69 rfl (lv_at hl 1 rfl) ?_
  refine jnI (wr := []) (rnV (rest := []) ⟨hx, hb, hml, hown, hg⟩ (c_X9_isNight_3 l V y p0 p1) mt_X9_isNight q_3_141 ⟨Nat.le_of_ble_eq_true rfl, Nat.le_of_ble_eq_true rfl⟩ hK hP hD hS hA hE [0, 1] rfl rfl 0 rfl rfl rfl rfl hl.1 rfl (Nat.le_of_ble_eq_true rfl) dX9_tryDeed_70 ⟨Nat.le_of_ble_eq_true rfl, Nat.le_of_ble_eq_true rfl⟩) hP hD hS hA [0, 1] [] rfl rfl rfl (by decide) (fun r_3 w H locs hw hP hD hS => ?_)
  obtain ⟨rfl, rfl⟩ := hw
  have hP : va_P V.1 vwCl [(y 0, .inr (9, [.ref (y 1), .int 0, .ref (y 2), .ref (y 10), .ref (y 19), .ref (y 25), .ref (y 26), .ref (y 30), .ref (y 31), .ref (y 32), .null, .null, .int 0, .int p0, .int p1])), (y 2, .inr (1, [.int 0, .int 0, .int 0, .int 0, .int 0, .int 0, .ref (y 3), .ref (y 4), .ref (y 5), .ref (y 6), .ref (y 7), .ref (y 8), .ref (y 9), .int 0, .int 0, .int 0, .int 0, .int 0]))] H := hP
  have hD : va_D A [(y 0, .inr (9, [.ref (y 1), .int 0, .ref (y 2), .ref (y 10), .ref (y 19), .ref (y 25), .ref (y 26), .ref (y 30), .ref (y 31), .ref (y 32), .null, .null, .int 0, .int p0, .int p1])), (y 2, .inr (1, [.int 0, .int 0, .int 0, .int 0, .int 0, .int 0, .ref (y 3), .ref (y 4), .ref (y 5), .ref (y 6), .ref (y 7), .ref (y 8), .ref (y 9), .int 0, .int 0, .int 0, .int 0, .int 0]))] := hD
  refine lv_if_ne (tgt := 78) hx hb dX9_tryDeed_73 (by decide) (fun c_4 => absurd c_4 (by decide)) (fun _ => ?_)
  refine lv_iconst (v := 1) hx hb dX9_tryDeed_76 (by decide) ?_
  exact fiI hx hb hr hlk hK hP hD hS dX9_tryDeed_77 (Nat.le_of_ble_eq_true rfl) (Nat.le_of_ble_eq_true rfl) (⟨rfl, rfl⟩)
set_option maxHeartbeats 4000000 in
set_option maxRecDepth 100000 in
theorem c_X9_isNight_4 (l : Launch) (V : GV) (y : Nat → Nat) (p0 : Int32) (p1 : Int32) : Ct l V yX9_isNight (.code yX9_isNight cX9_isNight 3 (some .boolean)) 1 [.ref (y 0), .long 3] [(y 0, .inr (9, [.ref (y 1), .int 0, .ref (y 2), .ref (y 10), .ref (y 19), .ref (y 25), .ref (y 26), .ref (y 30), .ref (y 31), .ref (y 32), .null, .null, .int 0, .int p0, .int p1])), (y 2, .inr (1, [.int 0, .int 0, .int 0, .int 0, .int 0, .int 0, .ref (y 3), .ref (y 4), .ref (y 5), .ref (y 6), .ref (y 7), .ref (y 8), .ref (y 9), .int 0, .int 0, .int 0, .int 0, .int 0]))] 0 0 (QI V (fun (r : Int32) (w : va_W) => (r = 0 ∧ w = [(y 0, .inr (9, [.ref (y 1), .int 0, .ref (y 2), .ref (y 10), .ref (y 19), .ref (y 25), .ref (y 26), .ref (y 30), .ref (y 31), .ref (y 32), .null, .null, .int 0, .int p0, .int p1])), (y 2, .inr (1, [.int 0, .int 0, .int 0, .int 0, .int 0, .int 0, .ref (y 3), .ref (y 4), .ref (y 5), .ref (y 6), .ref (y 7), .ref (y 8), .ref (y 9), .int 0, .int 0, .int 0, .int 0, .int 0]))]))) := by
  refine Ct.of (by decide) (Nat.le_of_ble_eq_true rfl) (fun p e s m below meth c A ls hx hb hr hml hown hlk hnm hg hP hK hD hE hA hS hl => ?_)
  have hl : lv_has ls 3 [(0, .ref (y 0)), (1, .long 3)] := hl
  refine lv_lload_n hx hb dX9_isNight_0 rfl (lv_at hl 1 rfl) ?_
  refine lv_lconst (v := 0) hx hb dX9_isNight_1 (by decide) ?_
  refine W.lcmp hx hb dX9_isNight_2 ?_
  refine lv_if_eq (tgt := 25) hx hb dX9_isNight_3 (by decide) (fun c_1 => absurd ((lg_cmp_eq _ _).mp c_1) (by decide)) (fun _ => ?_)
  refine lv_lload_n hx hb dX9_isNight_6 rfl (lv_at hl 1 rfl) ?_
  refine lv_lconst (v := 0) hx hb dX9_isNight_7 (by decide) ?_
  refine W.lcmp hx hb dX9_isNight_8 ?_
  refine lv_if_le (tgt := 29) hx hb dX9_isNight_9 (by decide) (fun c_2 => absurd ((lg_cmp_le _ _).mp c_2) (by decide)) (fun _ => ?_)
  refine lv_lload_n hx hb dX9_isNight_12 rfl (lv_at hl 1 rfl) ?_
  refine lv_aload_n hx hb dX9_isNight_13 rfl (lv_at hl 0 rfl) ?_
  refine va_get (ci := 9) (v := .ref (y 2)) (C := RX9) (T := TX9) (N := 15) hx hb hg inX9 hown hK hP 0 rfl rfl 2 (by decide) (hg _ q_2_38) (fun _ h9 => h9) rfl dX9_isNight_14 ?_
  refine va_get (ci := 1) (v := .int 0) (C := RX1) (T := TX1) (N := 18) hx hb hg inX1 hown hK hP 1 rfl rfl 1 (by decide) (hg _ q_1_41) (fun _ h9 => h9) rfl dX9_isNight_17 ?_
  refine lv_i2l (v := 0) hx hb dX9_isNight_20 (by decide +kernel) ?_
  refine W.lcmp hx hb dX9_isNight_21 ?_
  refine lv_if_ge (tgt := 29) hx hb dX9_isNight_22 (by decide) (fun _ => ?_) (fun c_3 => absurd (fun z => c_3 ((lg_cmp_ge _ _).mpr z)) (by decide))
  refine lv_iconst (v := 0) hx hb dX9_isNight_29 (by decide) ?_
  exact fiZ rfl hx hb hr hlk hK hP hD hS dX9_isNight_30 (Nat.le_of_ble_eq_true rfl) (Nat.le_of_ble_eq_true rfl) (⟨rfl, rfl⟩)
set_option maxHeartbeats 4000000 in
set_option maxRecDepth 100000 in
theorem c_X9_tryDeed_5 (l : Launch) (V : GV) (y : Nat → Nat) (p0 : Int32) (p1 : Int32) : Ct l V yX9_tryDeed (.code yX9_tryDeed cX9_tryDeed 4 (some .int)) 2 [.ref (y 0), .long 3] [(y 0, .inr (9, [.ref (y 1), .int 0, .ref (y 2), .ref (y 10), .ref (y 19), .ref (y 25), .ref (y 26), .ref (y 30), .ref (y 31), .ref (y 32), .null, .null, .int 0, .int p0, .int p1])), (y 2, .inr (1, [.int 0, .int 0, .int 0, .int 0, .int 0, .int 0, .ref (y 3), .ref (y 4), .ref (y 5), .ref (y 6), .ref (y 7), .ref (y 8), .ref (y 9), .int 0, .int 0, .int 0, .int 0, .int 0]))] 0 0 (QI V (fun (r : Int32) (w : va_W) => (r = 1 ∧ w = [(y 0, .inr (9, [.ref (y 1), .int 0, .ref (y 2), .ref (y 10), .ref (y 19), .ref (y 25), .ref (y 26), .ref (y 30), .ref (y 31), .ref (y 32), .null, .null, .int 0, .int p0, .int p1])), (y 2, .inr (1, [.int 0, .int 0, .int 0, .int 0, .int 0, .int 0, .ref (y 3), .ref (y 4), .ref (y 5), .ref (y 6), .ref (y 7), .ref (y 8), .ref (y 9), .int 0, .int 0, .int 0, .int 0, .int 0]))]))) := by
  refine Ct.of (by decide) (Nat.le_of_ble_eq_true rfl) (fun p e s m below meth c A ls hx hb hr hml hown hlk hnm hg hP hK hD hE hA hS hl => ?_)
  have hl : lv_has ls 4 [(0, .ref (y 0)), (1, .long 3)] := hl
  refine lv_lload_n hx hb dX9_tryDeed_0 rfl (lv_at hl 1 rfl) ?_
  refine lv_ldc2 (v := 10) hx hb hown (hg _ q_3_189) dX9_tryDeed_1 ?_
  refine W.lcmp hx hb dX9_tryDeed_4 ?_
  refine lv_if_lt (tgt := 41) hx hb dX9_tryDeed_5 (by decide) (fun _ => ?_) (fun c_1 => absurd (fun z => c_1 ((lg_cmp_lt _ _).mpr z)) (by decide))
  refine lv_lload_n hx hb dX9_tryDeed_41 rfl (lv_at hl 1 rfl) ?_
  refine lv_ldc2 (v := 20) hx hb hown (hg _ q_3_199) dX9_tryDeed_42 ?_
  refine W.lcmp hx hb dX9_tryDeed_45 ?_
  refine lv_if_lt (tgt := 68) hx hb dX9_tryDeed_46 (by decide) (fun _ => ?_) (fun c_2 => absurd (fun z => c_2 ((lg_cmp_lt _ _).mpr z)) (by decide))
  refine lv_aload_n hx hb dX9_tryDeed_68 rfl (lv_at hl 0 rfl) ?_
  refine lv_lload_n hx hb dX9_tryDeed_69 rfl (lv_at hl 1 rfl) ?_
  refine jnI (wr := []) (rnV (rest := []) ⟨hx, hb, hml, hown, hg⟩ (c_X9_isNight_4 l V y p0 p1) mt_X9_isNight q_3_141 ⟨Nat.le_of_ble_eq_true rfl, Nat.le_of_ble_eq_true rfl⟩ hK hP hD hS hA hE [0, 1] rfl rfl 0 rfl rfl rfl rfl hl.1 rfl (Nat.le_of_ble_eq_true rfl) dX9_tryDeed_70 ⟨Nat.le_of_ble_eq_true rfl, Nat.le_of_ble_eq_true rfl⟩) hP hD hS hA [0, 1] [] rfl rfl rfl (by decide) (fun r_3 w H locs hw hP hD hS => ?_)
  obtain ⟨rfl, rfl⟩ := hw
  have hP : va_P V.1 vwCl [(y 0, .inr (9, [.ref (y 1), .int 0, .ref (y 2), .ref (y 10), .ref (y 19), .ref (y 25), .ref (y 26), .ref (y 30), .ref (y 31), .ref (y 32), .null, .null, .int 0, .int p0, .int p1])), (y 2, .inr (1, [.int 0, .int 0, .int 0, .int 0, .int 0, .int 0, .ref (y 3), .ref (y 4), .ref (y 5), .ref (y 6), .ref (y 7), .ref (y 8), .ref (y 9), .int 0, .int 0, .int 0, .int 0, .int 0]))] H := hP
  have hD : va_D A [(y 0, .inr (9, [.ref (y 1), .int 0, .ref (y 2), .ref (y 10), .ref (y 19), .ref (y 25), .ref (y 26), .ref (y 30), .ref (y 31), .ref (y 32), .null, .null, .int 0, .int p0, .int p1])), (y 2, .inr (1, [.int 0, .int 0, .int 0, .int 0, .int 0, .int 0, .ref (y 3), .ref (y 4), .ref (y 5), .ref (y 6), .ref (y 7), .ref (y 8), .ref (y 9), .int 0, .int 0, .int 0, .int 0, .int 0]))] := hD
  refine lv_if_ne (tgt := 78) hx hb dX9_tryDeed_73 (by decide) (fun c_4 => absurd c_4 (by decide)) (fun _ => ?_)
  refine lv_iconst (v := 1) hx hb dX9_tryDeed_76 (by decide) ?_
  exact fiI hx hb hr hlk hK hP hD hS dX9_tryDeed_77 (Nat.le_of_ble_eq_true rfl) (Nat.le_of_ble_eq_true rfl) (⟨rfl, rfl⟩)
theorem dX9_drawnDeed_11 : decode cX9_drawnDeed 11 = .ok (.iload_n 0, 1) := by decide +kernel
theorem dX9_drawnDeed_12 : decode cX9_drawnDeed 12 = .ok (.iconst 4, 1) := by decide +kernel
theorem dX9_drawnDeed_13 : decode cX9_drawnDeed 13 = .ok (.if_icmp .ne 12, 3) := by decide +kernel
theorem dX9_drawnDeed_16 : decode cX9_drawnDeed 16 = .ok (.bipush 10, 2) := by decide +kernel
theorem dX9_drawnDeed_18 : decode cX9_drawnDeed 18 = .ok (.iload_n 1, 1) := by decide +kernel
theorem dX9_drawnDeed_19 : decode cX9_drawnDeed 19 = .ok (.iconst 4, 1) := by decide +kernel
theorem dX9_drawnDeed_20 : decode cX9_drawnDeed 20 = .ok (.irem, 1) := by decide +kernel
theorem dX9_drawnDeed_21 : decode cX9_drawnDeed 21 = .ok (.iadd, 1) := by decide +kernel
theorem dX9_drawnDeed_22 : decode cX9_drawnDeed 22 = .ok (.goto 10, 3) := by decide +kernel
set_option maxHeartbeats 4000000 in
set_option maxRecDepth 100000 in
theorem c_X9_drawnDeed_1 (l : Launch) (V : GV) (p0 : Int32) : Ct l V yX9_drawnDeed (.code yX9_drawnDeed cX9_drawnDeed 2 (some .int)) 1 [.int 4, .int p0] [] 0 0 (QI V (fun (r : Int32) (w : va_W) => (r = (10 + (p0 - p0 / 4 * 4)) ∧ w = []))) := by
  refine Ct.of (by decide) (Nat.le_of_ble_eq_true rfl) (fun p e s m below meth c A ls hx hb hr hml hown hlk hnm hg hP hK hD hE hA hS hl => ?_)
  have hl : lv_has ls 2 [(0, .int 4), (1, .int p0)] := hl
  refine lv_iload_n hx hb dX9_drawnDeed_0 rfl (lv_at hl 0 rfl) ?_
  refine lv_iconst (v := 3) hx hb dX9_drawnDeed_1 (by decide) ?_
  refine lv_icmp_ne (tgt := 11) hx hb dX9_drawnDeed_2 (by decide) (fun _ => ?_) (fun c_1 => absurd c_1 (by decide))
  refine lv_iload_n hx hb dX9_drawnDeed_11 rfl (lv_at hl 0 rfl) ?_
  refine lv_iconst (v := 4) hx hb dX9_drawnDeed_12 (by decide) ?_
  refine lv_icmp_ne (tgt := 25) hx hb dX9_drawnDeed_13 (by decide) (fun c_2 => absurd c_2 (by decide)) (fun _ => ?_)
  refine lv_bipush (v := 10) hx hb dX9_drawnDeed_16 (by decide) ?_
  refine lv_iload_n hx hb dX9_drawnDeed_18 rfl (lv_at hl 1 rfl) ?_
  refine lv_iconst (v := 4) hx hb dX9_drawnDeed_19 (by decide) ?_
  refine lv_irem hx hb dX9_drawnDeed_20 (by decide) ?_
  refine lv_iadd hx hb dX9_drawnDeed_21 ?_
  refine lv_goto (tgt := 32) hx hb dX9_drawnDeed_22 (by decide) ?_
  exact fiI hx hb hr hlk hK hP hD hS dX9_drawnDeed_32 (Nat.le_of_ble_eq_true rfl) (Nat.le_of_ble_eq_true rfl) (⟨rfl, rfl⟩)
set_option maxHeartbeats 4000000 in
set_option maxRecDepth 100000 in
theorem c_X9_isHill_1 (l : Launch) (V : GV) (y : Nat → Nat) (p0 : Int32) (p1 : Int32) : Ct l V yX9_isHill (.code yX9_isHill cX9_isHill 2 (some .boolean)) 1 [.ref (y 0), .int 0] [(y 0, .inr (9, [.ref (y 1), .int 0, .ref (y 2), .ref (y 10), .ref (y 19), .ref (y 25), .ref (y 26), .ref (y 30), .ref (y 31), .ref (y 32), .null, .null, .int 0, .int p0, .int p1])), (y 2, .inr (1, [.int 0, .int 0, .int 0, .int 0, .int 0, .int 0, .ref (y 3), .ref (y 4), .ref (y 5), .ref (y 6), .ref (y 7), .ref (y 8), .ref (y 9), .int 0, .int 0, .int 0, .int 0, .int 0]))] 0 0 (QI V (fun (r : Int32) (w : va_W) => (r = 0 ∧ w = [(y 0, .inr (9, [.ref (y 1), .int 0, .ref (y 2), .ref (y 10), .ref (y 19), .ref (y 25), .ref (y 26), .ref (y 30), .ref (y 31), .ref (y 32), .null, .null, .int 0, .int p0, .int p1])), (y 2, .inr (1, [.int 0, .int 0, .int 0, .int 0, .int 0, .int 0, .ref (y 3), .ref (y 4), .ref (y 5), .ref (y 6), .ref (y 7), .ref (y 8), .ref (y 9), .int 0, .int 0, .int 0, .int 0, .int 0]))]))) := by
  refine Ct.of (by decide) (Nat.le_of_ble_eq_true rfl) (fun p e s m below meth c A ls hx hb hr hml hown hlk hnm hg hP hK hD hE hA hS hl => ?_)
  have hl : lv_has ls 2 [(0, .ref (y 0)), (1, .int 0)] := hl
  refine lv_iload_n hx hb dX9_isHill_0 rfl (lv_at hl 1 rfl) ?_
  refine lv_if_lt (tgt := 19) hx hb dX9_isHill_1 (by decide) (fun c_1 => absurd c_1 (by decide)) (fun _ => ?_)
  refine lv_iload_n hx hb dX9_isHill_4 rfl (lv_at hl 1 rfl) ?_
  refine lv_aload_n hx hb dX9_isHill_5 rfl (lv_at hl 0 rfl) ?_
  refine va_get (ci := 9) (v := .ref (y 2)) (C := RX9) (T := TX9) (N := 15) hx hb hg inX9 hown hK hP 0 rfl rfl 2 (by decide) (hg _ q_2_38) (fun _ h9 => h9) rfl dX9_isHill_6 ?_
  refine va_get (ci := 1) (v := .int 0) (C := RX1) (T := TX1) (N := 18) hx hb hg inX1 hown hK hP 1 rfl rfl 1 (by decide) (hg _ q_1_41) (fun _ h9 => h9) rfl dX9_isHill_9 ?_
  refine lv_icmp_ge (tgt := 19) hx hb dX9_isHill_12 (by decide) (fun _ => ?_) (fun c_2 => absurd c_2 (by decide))
  refine lv_iconst (v := 0) hx hb dX9_isHill_19 (by decide) ?_
  exact fiZ rfl hx hb hr hlk hK hP hD hS dX9_isHill_20 (Nat.le_of_ble_eq_true rfl) (Nat.le_of_ble_eq_true rfl) (⟨rfl, rfl⟩)
set_option maxHeartbeats 4000000 in
set_option maxRecDepth 100000 in
theorem c_X9_whyNoStealing_1 (l : Launch) (V : GV) (y : Nat → Nat) (p0 : Int32) (p1 : Int32) : Ct l V yX9_whyNoStealing (.code yX9_whyNoStealing cX9_whyNoStealing 2 (some .int)) 2 [.ref (y 0), .int 0] [(y 0, .inr (9, [.ref (y 1), .int 0, .ref (y 2), .ref (y 10), .ref (y 19), .ref (y 25), .ref (y 26), .ref (y 30), .ref (y 31), .ref (y 32), .null, .null, .int 0, .int p0, .int p1])), (y 2, .inr (1, [.int 0, .int 0, .int 0, .int 0, .int 0, .int 0, .ref (y 3), .ref (y 4), .ref (y 5), .ref (y 6), .ref (y 7), .ref (y 8), .ref (y 9), .int 0, .int 0, .int 0, .int 0, .int 0]))] 0 0 (QI V (fun (r : Int32) (w : va_W) => (r = 1 ∧ w = [(y 0, .inr (9, [.ref (y 1), .int 0, .ref (y 2), .ref (y 10), .ref (y 19), .ref (y 25), .ref (y 26), .ref (y 30), .ref (y 31), .ref (y 32), .null, .null, .int 0, .int p0, .int p1])), (y 2, .inr (1, [.int 0, .int 0, .int 0, .int 0, .int 0, .int 0, .ref (y 3), .ref (y 4), .ref (y 5), .ref (y 6), .ref (y 7), .ref (y 8), .ref (y 9), .int 0, .int 0, .int 0, .int 0, .int 0]))]))) := by
  refine Ct.of (by decide) (Nat.le_of_ble_eq_true rfl) (fun p e s m below meth c A ls hx hb hr hml hown hlk hnm hg hP hK hD hE hA hS hl => ?_)
  have hl : lv_has ls 2 [(0, .ref (y 0)), (1, .int 0)] := hl
  refine lv_aload_n hx hb dX9_whyNoStealing_0 rfl (lv_at hl 0 rfl) ?_
  refine lv_iload_n hx hb dX9_whyNoStealing_1 rfl (lv_at hl 1 rfl) ?_
  refine jnI (wr := []) (rnV (rest := []) ⟨hx, hb, hml, hown, hg⟩ (c_X9_isHill_1 l V y p0 p1) mt_X9_isHill q_3_122 ⟨Nat.le_of_ble_eq_true rfl, Nat.le_of_ble_eq_true rfl⟩ hK hP hD hS hA hE [0, 1] rfl rfl 0 rfl rfl rfl rfl hl.1 rfl (Nat.le_of_ble_eq_true rfl) dX9_whyNoStealing_2 ⟨Nat.le_of_ble_eq_true rfl, Nat.le_of_ble_eq_true rfl⟩) hP hD hS hA [0, 1] [] rfl rfl rfl (by decide) (fun r_1 w H locs hw hP hD hS => ?_)
  obtain ⟨rfl, rfl⟩ := hw
  have hP : va_P V.1 vwCl [(y 0, .inr (9, [.ref (y 1), .int 0, .ref (y 2), .ref (y 10), .ref (y 19), .ref (y 25), .ref (y 26), .ref (y 30), .ref (y 31), .ref (y 32), .null, .null, .int 0, .int p0, .int p1])), (y 2, .inr (1, [.int 0, .int 0, .int 0, .int 0, .int 0, .int 0, .ref (y 3), .ref (y 4), .ref (y 5), .ref (y 6), .ref (y 7), .ref (y 8), .ref (y 9), .int 0, .int 0, .int 0, .int 0, .int 0]))] H := hP
  have hD : va_D A [(y 0, .inr (9, [.ref (y 1), .int 0, .ref (y 2), .ref (y 10), .ref (y 19), .ref (y 25), .ref (y 26), .ref (y 30), .ref (y 31), .ref (y 32), .null, .null, .int 0, .int p0, .int p1])), (y 2, .inr (1, [.int 0, .int 0, .int 0, .int 0, .int 0, .int 0, .ref (y 3), .ref (y 4), .ref (y 5), .ref (y 6), .ref (y 7), .ref (y 8), .ref (y 9), .int 0, .int 0, .int 0, .int 0, .int 0]))] := hD
  refine lv_if_ne (tgt := 10) hx hb dX9_whyNoStealing_5 (by decide) (fun c_2 => absurd c_2 (by decide)) (fun _ => ?_)
  refine lv_iconst (v := 1) hx hb dX9_whyNoStealing_8 (by decide) ?_
  exact fiI hx hb hr hlk hK hP hD hS dX9_whyNoStealing_9 (Nat.le_of_ble_eq_true rfl) (Nat.le_of_ble_eq_true rfl) (⟨rfl, rfl⟩)
set_option maxHeartbeats 4000000 in
set_option maxRecDepth 100000 in
theorem c_X9_tryDeed_6 (l : Launch) (V : GV) (y : Nat → Nat) (p0 : Int32) (p1 : Int32) : Ct l V yX9_tryDeed (.code yX9_tryDeed cX9_tryDeed 4 (some .int)) 3 [.ref (y 0), .long 10] [(y 0, .inr (9, [.ref (y 1), .int 0, .ref (y 2), .ref (y 10), .ref (y 19), .ref (y 25), .ref (y 26), .ref (y 30), .ref (y 31), .ref (y 32), .null, .null, .int 0, .int p0, .int p1])), (y 2, .inr (1, [.int 0, .int 0, .int 0, .int 0, .int 0, .int 0, .ref (y 3), .ref (y 4), .ref (y 5), .ref (y 6), .ref (y 7), .ref (y 8), .ref (y 9), .int 0, .int 0, .int 0, .int 0, .int 0]))] 0 0 (QI V (fun (r : Int32) (w : va_W) => (r = 1 ∧ w = [(y 0, .inr (9, [.ref (y 1), .int 0, .ref (y 2), .ref (y 10), .ref (y 19), .ref (y 25), .ref (y 26), .ref (y 30), .ref (y 31), .ref (y 32), .null, .null, .int 0, .int p0, .int p1])), (y 2, .inr (1, [.int 0, .int 0, .int 0, .int 0, .int 0, .int 0, .ref (y 3), .ref (y 4), .ref (y 5), .ref (y 6), .ref (y 7), .ref (y 8), .ref (y 9), .int 0, .int 0, .int 0, .int 0, .int 0]))]))) := by
  refine Ct.of (by decide) (Nat.le_of_ble_eq_true rfl) (fun p e s m below meth c A ls hx hb hr hml hown hlk hnm hg hP hK hD hE hA hS hl => ?_)
  have hl : lv_has ls 4 [(0, .ref (y 0)), (1, .long 10)] := hl
  refine lv_lload_n hx hb dX9_tryDeed_0 rfl (lv_at hl 1 rfl) ?_
  refine lv_ldc2 (v := 10) hx hb hown (hg _ q_3_189) dX9_tryDeed_1 ?_
  refine W.lcmp hx hb dX9_tryDeed_4 ?_
  refine lv_if_lt (tgt := 41) hx hb dX9_tryDeed_5 (by decide) (fun c_1 => absurd ((lg_cmp_lt _ _).mp c_1) (by decide)) (fun _ => ?_)
  refine lv_lload_n hx hb dX9_tryDeed_8 rfl (lv_at hl 1 rfl) ?_
  refine lv_ldc2 (v := 19) hx hb hown (hg _ q_3_190) dX9_tryDeed_9 ?_
  refine W.lcmp hx hb dX9_tryDeed_12 ?_
  refine lv_if_gt (tgt := 41) hx hb dX9_tryDeed_13 (by decide) (fun c_2 => absurd ((lg_cmp_gt _ _).mp c_2) (by decide)) (fun _ => ?_)
  refine lv_aload_n hx hb dX9_tryDeed_16 rfl (lv_at hl 0 rfl) ?_
  refine lv_lload_n hx hb dX9_tryDeed_17 rfl (lv_at hl 1 rfl) ?_
  refine lv_l2i (v := 10) hx hb dX9_tryDeed_18 (by decide +kernel) ?_
  refine lv_bipush (v := 10) hx hb dX9_tryDeed_19 (by decide) ?_
  refine lv_isub hx hb dX9_tryDeed_21 ?_
  refine tpi (y := 0) (by decide +kernel) ?_
  refine jnI (wr := []) (rnV (rest := []) ⟨hx, hb, hml, hown, hg⟩ (c_X9_whyNoStealing_1 l V y p0 p1) mt_X9_whyNoStealing q_3_191 ⟨Nat.le_of_ble_eq_true rfl, Nat.le_of_ble_eq_true rfl⟩ hK hP hD hS hA hE [0, 1] rfl rfl 0 rfl rfl rfl rfl hl.1 rfl (Nat.le_of_ble_eq_true rfl) dX9_tryDeed_22 ⟨Nat.le_of_ble_eq_true rfl, Nat.le_of_ble_eq_true rfl⟩) hP hD hS hA [0, 1] [] rfl rfl rfl (by decide) (fun r_3 w H locs hw hP hD hS => ?_)
  obtain ⟨rfl, rfl⟩ := hw
  have hP : va_P V.1 vwCl [(y 0, .inr (9, [.ref (y 1), .int 0, .ref (y 2), .ref (y 10), .ref (y 19), .ref (y 25), .ref (y 26), .ref (y 30), .ref (y 31), .ref (y 32), .null, .null, .int 0, .int p0, .int p1])), (y 2, .inr (1, [.int 0, .int 0, .int 0, .int 0, .int 0, .int 0, .ref (y 3), .ref (y 4), .ref (y 5), .ref (y 6), .ref (y 7), .ref (y 8), .ref (y 9), .int 0, .int 0, .int 0, .int 0, .int 0]))] H := hP
  have hD : va_D A [(y 0, .inr (9, [.ref (y 1), .int 0, .ref (y 2), .ref (y 10), .ref (y 19), .ref (y 25), .ref (y 26), .ref (y 30), .ref (y 31), .ref (y 32), .null, .null, .int 0, .int p0, .int p1])), (y 2, .inr (1, [.int 0, .int 0, .int 0, .int 0, .int 0, .int 0, .ref (y 3), .ref (y 4), .ref (y 5), .ref (y 6), .ref (y 7), .ref (y 8), .ref (y 9), .int 0, .int 0, .int 0, .int 0, .int 0]))] := hD
  refine lv_istore_n (lv' := [(3, .int 1), (0, .ref (y 0)), (1, .long 10)]) hx hb dX9_tryDeed_25 rfl hl (by decide) rfl (fun ls hl => ?_)
  refine lv_iload_n hx hb dX9_tryDeed_26 rfl (lv_at hl 0 rfl) ?_
  refine lv_if_ne (tgt := 39) hx hb dX9_tryDeed_27 (by decide) (fun _ => ?_) (fun c_4 => absurd c_4 (by decide))
  refine lv_iload_n hx hb dX9_tryDeed_39 rfl (lv_at hl 0 rfl) ?_
  exact fiI hx hb hr hlk hK hP hD hS dX9_tryDeed_40 (Nat.le_of_ble_eq_true rfl) (Nat.le_of_ble_eq_true rfl) (⟨rfl, rfl⟩)
set_option maxHeartbeats 4000000 in
set_option maxRecDepth 100000 in
theorem c_X9_isHill_2 (l : Launch) (V : GV) (y : Nat → Nat) (p0 : Int32) (p1 : Int32) : Ct l V yX9_isHill (.code yX9_isHill cX9_isHill 2 (some .boolean)) 1 [.ref (y 0), .int 1] [(y 0, .inr (9, [.ref (y 1), .int 0, .ref (y 2), .ref (y 10), .ref (y 19), .ref (y 25), .ref (y 26), .ref (y 30), .ref (y 31), .ref (y 32), .null, .null, .int 0, .int p0, .int p1])), (y 2, .inr (1, [.int 0, .int 0, .int 0, .int 0, .int 0, .int 0, .ref (y 3), .ref (y 4), .ref (y 5), .ref (y 6), .ref (y 7), .ref (y 8), .ref (y 9), .int 0, .int 0, .int 0, .int 0, .int 0]))] 0 0 (QI V (fun (r : Int32) (w : va_W) => (r = 0 ∧ w = [(y 0, .inr (9, [.ref (y 1), .int 0, .ref (y 2), .ref (y 10), .ref (y 19), .ref (y 25), .ref (y 26), .ref (y 30), .ref (y 31), .ref (y 32), .null, .null, .int 0, .int p0, .int p1])), (y 2, .inr (1, [.int 0, .int 0, .int 0, .int 0, .int 0, .int 0, .ref (y 3), .ref (y 4), .ref (y 5), .ref (y 6), .ref (y 7), .ref (y 8), .ref (y 9), .int 0, .int 0, .int 0, .int 0, .int 0]))]))) := by
  refine Ct.of (by decide) (Nat.le_of_ble_eq_true rfl) (fun p e s m below meth c A ls hx hb hr hml hown hlk hnm hg hP hK hD hE hA hS hl => ?_)
  have hl : lv_has ls 2 [(0, .ref (y 0)), (1, .int 1)] := hl
  refine lv_iload_n hx hb dX9_isHill_0 rfl (lv_at hl 1 rfl) ?_
  refine lv_if_lt (tgt := 19) hx hb dX9_isHill_1 (by decide) (fun c_1 => absurd c_1 (by decide)) (fun _ => ?_)
  refine lv_iload_n hx hb dX9_isHill_4 rfl (lv_at hl 1 rfl) ?_
  refine lv_aload_n hx hb dX9_isHill_5 rfl (lv_at hl 0 rfl) ?_
  refine va_get (ci := 9) (v := .ref (y 2)) (C := RX9) (T := TX9) (N := 15) hx hb hg inX9 hown hK hP 0 rfl rfl 2 (by decide) (hg _ q_2_38) (fun _ h9 => h9) rfl dX9_isHill_6 ?_
  refine va_get (ci := 1) (v := .int 0) (C := RX1) (T := TX1) (N := 18) hx hb hg inX1 hown hK hP 1 rfl rfl 1 (by decide) (hg _ q_1_41) (fun _ h9 => h9) rfl dX9_isHill_9 ?_
  refine lv_icmp_ge (tgt := 19) hx hb dX9_isHill_12 (by decide) (fun _ => ?_) (fun c_2 => absurd c_2 (by decide))
  refine lv_iconst (v := 0) hx hb dX9_isHill_19 (by decide) ?_
  exact fiZ rfl hx hb hr hlk hK hP hD hS dX9_isHill_20 (Nat.le_of_ble_eq_true rfl) (Nat.le_of_ble_eq_true rfl) (⟨rfl, rfl⟩)
set_option maxHeartbeats 4000000 in
set_option maxRecDepth 100000 in
theorem c_X9_whyNoStealing_2 (l : Launch) (V : GV) (y : Nat → Nat) (p0 : Int32) (p1 : Int32) : Ct l V yX9_whyNoStealing (.code yX9_whyNoStealing cX9_whyNoStealing 2 (some .int)) 2 [.ref (y 0), .int 1] [(y 0, .inr (9, [.ref (y 1), .int 0, .ref (y 2), .ref (y 10), .ref (y 19), .ref (y 25), .ref (y 26), .ref (y 30), .ref (y 31), .ref (y 32), .null, .null, .int 0, .int p0, .int p1])), (y 2, .inr (1, [.int 0, .int 0, .int 0, .int 0, .int 0, .int 0, .ref (y 3), .ref (y 4), .ref (y 5), .ref (y 6), .ref (y 7), .ref (y 8), .ref (y 9), .int 0, .int 0, .int 0, .int 0, .int 0]))] 0 0 (QI V (fun (r : Int32) (w : va_W) => (r = 1 ∧ w = [(y 0, .inr (9, [.ref (y 1), .int 0, .ref (y 2), .ref (y 10), .ref (y 19), .ref (y 25), .ref (y 26), .ref (y 30), .ref (y 31), .ref (y 32), .null, .null, .int 0, .int p0, .int p1])), (y 2, .inr (1, [.int 0, .int 0, .int 0, .int 0, .int 0, .int 0, .ref (y 3), .ref (y 4), .ref (y 5), .ref (y 6), .ref (y 7), .ref (y 8), .ref (y 9), .int 0, .int 0, .int 0, .int 0, .int 0]))]))) := by
  refine Ct.of (by decide) (Nat.le_of_ble_eq_true rfl) (fun p e s m below meth c A ls hx hb hr hml hown hlk hnm hg hP hK hD hE hA hS hl => ?_)
  have hl : lv_has ls 2 [(0, .ref (y 0)), (1, .int 1)] := hl
  refine lv_aload_n hx hb dX9_whyNoStealing_0 rfl (lv_at hl 0 rfl) ?_
  refine lv_iload_n hx hb dX9_whyNoStealing_1 rfl (lv_at hl 1 rfl) ?_
  refine jnI (wr := []) (rnV (rest := []) ⟨hx, hb, hml, hown, hg⟩ (c_X9_isHill_2 l V y p0 p1) mt_X9_isHill q_3_122 ⟨Nat.le_of_ble_eq_true rfl, Nat.le_of_ble_eq_true rfl⟩ hK hP hD hS hA hE [0, 1] rfl rfl 0 rfl rfl rfl rfl hl.1 rfl (Nat.le_of_ble_eq_true rfl) dX9_whyNoStealing_2 ⟨Nat.le_of_ble_eq_true rfl, Nat.le_of_ble_eq_true rfl⟩) hP hD hS hA [0, 1] [] rfl rfl rfl (by decide) (fun r_1 w H locs hw hP hD hS => ?_)
  obtain ⟨rfl, rfl⟩ := hw
  have hP : va_P V.1 vwCl [(y 0, .inr (9, [.ref (y 1), .int 0, .ref (y 2), .ref (y 10), .ref (y 19), .ref (y 25), .ref (y 26), .ref (y 30), .ref (y 31), .ref (y 32), .null, .null, .int 0, .int p0, .int p1])), (y 2, .inr (1, [.int 0, .int 0, .int 0, .int 0, .int 0, .int 0, .ref (y 3), .ref (y 4), .ref (y 5), .ref (y 6), .ref (y 7), .ref (y 8), .ref (y 9), .int 0, .int 0, .int 0, .int 0, .int 0]))] H := hP
  have hD : va_D A [(y 0, .inr (9, [.ref (y 1), .int 0, .ref (y 2), .ref (y 10), .ref (y 19), .ref (y 25), .ref (y 26), .ref (y 30), .ref (y 31), .ref (y 32), .null, .null, .int 0, .int p0, .int p1])), (y 2, .inr (1, [.int 0, .int 0, .int 0, .int 0, .int 0, .int 0, .ref (y 3), .ref (y 4), .ref (y 5), .ref (y 6), .ref (y 7), .ref (y 8), .ref (y 9), .int 0, .int 0, .int 0, .int 0, .int 0]))] := hD
  refine lv_if_ne (tgt := 10) hx hb dX9_whyNoStealing_5 (by decide) (fun c_2 => absurd c_2 (by decide)) (fun _ => ?_)
  refine lv_iconst (v := 1) hx hb dX9_whyNoStealing_8 (by decide) ?_
  exact fiI hx hb hr hlk hK hP hD hS dX9_whyNoStealing_9 (Nat.le_of_ble_eq_true rfl) (Nat.le_of_ble_eq_true rfl) (⟨rfl, rfl⟩)
set_option maxHeartbeats 4000000 in
set_option maxRecDepth 100000 in
theorem c_X9_tryDeed_7 (l : Launch) (V : GV) (y : Nat → Nat) (p0 : Int32) (p1 : Int32) : Ct l V yX9_tryDeed (.code yX9_tryDeed cX9_tryDeed 4 (some .int)) 3 [.ref (y 0), .long 11] [(y 0, .inr (9, [.ref (y 1), .int 0, .ref (y 2), .ref (y 10), .ref (y 19), .ref (y 25), .ref (y 26), .ref (y 30), .ref (y 31), .ref (y 32), .null, .null, .int 0, .int p0, .int p1])), (y 2, .inr (1, [.int 0, .int 0, .int 0, .int 0, .int 0, .int 0, .ref (y 3), .ref (y 4), .ref (y 5), .ref (y 6), .ref (y 7), .ref (y 8), .ref (y 9), .int 0, .int 0, .int 0, .int 0, .int 0]))] 0 0 (QI V (fun (r : Int32) (w : va_W) => (r = 1 ∧ w = [(y 0, .inr (9, [.ref (y 1), .int 0, .ref (y 2), .ref (y 10), .ref (y 19), .ref (y 25), .ref (y 26), .ref (y 30), .ref (y 31), .ref (y 32), .null, .null, .int 0, .int p0, .int p1])), (y 2, .inr (1, [.int 0, .int 0, .int 0, .int 0, .int 0, .int 0, .ref (y 3), .ref (y 4), .ref (y 5), .ref (y 6), .ref (y 7), .ref (y 8), .ref (y 9), .int 0, .int 0, .int 0, .int 0, .int 0]))]))) := by
  refine Ct.of (by decide) (Nat.le_of_ble_eq_true rfl) (fun p e s m below meth c A ls hx hb hr hml hown hlk hnm hg hP hK hD hE hA hS hl => ?_)
  have hl : lv_has ls 4 [(0, .ref (y 0)), (1, .long 11)] := hl
  refine lv_lload_n hx hb dX9_tryDeed_0 rfl (lv_at hl 1 rfl) ?_
  refine lv_ldc2 (v := 10) hx hb hown (hg _ q_3_189) dX9_tryDeed_1 ?_
  refine W.lcmp hx hb dX9_tryDeed_4 ?_
  refine lv_if_lt (tgt := 41) hx hb dX9_tryDeed_5 (by decide) (fun c_1 => absurd ((lg_cmp_lt _ _).mp c_1) (by decide)) (fun _ => ?_)
  refine lv_lload_n hx hb dX9_tryDeed_8 rfl (lv_at hl 1 rfl) ?_
  refine lv_ldc2 (v := 19) hx hb hown (hg _ q_3_190) dX9_tryDeed_9 ?_
  refine W.lcmp hx hb dX9_tryDeed_12 ?_
  refine lv_if_gt (tgt := 41) hx hb dX9_tryDeed_13 (by decide) (fun c_2 => absurd ((lg_cmp_gt _ _).mp c_2) (by decide)) (fun _ => ?_)
  refine lv_aload_n hx hb dX9_tryDeed_16 rfl (lv_at hl 0 rfl) ?_
  refine lv_lload_n hx hb dX9_tryDeed_17 rfl (lv_at hl 1 rfl) ?_
  refine lv_l2i (v := 11) hx hb dX9_tryDeed_18 (by decide +kernel) ?_
  refine lv_bipush (v := 10) hx hb dX9_tryDeed_19 (by decide) ?_
  refine lv_isub hx hb dX9_tryDeed_21 ?_
  refine tpi (y := 1) (by decide +kernel) ?_
  refine jnI (wr := []) (rnV (rest := []) ⟨hx, hb, hml, hown, hg⟩ (c_X9_whyNoStealing_2 l V y p0 p1) mt_X9_whyNoStealing q_3_191 ⟨Nat.le_of_ble_eq_true rfl, Nat.le_of_ble_eq_true rfl⟩ hK hP hD hS hA hE [0, 1] rfl rfl 0 rfl rfl rfl rfl hl.1 rfl (Nat.le_of_ble_eq_true rfl) dX9_tryDeed_22 ⟨Nat.le_of_ble_eq_true rfl, Nat.le_of_ble_eq_true rfl⟩) hP hD hS hA [0, 1] [] rfl rfl rfl (by decide) (fun r_3 w H locs hw hP hD hS => ?_)
  obtain ⟨rfl, rfl⟩ := hw
  have hP : va_P V.1 vwCl [(y 0, .inr (9, [.ref (y 1), .int 0, .ref (y 2), .ref (y 10), .ref (y 19), .ref (y 25), .ref (y 26), .ref (y 30), .ref (y 31), .ref (y 32), .null, .null, .int 0, .int p0, .int p1])), (y 2, .inr (1, [.int 0, .int 0, .int 0, .int 0, .int 0, .int 0, .ref (y 3), .ref (y 4), .ref (y 5), .ref (y 6), .ref (y 7), .ref (y 8), .ref (y 9), .int 0, .int 0, .int 0, .int 0, .int 0]))] H := hP
  have hD : va_D A [(y 0, .inr (9, [.ref (y 1), .int 0, .ref (y 2), .ref (y 10), .ref (y 19), .ref (y 25), .ref (y 26), .ref (y 30), .ref (y 31), .ref (y 32), .null, .null, .int 0, .int p0, .int p1])), (y 2, .inr (1, [.int 0, .int 0, .int 0, .int 0, .int 0, .int 0, .ref (y 3), .ref (y 4), .ref (y 5), .ref (y 6), .ref (y 7), .ref (y 8), .ref (y 9), .int 0, .int 0, .int 0, .int 0, .int 0]))] := hD
  refine lv_istore_n (lv' := [(3, .int 1), (0, .ref (y 0)), (1, .long 11)]) hx hb dX9_tryDeed_25 rfl hl (by decide) rfl (fun ls hl => ?_)
  refine lv_iload_n hx hb dX9_tryDeed_26 rfl (lv_at hl 0 rfl) ?_
  refine lv_if_ne (tgt := 39) hx hb dX9_tryDeed_27 (by decide) (fun _ => ?_) (fun c_4 => absurd c_4 (by decide))
  refine lv_iload_n hx hb dX9_tryDeed_39 rfl (lv_at hl 0 rfl) ?_
  exact fiI hx hb hr hlk hK hP hD hS dX9_tryDeed_40 (Nat.le_of_ble_eq_true rfl) (Nat.le_of_ble_eq_true rfl) (⟨rfl, rfl⟩)
set_option maxHeartbeats 4000000 in
set_option maxRecDepth 100000 in
theorem c_X9_isHill_3 (l : Launch) (V : GV) (y : Nat → Nat) (p0 : Int32) (p1 : Int32) : Ct l V yX9_isHill (.code yX9_isHill cX9_isHill 2 (some .boolean)) 1 [.ref (y 0), .int 2] [(y 0, .inr (9, [.ref (y 1), .int 0, .ref (y 2), .ref (y 10), .ref (y 19), .ref (y 25), .ref (y 26), .ref (y 30), .ref (y 31), .ref (y 32), .null, .null, .int 0, .int p0, .int p1])), (y 2, .inr (1, [.int 0, .int 0, .int 0, .int 0, .int 0, .int 0, .ref (y 3), .ref (y 4), .ref (y 5), .ref (y 6), .ref (y 7), .ref (y 8), .ref (y 9), .int 0, .int 0, .int 0, .int 0, .int 0]))] 0 0 (QI V (fun (r : Int32) (w : va_W) => (r = 0 ∧ w = [(y 0, .inr (9, [.ref (y 1), .int 0, .ref (y 2), .ref (y 10), .ref (y 19), .ref (y 25), .ref (y 26), .ref (y 30), .ref (y 31), .ref (y 32), .null, .null, .int 0, .int p0, .int p1])), (y 2, .inr (1, [.int 0, .int 0, .int 0, .int 0, .int 0, .int 0, .ref (y 3), .ref (y 4), .ref (y 5), .ref (y 6), .ref (y 7), .ref (y 8), .ref (y 9), .int 0, .int 0, .int 0, .int 0, .int 0]))]))) := by
  refine Ct.of (by decide) (Nat.le_of_ble_eq_true rfl) (fun p e s m below meth c A ls hx hb hr hml hown hlk hnm hg hP hK hD hE hA hS hl => ?_)
  have hl : lv_has ls 2 [(0, .ref (y 0)), (1, .int 2)] := hl
  refine lv_iload_n hx hb dX9_isHill_0 rfl (lv_at hl 1 rfl) ?_
  refine lv_if_lt (tgt := 19) hx hb dX9_isHill_1 (by decide) (fun c_1 => absurd c_1 (by decide)) (fun _ => ?_)
  refine lv_iload_n hx hb dX9_isHill_4 rfl (lv_at hl 1 rfl) ?_
  refine lv_aload_n hx hb dX9_isHill_5 rfl (lv_at hl 0 rfl) ?_
  refine va_get (ci := 9) (v := .ref (y 2)) (C := RX9) (T := TX9) (N := 15) hx hb hg inX9 hown hK hP 0 rfl rfl 2 (by decide) (hg _ q_2_38) (fun _ h9 => h9) rfl dX9_isHill_6 ?_
  refine va_get (ci := 1) (v := .int 0) (C := RX1) (T := TX1) (N := 18) hx hb hg inX1 hown hK hP 1 rfl rfl 1 (by decide) (hg _ q_1_41) (fun _ h9 => h9) rfl dX9_isHill_9 ?_
  refine lv_icmp_ge (tgt := 19) hx hb dX9_isHill_12 (by decide) (fun _ => ?_) (fun c_2 => absurd c_2 (by decide))
  refine lv_iconst (v := 0) hx hb dX9_isHill_19 (by decide) ?_
  exact fiZ rfl hx hb hr hlk hK hP hD hS dX9_isHill_20 (Nat.le_of_ble_eq_true rfl) (Nat.le_of_ble_eq_true rfl) (⟨rfl, rfl⟩)
set_option maxHeartbeats 4000000 in
set_option maxRecDepth 100000 in
theorem c_X9_whyNoStealing_3 (l : Launch) (V : GV) (y : Nat → Nat) (p0 : Int32) (p1 : Int32) : Ct l V yX9_whyNoStealing (.code yX9_whyNoStealing cX9_whyNoStealing 2 (some .int)) 2 [.ref (y 0), .int 2] [(y 0, .inr (9, [.ref (y 1), .int 0, .ref (y 2), .ref (y 10), .ref (y 19), .ref (y 25), .ref (y 26), .ref (y 30), .ref (y 31), .ref (y 32), .null, .null, .int 0, .int p0, .int p1])), (y 2, .inr (1, [.int 0, .int 0, .int 0, .int 0, .int 0, .int 0, .ref (y 3), .ref (y 4), .ref (y 5), .ref (y 6), .ref (y 7), .ref (y 8), .ref (y 9), .int 0, .int 0, .int 0, .int 0, .int 0]))] 0 0 (QI V (fun (r : Int32) (w : va_W) => (r = 1 ∧ w = [(y 0, .inr (9, [.ref (y 1), .int 0, .ref (y 2), .ref (y 10), .ref (y 19), .ref (y 25), .ref (y 26), .ref (y 30), .ref (y 31), .ref (y 32), .null, .null, .int 0, .int p0, .int p1])), (y 2, .inr (1, [.int 0, .int 0, .int 0, .int 0, .int 0, .int 0, .ref (y 3), .ref (y 4), .ref (y 5), .ref (y 6), .ref (y 7), .ref (y 8), .ref (y 9), .int 0, .int 0, .int 0, .int 0, .int 0]))]))) := by
  refine Ct.of (by decide) (Nat.le_of_ble_eq_true rfl) (fun p e s m below meth c A ls hx hb hr hml hown hlk hnm hg hP hK hD hE hA hS hl => ?_)
  have hl : lv_has ls 2 [(0, .ref (y 0)), (1, .int 2)] := hl
  refine lv_aload_n hx hb dX9_whyNoStealing_0 rfl (lv_at hl 0 rfl) ?_
  refine lv_iload_n hx hb dX9_whyNoStealing_1 rfl (lv_at hl 1 rfl) ?_
  refine jnI (wr := []) (rnV (rest := []) ⟨hx, hb, hml, hown, hg⟩ (c_X9_isHill_3 l V y p0 p1) mt_X9_isHill q_3_122 ⟨Nat.le_of_ble_eq_true rfl, Nat.le_of_ble_eq_true rfl⟩ hK hP hD hS hA hE [0, 1] rfl rfl 0 rfl rfl rfl rfl hl.1 rfl (Nat.le_of_ble_eq_true rfl) dX9_whyNoStealing_2 ⟨Nat.le_of_ble_eq_true rfl, Nat.le_of_ble_eq_true rfl⟩) hP hD hS hA [0, 1] [] rfl rfl rfl (by decide) (fun r_1 w H locs hw hP hD hS => ?_)
  obtain ⟨rfl, rfl⟩ := hw
  have hP : va_P V.1 vwCl [(y 0, .inr (9, [.ref (y 1), .int 0, .ref (y 2), .ref (y 10), .ref (y 19), .ref (y 25), .ref (y 26), .ref (y 30), .ref (y 31), .ref (y 32), .null, .null, .int 0, .int p0, .int p1])), (y 2, .inr (1, [.int 0, .int 0, .int 0, .int 0, .int 0, .int 0, .ref (y 3), .ref (y 4), .ref (y 5), .ref (y 6), .ref (y 7), .ref (y 8), .ref (y 9), .int 0, .int 0, .int 0, .int 0, .int 0]))] H := hP
  have hD : va_D A [(y 0, .inr (9, [.ref (y 1), .int 0, .ref (y 2), .ref (y 10), .ref (y 19), .ref (y 25), .ref (y 26), .ref (y 30), .ref (y 31), .ref (y 32), .null, .null, .int 0, .int p0, .int p1])), (y 2, .inr (1, [.int 0, .int 0, .int 0, .int 0, .int 0, .int 0, .ref (y 3), .ref (y 4), .ref (y 5), .ref (y 6), .ref (y 7), .ref (y 8), .ref (y 9), .int 0, .int 0, .int 0, .int 0, .int 0]))] := hD
  refine lv_if_ne (tgt := 10) hx hb dX9_whyNoStealing_5 (by decide) (fun c_2 => absurd c_2 (by decide)) (fun _ => ?_)
  refine lv_iconst (v := 1) hx hb dX9_whyNoStealing_8 (by decide) ?_
  exact fiI hx hb hr hlk hK hP hD hS dX9_whyNoStealing_9 (Nat.le_of_ble_eq_true rfl) (Nat.le_of_ble_eq_true rfl) (⟨rfl, rfl⟩)
set_option maxHeartbeats 4000000 in
set_option maxRecDepth 100000 in
theorem c_X9_tryDeed_8 (l : Launch) (V : GV) (y : Nat → Nat) (p0 : Int32) (p1 : Int32) : Ct l V yX9_tryDeed (.code yX9_tryDeed cX9_tryDeed 4 (some .int)) 3 [.ref (y 0), .long 12] [(y 0, .inr (9, [.ref (y 1), .int 0, .ref (y 2), .ref (y 10), .ref (y 19), .ref (y 25), .ref (y 26), .ref (y 30), .ref (y 31), .ref (y 32), .null, .null, .int 0, .int p0, .int p1])), (y 2, .inr (1, [.int 0, .int 0, .int 0, .int 0, .int 0, .int 0, .ref (y 3), .ref (y 4), .ref (y 5), .ref (y 6), .ref (y 7), .ref (y 8), .ref (y 9), .int 0, .int 0, .int 0, .int 0, .int 0]))] 0 0 (QI V (fun (r : Int32) (w : va_W) => (r = 1 ∧ w = [(y 0, .inr (9, [.ref (y 1), .int 0, .ref (y 2), .ref (y 10), .ref (y 19), .ref (y 25), .ref (y 26), .ref (y 30), .ref (y 31), .ref (y 32), .null, .null, .int 0, .int p0, .int p1])), (y 2, .inr (1, [.int 0, .int 0, .int 0, .int 0, .int 0, .int 0, .ref (y 3), .ref (y 4), .ref (y 5), .ref (y 6), .ref (y 7), .ref (y 8), .ref (y 9), .int 0, .int 0, .int 0, .int 0, .int 0]))]))) := by
  refine Ct.of (by decide) (Nat.le_of_ble_eq_true rfl) (fun p e s m below meth c A ls hx hb hr hml hown hlk hnm hg hP hK hD hE hA hS hl => ?_)
  have hl : lv_has ls 4 [(0, .ref (y 0)), (1, .long 12)] := hl
  refine lv_lload_n hx hb dX9_tryDeed_0 rfl (lv_at hl 1 rfl) ?_
  refine lv_ldc2 (v := 10) hx hb hown (hg _ q_3_189) dX9_tryDeed_1 ?_
  refine W.lcmp hx hb dX9_tryDeed_4 ?_
  refine lv_if_lt (tgt := 41) hx hb dX9_tryDeed_5 (by decide) (fun c_1 => absurd ((lg_cmp_lt _ _).mp c_1) (by decide)) (fun _ => ?_)
  refine lv_lload_n hx hb dX9_tryDeed_8 rfl (lv_at hl 1 rfl) ?_
  refine lv_ldc2 (v := 19) hx hb hown (hg _ q_3_190) dX9_tryDeed_9 ?_
  refine W.lcmp hx hb dX9_tryDeed_12 ?_
  refine lv_if_gt (tgt := 41) hx hb dX9_tryDeed_13 (by decide) (fun c_2 => absurd ((lg_cmp_gt _ _).mp c_2) (by decide)) (fun _ => ?_)
  refine lv_aload_n hx hb dX9_tryDeed_16 rfl (lv_at hl 0 rfl) ?_
  refine lv_lload_n hx hb dX9_tryDeed_17 rfl (lv_at hl 1 rfl) ?_
  refine lv_l2i (v := 12) hx hb dX9_tryDeed_18 (by decide +kernel) ?_
  refine lv_bipush (v := 10) hx hb dX9_tryDeed_19 (by decide) ?_
  refine lv_isub hx hb dX9_tryDeed_21 ?_
  refine tpi (y := 2) (by decide +kernel) ?_
  refine jnI (wr := []) (rnV (rest := []) ⟨hx, hb, hml, hown, hg⟩ (c_X9_whyNoStealing_3 l V y p0 p1) mt_X9_whyNoStealing q_3_191 ⟨Nat.le_of_ble_eq_true rfl, Nat.le_of_ble_eq_true rfl⟩ hK hP hD hS hA hE [0, 1] rfl rfl 0 rfl rfl rfl rfl hl.1 rfl (Nat.le_of_ble_eq_true rfl) dX9_tryDeed_22 ⟨Nat.le_of_ble_eq_true rfl, Nat.le_of_ble_eq_true rfl⟩) hP hD hS hA [0, 1] [] rfl rfl rfl (by decide) (fun r_3 w H locs hw hP hD hS => ?_)
  obtain ⟨rfl, rfl⟩ := hw
  have hP : va_P V.1 vwCl [(y 0, .inr (9, [.ref (y 1), .int 0, .ref (y 2), .ref (y 10), .ref (y 19), .ref (y 25), .ref (y 26), .ref (y 30), .ref (y 31), .ref (y 32), .null, .null, .int 0, .int p0, .int p1])), (y 2, .inr (1, [.int 0, .int 0, .int 0, .int 0, .int 0, .int 0, .ref (y 3), .ref (y 4), .ref (y 5), .ref (y 6), .ref (y 7), .ref (y 8), .ref (y 9), .int 0, .int 0, .int 0, .int 0, .int 0]))] H := hP
  have hD : va_D A [(y 0, .inr (9, [.ref (y 1), .int 0, .ref (y 2), .ref (y 10), .ref (y 19), .ref (y 25), .ref (y 26), .ref (y 30), .ref (y 31), .ref (y 32), .null, .null, .int 0, .int p0, .int p1])), (y 2, .inr (1, [.int 0, .int 0, .int 0, .int 0, .int 0, .int 0, .ref (y 3), .ref (y 4), .ref (y 5), .ref (y 6), .ref (y 7), .ref (y 8), .ref (y 9), .int 0, .int 0, .int 0, .int 0, .int 0]))] := hD
  refine lv_istore_n (lv' := [(3, .int 1), (0, .ref (y 0)), (1, .long 12)]) hx hb dX9_tryDeed_25 rfl hl (by decide) rfl (fun ls hl => ?_)
  refine lv_iload_n hx hb dX9_tryDeed_26 rfl (lv_at hl 0 rfl) ?_
  refine lv_if_ne (tgt := 39) hx hb dX9_tryDeed_27 (by decide) (fun _ => ?_) (fun c_4 => absurd c_4 (by decide))
  refine lv_iload_n hx hb dX9_tryDeed_39 rfl (lv_at hl 0 rfl) ?_
  exact fiI hx hb hr hlk hK hP hD hS dX9_tryDeed_40 (Nat.le_of_ble_eq_true rfl) (Nat.le_of_ble_eq_true rfl) (⟨rfl, rfl⟩)
set_option maxHeartbeats 4000000 in
set_option maxRecDepth 100000 in
theorem c_X9_isHill_4 (l : Launch) (V : GV) (y : Nat → Nat) (p0 : Int32) (p1 : Int32) : Ct l V yX9_isHill (.code yX9_isHill cX9_isHill 2 (some .boolean)) 1 [.ref (y 0), .int 3] [(y 0, .inr (9, [.ref (y 1), .int 0, .ref (y 2), .ref (y 10), .ref (y 19), .ref (y 25), .ref (y 26), .ref (y 30), .ref (y 31), .ref (y 32), .null, .null, .int 0, .int p0, .int p1])), (y 2, .inr (1, [.int 0, .int 0, .int 0, .int 0, .int 0, .int 0, .ref (y 3), .ref (y 4), .ref (y 5), .ref (y 6), .ref (y 7), .ref (y 8), .ref (y 9), .int 0, .int 0, .int 0, .int 0, .int 0]))] 0 0 (QI V (fun (r : Int32) (w : va_W) => (r = 0 ∧ w = [(y 0, .inr (9, [.ref (y 1), .int 0, .ref (y 2), .ref (y 10), .ref (y 19), .ref (y 25), .ref (y 26), .ref (y 30), .ref (y 31), .ref (y 32), .null, .null, .int 0, .int p0, .int p1])), (y 2, .inr (1, [.int 0, .int 0, .int 0, .int 0, .int 0, .int 0, .ref (y 3), .ref (y 4), .ref (y 5), .ref (y 6), .ref (y 7), .ref (y 8), .ref (y 9), .int 0, .int 0, .int 0, .int 0, .int 0]))]))) := by
  refine Ct.of (by decide) (Nat.le_of_ble_eq_true rfl) (fun p e s m below meth c A ls hx hb hr hml hown hlk hnm hg hP hK hD hE hA hS hl => ?_)
  have hl : lv_has ls 2 [(0, .ref (y 0)), (1, .int 3)] := hl
  refine lv_iload_n hx hb dX9_isHill_0 rfl (lv_at hl 1 rfl) ?_
  refine lv_if_lt (tgt := 19) hx hb dX9_isHill_1 (by decide) (fun c_1 => absurd c_1 (by decide)) (fun _ => ?_)
  refine lv_iload_n hx hb dX9_isHill_4 rfl (lv_at hl 1 rfl) ?_
  refine lv_aload_n hx hb dX9_isHill_5 rfl (lv_at hl 0 rfl) ?_
  refine va_get (ci := 9) (v := .ref (y 2)) (C := RX9) (T := TX9) (N := 15) hx hb hg inX9 hown hK hP 0 rfl rfl 2 (by decide) (hg _ q_2_38) (fun _ h9 => h9) rfl dX9_isHill_6 ?_
  refine va_get (ci := 1) (v := .int 0) (C := RX1) (T := TX1) (N := 18) hx hb hg inX1 hown hK hP 1 rfl rfl 1 (by decide) (hg _ q_1_41) (fun _ h9 => h9) rfl dX9_isHill_9 ?_
  refine lv_icmp_ge (tgt := 19) hx hb dX9_isHill_12 (by decide) (fun _ => ?_) (fun c_2 => absurd c_2 (by decide))
  refine lv_iconst (v := 0) hx hb dX9_isHill_19 (by decide) ?_
  exact fiZ rfl hx hb hr hlk hK hP hD hS dX9_isHill_20 (Nat.le_of_ble_eq_true rfl) (Nat.le_of_ble_eq_true rfl) (⟨rfl, rfl⟩)
set_option maxHeartbeats 4000000 in
set_option maxRecDepth 100000 in
theorem c_X9_whyNoStealing_4 (l : Launch) (V : GV) (y : Nat → Nat) (p0 : Int32) (p1 : Int32) : Ct l V yX9_whyNoStealing (.code yX9_whyNoStealing cX9_whyNoStealing 2 (some .int)) 2 [.ref (y 0), .int 3] [(y 0, .inr (9, [.ref (y 1), .int 0, .ref (y 2), .ref (y 10), .ref (y 19), .ref (y 25), .ref (y 26), .ref (y 30), .ref (y 31), .ref (y 32), .null, .null, .int 0, .int p0, .int p1])), (y 2, .inr (1, [.int 0, .int 0, .int 0, .int 0, .int 0, .int 0, .ref (y 3), .ref (y 4), .ref (y 5), .ref (y 6), .ref (y 7), .ref (y 8), .ref (y 9), .int 0, .int 0, .int 0, .int 0, .int 0]))] 0 0 (QI V (fun (r : Int32) (w : va_W) => (r = 1 ∧ w = [(y 0, .inr (9, [.ref (y 1), .int 0, .ref (y 2), .ref (y 10), .ref (y 19), .ref (y 25), .ref (y 26), .ref (y 30), .ref (y 31), .ref (y 32), .null, .null, .int 0, .int p0, .int p1])), (y 2, .inr (1, [.int 0, .int 0, .int 0, .int 0, .int 0, .int 0, .ref (y 3), .ref (y 4), .ref (y 5), .ref (y 6), .ref (y 7), .ref (y 8), .ref (y 9), .int 0, .int 0, .int 0, .int 0, .int 0]))]))) := by
  refine Ct.of (by decide) (Nat.le_of_ble_eq_true rfl) (fun p e s m below meth c A ls hx hb hr hml hown hlk hnm hg hP hK hD hE hA hS hl => ?_)
  have hl : lv_has ls 2 [(0, .ref (y 0)), (1, .int 3)] := hl
  refine lv_aload_n hx hb dX9_whyNoStealing_0 rfl (lv_at hl 0 rfl) ?_
  refine lv_iload_n hx hb dX9_whyNoStealing_1 rfl (lv_at hl 1 rfl) ?_
  refine jnI (wr := []) (rnV (rest := []) ⟨hx, hb, hml, hown, hg⟩ (c_X9_isHill_4 l V y p0 p1) mt_X9_isHill q_3_122 ⟨Nat.le_of_ble_eq_true rfl, Nat.le_of_ble_eq_true rfl⟩ hK hP hD hS hA hE [0, 1] rfl rfl 0 rfl rfl rfl rfl hl.1 rfl (Nat.le_of_ble_eq_true rfl) dX9_whyNoStealing_2 ⟨Nat.le_of_ble_eq_true rfl, Nat.le_of_ble_eq_true rfl⟩) hP hD hS hA [0, 1] [] rfl rfl rfl (by decide) (fun r_1 w H locs hw hP hD hS => ?_)
  obtain ⟨rfl, rfl⟩ := hw
  have hP : va_P V.1 vwCl [(y 0, .inr (9, [.ref (y 1), .int 0, .ref (y 2), .ref (y 10), .ref (y 19), .ref (y 25), .ref (y 26), .ref (y 30), .ref (y 31), .ref (y 32), .null, .null, .int 0, .int p0, .int p1])), (y 2, .inr (1, [.int 0, .int 0, .int 0, .int 0, .int 0, .int 0, .ref (y 3), .ref (y 4), .ref (y 5), .ref (y 6), .ref (y 7), .ref (y 8), .ref (y 9), .int 0, .int 0, .int 0, .int 0, .int 0]))] H := hP
  have hD : va_D A [(y 0, .inr (9, [.ref (y 1), .int 0, .ref (y 2), .ref (y 10), .ref (y 19), .ref (y 25), .ref (y 26), .ref (y 30), .ref (y 31), .ref (y 32), .null, .null, .int 0, .int p0, .int p1])), (y 2, .inr (1, [.int 0, .int 0, .int 0, .int 0, .int 0, .int 0, .ref (y 3), .ref (y 4), .ref (y 5), .ref (y 6), .ref (y 7), .ref (y 8), .ref (y 9), .int 0, .int 0, .int 0, .int 0, .int 0]))] := hD
  refine lv_if_ne (tgt := 10) hx hb dX9_whyNoStealing_5 (by decide) (fun c_2 => absurd c_2 (by decide)) (fun _ => ?_)
  refine lv_iconst (v := 1) hx hb dX9_whyNoStealing_8 (by decide) ?_
  exact fiI hx hb hr hlk hK hP hD hS dX9_whyNoStealing_9 (Nat.le_of_ble_eq_true rfl) (Nat.le_of_ble_eq_true rfl) (⟨rfl, rfl⟩)
set_option maxHeartbeats 4000000 in
set_option maxRecDepth 100000 in
theorem c_X9_tryDeed_9 (l : Launch) (V : GV) (y : Nat → Nat) (p0 : Int32) (p1 : Int32) : Ct l V yX9_tryDeed (.code yX9_tryDeed cX9_tryDeed 4 (some .int)) 3 [.ref (y 0), .long 13] [(y 0, .inr (9, [.ref (y 1), .int 0, .ref (y 2), .ref (y 10), .ref (y 19), .ref (y 25), .ref (y 26), .ref (y 30), .ref (y 31), .ref (y 32), .null, .null, .int 0, .int p0, .int p1])), (y 2, .inr (1, [.int 0, .int 0, .int 0, .int 0, .int 0, .int 0, .ref (y 3), .ref (y 4), .ref (y 5), .ref (y 6), .ref (y 7), .ref (y 8), .ref (y 9), .int 0, .int 0, .int 0, .int 0, .int 0]))] 0 0 (QI V (fun (r : Int32) (w : va_W) => (r = 1 ∧ w = [(y 0, .inr (9, [.ref (y 1), .int 0, .ref (y 2), .ref (y 10), .ref (y 19), .ref (y 25), .ref (y 26), .ref (y 30), .ref (y 31), .ref (y 32), .null, .null, .int 0, .int p0, .int p1])), (y 2, .inr (1, [.int 0, .int 0, .int 0, .int 0, .int 0, .int 0, .ref (y 3), .ref (y 4), .ref (y 5), .ref (y 6), .ref (y 7), .ref (y 8), .ref (y 9), .int 0, .int 0, .int 0, .int 0, .int 0]))]))) := by
  refine Ct.of (by decide) (Nat.le_of_ble_eq_true rfl) (fun p e s m below meth c A ls hx hb hr hml hown hlk hnm hg hP hK hD hE hA hS hl => ?_)
  have hl : lv_has ls 4 [(0, .ref (y 0)), (1, .long 13)] := hl
  refine lv_lload_n hx hb dX9_tryDeed_0 rfl (lv_at hl 1 rfl) ?_
  refine lv_ldc2 (v := 10) hx hb hown (hg _ q_3_189) dX9_tryDeed_1 ?_
  refine W.lcmp hx hb dX9_tryDeed_4 ?_
  refine lv_if_lt (tgt := 41) hx hb dX9_tryDeed_5 (by decide) (fun c_1 => absurd ((lg_cmp_lt _ _).mp c_1) (by decide)) (fun _ => ?_)
  refine lv_lload_n hx hb dX9_tryDeed_8 rfl (lv_at hl 1 rfl) ?_
  refine lv_ldc2 (v := 19) hx hb hown (hg _ q_3_190) dX9_tryDeed_9 ?_
  refine W.lcmp hx hb dX9_tryDeed_12 ?_
  refine lv_if_gt (tgt := 41) hx hb dX9_tryDeed_13 (by decide) (fun c_2 => absurd ((lg_cmp_gt _ _).mp c_2) (by decide)) (fun _ => ?_)
  refine lv_aload_n hx hb dX9_tryDeed_16 rfl (lv_at hl 0 rfl) ?_
  refine lv_lload_n hx hb dX9_tryDeed_17 rfl (lv_at hl 1 rfl) ?_
  refine lv_l2i (v := 13) hx hb dX9_tryDeed_18 (by decide +kernel) ?_
  refine lv_bipush (v := 10) hx hb dX9_tryDeed_19 (by decide) ?_
  refine lv_isub hx hb dX9_tryDeed_21 ?_
  refine tpi (y := 3) (by decide +kernel) ?_
  refine jnI (wr := []) (rnV (rest := []) ⟨hx, hb, hml, hown, hg⟩ (c_X9_whyNoStealing_4 l V y p0 p1) mt_X9_whyNoStealing q_3_191 ⟨Nat.le_of_ble_eq_true rfl, Nat.le_of_ble_eq_true rfl⟩ hK hP hD hS hA hE [0, 1] rfl rfl 0 rfl rfl rfl rfl hl.1 rfl (Nat.le_of_ble_eq_true rfl) dX9_tryDeed_22 ⟨Nat.le_of_ble_eq_true rfl, Nat.le_of_ble_eq_true rfl⟩) hP hD hS hA [0, 1] [] rfl rfl rfl (by decide) (fun r_3 w H locs hw hP hD hS => ?_)
  obtain ⟨rfl, rfl⟩ := hw
  have hP : va_P V.1 vwCl [(y 0, .inr (9, [.ref (y 1), .int 0, .ref (y 2), .ref (y 10), .ref (y 19), .ref (y 25), .ref (y 26), .ref (y 30), .ref (y 31), .ref (y 32), .null, .null, .int 0, .int p0, .int p1])), (y 2, .inr (1, [.int 0, .int 0, .int 0, .int 0, .int 0, .int 0, .ref (y 3), .ref (y 4), .ref (y 5), .ref (y 6), .ref (y 7), .ref (y 8), .ref (y 9), .int 0, .int 0, .int 0, .int 0, .int 0]))] H := hP
  have hD : va_D A [(y 0, .inr (9, [.ref (y 1), .int 0, .ref (y 2), .ref (y 10), .ref (y 19), .ref (y 25), .ref (y 26), .ref (y 30), .ref (y 31), .ref (y 32), .null, .null, .int 0, .int p0, .int p1])), (y 2, .inr (1, [.int 0, .int 0, .int 0, .int 0, .int 0, .int 0, .ref (y 3), .ref (y 4), .ref (y 5), .ref (y 6), .ref (y 7), .ref (y 8), .ref (y 9), .int 0, .int 0, .int 0, .int 0, .int 0]))] := hD
  refine lv_istore_n (lv' := [(3, .int 1), (0, .ref (y 0)), (1, .long 13)]) hx hb dX9_tryDeed_25 rfl hl (by decide) rfl (fun ls hl => ?_)
  refine lv_iload_n hx hb dX9_tryDeed_26 rfl (lv_at hl 0 rfl) ?_
  refine lv_if_ne (tgt := 39) hx hb dX9_tryDeed_27 (by decide) (fun _ => ?_) (fun c_4 => absurd c_4 (by decide))
  refine lv_iload_n hx hb dX9_tryDeed_39 rfl (lv_at hl 0 rfl) ?_
  exact fiI hx hb hr hlk hK hP hD hS dX9_tryDeed_40 (Nat.le_of_ble_eq_true rfl) (Nat.le_of_ble_eq_true rfl) (⟨rfl, rfl⟩)
theorem dX9_drawnDeed_25 : decode cX9_drawnDeed 25 = .ok (.bipush 20, 2) := by decide +kernel
theorem dX9_drawnDeed_27 : decode cX9_drawnDeed 27 = .ok (.iload_n 1, 1) := by decide +kernel
theorem dX9_drawnDeed_28 : decode cX9_drawnDeed 28 = .ok (.bipush 10, 2) := by decide +kernel
theorem dX9_drawnDeed_30 : decode cX9_drawnDeed 30 = .ok (.irem, 1) := by decide +kernel
theorem dX9_drawnDeed_31 : decode cX9_drawnDeed 31 = .ok (.iadd, 1) := by decide +kernel
set_option maxHeartbeats 4000000 in
set_option maxRecDepth 100000 in
theorem c_X9_drawnDeed_2 (l : Launch) (V : GV) (p0 : Int32) : Ct l V yX9_drawnDeed (.code yX9_drawnDeed cX9_drawnDeed 2 (some .int)) 1 [.int 5, .int p0] [] 0 0 (QI V (fun (r : Int32) (w : va_W) => (r = (20 + (p0 - p0 / 10 * 10)) ∧ w = []))) := by
  refine Ct.of (by decide) (Nat.le_of_ble_eq_true rfl) (fun p e s m below meth c A ls hx hb hr hml hown hlk hnm hg hP hK hD hE hA hS hl => ?_)
  have hl : lv_has ls 2 [(0, .int 5), (1, .int p0)] := hl
  refine lv_iload_n hx hb dX9_drawnDeed_0 rfl (lv_at hl 0 rfl) ?_
  refine lv_iconst (v := 3) hx hb dX9_drawnDeed_1 (by decide) ?_
  refine lv_icmp_ne (tgt := 11) hx hb dX9_drawnDeed_2 (by decide) (fun _ => ?_) (fun c_1 => absurd c_1 (by decide))
  refine lv_iload_n hx hb dX9_drawnDeed_11 rfl (lv_at hl 0 rfl) ?_
  refine lv_iconst (v := 4) hx hb dX9_drawnDeed_12 (by decide) ?_
  refine lv_icmp_ne (tgt := 25) hx hb dX9_drawnDeed_13 (by decide) (fun _ => ?_) (fun c_2 => absurd c_2 (by decide))
  refine lv_bipush (v := 20) hx hb dX9_drawnDeed_25 (by decide) ?_
  refine lv_iload_n hx hb dX9_drawnDeed_27 rfl (lv_at hl 1 rfl) ?_
  refine lv_bipush (v := 10) hx hb dX9_drawnDeed_28 (by decide) ?_
  refine lv_irem hx hb dX9_drawnDeed_30 (by decide) ?_
  refine lv_iadd hx hb dX9_drawnDeed_31 ?_
  exact fiI hx hb hr hlk hK hP hD hS dX9_drawnDeed_32 (Nat.le_of_ble_eq_true rfl) (Nat.le_of_ble_eq_true rfl) (⟨rfl, rfl⟩)
set_option maxHeartbeats 4000000 in
set_option maxRecDepth 100000 in
theorem c_X9_tryDeed_10 (l : Launch) (V : GV) (y : Nat → Nat) (p0 : Int32) (p1 : Int32) : Ct l V yX9_tryDeed (.code yX9_tryDeed cX9_tryDeed 4 (some .int)) 1 [.ref (y 0), .long 20] [(y 0, .inr (9, [.ref (y 1), .int 0, .ref (y 2), .ref (y 10), .ref (y 19), .ref (y 25), .ref (y 26), .ref (y 30), .ref (y 31), .ref (y 32), .null, .null, .int 0, .int p0, .int p1]))] 0 0 (QI V (fun (r : Int32) (w : va_W) => (r = 0 ∧ w = [(y 0, .inr (9, [.ref (y 1), .int 0, .ref (y 2), .ref (y 10), .ref (y 19), .ref (y 25), .ref (y 26), .ref (y 30), .ref (y 31), .ref (y 32), .null, .null, .int 0, .int 0, .int p1]))]))) := by
  refine Ct.of (by decide) (Nat.le_of_ble_eq_true rfl) (fun p e s m below meth c A ls hx hb hr hml hown hlk hnm hg hP hK hD hE hA hS hl => ?_)
  have hl : lv_has ls 4 [(0, .ref (y 0)), (1, .long 20)] := hl
  refine lv_lload_n hx hb dX9_tryDeed_0 rfl (lv_at hl 1 rfl) ?_
  refine lv_ldc2 (v := 10) hx hb hown (hg _ q_3_189) dX9_tryDeed_1 ?_
  refine W.lcmp hx hb dX9_tryDeed_4 ?_
  refine lv_if_lt (tgt := 41) hx hb dX9_tryDeed_5 (by decide) (fun c_1 => absurd ((lg_cmp_lt _ _).mp c_1) (by decide)) (fun _ => ?_)
  refine lv_lload_n hx hb dX9_tryDeed_8 rfl (lv_at hl 1 rfl) ?_
  refine lv_ldc2 (v := 19) hx hb hown (hg _ q_3_190) dX9_tryDeed_9 ?_
  refine W.lcmp hx hb dX9_tryDeed_12 ?_
  refine lv_if_gt (tgt := 41) hx hb dX9_tryDeed_13 (by decide) (fun _ => ?_) (fun c_2 => absurd (fun z => c_2 ((lg_cmp_gt _ _).mpr z)) (by decide))
  refine lv_lload_n hx hb dX9_tryDeed_41 rfl (lv_at hl 1 rfl) ?_
  refine lv_ldc2 (v := 20) hx hb hown (hg _ q_3_199) dX9_tryDeed_42 ?_
  refine W.lcmp hx hb dX9_tryDeed_45 ?_
  refine lv_if_lt (tgt := 68) hx hb dX9_tryDeed_46 (by decide) (fun c_3 => absurd ((lg_cmp_lt _ _).mp c_3) (by decide)) (fun _ => ?_)
  refine lv_lload_n hx hb dX9_tryDeed_49 rfl (lv_at hl 1 rfl) ?_
  refine lv_ldc2 (v := 29) hx hb hown (hg _ q_3_200) dX9_tryDeed_50 ?_
  refine W.lcmp hx hb dX9_tryDeed_53 ?_
  refine lv_if_gt (tgt := 68) hx hb dX9_tryDeed_54 (by decide) (fun c_4 => absurd ((lg_cmp_gt _ _).mp c_4) (by decide)) (fun _ => ?_)
  refine lv_aload_n hx hb dX9_tryDeed_57 rfl (lv_at hl 0 rfl) ?_
  refine lv_lload_n hx hb dX9_tryDeed_58 rfl (lv_at hl 1 rfl) ?_
  refine lv_l2i (v := 20) hx hb dX9_tryDeed_59 (by decide +kernel) ?_
  refine lv_bipush (v := 20) hx hb dX9_tryDeed_60 (by decide) ?_
  refine lv_isub hx hb dX9_tryDeed_62 ?_
  refine tpi (y := 0) (by decide +kernel) ?_
  refine va_put (ci := 9) (v := .int 0) (ty := .int) (C := RX9) (T := TX9) (N := 15) hx hb hg inX9 tyX9 tyX9_ok nmX9 hown hK hP hD hS 0 rfl rfl 13 (by decide) (hg _ q_2_49) (fun _ h9 => h9) rfl (by decide +kernel) rfl rfl (Nat.le_of_ble_eq_true rfl) dX9_tryDeed_63 (fun H locs hP hD hS => ?_)
  have hP : va_P V.1 vwCl [(y 0, .inr (9, [.ref (y 1), .int 0, .ref (y 2), .ref (y 10), .ref (y 19), .ref (y 25), .ref (y 26), .ref (y 30), .ref (y 31), .ref (y 32), .null, .null, .int 0, .int 0, .int p1]))] H := hP
  have hD : va_D A [(y 0, .inr (9, [.ref (y 1), .int 0, .ref (y 2), .ref (y 10), .ref (y 19), .ref (y 25), .ref (y 26), .ref (y 30), .ref (y 31), .ref (y 32), .null, .null, .int 0, .int 0, .int p1]))] := hD
  refine lv_iconst (v := 0) hx hb dX9_tryDeed_66 (by decide) ?_
  exact fiI hx hb hr hlk hK hP hD hS dX9_tryDeed_67 (Nat.le_of_ble_eq_true rfl) (Nat.le_of_ble_eq_true rfl) (⟨rfl, rfl⟩)
set_option maxHeartbeats 4000000 in
set_option maxRecDepth 100000 in
theorem c_X9_tryDeed_11 (l : Launch) (V : GV) (y : Nat → Nat) (p0 : Int32) (p1 : Int32) : Ct l V yX9_tryDeed (.code yX9_tryDeed cX9_tryDeed 4 (some .int)) 1 [.ref (y 0), .long 21] [(y 0, .inr (9, [.ref (y 1), .int 0, .ref (y 2), .ref (y 10), .ref (y 19), .ref (y 25), .ref (y 26), .ref (y 30), .ref (y 31), .ref (y 32), .null, .null, .int 0, .int p0, .int p1]))] 0 0 (QI V (fun (r : Int32) (w : va_W) => (r = 0 ∧ w = [(y 0, .inr (9, [.ref (y 1), .int 0, .ref (y 2), .ref (y 10), .ref (y 19), .ref (y 25), .ref (y 26), .ref (y 30), .ref (y 31), .ref (y 32), .null, .null, .int 0, .int 1, .int p1]))]))) := by
  refine Ct.of (by decide) (Nat.le_of_ble_eq_true rfl) (fun p e s m below meth c A ls hx hb hr hml hown hlk hnm hg hP hK hD hE hA hS hl => ?_)
  have hl : lv_has ls 4 [(0, .ref (y 0)), (1, .long 21)] := hl
  refine lv_lload_n hx hb dX9_tryDeed_0 rfl (lv_at hl 1 rfl) ?_
  refine lv_ldc2 (v := 10) hx hb hown (hg _ q_3_189) dX9_tryDeed_1 ?_
  refine W.lcmp hx hb dX9_tryDeed_4 ?_
  refine lv_if_lt (tgt := 41) hx hb dX9_tryDeed_5 (by decide) (fun c_1 => absurd ((lg_cmp_lt _ _).mp c_1) (by decide)) (fun _ => ?_)
  refine lv_lload_n hx hb dX9_tryDeed_8 rfl (lv_at hl 1 rfl) ?_
  refine lv_ldc2 (v := 19) hx hb hown (hg _ q_3_190) dX9_tryDeed_9 ?_
  refine W.lcmp hx hb dX9_tryDeed_12 ?_
  refine lv_if_gt (tgt := 41) hx hb dX9_tryDeed_13 (by decide) (fun _ => ?_) (fun c_2 => absurd (fun z => c_2 ((lg_cmp_gt _ _).mpr z)) (by decide))
  refine lv_lload_n hx hb dX9_tryDeed_41 rfl (lv_at hl 1 rfl) ?_
  refine lv_ldc2 (v := 20) hx hb hown (hg _ q_3_199) dX9_tryDeed_42 ?_
  refine W.lcmp hx hb dX9_tryDeed_45 ?_
  refine lv_if_lt (tgt := 68) hx hb dX9_tryDeed_46 (by decide) (fun c_3 => absurd ((lg_cmp_lt _ _).mp c_3) (by decide)) (fun _ => ?_)
  refine lv_lload_n hx hb dX9_tryDeed_49 rfl (lv_at hl 1 rfl) ?_
  refine lv_ldc2 (v := 29) hx hb hown (hg _ q_3_200) dX9_tryDeed_50 ?_
  refine W.lcmp hx hb dX9_tryDeed_53 ?_
  refine lv_if_gt (tgt := 68) hx hb dX9_tryDeed_54 (by decide) (fun c_4 => absurd ((lg_cmp_gt _ _).mp c_4) (by decide)) (fun _ => ?_)
  refine lv_aload_n hx hb dX9_tryDeed_57 rfl (lv_at hl 0 rfl) ?_
  refine lv_lload_n hx hb dX9_tryDeed_58 rfl (lv_at hl 1 rfl) ?_
  refine lv_l2i (v := 21) hx hb dX9_tryDeed_59 (by decide +kernel) ?_
  refine lv_bipush (v := 20) hx hb dX9_tryDeed_60 (by decide) ?_
  refine lv_isub hx hb dX9_tryDeed_62 ?_
  refine tpi (y := 1) (by decide +kernel) ?_
  refine va_put (ci := 9) (v := .int 1) (ty := .int) (C := RX9) (T := TX9) (N := 15) hx hb hg inX9 tyX9 tyX9_ok nmX9 hown hK hP hD hS 0 rfl rfl 13 (by decide) (hg _ q_2_49) (fun _ h9 => h9) rfl (by decide +kernel) rfl rfl (Nat.le_of_ble_eq_true rfl) dX9_tryDeed_63 (fun H locs hP hD hS => ?_)
  have hP : va_P V.1 vwCl [(y 0, .inr (9, [.ref (y 1), .int 0, .ref (y 2), .ref (y 10), .ref (y 19), .ref (y 25), .ref (y 26), .ref (y 30), .ref (y 31), .ref (y 32), .null, .null, .int 0, .int 1, .int p1]))] H := hP
  have hD : va_D A [(y 0, .inr (9, [.ref (y 1), .int 0, .ref (y 2), .ref (y 10), .ref (y 19), .ref (y 25), .ref (y 26), .ref (y 30), .ref (y 31), .ref (y 32), .null, .null, .int 0, .int 1, .int p1]))] := hD
  refine lv_iconst (v := 0) hx hb dX9_tryDeed_66 (by decide) ?_
  exact fiI hx hb hr hlk hK hP hD hS dX9_tryDeed_67 (Nat.le_of_ble_eq_true rfl) (Nat.le_of_ble_eq_true rfl) (⟨rfl, rfl⟩)
set_option maxHeartbeats 4000000 in
set_option maxRecDepth 100000 in
theorem c_X9_tryDeed_12 (l : Launch) (V : GV) (y : Nat → Nat) (p0 : Int32) (p1 : Int32) : Ct l V yX9_tryDeed (.code yX9_tryDeed cX9_tryDeed 4 (some .int)) 1 [.ref (y 0), .long 22] [(y 0, .inr (9, [.ref (y 1), .int 0, .ref (y 2), .ref (y 10), .ref (y 19), .ref (y 25), .ref (y 26), .ref (y 30), .ref (y 31), .ref (y 32), .null, .null, .int 0, .int p0, .int p1]))] 0 0 (QI V (fun (r : Int32) (w : va_W) => (r = 0 ∧ w = [(y 0, .inr (9, [.ref (y 1), .int 0, .ref (y 2), .ref (y 10), .ref (y 19), .ref (y 25), .ref (y 26), .ref (y 30), .ref (y 31), .ref (y 32), .null, .null, .int 0, .int 2, .int p1]))]))) := by
  refine Ct.of (by decide) (Nat.le_of_ble_eq_true rfl) (fun p e s m below meth c A ls hx hb hr hml hown hlk hnm hg hP hK hD hE hA hS hl => ?_)
  have hl : lv_has ls 4 [(0, .ref (y 0)), (1, .long 22)] := hl
  refine lv_lload_n hx hb dX9_tryDeed_0 rfl (lv_at hl 1 rfl) ?_
  refine lv_ldc2 (v := 10) hx hb hown (hg _ q_3_189) dX9_tryDeed_1 ?_
  refine W.lcmp hx hb dX9_tryDeed_4 ?_
  refine lv_if_lt (tgt := 41) hx hb dX9_tryDeed_5 (by decide) (fun c_1 => absurd ((lg_cmp_lt _ _).mp c_1) (by decide)) (fun _ => ?_)
  refine lv_lload_n hx hb dX9_tryDeed_8 rfl (lv_at hl 1 rfl) ?_
  refine lv_ldc2 (v := 19) hx hb hown (hg _ q_3_190) dX9_tryDeed_9 ?_
  refine W.lcmp hx hb dX9_tryDeed_12 ?_
  refine lv_if_gt (tgt := 41) hx hb dX9_tryDeed_13 (by decide) (fun _ => ?_) (fun c_2 => absurd (fun z => c_2 ((lg_cmp_gt _ _).mpr z)) (by decide))
  refine lv_lload_n hx hb dX9_tryDeed_41 rfl (lv_at hl 1 rfl) ?_
  refine lv_ldc2 (v := 20) hx hb hown (hg _ q_3_199) dX9_tryDeed_42 ?_
  refine W.lcmp hx hb dX9_tryDeed_45 ?_
  refine lv_if_lt (tgt := 68) hx hb dX9_tryDeed_46 (by decide) (fun c_3 => absurd ((lg_cmp_lt _ _).mp c_3) (by decide)) (fun _ => ?_)
  refine lv_lload_n hx hb dX9_tryDeed_49 rfl (lv_at hl 1 rfl) ?_
  refine lv_ldc2 (v := 29) hx hb hown (hg _ q_3_200) dX9_tryDeed_50 ?_
  refine W.lcmp hx hb dX9_tryDeed_53 ?_
  refine lv_if_gt (tgt := 68) hx hb dX9_tryDeed_54 (by decide) (fun c_4 => absurd ((lg_cmp_gt _ _).mp c_4) (by decide)) (fun _ => ?_)
  refine lv_aload_n hx hb dX9_tryDeed_57 rfl (lv_at hl 0 rfl) ?_
  refine lv_lload_n hx hb dX9_tryDeed_58 rfl (lv_at hl 1 rfl) ?_
  refine lv_l2i (v := 22) hx hb dX9_tryDeed_59 (by decide +kernel) ?_
  refine lv_bipush (v := 20) hx hb dX9_tryDeed_60 (by decide) ?_
  refine lv_isub hx hb dX9_tryDeed_62 ?_
  refine tpi (y := 2) (by decide +kernel) ?_
  refine va_put (ci := 9) (v := .int 2) (ty := .int) (C := RX9) (T := TX9) (N := 15) hx hb hg inX9 tyX9 tyX9_ok nmX9 hown hK hP hD hS 0 rfl rfl 13 (by decide) (hg _ q_2_49) (fun _ h9 => h9) rfl (by decide +kernel) rfl rfl (Nat.le_of_ble_eq_true rfl) dX9_tryDeed_63 (fun H locs hP hD hS => ?_)
  have hP : va_P V.1 vwCl [(y 0, .inr (9, [.ref (y 1), .int 0, .ref (y 2), .ref (y 10), .ref (y 19), .ref (y 25), .ref (y 26), .ref (y 30), .ref (y 31), .ref (y 32), .null, .null, .int 0, .int 2, .int p1]))] H := hP
  have hD : va_D A [(y 0, .inr (9, [.ref (y 1), .int 0, .ref (y 2), .ref (y 10), .ref (y 19), .ref (y 25), .ref (y 26), .ref (y 30), .ref (y 31), .ref (y 32), .null, .null, .int 0, .int 2, .int p1]))] := hD
  refine lv_iconst (v := 0) hx hb dX9_tryDeed_66 (by decide) ?_
  exact fiI hx hb hr hlk hK hP hD hS dX9_tryDeed_67 (Nat.le_of_ble_eq_true rfl) (Nat.le_of_ble_eq_true rfl) (⟨rfl, rfl⟩)
set_option maxHeartbeats 4000000 in
set_option maxRecDepth 100000 in
theorem c_X9_tryDeed_13 (l : Launch) (V : GV) (y : Nat → Nat) (p0 : Int32) (p1 : Int32) : Ct l V yX9_tryDeed (.code yX9_tryDeed cX9_tryDeed 4 (some .int)) 1 [.ref (y 0), .long 23] [(y 0, .inr (9, [.ref (y 1), .int 0, .ref (y 2), .ref (y 10), .ref (y 19), .ref (y 25), .ref (y 26), .ref (y 30), .ref (y 31), .ref (y 32), .null, .null, .int 0, .int p0, .int p1]))] 0 0 (QI V (fun (r : Int32) (w : va_W) => (r = 0 ∧ w = [(y 0, .inr (9, [.ref (y 1), .int 0, .ref (y 2), .ref (y 10), .ref (y 19), .ref (y 25), .ref (y 26), .ref (y 30), .ref (y 31), .ref (y 32), .null, .null, .int 0, .int 3, .int p1]))]))) := by
  refine Ct.of (by decide) (Nat.le_of_ble_eq_true rfl) (fun p e s m below meth c A ls hx hb hr hml hown hlk hnm hg hP hK hD hE hA hS hl => ?_)
  have hl : lv_has ls 4 [(0, .ref (y 0)), (1, .long 23)] := hl
  refine lv_lload_n hx hb dX9_tryDeed_0 rfl (lv_at hl 1 rfl) ?_
  refine lv_ldc2 (v := 10) hx hb hown (hg _ q_3_189) dX9_tryDeed_1 ?_
  refine W.lcmp hx hb dX9_tryDeed_4 ?_
  refine lv_if_lt (tgt := 41) hx hb dX9_tryDeed_5 (by decide) (fun c_1 => absurd ((lg_cmp_lt _ _).mp c_1) (by decide)) (fun _ => ?_)
  refine lv_lload_n hx hb dX9_tryDeed_8 rfl (lv_at hl 1 rfl) ?_
  refine lv_ldc2 (v := 19) hx hb hown (hg _ q_3_190) dX9_tryDeed_9 ?_
  refine W.lcmp hx hb dX9_tryDeed_12 ?_
  refine lv_if_gt (tgt := 41) hx hb dX9_tryDeed_13 (by decide) (fun _ => ?_) (fun c_2 => absurd (fun z => c_2 ((lg_cmp_gt _ _).mpr z)) (by decide))
  refine lv_lload_n hx hb dX9_tryDeed_41 rfl (lv_at hl 1 rfl) ?_
  refine lv_ldc2 (v := 20) hx hb hown (hg _ q_3_199) dX9_tryDeed_42 ?_
  refine W.lcmp hx hb dX9_tryDeed_45 ?_
  refine lv_if_lt (tgt := 68) hx hb dX9_tryDeed_46 (by decide) (fun c_3 => absurd ((lg_cmp_lt _ _).mp c_3) (by decide)) (fun _ => ?_)
  refine lv_lload_n hx hb dX9_tryDeed_49 rfl (lv_at hl 1 rfl) ?_
  refine lv_ldc2 (v := 29) hx hb hown (hg _ q_3_200) dX9_tryDeed_50 ?_
  refine W.lcmp hx hb dX9_tryDeed_53 ?_
  refine lv_if_gt (tgt := 68) hx hb dX9_tryDeed_54 (by decide) (fun c_4 => absurd ((lg_cmp_gt _ _).mp c_4) (by decide)) (fun _ => ?_)
  refine lv_aload_n hx hb dX9_tryDeed_57 rfl (lv_at hl 0 rfl) ?_
  refine lv_lload_n hx hb dX9_tryDeed_58 rfl (lv_at hl 1 rfl) ?_
  refine lv_l2i (v := 23) hx hb dX9_tryDeed_59 (by decide +kernel) ?_
  refine lv_bipush (v := 20) hx hb dX9_tryDeed_60 (by decide) ?_
  refine lv_isub hx hb dX9_tryDeed_62 ?_
  refine tpi (y := 3) (by decide +kernel) ?_
  refine va_put (ci := 9) (v := .int 3) (ty := .int) (C := RX9) (T := TX9) (N := 15) hx hb hg inX9 tyX9 tyX9_ok nmX9 hown hK hP hD hS 0 rfl rfl 13 (by decide) (hg _ q_2_49) (fun _ h9 => h9) rfl (by decide +kernel) rfl rfl (Nat.le_of_ble_eq_true rfl) dX9_tryDeed_63 (fun H locs hP hD hS => ?_)
  have hP : va_P V.1 vwCl [(y 0, .inr (9, [.ref (y 1), .int 0, .ref (y 2), .ref (y 10), .ref (y 19), .ref (y 25), .ref (y 26), .ref (y 30), .ref (y 31), .ref (y 32), .null, .null, .int 0, .int 3, .int p1]))] H := hP
  have hD : va_D A [(y 0, .inr (9, [.ref (y 1), .int 0, .ref (y 2), .ref (y 10), .ref (y 19), .ref (y 25), .ref (y 26), .ref (y 30), .ref (y 31), .ref (y 32), .null, .null, .int 0, .int 3, .int p1]))] := hD
  refine lv_iconst (v := 0) hx hb dX9_tryDeed_66 (by decide) ?_
  exact fiI hx hb hr hlk hK hP hD hS dX9_tryDeed_67 (Nat.le_of_ble_eq_true rfl) (Nat.le_of_ble_eq_true rfl) (⟨rfl, rfl⟩)
set_option maxHeartbeats 4000000 in
set_option maxRecDepth 100000 in
theorem c_X9_tryDeed_14 (l : Launch) (V : GV) (y : Nat → Nat) (p0 : Int32) (p1 : Int32) : Ct l V yX9_tryDeed (.code yX9_tryDeed cX9_tryDeed 4 (some .int)) 1 [.ref (y 0), .long 24] [(y 0, .inr (9, [.ref (y 1), .int 0, .ref (y 2), .ref (y 10), .ref (y 19), .ref (y 25), .ref (y 26), .ref (y 30), .ref (y 31), .ref (y 32), .null, .null, .int 0, .int p0, .int p1]))] 0 0 (QI V (fun (r : Int32) (w : va_W) => (r = 0 ∧ w = [(y 0, .inr (9, [.ref (y 1), .int 0, .ref (y 2), .ref (y 10), .ref (y 19), .ref (y 25), .ref (y 26), .ref (y 30), .ref (y 31), .ref (y 32), .null, .null, .int 0, .int 4, .int p1]))]))) := by
  refine Ct.of (by decide) (Nat.le_of_ble_eq_true rfl) (fun p e s m below meth c A ls hx hb hr hml hown hlk hnm hg hP hK hD hE hA hS hl => ?_)
  have hl : lv_has ls 4 [(0, .ref (y 0)), (1, .long 24)] := hl
  refine lv_lload_n hx hb dX9_tryDeed_0 rfl (lv_at hl 1 rfl) ?_
  refine lv_ldc2 (v := 10) hx hb hown (hg _ q_3_189) dX9_tryDeed_1 ?_
  refine W.lcmp hx hb dX9_tryDeed_4 ?_
  refine lv_if_lt (tgt := 41) hx hb dX9_tryDeed_5 (by decide) (fun c_1 => absurd ((lg_cmp_lt _ _).mp c_1) (by decide)) (fun _ => ?_)
  refine lv_lload_n hx hb dX9_tryDeed_8 rfl (lv_at hl 1 rfl) ?_
  refine lv_ldc2 (v := 19) hx hb hown (hg _ q_3_190) dX9_tryDeed_9 ?_
  refine W.lcmp hx hb dX9_tryDeed_12 ?_
  refine lv_if_gt (tgt := 41) hx hb dX9_tryDeed_13 (by decide) (fun _ => ?_) (fun c_2 => absurd (fun z => c_2 ((lg_cmp_gt _ _).mpr z)) (by decide))
  refine lv_lload_n hx hb dX9_tryDeed_41 rfl (lv_at hl 1 rfl) ?_
  refine lv_ldc2 (v := 20) hx hb hown (hg _ q_3_199) dX9_tryDeed_42 ?_
  refine W.lcmp hx hb dX9_tryDeed_45 ?_
  refine lv_if_lt (tgt := 68) hx hb dX9_tryDeed_46 (by decide) (fun c_3 => absurd ((lg_cmp_lt _ _).mp c_3) (by decide)) (fun _ => ?_)
  refine lv_lload_n hx hb dX9_tryDeed_49 rfl (lv_at hl 1 rfl) ?_
  refine lv_ldc2 (v := 29) hx hb hown (hg _ q_3_200) dX9_tryDeed_50 ?_
  refine W.lcmp hx hb dX9_tryDeed_53 ?_
  refine lv_if_gt (tgt := 68) hx hb dX9_tryDeed_54 (by decide) (fun c_4 => absurd ((lg_cmp_gt _ _).mp c_4) (by decide)) (fun _ => ?_)
  refine lv_aload_n hx hb dX9_tryDeed_57 rfl (lv_at hl 0 rfl) ?_
  refine lv_lload_n hx hb dX9_tryDeed_58 rfl (lv_at hl 1 rfl) ?_
  refine lv_l2i (v := 24) hx hb dX9_tryDeed_59 (by decide +kernel) ?_
  refine lv_bipush (v := 20) hx hb dX9_tryDeed_60 (by decide) ?_
  refine lv_isub hx hb dX9_tryDeed_62 ?_
  refine tpi (y := 4) (by decide +kernel) ?_
  refine va_put (ci := 9) (v := .int 4) (ty := .int) (C := RX9) (T := TX9) (N := 15) hx hb hg inX9 tyX9 tyX9_ok nmX9 hown hK hP hD hS 0 rfl rfl 13 (by decide) (hg _ q_2_49) (fun _ h9 => h9) rfl (by decide +kernel) rfl rfl (Nat.le_of_ble_eq_true rfl) dX9_tryDeed_63 (fun H locs hP hD hS => ?_)
  have hP : va_P V.1 vwCl [(y 0, .inr (9, [.ref (y 1), .int 0, .ref (y 2), .ref (y 10), .ref (y 19), .ref (y 25), .ref (y 26), .ref (y 30), .ref (y 31), .ref (y 32), .null, .null, .int 0, .int 4, .int p1]))] H := hP
  have hD : va_D A [(y 0, .inr (9, [.ref (y 1), .int 0, .ref (y 2), .ref (y 10), .ref (y 19), .ref (y 25), .ref (y 26), .ref (y 30), .ref (y 31), .ref (y 32), .null, .null, .int 0, .int 4, .int p1]))] := hD
  refine lv_iconst (v := 0) hx hb dX9_tryDeed_66 (by decide) ?_
  exact fiI hx hb hr hlk hK hP hD hS dX9_tryDeed_67 (Nat.le_of_ble_eq_true rfl) (Nat.le_of_ble_eq_true rfl) (⟨rfl, rfl⟩)
set_option maxHeartbeats 4000000 in
set_option maxRecDepth 100000 in
theorem c_X9_tryDeed_15 (l : Launch) (V : GV) (y : Nat → Nat) (p0 : Int32) (p1 : Int32) : Ct l V yX9_tryDeed (.code yX9_tryDeed cX9_tryDeed 4 (some .int)) 1 [.ref (y 0), .long 25] [(y 0, .inr (9, [.ref (y 1), .int 0, .ref (y 2), .ref (y 10), .ref (y 19), .ref (y 25), .ref (y 26), .ref (y 30), .ref (y 31), .ref (y 32), .null, .null, .int 0, .int p0, .int p1]))] 0 0 (QI V (fun (r : Int32) (w : va_W) => (r = 0 ∧ w = [(y 0, .inr (9, [.ref (y 1), .int 0, .ref (y 2), .ref (y 10), .ref (y 19), .ref (y 25), .ref (y 26), .ref (y 30), .ref (y 31), .ref (y 32), .null, .null, .int 0, .int 5, .int p1]))]))) := by
  refine Ct.of (by decide) (Nat.le_of_ble_eq_true rfl) (fun p e s m below meth c A ls hx hb hr hml hown hlk hnm hg hP hK hD hE hA hS hl => ?_)
  have hl : lv_has ls 4 [(0, .ref (y 0)), (1, .long 25)] := hl
  refine lv_lload_n hx hb dX9_tryDeed_0 rfl (lv_at hl 1 rfl) ?_
  refine lv_ldc2 (v := 10) hx hb hown (hg _ q_3_189) dX9_tryDeed_1 ?_
  refine W.lcmp hx hb dX9_tryDeed_4 ?_
  refine lv_if_lt (tgt := 41) hx hb dX9_tryDeed_5 (by decide) (fun c_1 => absurd ((lg_cmp_lt _ _).mp c_1) (by decide)) (fun _ => ?_)
  refine lv_lload_n hx hb dX9_tryDeed_8 rfl (lv_at hl 1 rfl) ?_
  refine lv_ldc2 (v := 19) hx hb hown (hg _ q_3_190) dX9_tryDeed_9 ?_
  refine W.lcmp hx hb dX9_tryDeed_12 ?_
  refine lv_if_gt (tgt := 41) hx hb dX9_tryDeed_13 (by decide) (fun _ => ?_) (fun c_2 => absurd (fun z => c_2 ((lg_cmp_gt _ _).mpr z)) (by decide))
  refine lv_lload_n hx hb dX9_tryDeed_41 rfl (lv_at hl 1 rfl) ?_
  refine lv_ldc2 (v := 20) hx hb hown (hg _ q_3_199) dX9_tryDeed_42 ?_
  refine W.lcmp hx hb dX9_tryDeed_45 ?_
  refine lv_if_lt (tgt := 68) hx hb dX9_tryDeed_46 (by decide) (fun c_3 => absurd ((lg_cmp_lt _ _).mp c_3) (by decide)) (fun _ => ?_)
  refine lv_lload_n hx hb dX9_tryDeed_49 rfl (lv_at hl 1 rfl) ?_
  refine lv_ldc2 (v := 29) hx hb hown (hg _ q_3_200) dX9_tryDeed_50 ?_
  refine W.lcmp hx hb dX9_tryDeed_53 ?_
  refine lv_if_gt (tgt := 68) hx hb dX9_tryDeed_54 (by decide) (fun c_4 => absurd ((lg_cmp_gt _ _).mp c_4) (by decide)) (fun _ => ?_)
  refine lv_aload_n hx hb dX9_tryDeed_57 rfl (lv_at hl 0 rfl) ?_
  refine lv_lload_n hx hb dX9_tryDeed_58 rfl (lv_at hl 1 rfl) ?_
  refine lv_l2i (v := 25) hx hb dX9_tryDeed_59 (by decide +kernel) ?_
  refine lv_bipush (v := 20) hx hb dX9_tryDeed_60 (by decide) ?_
  refine lv_isub hx hb dX9_tryDeed_62 ?_
  refine tpi (y := 5) (by decide +kernel) ?_
  refine va_put (ci := 9) (v := .int 5) (ty := .int) (C := RX9) (T := TX9) (N := 15) hx hb hg inX9 tyX9 tyX9_ok nmX9 hown hK hP hD hS 0 rfl rfl 13 (by decide) (hg _ q_2_49) (fun _ h9 => h9) rfl (by decide +kernel) rfl rfl (Nat.le_of_ble_eq_true rfl) dX9_tryDeed_63 (fun H locs hP hD hS => ?_)
  have hP : va_P V.1 vwCl [(y 0, .inr (9, [.ref (y 1), .int 0, .ref (y 2), .ref (y 10), .ref (y 19), .ref (y 25), .ref (y 26), .ref (y 30), .ref (y 31), .ref (y 32), .null, .null, .int 0, .int 5, .int p1]))] H := hP
  have hD : va_D A [(y 0, .inr (9, [.ref (y 1), .int 0, .ref (y 2), .ref (y 10), .ref (y 19), .ref (y 25), .ref (y 26), .ref (y 30), .ref (y 31), .ref (y 32), .null, .null, .int 0, .int 5, .int p1]))] := hD
  refine lv_iconst (v := 0) hx hb dX9_tryDeed_66 (by decide) ?_
  exact fiI hx hb hr hlk hK hP hD hS dX9_tryDeed_67 (Nat.le_of_ble_eq_true rfl) (Nat.le_of_ble_eq_true rfl) (⟨rfl, rfl⟩)
set_option maxHeartbeats 4000000 in
set_option maxRecDepth 100000 in
theorem c_X9_tryDeed_16 (l : Launch) (V : GV) (y : Nat → Nat) (p0 : Int32) (p1 : Int32) : Ct l V yX9_tryDeed (.code yX9_tryDeed cX9_tryDeed 4 (some .int)) 1 [.ref (y 0), .long 26] [(y 0, .inr (9, [.ref (y 1), .int 0, .ref (y 2), .ref (y 10), .ref (y 19), .ref (y 25), .ref (y 26), .ref (y 30), .ref (y 31), .ref (y 32), .null, .null, .int 0, .int p0, .int p1]))] 0 0 (QI V (fun (r : Int32) (w : va_W) => (r = 0 ∧ w = [(y 0, .inr (9, [.ref (y 1), .int 0, .ref (y 2), .ref (y 10), .ref (y 19), .ref (y 25), .ref (y 26), .ref (y 30), .ref (y 31), .ref (y 32), .null, .null, .int 0, .int 6, .int p1]))]))) := by
  refine Ct.of (by decide) (Nat.le_of_ble_eq_true rfl) (fun p e s m below meth c A ls hx hb hr hml hown hlk hnm hg hP hK hD hE hA hS hl => ?_)
  have hl : lv_has ls 4 [(0, .ref (y 0)), (1, .long 26)] := hl
  refine lv_lload_n hx hb dX9_tryDeed_0 rfl (lv_at hl 1 rfl) ?_
  refine lv_ldc2 (v := 10) hx hb hown (hg _ q_3_189) dX9_tryDeed_1 ?_
  refine W.lcmp hx hb dX9_tryDeed_4 ?_
  refine lv_if_lt (tgt := 41) hx hb dX9_tryDeed_5 (by decide) (fun c_1 => absurd ((lg_cmp_lt _ _).mp c_1) (by decide)) (fun _ => ?_)
  refine lv_lload_n hx hb dX9_tryDeed_8 rfl (lv_at hl 1 rfl) ?_
  refine lv_ldc2 (v := 19) hx hb hown (hg _ q_3_190) dX9_tryDeed_9 ?_
  refine W.lcmp hx hb dX9_tryDeed_12 ?_
  refine lv_if_gt (tgt := 41) hx hb dX9_tryDeed_13 (by decide) (fun _ => ?_) (fun c_2 => absurd (fun z => c_2 ((lg_cmp_gt _ _).mpr z)) (by decide))
  refine lv_lload_n hx hb dX9_tryDeed_41 rfl (lv_at hl 1 rfl) ?_
  refine lv_ldc2 (v := 20) hx hb hown (hg _ q_3_199) dX9_tryDeed_42 ?_
  refine W.lcmp hx hb dX9_tryDeed_45 ?_
  refine lv_if_lt (tgt := 68) hx hb dX9_tryDeed_46 (by decide) (fun c_3 => absurd ((lg_cmp_lt _ _).mp c_3) (by decide)) (fun _ => ?_)
  refine lv_lload_n hx hb dX9_tryDeed_49 rfl (lv_at hl 1 rfl) ?_
  refine lv_ldc2 (v := 29) hx hb hown (hg _ q_3_200) dX9_tryDeed_50 ?_
  refine W.lcmp hx hb dX9_tryDeed_53 ?_
  refine lv_if_gt (tgt := 68) hx hb dX9_tryDeed_54 (by decide) (fun c_4 => absurd ((lg_cmp_gt _ _).mp c_4) (by decide)) (fun _ => ?_)
  refine lv_aload_n hx hb dX9_tryDeed_57 rfl (lv_at hl 0 rfl) ?_
  refine lv_lload_n hx hb dX9_tryDeed_58 rfl (lv_at hl 1 rfl) ?_
  refine lv_l2i (v := 26) hx hb dX9_tryDeed_59 (by decide +kernel) ?_
  refine lv_bipush (v := 20) hx hb dX9_tryDeed_60 (by decide) ?_
  refine lv_isub hx hb dX9_tryDeed_62 ?_
  refine tpi (y := 6) (by decide +kernel) ?_
  refine va_put (ci := 9) (v := .int 6) (ty := .int) (C := RX9) (T := TX9) (N := 15) hx hb hg inX9 tyX9 tyX9_ok nmX9 hown hK hP hD hS 0 rfl rfl 13 (by decide) (hg _ q_2_49) (fun _ h9 => h9) rfl (by decide +kernel) rfl rfl (Nat.le_of_ble_eq_true rfl) dX9_tryDeed_63 (fun H locs hP hD hS => ?_)
  have hP : va_P V.1 vwCl [(y 0, .inr (9, [.ref (y 1), .int 0, .ref (y 2), .ref (y 10), .ref (y 19), .ref (y 25), .ref (y 26), .ref (y 30), .ref (y 31), .ref (y 32), .null, .null, .int 0, .int 6, .int p1]))] H := hP
  have hD : va_D A [(y 0, .inr (9, [.ref (y 1), .int 0, .ref (y 2), .ref (y 10), .ref (y 19), .ref (y 25), .ref (y 26), .ref (y 30), .ref (y 31), .ref (y 32), .null, .null, .int 0, .int 6, .int p1]))] := hD
  refine lv_iconst (v := 0) hx hb dX9_tryDeed_66 (by decide) ?_
  exact fiI hx hb hr hlk hK hP hD hS dX9_tryDeed_67 (Nat.le_of_ble_eq_true rfl) (Nat.le_of_ble_eq_true rfl) (⟨rfl, rfl⟩)
set_option maxHeartbeats 4000000 in
set_option maxRecDepth 100000 in
theorem c_X9_tryDeed_17 (l : Launch) (V : GV) (y : Nat → Nat) (p0 : Int32) (p1 : Int32) : Ct l V yX9_tryDeed (.code yX9_tryDeed cX9_tryDeed 4 (some .int)) 1 [.ref (y 0), .long 27] [(y 0, .inr (9, [.ref (y 1), .int 0, .ref (y 2), .ref (y 10), .ref (y 19), .ref (y 25), .ref (y 26), .ref (y 30), .ref (y 31), .ref (y 32), .null, .null, .int 0, .int p0, .int p1]))] 0 0 (QI V (fun (r : Int32) (w : va_W) => (r = 0 ∧ w = [(y 0, .inr (9, [.ref (y 1), .int 0, .ref (y 2), .ref (y 10), .ref (y 19), .ref (y 25), .ref (y 26), .ref (y 30), .ref (y 31), .ref (y 32), .null, .null, .int 0, .int 7, .int p1]))]))) := by
  refine Ct.of (by decide) (Nat.le_of_ble_eq_true rfl) (fun p e s m below meth c A ls hx hb hr hml hown hlk hnm hg hP hK hD hE hA hS hl => ?_)
  have hl : lv_has ls 4 [(0, .ref (y 0)), (1, .long 27)] := hl
  refine lv_lload_n hx hb dX9_tryDeed_0 rfl (lv_at hl 1 rfl) ?_
  refine lv_ldc2 (v := 10) hx hb hown (hg _ q_3_189) dX9_tryDeed_1 ?_
  refine W.lcmp hx hb dX9_tryDeed_4 ?_
  refine lv_if_lt (tgt := 41) hx hb dX9_tryDeed_5 (by decide) (fun c_1 => absurd ((lg_cmp_lt _ _).mp c_1) (by decide)) (fun _ => ?_)
  refine lv_lload_n hx hb dX9_tryDeed_8 rfl (lv_at hl 1 rfl) ?_
  refine lv_ldc2 (v := 19) hx hb hown (hg _ q_3_190) dX9_tryDeed_9 ?_
  refine W.lcmp hx hb dX9_tryDeed_12 ?_
  refine lv_if_gt (tgt := 41) hx hb dX9_tryDeed_13 (by decide) (fun _ => ?_) (fun c_2 => absurd (fun z => c_2 ((lg_cmp_gt _ _).mpr z)) (by decide))
  refine lv_lload_n hx hb dX9_tryDeed_41 rfl (lv_at hl 1 rfl) ?_
  refine lv_ldc2 (v := 20) hx hb hown (hg _ q_3_199) dX9_tryDeed_42 ?_
  refine W.lcmp hx hb dX9_tryDeed_45 ?_
  refine lv_if_lt (tgt := 68) hx hb dX9_tryDeed_46 (by decide) (fun c_3 => absurd ((lg_cmp_lt _ _).mp c_3) (by decide)) (fun _ => ?_)
  refine lv_lload_n hx hb dX9_tryDeed_49 rfl (lv_at hl 1 rfl) ?_
  refine lv_ldc2 (v := 29) hx hb hown (hg _ q_3_200) dX9_tryDeed_50 ?_
  refine W.lcmp hx hb dX9_tryDeed_53 ?_
  refine lv_if_gt (tgt := 68) hx hb dX9_tryDeed_54 (by decide) (fun c_4 => absurd ((lg_cmp_gt _ _).mp c_4) (by decide)) (fun _ => ?_)
  refine lv_aload_n hx hb dX9_tryDeed_57 rfl (lv_at hl 0 rfl) ?_
  refine lv_lload_n hx hb dX9_tryDeed_58 rfl (lv_at hl 1 rfl) ?_
  refine lv_l2i (v := 27) hx hb dX9_tryDeed_59 (by decide +kernel) ?_
  refine lv_bipush (v := 20) hx hb dX9_tryDeed_60 (by decide) ?_
  refine lv_isub hx hb dX9_tryDeed_62 ?_
  refine tpi (y := 7) (by decide +kernel) ?_
  refine va_put (ci := 9) (v := .int 7) (ty := .int) (C := RX9) (T := TX9) (N := 15) hx hb hg inX9 tyX9 tyX9_ok nmX9 hown hK hP hD hS 0 rfl rfl 13 (by decide) (hg _ q_2_49) (fun _ h9 => h9) rfl (by decide +kernel) rfl rfl (Nat.le_of_ble_eq_true rfl) dX9_tryDeed_63 (fun H locs hP hD hS => ?_)
  have hP : va_P V.1 vwCl [(y 0, .inr (9, [.ref (y 1), .int 0, .ref (y 2), .ref (y 10), .ref (y 19), .ref (y 25), .ref (y 26), .ref (y 30), .ref (y 31), .ref (y 32), .null, .null, .int 0, .int 7, .int p1]))] H := hP
  have hD : va_D A [(y 0, .inr (9, [.ref (y 1), .int 0, .ref (y 2), .ref (y 10), .ref (y 19), .ref (y 25), .ref (y 26), .ref (y 30), .ref (y 31), .ref (y 32), .null, .null, .int 0, .int 7, .int p1]))] := hD
  refine lv_iconst (v := 0) hx hb dX9_tryDeed_66 (by decide) ?_
  exact fiI hx hb hr hlk hK hP hD hS dX9_tryDeed_67 (Nat.le_of_ble_eq_true rfl) (Nat.le_of_ble_eq_true rfl) (⟨rfl, rfl⟩)
set_option maxHeartbeats 4000000 in
set_option maxRecDepth 100000 in
theorem c_X9_tryDeed_18 (l : Launch) (V : GV) (y : Nat → Nat) (p0 : Int32) (p1 : Int32) : Ct l V yX9_tryDeed (.code yX9_tryDeed cX9_tryDeed 4 (some .int)) 1 [.ref (y 0), .long 28] [(y 0, .inr (9, [.ref (y 1), .int 0, .ref (y 2), .ref (y 10), .ref (y 19), .ref (y 25), .ref (y 26), .ref (y 30), .ref (y 31), .ref (y 32), .null, .null, .int 0, .int p0, .int p1]))] 0 0 (QI V (fun (r : Int32) (w : va_W) => (r = 0 ∧ w = [(y 0, .inr (9, [.ref (y 1), .int 0, .ref (y 2), .ref (y 10), .ref (y 19), .ref (y 25), .ref (y 26), .ref (y 30), .ref (y 31), .ref (y 32), .null, .null, .int 0, .int 8, .int p1]))]))) := by
  refine Ct.of (by decide) (Nat.le_of_ble_eq_true rfl) (fun p e s m below meth c A ls hx hb hr hml hown hlk hnm hg hP hK hD hE hA hS hl => ?_)
  have hl : lv_has ls 4 [(0, .ref (y 0)), (1, .long 28)] := hl
  refine lv_lload_n hx hb dX9_tryDeed_0 rfl (lv_at hl 1 rfl) ?_
  refine lv_ldc2 (v := 10) hx hb hown (hg _ q_3_189) dX9_tryDeed_1 ?_
  refine W.lcmp hx hb dX9_tryDeed_4 ?_
  refine lv_if_lt (tgt := 41) hx hb dX9_tryDeed_5 (by decide) (fun c_1 => absurd ((lg_cmp_lt _ _).mp c_1) (by decide)) (fun _ => ?_)
  refine lv_lload_n hx hb dX9_tryDeed_8 rfl (lv_at hl 1 rfl) ?_
  refine lv_ldc2 (v := 19) hx hb hown (hg _ q_3_190) dX9_tryDeed_9 ?_
  refine W.lcmp hx hb dX9_tryDeed_12 ?_
  refine lv_if_gt (tgt := 41) hx hb dX9_tryDeed_13 (by decide) (fun _ => ?_) (fun c_2 => absurd (fun z => c_2 ((lg_cmp_gt _ _).mpr z)) (by decide))
  refine lv_lload_n hx hb dX9_tryDeed_41 rfl (lv_at hl 1 rfl) ?_
  refine lv_ldc2 (v := 20) hx hb hown (hg _ q_3_199) dX9_tryDeed_42 ?_
  refine W.lcmp hx hb dX9_tryDeed_45 ?_
  refine lv_if_lt (tgt := 68) hx hb dX9_tryDeed_46 (by decide) (fun c_3 => absurd ((lg_cmp_lt _ _).mp c_3) (by decide)) (fun _ => ?_)
  refine lv_lload_n hx hb dX9_tryDeed_49 rfl (lv_at hl 1 rfl) ?_
  refine lv_ldc2 (v := 29) hx hb hown (hg _ q_3_200) dX9_tryDeed_50 ?_
  refine W.lcmp hx hb dX9_tryDeed_53 ?_
  refine lv_if_gt (tgt := 68) hx hb dX9_tryDeed_54 (by decide) (fun c_4 => absurd ((lg_cmp_gt _ _).mp c_4) (by decide)) (fun _ => ?_)
  refine lv_aload_n hx hb dX9_tryDeed_57 rfl (lv_at hl 0 rfl) ?_
  refine lv_lload_n hx hb dX9_tryDeed_58 rfl (lv_at hl 1 rfl) ?_
  refine lv_l2i (v := 28) hx hb dX9_tryDeed_59 (by decide +kernel) ?_
  refine lv_bipush (v := 20) hx hb dX9_tryDeed_60 (by decide) ?_
  refine lv_isub hx hb dX9_tryDeed_62 ?_
  refine tpi (y := 8) (by decide +kernel) ?_
  refine va_put (ci := 9) (v := .int 8) (ty := .int) (C := RX9) (T := TX9) (N := 15) hx hb hg inX9 tyX9 tyX9_ok nmX9 hown hK hP hD hS 0 rfl rfl 13 (by decide) (hg _ q_2_49) (fun _ h9 => h9) rfl (by decide +kernel) rfl rfl (Nat.le_of_ble_eq_true rfl) dX9_tryDeed_63 (fun H locs hP hD hS => ?_)
  have hP : va_P V.1 vwCl [(y 0, .inr (9, [.ref (y 1), .int 0, .ref (y 2), .ref (y 10), .ref (y 19), .ref (y 25), .ref (y 26), .ref (y 30), .ref (y 31), .ref (y 32), .null, .null, .int 0, .int 8, .int p1]))] H := hP
  have hD : va_D A [(y 0, .inr (9, [.ref (y 1), .int 0, .ref (y 2), .ref (y 10), .ref (y 19), .ref (y 25), .ref (y 26), .ref (y 30), .ref (y 31), .ref (y 32), .null, .null, .int 0, .int 8, .int p1]))] := hD
  refine lv_iconst (v := 0) hx hb dX9_tryDeed_66 (by decide) ?_
  exact fiI hx hb hr hlk hK hP hD hS dX9_tryDeed_67 (Nat.le_of_ble_eq_true rfl) (Nat.le_of_ble_eq_true rfl) (⟨rfl, rfl⟩)
set_option maxHeartbeats 4000000 in
set_option maxRecDepth 100000 in
theorem c_X9_tryDeed_19 (l : Launch) (V : GV) (y : Nat → Nat) (p0 : Int32) (p1 : Int32) : Ct l V yX9_tryDeed (.code yX9_tryDeed cX9_tryDeed 4 (some .int)) 1 [.ref (y 0), .long 29] [(y 0, .inr (9, [.ref (y 1), .int 0, .ref (y 2), .ref (y 10), .ref (y 19), .ref (y 25), .ref (y 26), .ref (y 30), .ref (y 31), .ref (y 32), .null, .null, .int 0, .int p0, .int p1]))] 0 0 (QI V (fun (r : Int32) (w : va_W) => (r = 0 ∧ w = [(y 0, .inr (9, [.ref (y 1), .int 0, .ref (y 2), .ref (y 10), .ref (y 19), .ref (y 25), .ref (y 26), .ref (y 30), .ref (y 31), .ref (y 32), .null, .null, .int 0, .int 9, .int p1]))]))) := by
  refine Ct.of (by decide) (Nat.le_of_ble_eq_true rfl) (fun p e s m below meth c A ls hx hb hr hml hown hlk hnm hg hP hK hD hE hA hS hl => ?_)
  have hl : lv_has ls 4 [(0, .ref (y 0)), (1, .long 29)] := hl
  refine lv_lload_n hx hb dX9_tryDeed_0 rfl (lv_at hl 1 rfl) ?_
  refine lv_ldc2 (v := 10) hx hb hown (hg _ q_3_189) dX9_tryDeed_1 ?_
  refine W.lcmp hx hb dX9_tryDeed_4 ?_
  refine lv_if_lt (tgt := 41) hx hb dX9_tryDeed_5 (by decide) (fun c_1 => absurd ((lg_cmp_lt _ _).mp c_1) (by decide)) (fun _ => ?_)
  refine lv_lload_n hx hb dX9_tryDeed_8 rfl (lv_at hl 1 rfl) ?_
  refine lv_ldc2 (v := 19) hx hb hown (hg _ q_3_190) dX9_tryDeed_9 ?_
  refine W.lcmp hx hb dX9_tryDeed_12 ?_
  refine lv_if_gt (tgt := 41) hx hb dX9_tryDeed_13 (by decide) (fun _ => ?_) (fun c_2 => absurd (fun z => c_2 ((lg_cmp_gt _ _).mpr z)) (by decide))
  refine lv_lload_n hx hb dX9_tryDeed_41 rfl (lv_at hl 1 rfl) ?_
  refine lv_ldc2 (v := 20) hx hb hown (hg _ q_3_199) dX9_tryDeed_42 ?_
  refine W.lcmp hx hb dX9_tryDeed_45 ?_
  refine lv_if_lt (tgt := 68) hx hb dX9_tryDeed_46 (by decide) (fun c_3 => absurd ((lg_cmp_lt _ _).mp c_3) (by decide)) (fun _ => ?_)
  refine lv_lload_n hx hb dX9_tryDeed_49 rfl (lv_at hl 1 rfl) ?_
  refine lv_ldc2 (v := 29) hx hb hown (hg _ q_3_200) dX9_tryDeed_50 ?_
  refine W.lcmp hx hb dX9_tryDeed_53 ?_
  refine lv_if_gt (tgt := 68) hx hb dX9_tryDeed_54 (by decide) (fun c_4 => absurd ((lg_cmp_gt _ _).mp c_4) (by decide)) (fun _ => ?_)
  refine lv_aload_n hx hb dX9_tryDeed_57 rfl (lv_at hl 0 rfl) ?_
  refine lv_lload_n hx hb dX9_tryDeed_58 rfl (lv_at hl 1 rfl) ?_
  refine lv_l2i (v := 29) hx hb dX9_tryDeed_59 (by decide +kernel) ?_
  refine lv_bipush (v := 20) hx hb dX9_tryDeed_60 (by decide) ?_
  refine lv_isub hx hb dX9_tryDeed_62 ?_
  refine tpi (y := 9) (by decide +kernel) ?_
  refine va_put (ci := 9) (v := .int 9) (ty := .int) (C := RX9) (T := TX9) (N := 15) hx hb hg inX9 tyX9 tyX9_ok nmX9 hown hK hP hD hS 0 rfl rfl 13 (by decide) (hg _ q_2_49) (fun _ h9 => h9) rfl (by decide +kernel) rfl rfl (Nat.le_of_ble_eq_true rfl) dX9_tryDeed_63 (fun H locs hP hD hS => ?_)
  have hP : va_P V.1 vwCl [(y 0, .inr (9, [.ref (y 1), .int 0, .ref (y 2), .ref (y 10), .ref (y 19), .ref (y 25), .ref (y 26), .ref (y 30), .ref (y 31), .ref (y 32), .null, .null, .int 0, .int 9, .int p1]))] H := hP
  have hD : va_D A [(y 0, .inr (9, [.ref (y 1), .int 0, .ref (y 2), .ref (y 10), .ref (y 19), .ref (y 25), .ref (y 26), .ref (y 30), .ref (y 31), .ref (y 32), .null, .null, .int 0, .int 9, .int p1]))] := hD
  refine lv_iconst (v := 0) hx hb dX9_tryDeed_66 (by decide) ?_
  exact fiI hx hb hr hlk hK hP hD hS dX9_tryDeed_67 (Nat.le_of_ble_eq_true rfl) (Nat.le_of_ble_eq_true rfl) (⟨rfl, rfl⟩)
theorem dX9_century_0 : decode cX9_century 0 = .ok (.iload_n 2, 1) := by decide +kernel
theorem dX9_century_1 : decode cX9_century 1 = .ok (.iconst 1, 1) := by decide +kernel
theorem dX9_century_2 : decode cX9_century 2 = .ok (.if_icmp .lt 9, 3) := by decide +kernel
theorem dX9_century_11 : decode cX9_century 11 = .ok (.bipush (-3), 2) := by decide +kernel
theorem dX9_century_13 : decode cX9_century 13 = .ok (.ireturn, 1) := by decide +kernel
theorem dX9_century_5 : decode cX9_century 5 = .ok (.iload_n 2, 1) := by decide +kernel
theorem dX9_century_6 : decode cX9_century 6 = .ok (.bipush 40, 2) := by decide +kernel
theorem dX9_century_8 : decode cX9_century 8 = .ok (.if_icmp .le 6, 3) := by decide +kernel
theorem dX9_century_14 : decode cX9_century 14 = .ok (.aload_n 0, 1) := by decide +kernel
theorem dX9_century_15 : decode cX9_century 15 = .ok (.getfield 113, 3) := by decide +kernel
theorem dX9_century_18 : decode cX9_century 18 = .ok (.istore_n 3, 1) := by decide +kernel
theorem dX9_century_19 : decode cX9_century 19 = .ok (.aload_n 0, 1) := by decide +kernel
theorem dX9_century_20 : decode cX9_century 20 = .ok (.getfield 116, 3) := by decide +kernel
theorem dX9_century_23 : decode cX9_century 23 = .ok (.istore 4, 2) := by decide +kernel
theorem dX9_century_25 : decode cX9_century 25 = .ok (.aload_n 0, 1) := by decide +kernel
theorem dX9_century_26 : decode cX9_century 26 = .ok (.getfield 119, 3) := by decide +kernel
theorem dX9_century_29 : decode cX9_century 29 = .ok (.istore 5, 2) := by decide +kernel
theorem dX9_century_31 : decode cX9_century 31 = .ok (.iconst 0, 1) := by decide +kernel
theorem dX9_century_32 : decode cX9_century 32 = .ok (.istore 6, 2) := by decide +kernel
theorem dX9_century_34 : decode cX9_century 34 = .ok (.iload_n 1, 1) := by decide +kernel
theorem dX9_century_35 : decode cX9_century 35 = .ok (.istore 7, 2) := by decide +kernel
theorem dX9_century_37 : decode cX9_century 37 = .ok (.iconst 0, 1) := by decide +kernel
theorem dX9_century_38 : decode cX9_century 38 = .ok (.istore 8, 2) := by decide +kernel
theorem dX9_century_40 : decode cX9_century 40 = .ok (.iload 8, 2) := by decide +kernel
theorem dX9_century_42 : decode cX9_century 42 = .ok (.iload_n 2, 1) := by decide +kernel
theorem dX9_century_43 : decode cX9_century 43 = .ok (.if_icmp .ge 67, 3) := by decide +kernel
theorem dX9_century_110 : decode cX9_century 110 = .ok (.iload 6, 2) := by decide +kernel
theorem dX9_century_112 : decode cX9_century 112 = .ok (.ifCond .le 15, 3) := by decide +kernel
theorem dX9_century_127 : decode cX9_century 127 = .ok (.iload 6, 2) := by decide +kernel
theorem dX9_century_129 : decode cX9_century 129 = .ok (.ireturn, 1) := by decide +kernel
theorem dX9_century_115 : decode cX9_century 115 = .ok (.aload_n 0, 1) := by decide +kernel
theorem dX9_century_116 : decode cX9_century 116 = .ok (.getfield 48, 3) := by decide +kernel
theorem dX9_century_119 : decode cX9_century 119 = .ok (.iload_n 3, 1) := by decide +kernel
theorem dX9_century_120 : decode cX9_century 120 = .ok (.iload 4, 2) := by decide +kernel
theorem dX9_century_122 : decode cX9_century 122 = .ok (.iload 5, 2) := by decide +kernel
theorem dX9_century_124 : decode cX9_century 124 = .ok (.invokevirtual 165, 3) := by decide +kernel
theorem dX9_century_46 : decode cX9_century 46 = .ok (.iload 7, 2) := by decide +kernel
theorem q_4_12 : Cond.code yX9_drawnFrom prog_1_method_31_code 1 (some FieldType.int) ∈ gw := gw_4 (i := 12) (rfl) rfl
theorem q_4_11 : Cond.static yX9_drawnFrom ∈ gw := gw_4 (i := 11) (by decide +kernel) rfl
theorem mt_X9_drawnFrom : MtS yX9_drawnFrom cX9_drawnFrom 1 (some .int) 1 := ⟨⟨q_4_12, q_1_1, by decide +kernel, by decide +kernel, by decide +kernel⟩, q_4_11⟩
theorem q_4_10 : Cond.methodLink "BeaconDelay" 219 yX9_drawnFrom ∈ gw := gw_4 (i := 10) (by decide +kernel) rfl
theorem dX9_century_48 : decode cX9_century 48 = .ok (.invokestatic 219, 3) := by decide +kernel
theorem dX9_century_51 : decode cX9_century 51 = .ok (.istore 7, 2) := by decide +kernel
theorem dX9_century_53 : decode cX9_century 53 = .ok (.iload 7, 2) := by decide +kernel
theorem dX9_century_55 : decode cX9_century 55 = .ok (.bipush 16, 2) := by decide +kernel
theorem dX9_century_57 : decode cX9_century 57 = .ok (.iushr, 1) := by decide +kernel
theorem dX9_century_58 : decode cX9_century 58 = .ok (.bipush 6, 2) := by decide +kernel
theorem dX9_century_60 : decode cX9_century 60 = .ok (.irem, 1) := by decide +kernel
theorem dX9_century_61 : decode cX9_century 61 = .ok (.istore 9, 2) := by decide +kernel
theorem dX9_century_63 : decode cX9_century 63 = .ok (.iconst 0, 1) := by decide +kernel
theorem dX9_century_64 : decode cX9_century 64 = .ok (.istore 10, 2) := by decide +kernel
theorem dX9_century_66 : decode cX9_century 66 = .ok (.iload 9, 2) := by decide +kernel
theorem dX9_century_68 : decode cX9_century 68 = .ok (.iconst 2, 1) := by decide +kernel
theorem dX9_century_69 : decode cX9_century 69 = .ok (.if_icmp .le 22, 3) := by decide +kernel
theorem dX9_century_91 : decode cX9_century 91 = .ok (.aload_n 0, 1) := by decide +kernel
theorem dX9_century_92 : decode cX9_century 92 = .ok (.iload 10, 2) := by decide +kernel
theorem dX9_century_94 : decode cX9_century 94 = .ok (.i2l, 1) := by decide +kernel
theorem dX9_century_95 : decode cX9_century 95 = .ok (.invokevirtual 169, 3) := by decide +kernel
theorem dX9_century_98 : decode cX9_century 98 = .ok (.ifCond .ne 6, 3) := by decide +kernel
theorem dX9_century_101 : decode cX9_century 101 = .ok (.iinc 6 1, 3) := by decide +kernel
theorem dX9_century_104 : decode cX9_century 104 = .ok (.iinc 8 1, 3) := by decide +kernel
theorem dX9_century_107 : decode cX9_century 107 = .ok (.goto (-67), 3) := by decide +kernel
theorem dX9_century_72 : decode cX9_century 72 = .ok (.iload 7, 2) := by decide +kernel
theorem dX9_century_74 : decode cX9_century 74 = .ok (.invokestatic 219, 3) := by decide +kernel
theorem dX9_century_77 : decode cX9_century 77 = .ok (.istore 7, 2) := by decide +kernel
theorem dX9_century_79 : decode cX9_century 79 = .ok (.iload 9, 2) := by decide +kernel
theorem dX9_century_81 : decode cX9_century 81 = .ok (.iload 7, 2) := by decide +kernel
theorem dX9_century_83 : decode cX9_century 83 = .ok (.bipush 16, 2) := by decide +kernel
theorem dX9_century_85 : decode cX9_century 85 = .ok (.iushr, 1) := by decide +kernel
theorem q_4_16 : Cond.code yX9_drawnDeed prog_1_method_32_code 2 (some FieldType.int) ∈ gw := gw_4 (i := 16) (rfl) rfl
theorem q_4_15 : Cond.static yX9_drawnDeed ∈ gw := gw_4 (i := 15) (by decide +kernel) rfl
theorem mt_X9_drawnDeed : MtS yX9_drawnDeed cX9_drawnDeed 2 (some .int) 2 := ⟨⟨q_4_16, q_1_1, by decide +kernel, by decide +kernel, by decide +kernel⟩, q_4_15⟩
theorem q_4_14 : Cond.methodLink "BeaconDelay" 222 yX9_drawnDeed ∈ gw := gw_4 (i := 14) (by decide +kernel) rfl
theorem dX9_century_86 : decode cX9_century 86 = .ok (.invokestatic 222, 3) := by decide +kernel
theorem dX9_century_89 : decode cX9_century 89 = .ok (.istore 10, 2) := by decide +kernel
set_option maxHeartbeats 4000000 in
set_option maxRecDepth 100000 in
theorem c_X9_century_0 (l : Launch) (V : GV) (y : Nat → Nat) (p0 : Int32) (p1 : Int32) : Ct l V yX9_century (.code yX9_century cX9_century 11 (some .int)) 4 [.ref (y 0), .int p0, .int p1] [(y 0, .inr (9, [.ref (y 1), .int 0, .ref (y 2), .ref (y 10), .ref (y 19), .ref (y 25), .ref (y 26), .ref (y 30), .ref (y 31), .ref (y 32), .null, .null, .int 0, .int 0, .int 0])), (y 2, .inr (1, [.int 0, .int 0, .int 0, .int 0, .int 0, .int 0, .ref (y 3), .ref (y 4), .ref (y 5), .ref (y 6), .ref (y 7), .ref (y 8), .ref (y 9), .int 0, .int 0, .int 0, .int 0, .int 0])), (y 19, .inr (4, [.ref (y 2), .ref (y 20), .ref (y 21), .ref (y 22), .ref (y 23), .ref (y 24)])), (y 26, .inr (5, [.ref (y 27), .ref (y 28), .ref (y 29), .int 0])), (y 27, aI V 10 (fun _ => 0)), (y 28, aI V 10 (fun _ => 0)), (y 29, aI V 10 (fun _ => 0))] 0 0 (QI V (fun (r : Int32) (w : va_W) => (p1 < 1 ∧ r = (-3) ∧ w = [(y 0, .inr (9, [.ref (y 1), .int 0, .ref (y 2), .ref (y 10), .ref (y 19), .ref (y 25), .ref (y 26), .ref (y 30), .ref (y 31), .ref (y 32), .null, .null, .int 0, .int 0, .int 0])), (y 2, .inr (1, [.int 0, .int 0, .int 0, .int 0, .int 0, .int 0, .ref (y 3), .ref (y 4), .ref (y 5), .ref (y 6), .ref (y 7), .ref (y 8), .ref (y 9), .int 0, .int 0, .int 0, .int 0, .int 0])), (y 19, .inr (4, [.ref (y 2), .ref (y 20), .ref (y 21), .ref (y 22), .ref (y 23), .ref (y 24)])), (y 26, .inr (5, [.ref (y 27), .ref (y 28), .ref (y 29), .int 0])), (y 27, aI V 10 (fun _ => 0)), (y 28, aI V 10 (fun _ => 0)), (y 29, aI V 10 (fun _ => 0))]) ∨ ((¬ p1 < 1) ∧ (¬ p1 ≤ 40) ∧ r = (-3) ∧ w = [(y 0, .inr (9, [.ref (y 1), .int 0, .ref (y 2), .ref (y 10), .ref (y 19), .ref (y 25), .ref (y 26), .ref (y 30), .ref (y 31), .ref (y 32), .null, .null, .int 0, .int 0, .int 0])), (y 2, .inr (1, [.int 0, .int 0, .int 0, .int 0, .int 0, .int 0, .ref (y 3), .ref (y 4), .ref (y 5), .ref (y 6), .ref (y 7), .ref (y 8), .ref (y 9), .int 0, .int 0, .int 0, .int 0, .int 0])), (y 19, .inr (4, [.ref (y 2), .ref (y 20), .ref (y 21), .ref (y 22), .ref (y 23), .ref (y 24)])), (y 26, .inr (5, [.ref (y 27), .ref (y 28), .ref (y 29), .int 0])), (y 27, aI V 10 (fun _ => 0)), (y 28, aI V 10 (fun _ => 0)), (y 29, aI V 10 (fun _ => 0))]) ∨ (∃ (v_5 : Int32) (v_6 : Int32) (x_7 : Int32), (¬ p1 < 1) ∧ p1 ≤ 40 ∧ ((cn p0 p1.toNatClampNeg).2) ≤ 0 ∧ r = ((cn p0 p1.toNatClampNeg).2) ∧ w = [(y 0, .inr (9, [.ref (y 1), .int 0, .ref (y 2), .ref (y 10), .ref (y 19), .ref (y 25), .ref (y 26), .ref (y 30), .ref (y 31), .ref (y 32), .null, .null, .int 0, .int v_5, .int v_6])), (y 2, .inr (1, [.int 0, .int 0, .int 0, .int 0, .int 0, .int 0, .ref (y 3), .ref (y 4), .ref (y 5), .ref (y 6), .ref (y 7), .ref (y 8), .ref (y 9), .int 0, .int 0, .int 0, .int 0, .int 0])), (y 19, .inr (4, [.ref (y 2), .ref (y 20), .ref (y 21), .ref (y 22), .ref (y 23), .ref (y 24)])), (y 26, .inr (5, [.ref (y 27), .ref (y 28), .ref (y 29), .int 0])), (y 27, aI V 10 (fun _ => 0)), (y 28, aI V 10 (fun _ => 0)), (y 29, aI V 10 (fun _ => 0))]) ∨ (∃ (v_5 : Int32) (v_6 : Int32) (x_7 : Int32), (¬ p1 < 1) ∧ p1 ≤ 40 ∧ (¬ ((cn p0 p1.toNatClampNeg).2) ≤ 0) ∧ r = ((cn p0 p1.toNatClampNeg).2) ∧ w = [(y 0, .inr (9, [.ref (y 1), .int 0, .ref (y 2), .ref (y 10), .ref (y 19), .ref (y 25), .ref (y 26), .ref (y 30), .ref (y 31), .ref (y 32), .null, .null, .int 0, .int v_5, .int v_6])), (y 2, .inr (1, [.int 0, .int 0, .int 0, .int 0, .int 0, .int 0, .ref (y 3), .ref (y 4), .ref (y 5), .ref (y 6), .ref (y 7), .ref (y 8), .ref (y 9), .int 0, .int 0, .int 0, .int 0, .int 0])), (y 19, .inr (4, [.ref (y 2), .ref (y 20), .ref (y 21), .ref (y 22), .ref (y 23), .ref (y 24)])), (y 26, .inr (5, [.ref (y 27), .ref (y 28), .ref (y 29), .int 1])), (y 27, aI V 10 (fun _ => 0)), (y 28, aI V 10 (fun _ => 0)), (y 29, aI V 10 (fun _ => 0))]))) := by
  refine Ct.of (by decide) (Nat.le_of_ble_eq_true rfl) (fun p e s m below meth c A ls hx hb hr hml hown hlk hnm hg hP hK hD hE hA hS hl => ?_)
  have hl : lv_has ls 11 [(0, .ref (y 0)), (1, .int p0), (2, .int p1)] := hl
  refine lv_iload_n hx hb dX9_century_0 rfl (lv_at hl 2 rfl) ?_
  refine lv_iconst (v := 1) hx hb dX9_century_1 (by decide) ?_
  refine lv_icmp_lt (tgt := 11) hx hb dX9_century_2 (by decide) (fun c_1 => ?_) (fun c_1 => ?_)
  · refine lv_bipush (v := (-3)) hx hb dX9_century_11 (by decide) ?_
    exact fiI hx hb hr hlk hK hP hD hS dX9_century_13 (Nat.le_of_ble_eq_true rfl) (Nat.le_of_ble_eq_true rfl) (Or.inl ⟨c_1, rfl, rfl⟩)
  · refine lv_iload_n hx hb dX9_century_5 rfl (lv_at hl 2 rfl) ?_
    refine lv_bipush (v := 40) hx hb dX9_century_6 (by decide) ?_
    refine lv_icmp_le (tgt := 14) hx hb dX9_century_8 (by decide) (fun c_2 => ?_) (fun c_2 => ?_)
    · refine lv_aload_n hx hb dX9_century_14 rfl (lv_at hl 0 rfl) ?_
      refine va_get (ci := 9) (v := .int 0) (C := RX9) (T := TX9) (N := 15) hx hb hg inX9 hown hK hP 0 rfl rfl 12 (by decide) (hg _ q_2_48) (fun _ h9 => h9) rfl dX9_century_15 ?_
      refine lv_istore_n (lv' := [(3, .int 0), (0, .ref (y 0)), (1, .int p0), (2, .int p1)]) hx hb dX9_century_18 rfl hl (by decide) rfl (fun ls hl => ?_)
      refine lv_aload_n hx hb dX9_century_19 rfl (lv_at hl 1 rfl) ?_
      refine va_get (ci := 9) (v := .int 0) (C := RX9) (T := TX9) (N := 15) hx hb hg inX9 hown hK hP 0 rfl rfl 13 (by decide) (hg _ q_2_49) (fun _ h9 => h9) rfl dX9_century_20 ?_
      refine lv_istore (lv' := [(4, .int 0), (3, .int 0), (0, .ref (y 0)), (1, .int p0), (2, .int p1)]) hx hb dX9_century_23 hl (by decide) rfl (fun ls hl => ?_)
      refine lv_aload_n hx hb dX9_century_25 rfl (lv_at hl 2 rfl) ?_
      refine va_get (ci := 9) (v := .int 0) (C := RX9) (T := TX9) (N := 15) hx hb hg inX9 hown hK hP 0 rfl rfl 14 (by decide) (hg _ q_2_50) (fun _ h9 => h9) rfl dX9_century_26 ?_
      refine lv_istore (lv' := [(5, .int 0), (4, .int 0), (3, .int 0), (0, .ref (y 0)), (1, .int p0), (2, .int p1)]) hx hb dX9_century_29 hl (by decide) rfl (fun ls hl => ?_)
      refine lv_iconst (v := 0) hx hb dX9_century_31 (by decide) ?_
      refine lv_istore (lv' := [(6, .int 0), (5, .int 0), (4, .int 0), (3, .int 0), (0, .ref (y 0)), (1, .int p0), (2, .int p1)]) hx hb dX9_century_32 hl (by decide) rfl (fun ls hl => ?_)
      refine lv_iload_n hx hb dX9_century_34 rfl (lv_at hl 5 rfl) ?_
      refine lv_istore (lv' := [(7, .int p0), (6, .int 0), (5, .int 0), (4, .int 0), (3, .int 0), (0, .ref (y 0)), (1, .int p0), (2, .int p1)]) hx hb dX9_century_35 hl (by decide) rfl (fun ls hl => ?_)
      refine lv_iconst (v := 0) hx hb dX9_century_37 (by decide) ?_
      refine lv_istore (lv' := [(8, .int 0), (7, .int p0), (6, .int 0), (5, .int 0), (4, .int 0), (3, .int 0), (0, .ref (y 0)), (1, .int p0), (2, .int p1)]) hx hb dX9_century_38 hl (by decide) rfl (fun ls hl => ?_)
      obtain ⟨N_3, lN_3, hN_3, rfl⟩ : ∃ j : Nat, 1 ≤ j ∧ j ≤ 40 ∧ p1 = nI j := natOf (M := 40) (by decide) (m := 1) (c := 1) (by decide) (by simp only [tI_lt, tI_le, tI_eq, tL_lt, tL_le, tL_eq, tWx, (by decide : (0 : Int32).toInt = 0), (by decide : (1 : Int32).toInt = 1), (by decide : (40 : Int32).toInt = 40)] at c_1 c_2 ⊢; omega) (by simp only [tI_lt, tI_le, tI_eq, tL_lt, tL_le, tL_eq, tWx, (by decide : (0 : Int32).toInt = 0), (by decide : (1 : Int32).toInt = 1), (by decide : (40 : Int32).toInt = 40)] at c_1 c_2 ⊢; omega)
      refine loopW N_3 (X := fun (i_4 : Nat) (H : Heap) (locs : List Loc) (ls : Array Slot) => ∃ (v_5 : Int32) (v_6 : Int32) (x_7 : Int32) (x_8 : Int32), 0 ≤ i_4 ∧ (x_7, x_8) = cn p0 i_4 ∧ va_P V.1 vwCl [(y 0, .inr (9, [.ref (y 1), .int 0, .ref (y 2), .ref (y 10), .ref (y 19), .ref (y 25), .ref (y 26), .ref (y 30), .ref (y 31), .ref (y 32), .null, .null, .int 0, .int v_5, .int v_6])), (y 2, .inr (1, [.int 0, .int 0, .int 0, .int 0, .int 0, .int 0, .ref (y 3), .ref (y 4), .ref (y 5), .ref (y 6), .ref (y 7), .ref (y 8), .ref (y 9), .int 0, .int 0, .int 0, .int 0, .int 0])), (y 19, .inr (4, [.ref (y 2), .ref (y 20), .ref (y 21), .ref (y 22), .ref (y 23), .ref (y 24)])), (y 26, .inr (5, [.ref (y 27), .ref (y 28), .ref (y 29), .int 0])), (y 27, aI V 10 (fun _ => 0)), (y 28, aI V 10 (fun _ => 0)), (y 29, aI V 10 (fun _ => 0))] H ∧ va_D A [(y 0, .inr (9, [.ref (y 1), .int 0, .ref (y 2), .ref (y 10), .ref (y 19), .ref (y 25), .ref (y 26), .ref (y 30), .ref (y 31), .ref (y 32), .null, .null, .int 0, .int v_5, .int v_6])), (y 2, .inr (1, [.int 0, .int 0, .int 0, .int 0, .int 0, .int 0, .ref (y 3), .ref (y 4), .ref (y 5), .ref (y 6), .ref (y 7), .ref (y 8), .ref (y 9), .int 0, .int 0, .int 0, .int 0, .int 0])), (y 19, .inr (4, [.ref (y 2), .ref (y 20), .ref (y 21), .ref (y 22), .ref (y 23), .ref (y 24)])), (y 26, .inr (5, [.ref (y 27), .ref (y 28), .ref (y 29), .int 0])), (y 27, aI V 10 (fun _ => 0)), (y 28, aI V 10 (fun _ => 0)), (y 29, aI V 10 (fun _ => 0))] ∧ va_S A s.heap H locs ∧ lv_has ls 11 [(8, .int (nI i_4)), (7, .int x_7), (6, .int x_8), (5, .int 0), (4, .int 0), (3, .int 0), (0, .ref (y 0)), (1, .int p0), (2, .int (nI N_3))]) (g := fun ls => F0 m 40 ls []) (fun i_4 H locs ls hi_i_4 hX ih_i_4 => ?_) 0 (by omega) ⟨0, 0, p0, 0, Nat.le_refl _, rfl, hP, hD, hS, lv_sub hl [0, 1, 2, 3, 4, 5, 6, 7, 8] rfl⟩
      obtain ⟨v_5, v_6, x_7, x_8, hlo_i_4, hcd_i_4, hP, hD, hS, hl⟩ := hX
      refine lv_iload hx hb dX9_century_40 (lv_at hl 0 rfl) ?_
      refine lv_iload_n hx hb dX9_century_42 rfl (lv_at hl 8 rfl) ?_
      refine lv_icmp_ge (tgt := 110) hx hb dX9_century_43 (by decide) (fun c_9 => ?_) (fun c_9 => ?_)
      · have e_10 : i_4 = N_3 := by have q9 := (nI_leI (a := N_3) (b := i_4) (by omega) (by omega)).mp c_9; omega
        rw [e_10] at hl
        have hl : lv_has ls 11 [(8, .int (nI N_3)), (7, .int x_7), (6, .int x_8), (5, .int 0), (4, .int 0), (3, .int 0), (0, .ref (y 0)), (1, .int p0), (2, .int (nI N_3))] := hl
        rw [e_10] at hcd_i_4
        obtain rfl : x_8 = (cn p0 (nI N_3).toNatClampNeg).2 := by rw [nI_clamp (by omega)]; exact congrArg Prod.snd hcd_i_4
        have hl : lv_has ls 11 [(8, .int (nI N_3)), (7, .int x_7), (6, .int ((cn p0 (nI N_3).toNatClampNeg).2)), (5, .int 0), (4, .int 0), (3, .int 0), (0, .ref (y 0)), (1, .int p0), (2, .int (nI N_3))] := hl
        refine lv_iload hx hb dX9_century_110 (lv_at hl 2 rfl) ?_
        refine lv_if_le (tgt := 127) hx hb dX9_century_112 (by decide) (fun c_11 => ?_) (fun c_11 => ?_)
        · refine lv_iload hx hb dX9_century_127 (lv_at hl 2 rfl) ?_
          exact fiI hx hb hr hlk hK hP hD hS dX9_century_129 (Nat.le_of_ble_eq_true rfl) (Nat.le_of_ble_eq_true rfl) (Or.inr (Or.inr (Or.inl ⟨v_5, v_6, x_7, c_1, c_2, c_11, rfl, rfl⟩)))
        · refine lv_aload_n hx hb dX9_century_115 rfl (lv_at hl 6 rfl) ?_
          refine va_get (ci := 9) (v := .ref (y 26)) (C := RX9) (T := TX9) (N := 15) hx hb hg inX9 hown hK hP 0 rfl rfl 6 (by decide) (hg _ q_2_42) (fun _ h9 => h9) rfl dX9_century_116 ?_
          refine lv_iload_n hx hb dX9_century_119 rfl (lv_at hl 5 rfl) ?_
          refine lv_iload hx hb dX9_century_120 (lv_at hl 4 rfl) ?_
          refine lv_iload hx hb dX9_century_122 (lv_at hl 3 rfl) ?_
          refine jnV (wr := [(y 0, .inr (9, [.ref (y 1), .int 0, .ref (y 2), .ref (y 10), .ref (y 19), .ref (y 25), .ref (y 26), .ref (y 30), .ref (y 31), .ref (y 32), .null, .null, .int 0, .int v_5, .int v_6])), (y 2, .inr (1, [.int 0, .int 0, .int 0, .int 0, .int 0, .int 0, .ref (y 3), .ref (y 4), .ref (y 5), .ref (y 6), .ref (y 7), .ref (y 8), .ref (y 9), .int 0, .int 0, .int 0, .int 0, .int 0])), (y 19, .inr (4, [.ref (y 2), .ref (y 20), .ref (y 21), .ref (y 22), .ref (y 23), .ref (y 24)]))]) (rnV (rest := []) ⟨hx, hb, hml, hown, hg⟩ (c_X5_keep_0 l V y) mt_X5_keep q_3_177 ⟨Nat.le_of_ble_eq_true rfl, Nat.le_of_ble_eq_true rfl⟩ hK hP hD hS hA hE [3, 4, 5, 6] rfl rfl 3 rfl rfl rfl rfl hl.1 rfl (Nat.le_of_ble_eq_true rfl) dX9_century_124 ⟨Nat.le_of_ble_eq_true rfl, Nat.le_of_ble_eq_true rfl⟩) hP hD hS hA [3, 4, 5, 6] [0, 1, 2] rfl rfl rfl (by decide) (fun  w H locs hw hP hD hS => ?_)
          subst hw
          have hP : va_P V.1 vwCl [(y 0, .inr (9, [.ref (y 1), .int 0, .ref (y 2), .ref (y 10), .ref (y 19), .ref (y 25), .ref (y 26), .ref (y 30), .ref (y 31), .ref (y 32), .null, .null, .int 0, .int v_5, .int v_6])), (y 2, .inr (1, [.int 0, .int 0, .int 0, .int 0, .int 0, .int 0, .ref (y 3), .ref (y 4), .ref (y 5), .ref (y 6), .ref (y 7), .ref (y 8), .ref (y 9), .int 0, .int 0, .int 0, .int 0, .int 0])), (y 19, .inr (4, [.ref (y 2), .ref (y 20), .ref (y 21), .ref (y 22), .ref (y 23), .ref (y 24)])), (y 26, .inr (5, [.ref (y 27), .ref (y 28), .ref (y 29), .int 1])), (y 27, aI V 10 (fun _ => 0)), (y 28, aI V 10 (fun _ => 0)), (y 29, aI V 10 (fun _ => 0))] H := hP
          have hD : va_D A [(y 0, .inr (9, [.ref (y 1), .int 0, .ref (y 2), .ref (y 10), .ref (y 19), .ref (y 25), .ref (y 26), .ref (y 30), .ref (y 31), .ref (y 32), .null, .null, .int 0, .int v_5, .int v_6])), (y 2, .inr (1, [.int 0, .int 0, .int 0, .int 0, .int 0, .int 0, .ref (y 3), .ref (y 4), .ref (y 5), .ref (y 6), .ref (y 7), .ref (y 8), .ref (y 9), .int 0, .int 0, .int 0, .int 0, .int 0])), (y 19, .inr (4, [.ref (y 2), .ref (y 20), .ref (y 21), .ref (y 22), .ref (y 23), .ref (y 24)])), (y 26, .inr (5, [.ref (y 27), .ref (y 28), .ref (y 29), .int 1])), (y 27, aI V 10 (fun _ => 0)), (y 28, aI V 10 (fun _ => 0)), (y 29, aI V 10 (fun _ => 0))] := hD
          refine lv_iload hx hb dX9_century_127 (lv_at hl 2 rfl) ?_
          exact fiI hx hb hr hlk hK hP hD hS dX9_century_129 (Nat.le_of_ble_eq_true rfl) (Nat.le_of_ble_eq_true rfl) (Or.inr (Or.inr (Or.inr (⟨v_5, v_6, x_7, c_1, c_2, c_11, rfl, rfl⟩))))
      · have e_10 : i_4 < N_3 := by rcases Nat.lt_or_ge i_4 N_3 with q9 | q9; exact q9; exact absurd (nI_le q9 (by omega)) c_9
        refine lv_iload hx hb dX9_century_46 (lv_at hl 1 rfl) ?_
        refine jnI (wr := [(y 0, .inr (9, [.ref (y 1), .int 0, .ref (y 2), .ref (y 10), .ref (y 19), .ref (y 25), .ref (y 26), .ref (y 30), .ref (y 31), .ref (y 32), .null, .null, .int 0, .int v_5, .int v_6])), (y 2, .inr (1, [.int 0, .int 0, .int 0, .int 0, .int 0, .int 0, .ref (y 3), .ref (y 4), .ref (y 5), .ref (y 6), .ref (y 7), .ref (y 8), .ref (y 9), .int 0, .int 0, .int 0, .int 0, .int 0])), (y 19, .inr (4, [.ref (y 2), .ref (y 20), .ref (y 21), .ref (y 22), .ref (y 23), .ref (y 24)])), (y 26, .inr (5, [.ref (y 27), .ref (y 28), .ref (y 29), .int 0])), (y 27, aI V 10 (fun _ => 0)), (y 28, aI V 10 (fun _ => 0)), (y 29, aI V 10 (fun _ => 0))]) (rnS (rest := []) ⟨hx, hb, hml, hown, hg⟩ (c_X9_drawnFrom_0 l V x_7) mt_X9_drawnFrom q_4_10 ⟨Nat.le_of_ble_eq_true rfl, Nat.le_of_ble_eq_true rfl⟩ hK hP hD hS hA hE [] rfl rfl rfl hl.1 rfl (Nat.le_of_ble_eq_true rfl) dX9_century_48 ⟨Nat.le_of_ble_eq_true rfl, Nat.le_of_ble_eq_true rfl⟩) hP hD hS hA [] [0, 1, 2, 3, 4, 5, 6] rfl rfl rfl (by decide) (fun r_12 w H locs hw hP hD hS => ?_)
        obtain ⟨rfl, rfl⟩ := hw
        have hP : va_P V.1 vwCl [(y 0, .inr (9, [.ref (y 1), .int 0, .ref (y 2), .ref (y 10), .ref (y 19), .ref (y 25), .ref (y 26), .ref (y 30), .ref (y 31), .ref (y 32), .null, .null, .int 0, .int v_5, .int v_6])), (y 2, .inr (1, [.int 0, .int 0, .int 0, .int 0, .int 0, .int 0, .ref (y 3), .ref (y 4), .ref (y 5), .ref (y 6), .ref (y 7), .ref (y 8), .ref (y 9), .int 0, .int 0, .int 0, .int 0, .int 0])), (y 19, .inr (4, [.ref (y 2), .ref (y 20), .ref (y 21), .ref (y 22), .ref (y 23), .ref (y 24)])), (y 26, .inr (5, [.ref (y 27), .ref (y 28), .ref (y 29), .int 0])), (y 27, aI V 10 (fun _ => 0)), (y 28, aI V 10 (fun _ => 0)), (y 29, aI V 10 (fun _ => 0))] H := hP
        have hD : va_D A [(y 0, .inr (9, [.ref (y 1), .int 0, .ref (y 2), .ref (y 10), .ref (y 19), .ref (y 25), .ref (y 26), .ref (y 30), .ref (y 31), .ref (y 32), .null, .null, .int 0, .int v_5, .int v_6])), (y 2, .inr (1, [.int 0, .int 0, .int 0, .int 0, .int 0, .int 0, .ref (y 3), .ref (y 4), .ref (y 5), .ref (y 6), .ref (y 7), .ref (y 8), .ref (y 9), .int 0, .int 0, .int 0, .int 0, .int 0])), (y 19, .inr (4, [.ref (y 2), .ref (y 20), .ref (y 21), .ref (y 22), .ref (y 23), .ref (y 24)])), (y 26, .inr (5, [.ref (y 27), .ref (y 28), .ref (y 29), .int 0])), (y 27, aI V 10 (fun _ => 0)), (y 28, aI V 10 (fun _ => 0)), (y 29, aI V 10 (fun _ => 0))] := hD
        refine lv_istore (lv' := [(7, .int ((1103515245 * x_7) + 12345)), (8, .int (nI i_4)), (6, .int x_8), (5, .int 0), (4, .int 0), (3, .int 0), (0, .ref (y 0)), (1, .int p0), (2, .int (nI N_3))]) hx hb dX9_century_51 hl (by decide) rfl (fun ls hl => ?_)
        refine lv_iload hx hb dX9_century_53 (lv_at hl 0 rfl) ?_
        refine lv_bipush (v := 16) hx hb dX9_century_55 (by decide) ?_
        refine lv_iushr (v := ((((1103515245 * x_7) + 12345).toUInt32 >>> ((16 : Int32).toUInt32 &&& Int32.toUInt32 31)).toInt32)) hx hb dX9_century_57 rfl ?_
        refine lv_bipush (v := 6) hx hb dX9_century_58 (by decide) ?_
        refine lv_irem hx hb dX9_century_60 (by decide) ?_
        rcases rem6 ((1103515245 * x_7) + 12345) with e_13 | e_14 | e_15 | e_16 | e_17 | e_18
        · refine tpi (y := 0) e_13 ?_
          refine lv_istore (lv' := [(9, .int 0), (7, .int ((1103515245 * x_7) + 12345)), (8, .int (nI i_4)), (6, .int x_8), (5, .int 0), (4, .int 0), (3, .int 0), (0, .ref (y 0)), (1, .int p0), (2, .int (nI N_3))]) hx hb dX9_century_61 hl (by decide) rfl (fun ls hl => ?_)
          refine lv_iconst (v := 0) hx hb dX9_century_63 (by decide) ?_
          refine lv_istore (lv' := [(10, .int 0), (9, .int 0), (7, .int ((1103515245 * x_7) + 12345)), (8, .int (nI i_4)), (6, .int x_8), (5, .int 0), (4, .int 0), (3, .int 0), (0, .ref (y 0)), (1, .int p0), (2, .int (nI N_3))]) hx hb dX9_century_64 hl (by decide) rfl (fun ls hl => ?_)
          refine lv_iload hx hb dX9_century_66 (lv_at hl 1 rfl) ?_
          refine lv_iconst (v := 2) hx hb dX9_century_68 (by decide) ?_
          refine lv_icmp_le (tgt := 91) hx hb dX9_century_69 (by decide) (fun _ => ?_) (fun c_19 => absurd c_19 (by decide))
          refine lv_aload_n hx hb dX9_century_91 rfl (lv_at hl 8 rfl) ?_
          refine lv_iload hx hb dX9_century_92 (lv_at hl 0 rfl) ?_
          refine lv_i2l (v := 0) hx hb dX9_century_94 (by decide +kernel) ?_
          refine jnI (wr := [(y 26, .inr (5, [.ref (y 27), .ref (y 28), .ref (y 29), .int 0])), (y 27, aI V 10 (fun _ => 0)), (y 28, aI V 10 (fun _ => 0)), (y 29, aI V 10 (fun _ => 0))]) (rnV (rest := []) ⟨hx, hb, hml, hown, hg⟩ (c_X9_tryDeed_2 l V y v_5 v_6) mt_X9_tryDeed q_3_185 ⟨Nat.le_of_ble_eq_true rfl, Nat.le_of_ble_eq_true rfl⟩ hK hP hD hS hA hE [0, 1, 2] rfl rfl 0 rfl rfl rfl rfl hl.1 rfl (Nat.le_of_ble_eq_true rfl) dX9_century_95 ⟨Nat.le_of_ble_eq_true rfl, Nat.le_of_ble_eq_true rfl⟩) hP hD hS hA [0, 1, 2] [3, 4, 5, 6] rfl rfl rfl (by decide) (fun r_20 w H locs hw hP hD hS => ?_)
          obtain ⟨rfl, rfl⟩ := hw
          have hP : va_P V.1 vwCl [(y 26, .inr (5, [.ref (y 27), .ref (y 28), .ref (y 29), .int 0])), (y 27, aI V 10 (fun _ => 0)), (y 28, aI V 10 (fun _ => 0)), (y 29, aI V 10 (fun _ => 0)), (y 0, .inr (9, [.ref (y 1), .int 0, .ref (y 2), .ref (y 10), .ref (y 19), .ref (y 25), .ref (y 26), .ref (y 30), .ref (y 31), .ref (y 32), .null, .null, .int 0, .int v_5, .int (v_6 + 1)])), (y 2, .inr (1, [.int 0, .int 0, .int 0, .int 0, .int 0, .int 0, .ref (y 3), .ref (y 4), .ref (y 5), .ref (y 6), .ref (y 7), .ref (y 8), .ref (y 9), .int 0, .int 0, .int 0, .int 0, .int 0])), (y 19, .inr (4, [.ref (y 2), .ref (y 20), .ref (y 21), .ref (y 22), .ref (y 23), .ref (y 24)]))] H := hP
          have hD : va_D A [(y 26, .inr (5, [.ref (y 27), .ref (y 28), .ref (y 29), .int 0])), (y 27, aI V 10 (fun _ => 0)), (y 28, aI V 10 (fun _ => 0)), (y 29, aI V 10 (fun _ => 0)), (y 0, .inr (9, [.ref (y 1), .int 0, .ref (y 2), .ref (y 10), .ref (y 19), .ref (y 25), .ref (y 26), .ref (y 30), .ref (y 31), .ref (y 32), .null, .null, .int 0, .int v_5, .int (v_6 + 1)])), (y 2, .inr (1, [.int 0, .int 0, .int 0, .int 0, .int 0, .int 0, .ref (y 3), .ref (y 4), .ref (y 5), .ref (y 6), .ref (y 7), .ref (y 8), .ref (y 9), .int 0, .int 0, .int 0, .int 0, .int 0])), (y 19, .inr (4, [.ref (y 2), .ref (y 20), .ref (y 21), .ref (y 22), .ref (y 23), .ref (y 24)]))] := hD
          refine lv_if_ne (tgt := 104) hx hb dX9_century_98 (by decide) (fun c_21 => absurd c_21 (by decide)) (fun _ => ?_)
          refine lv_iinc (v := (x_8 + 1)) (lv' := [(6, .int (x_8 + 1)), (10, .int 0), (9, .int 0), (7, .int ((1103515245 * x_7) + 12345)), (8, .int (nI i_4)), (5, .int 0), (4, .int 0), (3, .int 0), (0, .ref (y 0)), (1, .int p0), (2, .int (nI N_3))]) hx hb dX9_century_101 hl (k := 4) rfl rfl (by decide) rfl (fun ls hl => ?_)
          refine lv_iinc (v := nI (i_4 + 1)) (lv' := [(8, .int (nI (i_4 + 1))), (6, .int (x_8 + 1)), (10, .int 0), (9, .int 0), (7, .int ((1103515245 * x_7) + 12345)), (5, .int 0), (4, .int 0), (3, .int 0), (0, .ref (y 0)), (1, .int p0), (2, .int (nI N_3))]) hx hb dX9_century_104 hl (k := 4) rfl (nI_add i_4 1) (by decide) rfl (fun ls hl => ?_)
          refine lv_goto (tgt := 40) hx hb dX9_century_107 (by decide) ?_
          have hP := subP (ws' := [(y 0, .inr (9, [.ref (y 1), .int 0, .ref (y 2), .ref (y 10), .ref (y 19), .ref (y 25), .ref (y 26), .ref (y 30), .ref (y 31), .ref (y 32), .null, .null, .int 0, .int v_5, .int (v_6 + 1)])), (y 2, .inr (1, [.int 0, .int 0, .int 0, .int 0, .int 0, .int 0, .ref (y 3), .ref (y 4), .ref (y 5), .ref (y 6), .ref (y 7), .ref (y 8), .ref (y 9), .int 0, .int 0, .int 0, .int 0, .int 0])), (y 19, .inr (4, [.ref (y 2), .ref (y 20), .ref (y 21), .ref (y 22), .ref (y 23), .ref (y 24)])), (y 26, .inr (5, [.ref (y 27), .ref (y 28), .ref (y 29), .int 0])), (y 27, aI V 10 (fun _ => 0)), (y 28, aI V 10 (fun _ => 0)), (y 29, aI V 10 (fun _ => 0))]) hP [4, 5, 6, 0, 1, 2, 3] rfl
          have hD := hD.sub (ws' := [(y 0, .inr (9, [.ref (y 1), .int 0, .ref (y 2), .ref (y 10), .ref (y 19), .ref (y 25), .ref (y 26), .ref (y 30), .ref (y 31), .ref (y 32), .null, .null, .int 0, .int v_5, .int (v_6 + 1)])), (y 2, .inr (1, [.int 0, .int 0, .int 0, .int 0, .int 0, .int 0, .ref (y 3), .ref (y 4), .ref (y 5), .ref (y 6), .ref (y 7), .ref (y 8), .ref (y 9), .int 0, .int 0, .int 0, .int 0, .int 0])), (y 19, .inr (4, [.ref (y 2), .ref (y 20), .ref (y 21), .ref (y 22), .ref (y 23), .ref (y 24)])), (y 26, .inr (5, [.ref (y 27), .ref (y 28), .ref (y 29), .int 0])), (y 27, aI V 10 (fun _ => 0)), (y 28, aI V 10 (fun _ => 0)), (y 29, aI V 10 (fun _ => 0))]) [4, 5, 6, 0, 1, 2, 3] rfl rfl
          exact ih_i_4 e_10 _ _ _ ⟨v_5, (v_6 + 1), ((1103515245 * x_7) + 12345), (x_8 + 1), (by omega), (cn_go hcd_i_4 (cst_l e_13 (by decide))), hP, hD, hS, lv_sub hl [0, 4, 1, 5, 6, 7, 8, 9, 10] rfl⟩
        · refine tpi (y := 1) e_14 ?_
          refine lv_istore (lv' := [(9, .int 1), (7, .int ((1103515245 * x_7) + 12345)), (8, .int (nI i_4)), (6, .int x_8), (5, .int 0), (4, .int 0), (3, .int 0), (0, .ref (y 0)), (1, .int p0), (2, .int (nI N_3))]) hx hb dX9_century_61 hl (by decide) rfl (fun ls hl => ?_)
          refine lv_iconst (v := 0) hx hb dX9_century_63 (by decide) ?_
          refine lv_istore (lv' := [(10, .int 0), (9, .int 1), (7, .int ((1103515245 * x_7) + 12345)), (8, .int (nI i_4)), (6, .int x_8), (5, .int 0), (4, .int 0), (3, .int 0), (0, .ref (y 0)), (1, .int p0), (2, .int (nI N_3))]) hx hb dX9_century_64 hl (by decide) rfl (fun ls hl => ?_)
          refine lv_iload hx hb dX9_century_66 (lv_at hl 1 rfl) ?_
          refine lv_iconst (v := 2) hx hb dX9_century_68 (by decide) ?_
          refine lv_icmp_le (tgt := 91) hx hb dX9_century_69 (by decide) (fun _ => ?_) (fun c_22 => absurd c_22 (by decide))
          refine lv_aload_n hx hb dX9_century_91 rfl (lv_at hl 8 rfl) ?_
          refine lv_iload hx hb dX9_century_92 (lv_at hl 0 rfl) ?_
          refine lv_i2l (v := 0) hx hb dX9_century_94 (by decide +kernel) ?_
          refine jnI (wr := [(y 26, .inr (5, [.ref (y 27), .ref (y 28), .ref (y 29), .int 0])), (y 27, aI V 10 (fun _ => 0)), (y 28, aI V 10 (fun _ => 0)), (y 29, aI V 10 (fun _ => 0))]) (rnV (rest := []) ⟨hx, hb, hml, hown, hg⟩ (c_X9_tryDeed_2 l V y v_5 v_6) mt_X9_tryDeed q_3_185 ⟨Nat.le_of_ble_eq_true rfl, Nat.le_of_ble_eq_true rfl⟩ hK hP hD hS hA hE [0, 1, 2] rfl rfl 0 rfl rfl rfl rfl hl.1 rfl (Nat.le_of_ble_eq_true rfl) dX9_century_95 ⟨Nat.le_of_ble_eq_true rfl, Nat.le_of_ble_eq_true rfl⟩) hP hD hS hA [0, 1, 2] [3, 4, 5, 6] rfl rfl rfl (by decide) (fun r_23 w H locs hw hP hD hS => ?_)
          obtain ⟨rfl, rfl⟩ := hw
          have hP : va_P V.1 vwCl [(y 26, .inr (5, [.ref (y 27), .ref (y 28), .ref (y 29), .int 0])), (y 27, aI V 10 (fun _ => 0)), (y 28, aI V 10 (fun _ => 0)), (y 29, aI V 10 (fun _ => 0)), (y 0, .inr (9, [.ref (y 1), .int 0, .ref (y 2), .ref (y 10), .ref (y 19), .ref (y 25), .ref (y 26), .ref (y 30), .ref (y 31), .ref (y 32), .null, .null, .int 0, .int v_5, .int (v_6 + 1)])), (y 2, .inr (1, [.int 0, .int 0, .int 0, .int 0, .int 0, .int 0, .ref (y 3), .ref (y 4), .ref (y 5), .ref (y 6), .ref (y 7), .ref (y 8), .ref (y 9), .int 0, .int 0, .int 0, .int 0, .int 0])), (y 19, .inr (4, [.ref (y 2), .ref (y 20), .ref (y 21), .ref (y 22), .ref (y 23), .ref (y 24)]))] H := hP
          have hD : va_D A [(y 26, .inr (5, [.ref (y 27), .ref (y 28), .ref (y 29), .int 0])), (y 27, aI V 10 (fun _ => 0)), (y 28, aI V 10 (fun _ => 0)), (y 29, aI V 10 (fun _ => 0)), (y 0, .inr (9, [.ref (y 1), .int 0, .ref (y 2), .ref (y 10), .ref (y 19), .ref (y 25), .ref (y 26), .ref (y 30), .ref (y 31), .ref (y 32), .null, .null, .int 0, .int v_5, .int (v_6 + 1)])), (y 2, .inr (1, [.int 0, .int 0, .int 0, .int 0, .int 0, .int 0, .ref (y 3), .ref (y 4), .ref (y 5), .ref (y 6), .ref (y 7), .ref (y 8), .ref (y 9), .int 0, .int 0, .int 0, .int 0, .int 0])), (y 19, .inr (4, [.ref (y 2), .ref (y 20), .ref (y 21), .ref (y 22), .ref (y 23), .ref (y 24)]))] := hD
          refine lv_if_ne (tgt := 104) hx hb dX9_century_98 (by decide) (fun c_24 => absurd c_24 (by decide)) (fun _ => ?_)
          refine lv_iinc (v := (x_8 + 1)) (lv' := [(6, .int (x_8 + 1)), (10, .int 0), (9, .int 1), (7, .int ((1103515245 * x_7) + 12345)), (8, .int (nI i_4)), (5, .int 0), (4, .int 0), (3, .int 0), (0, .ref (y 0)), (1, .int p0), (2, .int (nI N_3))]) hx hb dX9_century_101 hl (k := 4) rfl rfl (by decide) rfl (fun ls hl => ?_)
          refine lv_iinc (v := nI (i_4 + 1)) (lv' := [(8, .int (nI (i_4 + 1))), (6, .int (x_8 + 1)), (10, .int 0), (9, .int 1), (7, .int ((1103515245 * x_7) + 12345)), (5, .int 0), (4, .int 0), (3, .int 0), (0, .ref (y 0)), (1, .int p0), (2, .int (nI N_3))]) hx hb dX9_century_104 hl (k := 4) rfl (nI_add i_4 1) (by decide) rfl (fun ls hl => ?_)
          refine lv_goto (tgt := 40) hx hb dX9_century_107 (by decide) ?_
          have hP := subP (ws' := [(y 0, .inr (9, [.ref (y 1), .int 0, .ref (y 2), .ref (y 10), .ref (y 19), .ref (y 25), .ref (y 26), .ref (y 30), .ref (y 31), .ref (y 32), .null, .null, .int 0, .int v_5, .int (v_6 + 1)])), (y 2, .inr (1, [.int 0, .int 0, .int 0, .int 0, .int 0, .int 0, .ref (y 3), .ref (y 4), .ref (y 5), .ref (y 6), .ref (y 7), .ref (y 8), .ref (y 9), .int 0, .int 0, .int 0, .int 0, .int 0])), (y 19, .inr (4, [.ref (y 2), .ref (y 20), .ref (y 21), .ref (y 22), .ref (y 23), .ref (y 24)])), (y 26, .inr (5, [.ref (y 27), .ref (y 28), .ref (y 29), .int 0])), (y 27, aI V 10 (fun _ => 0)), (y 28, aI V 10 (fun _ => 0)), (y 29, aI V 10 (fun _ => 0))]) hP [4, 5, 6, 0, 1, 2, 3] rfl
          have hD := hD.sub (ws' := [(y 0, .inr (9, [.ref (y 1), .int 0, .ref (y 2), .ref (y 10), .ref (y 19), .ref (y 25), .ref (y 26), .ref (y 30), .ref (y 31), .ref (y 32), .null, .null, .int 0, .int v_5, .int (v_6 + 1)])), (y 2, .inr (1, [.int 0, .int 0, .int 0, .int 0, .int 0, .int 0, .ref (y 3), .ref (y 4), .ref (y 5), .ref (y 6), .ref (y 7), .ref (y 8), .ref (y 9), .int 0, .int 0, .int 0, .int 0, .int 0])), (y 19, .inr (4, [.ref (y 2), .ref (y 20), .ref (y 21), .ref (y 22), .ref (y 23), .ref (y 24)])), (y 26, .inr (5, [.ref (y 27), .ref (y 28), .ref (y 29), .int 0])), (y 27, aI V 10 (fun _ => 0)), (y 28, aI V 10 (fun _ => 0)), (y 29, aI V 10 (fun _ => 0))]) [4, 5, 6, 0, 1, 2, 3] rfl rfl
          exact ih_i_4 e_10 _ _ _ ⟨v_5, (v_6 + 1), ((1103515245 * x_7) + 12345), (x_8 + 1), (by omega), (cn_go hcd_i_4 (cst_l e_14 (by decide))), hP, hD, hS, lv_sub hl [0, 4, 1, 5, 6, 7, 8, 9, 10] rfl⟩
        · refine tpi (y := 2) e_15 ?_
          refine lv_istore (lv' := [(9, .int 2), (7, .int ((1103515245 * x_7) + 12345)), (8, .int (nI i_4)), (6, .int x_8), (5, .int 0), (4, .int 0), (3, .int 0), (0, .ref (y 0)), (1, .int p0), (2, .int (nI N_3))]) hx hb dX9_century_61 hl (by decide) rfl (fun ls hl => ?_)
          refine lv_iconst (v := 0) hx hb dX9_century_63 (by decide) ?_
          refine lv_istore (lv' := [(10, .int 0), (9, .int 2), (7, .int ((1103515245 * x_7) + 12345)), (8, .int (nI i_4)), (6, .int x_8), (5, .int 0), (4, .int 0), (3, .int 0), (0, .ref (y 0)), (1, .int p0), (2, .int (nI N_3))]) hx hb dX9_century_64 hl (by decide) rfl (fun ls hl => ?_)
          refine lv_iload hx hb dX9_century_66 (lv_at hl 1 rfl) ?_
          refine lv_iconst (v := 2) hx hb dX9_century_68 (by decide) ?_
          refine lv_icmp_le (tgt := 91) hx hb dX9_century_69 (by decide) (fun _ => ?_) (fun c_25 => absurd c_25 (by decide))
          refine lv_aload_n hx hb dX9_century_91 rfl (lv_at hl 8 rfl) ?_
          refine lv_iload hx hb dX9_century_92 (lv_at hl 0 rfl) ?_
          refine lv_i2l (v := 0) hx hb dX9_century_94 (by decide +kernel) ?_
          refine jnI (wr := [(y 26, .inr (5, [.ref (y 27), .ref (y 28), .ref (y 29), .int 0])), (y 27, aI V 10 (fun _ => 0)), (y 28, aI V 10 (fun _ => 0)), (y 29, aI V 10 (fun _ => 0))]) (rnV (rest := []) ⟨hx, hb, hml, hown, hg⟩ (c_X9_tryDeed_2 l V y v_5 v_6) mt_X9_tryDeed q_3_185 ⟨Nat.le_of_ble_eq_true rfl, Nat.le_of_ble_eq_true rfl⟩ hK hP hD hS hA hE [0, 1, 2] rfl rfl 0 rfl rfl rfl rfl hl.1 rfl (Nat.le_of_ble_eq_true rfl) dX9_century_95 ⟨Nat.le_of_ble_eq_true rfl, Nat.le_of_ble_eq_true rfl⟩) hP hD hS hA [0, 1, 2] [3, 4, 5, 6] rfl rfl rfl (by decide) (fun r_26 w H locs hw hP hD hS => ?_)
          obtain ⟨rfl, rfl⟩ := hw
          have hP : va_P V.1 vwCl [(y 26, .inr (5, [.ref (y 27), .ref (y 28), .ref (y 29), .int 0])), (y 27, aI V 10 (fun _ => 0)), (y 28, aI V 10 (fun _ => 0)), (y 29, aI V 10 (fun _ => 0)), (y 0, .inr (9, [.ref (y 1), .int 0, .ref (y 2), .ref (y 10), .ref (y 19), .ref (y 25), .ref (y 26), .ref (y 30), .ref (y 31), .ref (y 32), .null, .null, .int 0, .int v_5, .int (v_6 + 1)])), (y 2, .inr (1, [.int 0, .int 0, .int 0, .int 0, .int 0, .int 0, .ref (y 3), .ref (y 4), .ref (y 5), .ref (y 6), .ref (y 7), .ref (y 8), .ref (y 9), .int 0, .int 0, .int 0, .int 0, .int 0])), (y 19, .inr (4, [.ref (y 2), .ref (y 20), .ref (y 21), .ref (y 22), .ref (y 23), .ref (y 24)]))] H := hP
          have hD : va_D A [(y 26, .inr (5, [.ref (y 27), .ref (y 28), .ref (y 29), .int 0])), (y 27, aI V 10 (fun _ => 0)), (y 28, aI V 10 (fun _ => 0)), (y 29, aI V 10 (fun _ => 0)), (y 0, .inr (9, [.ref (y 1), .int 0, .ref (y 2), .ref (y 10), .ref (y 19), .ref (y 25), .ref (y 26), .ref (y 30), .ref (y 31), .ref (y 32), .null, .null, .int 0, .int v_5, .int (v_6 + 1)])), (y 2, .inr (1, [.int 0, .int 0, .int 0, .int 0, .int 0, .int 0, .ref (y 3), .ref (y 4), .ref (y 5), .ref (y 6), .ref (y 7), .ref (y 8), .ref (y 9), .int 0, .int 0, .int 0, .int 0, .int 0])), (y 19, .inr (4, [.ref (y 2), .ref (y 20), .ref (y 21), .ref (y 22), .ref (y 23), .ref (y 24)]))] := hD
          refine lv_if_ne (tgt := 104) hx hb dX9_century_98 (by decide) (fun c_27 => absurd c_27 (by decide)) (fun _ => ?_)
          refine lv_iinc (v := (x_8 + 1)) (lv' := [(6, .int (x_8 + 1)), (10, .int 0), (9, .int 2), (7, .int ((1103515245 * x_7) + 12345)), (8, .int (nI i_4)), (5, .int 0), (4, .int 0), (3, .int 0), (0, .ref (y 0)), (1, .int p0), (2, .int (nI N_3))]) hx hb dX9_century_101 hl (k := 4) rfl rfl (by decide) rfl (fun ls hl => ?_)
          refine lv_iinc (v := nI (i_4 + 1)) (lv' := [(8, .int (nI (i_4 + 1))), (6, .int (x_8 + 1)), (10, .int 0), (9, .int 2), (7, .int ((1103515245 * x_7) + 12345)), (5, .int 0), (4, .int 0), (3, .int 0), (0, .ref (y 0)), (1, .int p0), (2, .int (nI N_3))]) hx hb dX9_century_104 hl (k := 4) rfl (nI_add i_4 1) (by decide) rfl (fun ls hl => ?_)
          refine lv_goto (tgt := 40) hx hb dX9_century_107 (by decide) ?_
          have hP := subP (ws' := [(y 0, .inr (9, [.ref (y 1), .int 0, .ref (y 2), .ref (y 10), .ref (y 19), .ref (y 25), .ref (y 26), .ref (y 30), .ref (y 31), .ref (y 32), .null, .null, .int 0, .int v_5, .int (v_6 + 1)])), (y 2, .inr (1, [.int 0, .int 0, .int 0, .int 0, .int 0, .int 0, .ref (y 3), .ref (y 4), .ref (y 5), .ref (y 6), .ref (y 7), .ref (y 8), .ref (y 9), .int 0, .int 0, .int 0, .int 0, .int 0])), (y 19, .inr (4, [.ref (y 2), .ref (y 20), .ref (y 21), .ref (y 22), .ref (y 23), .ref (y 24)])), (y 26, .inr (5, [.ref (y 27), .ref (y 28), .ref (y 29), .int 0])), (y 27, aI V 10 (fun _ => 0)), (y 28, aI V 10 (fun _ => 0)), (y 29, aI V 10 (fun _ => 0))]) hP [4, 5, 6, 0, 1, 2, 3] rfl
          have hD := hD.sub (ws' := [(y 0, .inr (9, [.ref (y 1), .int 0, .ref (y 2), .ref (y 10), .ref (y 19), .ref (y 25), .ref (y 26), .ref (y 30), .ref (y 31), .ref (y 32), .null, .null, .int 0, .int v_5, .int (v_6 + 1)])), (y 2, .inr (1, [.int 0, .int 0, .int 0, .int 0, .int 0, .int 0, .ref (y 3), .ref (y 4), .ref (y 5), .ref (y 6), .ref (y 7), .ref (y 8), .ref (y 9), .int 0, .int 0, .int 0, .int 0, .int 0])), (y 19, .inr (4, [.ref (y 2), .ref (y 20), .ref (y 21), .ref (y 22), .ref (y 23), .ref (y 24)])), (y 26, .inr (5, [.ref (y 27), .ref (y 28), .ref (y 29), .int 0])), (y 27, aI V 10 (fun _ => 0)), (y 28, aI V 10 (fun _ => 0)), (y 29, aI V 10 (fun _ => 0))]) [4, 5, 6, 0, 1, 2, 3] rfl rfl
          exact ih_i_4 e_10 _ _ _ ⟨v_5, (v_6 + 1), ((1103515245 * x_7) + 12345), (x_8 + 1), (by omega), (cn_go hcd_i_4 (cst_l e_15 (by decide))), hP, hD, hS, lv_sub hl [0, 4, 1, 5, 6, 7, 8, 9, 10] rfl⟩
        · refine tpi (y := 3) e_16 ?_
          refine lv_istore (lv' := [(9, .int 3), (7, .int ((1103515245 * x_7) + 12345)), (8, .int (nI i_4)), (6, .int x_8), (5, .int 0), (4, .int 0), (3, .int 0), (0, .ref (y 0)), (1, .int p0), (2, .int (nI N_3))]) hx hb dX9_century_61 hl (by decide) rfl (fun ls hl => ?_)
          refine lv_iconst (v := 0) hx hb dX9_century_63 (by decide) ?_
          refine lv_istore (lv' := [(10, .int 0), (9, .int 3), (7, .int ((1103515245 * x_7) + 12345)), (8, .int (nI i_4)), (6, .int x_8), (5, .int 0), (4, .int 0), (3, .int 0), (0, .ref (y 0)), (1, .int p0), (2, .int (nI N_3))]) hx hb dX9_century_64 hl (by decide) rfl (fun ls hl => ?_)
          refine lv_iload hx hb dX9_century_66 (lv_at hl 1 rfl) ?_
          refine lv_iconst (v := 2) hx hb dX9_century_68 (by decide) ?_
          refine lv_icmp_le (tgt := 91) hx hb dX9_century_69 (by decide) (fun c_28 => absurd c_28 (by decide)) (fun _ => ?_)
          refine lv_iload hx hb dX9_century_72 (lv_at hl 2 rfl) ?_
          refine jnI (wr := [(y 0, .inr (9, [.ref (y 1), .int 0, .ref (y 2), .ref (y 10), .ref (y 19), .ref (y 25), .ref (y 26), .ref (y 30), .ref (y 31), .ref (y 32), .null, .null, .int 0, .int v_5, .int v_6])), (y 2, .inr (1, [.int 0, .int 0, .int 0, .int 0, .int 0, .int 0, .ref (y 3), .ref (y 4), .ref (y 5), .ref (y 6), .ref (y 7), .ref (y 8), .ref (y 9), .int 0, .int 0, .int 0, .int 0, .int 0])), (y 19, .inr (4, [.ref (y 2), .ref (y 20), .ref (y 21), .ref (y 22), .ref (y 23), .ref (y 24)])), (y 26, .inr (5, [.ref (y 27), .ref (y 28), .ref (y 29), .int 0])), (y 27, aI V 10 (fun _ => 0)), (y 28, aI V 10 (fun _ => 0)), (y 29, aI V 10 (fun _ => 0))]) (rnS (rest := []) ⟨hx, hb, hml, hown, hg⟩ (c_X9_drawnFrom_0 l V (((1103515245 * x_7) + 12345))) mt_X9_drawnFrom q_4_10 ⟨Nat.le_of_ble_eq_true rfl, Nat.le_of_ble_eq_true rfl⟩ hK hP hD hS hA hE [] rfl rfl rfl hl.1 rfl (Nat.le_of_ble_eq_true rfl) dX9_century_74 ⟨Nat.le_of_ble_eq_true rfl, Nat.le_of_ble_eq_true rfl⟩) hP hD hS hA [] [0, 1, 2, 3, 4, 5, 6] rfl rfl rfl (by decide) (fun r_29 w H locs hw hP hD hS => ?_)
          obtain ⟨rfl, rfl⟩ := hw
          have hP : va_P V.1 vwCl [(y 0, .inr (9, [.ref (y 1), .int 0, .ref (y 2), .ref (y 10), .ref (y 19), .ref (y 25), .ref (y 26), .ref (y 30), .ref (y 31), .ref (y 32), .null, .null, .int 0, .int v_5, .int v_6])), (y 2, .inr (1, [.int 0, .int 0, .int 0, .int 0, .int 0, .int 0, .ref (y 3), .ref (y 4), .ref (y 5), .ref (y 6), .ref (y 7), .ref (y 8), .ref (y 9), .int 0, .int 0, .int 0, .int 0, .int 0])), (y 19, .inr (4, [.ref (y 2), .ref (y 20), .ref (y 21), .ref (y 22), .ref (y 23), .ref (y 24)])), (y 26, .inr (5, [.ref (y 27), .ref (y 28), .ref (y 29), .int 0])), (y 27, aI V 10 (fun _ => 0)), (y 28, aI V 10 (fun _ => 0)), (y 29, aI V 10 (fun _ => 0))] H := hP
          have hD : va_D A [(y 0, .inr (9, [.ref (y 1), .int 0, .ref (y 2), .ref (y 10), .ref (y 19), .ref (y 25), .ref (y 26), .ref (y 30), .ref (y 31), .ref (y 32), .null, .null, .int 0, .int v_5, .int v_6])), (y 2, .inr (1, [.int 0, .int 0, .int 0, .int 0, .int 0, .int 0, .ref (y 3), .ref (y 4), .ref (y 5), .ref (y 6), .ref (y 7), .ref (y 8), .ref (y 9), .int 0, .int 0, .int 0, .int 0, .int 0])), (y 19, .inr (4, [.ref (y 2), .ref (y 20), .ref (y 21), .ref (y 22), .ref (y 23), .ref (y 24)])), (y 26, .inr (5, [.ref (y 27), .ref (y 28), .ref (y 29), .int 0])), (y 27, aI V 10 (fun _ => 0)), (y 28, aI V 10 (fun _ => 0)), (y 29, aI V 10 (fun _ => 0))] := hD
          refine lv_istore (lv' := [(7, .int ((1103515245 * ((1103515245 * x_7) + 12345)) + 12345)), (10, .int 0), (9, .int 3), (8, .int (nI i_4)), (6, .int x_8), (5, .int 0), (4, .int 0), (3, .int 0), (0, .ref (y 0)), (1, .int p0), (2, .int (nI N_3))]) hx hb dX9_century_77 hl (by decide) rfl (fun ls hl => ?_)
          refine lv_iload hx hb dX9_century_79 (lv_at hl 2 rfl) ?_
          refine lv_iload hx hb dX9_century_81 (lv_at hl 0 rfl) ?_
          refine lv_bipush (v := 16) hx hb dX9_century_83 (by decide) ?_
          refine lv_iushr (v := ((((1103515245 * ((1103515245 * x_7) + 12345)) + 12345).toUInt32 >>> ((16 : Int32).toUInt32 &&& Int32.toUInt32 31)).toInt32)) hx hb dX9_century_85 rfl ?_
          refine jnI (wr := [(y 0, .inr (9, [.ref (y 1), .int 0, .ref (y 2), .ref (y 10), .ref (y 19), .ref (y 25), .ref (y 26), .ref (y 30), .ref (y 31), .ref (y 32), .null, .null, .int 0, .int v_5, .int v_6])), (y 2, .inr (1, [.int 0, .int 0, .int 0, .int 0, .int 0, .int 0, .ref (y 3), .ref (y 4), .ref (y 5), .ref (y 6), .ref (y 7), .ref (y 8), .ref (y 9), .int 0, .int 0, .int 0, .int 0, .int 0])), (y 19, .inr (4, [.ref (y 2), .ref (y 20), .ref (y 21), .ref (y 22), .ref (y 23), .ref (y 24)])), (y 26, .inr (5, [.ref (y 27), .ref (y 28), .ref (y 29), .int 0])), (y 27, aI V 10 (fun _ => 0)), (y 28, aI V 10 (fun _ => 0)), (y 29, aI V 10 (fun _ => 0))]) (rnS (rest := []) ⟨hx, hb, hml, hown, hg⟩ (c_X9_drawnDeed_0 l V (((((1103515245 * ((1103515245 * x_7) + 12345)) + 12345).toUInt32 >>> ((16 : Int32).toUInt32 &&& Int32.toUInt32 31)).toInt32))) mt_X9_drawnDeed q_4_14 ⟨Nat.le_of_ble_eq_true rfl, Nat.le_of_ble_eq_true rfl⟩ hK hP hD hS hA hE [] rfl rfl rfl hl.1 rfl (Nat.le_of_ble_eq_true rfl) dX9_century_86 ⟨Nat.le_of_ble_eq_true rfl, Nat.le_of_ble_eq_true rfl⟩) hP hD hS hA [] [0, 1, 2, 3, 4, 5, 6] rfl rfl rfl (by decide) (fun r_30 w H locs hw hP hD hS => ?_)
          obtain ⟨rfl, rfl⟩ := hw
          have hP : va_P V.1 vwCl [(y 0, .inr (9, [.ref (y 1), .int 0, .ref (y 2), .ref (y 10), .ref (y 19), .ref (y 25), .ref (y 26), .ref (y 30), .ref (y 31), .ref (y 32), .null, .null, .int 0, .int v_5, .int v_6])), (y 2, .inr (1, [.int 0, .int 0, .int 0, .int 0, .int 0, .int 0, .ref (y 3), .ref (y 4), .ref (y 5), .ref (y 6), .ref (y 7), .ref (y 8), .ref (y 9), .int 0, .int 0, .int 0, .int 0, .int 0])), (y 19, .inr (4, [.ref (y 2), .ref (y 20), .ref (y 21), .ref (y 22), .ref (y 23), .ref (y 24)])), (y 26, .inr (5, [.ref (y 27), .ref (y 28), .ref (y 29), .int 0])), (y 27, aI V 10 (fun _ => 0)), (y 28, aI V 10 (fun _ => 0)), (y 29, aI V 10 (fun _ => 0))] H := hP
          have hD : va_D A [(y 0, .inr (9, [.ref (y 1), .int 0, .ref (y 2), .ref (y 10), .ref (y 19), .ref (y 25), .ref (y 26), .ref (y 30), .ref (y 31), .ref (y 32), .null, .null, .int 0, .int v_5, .int v_6])), (y 2, .inr (1, [.int 0, .int 0, .int 0, .int 0, .int 0, .int 0, .ref (y 3), .ref (y 4), .ref (y 5), .ref (y 6), .ref (y 7), .ref (y 8), .ref (y 9), .int 0, .int 0, .int 0, .int 0, .int 0])), (y 19, .inr (4, [.ref (y 2), .ref (y 20), .ref (y 21), .ref (y 22), .ref (y 23), .ref (y 24)])), (y 26, .inr (5, [.ref (y 27), .ref (y 28), .ref (y 29), .int 0])), (y 27, aI V 10 (fun _ => 0)), (y 28, aI V 10 (fun _ => 0)), (y 29, aI V 10 (fun _ => 0))] := hD
          rcases rem4 ((1103515245 * ((1103515245 * x_7) + 12345)) + 12345) with e_31 | e_32 | e_33 | e_34
          · refine tpi (y := 0) e_31 ?_
            refine lv_istore (lv' := [(10, .int 0), (7, .int ((1103515245 * ((1103515245 * x_7) + 12345)) + 12345)), (9, .int 3), (8, .int (nI i_4)), (6, .int x_8), (5, .int 0), (4, .int 0), (3, .int 0), (0, .ref (y 0)), (1, .int p0), (2, .int (nI N_3))]) hx hb dX9_century_89 hl (by decide) rfl (fun ls hl => ?_)
            refine lv_aload_n hx hb dX9_century_91 rfl (lv_at hl 8 rfl) ?_
            refine lv_iload hx hb dX9_century_92 (lv_at hl 0 rfl) ?_
            refine lv_i2l (v := 0) hx hb dX9_century_94 (by decide +kernel) ?_
            refine jnI (wr := [(y 26, .inr (5, [.ref (y 27), .ref (y 28), .ref (y 29), .int 0])), (y 27, aI V 10 (fun _ => 0)), (y 28, aI V 10 (fun _ => 0)), (y 29, aI V 10 (fun _ => 0))]) (rnV (rest := []) ⟨hx, hb, hml, hown, hg⟩ (c_X9_tryDeed_2 l V y v_5 v_6) mt_X9_tryDeed q_3_185 ⟨Nat.le_of_ble_eq_true rfl, Nat.le_of_ble_eq_true rfl⟩ hK hP hD hS hA hE [0, 1, 2] rfl rfl 0 rfl rfl rfl rfl hl.1 rfl (Nat.le_of_ble_eq_true rfl) dX9_century_95 ⟨Nat.le_of_ble_eq_true rfl, Nat.le_of_ble_eq_true rfl⟩) hP hD hS hA [0, 1, 2] [3, 4, 5, 6] rfl rfl rfl (by decide) (fun r_35 w H locs hw hP hD hS => ?_)
            obtain ⟨rfl, rfl⟩ := hw
            have hP : va_P V.1 vwCl [(y 26, .inr (5, [.ref (y 27), .ref (y 28), .ref (y 29), .int 0])), (y 27, aI V 10 (fun _ => 0)), (y 28, aI V 10 (fun _ => 0)), (y 29, aI V 10 (fun _ => 0)), (y 0, .inr (9, [.ref (y 1), .int 0, .ref (y 2), .ref (y 10), .ref (y 19), .ref (y 25), .ref (y 26), .ref (y 30), .ref (y 31), .ref (y 32), .null, .null, .int 0, .int v_5, .int (v_6 + 1)])), (y 2, .inr (1, [.int 0, .int 0, .int 0, .int 0, .int 0, .int 0, .ref (y 3), .ref (y 4), .ref (y 5), .ref (y 6), .ref (y 7), .ref (y 8), .ref (y 9), .int 0, .int 0, .int 0, .int 0, .int 0])), (y 19, .inr (4, [.ref (y 2), .ref (y 20), .ref (y 21), .ref (y 22), .ref (y 23), .ref (y 24)]))] H := hP
            have hD : va_D A [(y 26, .inr (5, [.ref (y 27), .ref (y 28), .ref (y 29), .int 0])), (y 27, aI V 10 (fun _ => 0)), (y 28, aI V 10 (fun _ => 0)), (y 29, aI V 10 (fun _ => 0)), (y 0, .inr (9, [.ref (y 1), .int 0, .ref (y 2), .ref (y 10), .ref (y 19), .ref (y 25), .ref (y 26), .ref (y 30), .ref (y 31), .ref (y 32), .null, .null, .int 0, .int v_5, .int (v_6 + 1)])), (y 2, .inr (1, [.int 0, .int 0, .int 0, .int 0, .int 0, .int 0, .ref (y 3), .ref (y 4), .ref (y 5), .ref (y 6), .ref (y 7), .ref (y 8), .ref (y 9), .int 0, .int 0, .int 0, .int 0, .int 0])), (y 19, .inr (4, [.ref (y 2), .ref (y 20), .ref (y 21), .ref (y 22), .ref (y 23), .ref (y 24)]))] := hD
            refine lv_if_ne (tgt := 104) hx hb dX9_century_98 (by decide) (fun c_36 => absurd c_36 (by decide)) (fun _ => ?_)
            refine lv_iinc (v := (x_8 + 1)) (lv' := [(6, .int (x_8 + 1)), (10, .int 0), (7, .int ((1103515245 * ((1103515245 * x_7) + 12345)) + 12345)), (9, .int 3), (8, .int (nI i_4)), (5, .int 0), (4, .int 0), (3, .int 0), (0, .ref (y 0)), (1, .int p0), (2, .int (nI N_3))]) hx hb dX9_century_101 hl (k := 4) rfl rfl (by decide) rfl (fun ls hl => ?_)
            refine lv_iinc (v := nI (i_4 + 1)) (lv' := [(8, .int (nI (i_4 + 1))), (6, .int (x_8 + 1)), (10, .int 0), (7, .int ((1103515245 * ((1103515245 * x_7) + 12345)) + 12345)), (9, .int 3), (5, .int 0), (4, .int 0), (3, .int 0), (0, .ref (y 0)), (1, .int p0), (2, .int (nI N_3))]) hx hb dX9_century_104 hl (k := 4) rfl (nI_add i_4 1) (by decide) rfl (fun ls hl => ?_)
            refine lv_goto (tgt := 40) hx hb dX9_century_107 (by decide) ?_
            have hP := subP (ws' := [(y 0, .inr (9, [.ref (y 1), .int 0, .ref (y 2), .ref (y 10), .ref (y 19), .ref (y 25), .ref (y 26), .ref (y 30), .ref (y 31), .ref (y 32), .null, .null, .int 0, .int v_5, .int (v_6 + 1)])), (y 2, .inr (1, [.int 0, .int 0, .int 0, .int 0, .int 0, .int 0, .ref (y 3), .ref (y 4), .ref (y 5), .ref (y 6), .ref (y 7), .ref (y 8), .ref (y 9), .int 0, .int 0, .int 0, .int 0, .int 0])), (y 19, .inr (4, [.ref (y 2), .ref (y 20), .ref (y 21), .ref (y 22), .ref (y 23), .ref (y 24)])), (y 26, .inr (5, [.ref (y 27), .ref (y 28), .ref (y 29), .int 0])), (y 27, aI V 10 (fun _ => 0)), (y 28, aI V 10 (fun _ => 0)), (y 29, aI V 10 (fun _ => 0))]) hP [4, 5, 6, 0, 1, 2, 3] rfl
            have hD := hD.sub (ws' := [(y 0, .inr (9, [.ref (y 1), .int 0, .ref (y 2), .ref (y 10), .ref (y 19), .ref (y 25), .ref (y 26), .ref (y 30), .ref (y 31), .ref (y 32), .null, .null, .int 0, .int v_5, .int (v_6 + 1)])), (y 2, .inr (1, [.int 0, .int 0, .int 0, .int 0, .int 0, .int 0, .ref (y 3), .ref (y 4), .ref (y 5), .ref (y 6), .ref (y 7), .ref (y 8), .ref (y 9), .int 0, .int 0, .int 0, .int 0, .int 0])), (y 19, .inr (4, [.ref (y 2), .ref (y 20), .ref (y 21), .ref (y 22), .ref (y 23), .ref (y 24)])), (y 26, .inr (5, [.ref (y 27), .ref (y 28), .ref (y 29), .int 0])), (y 27, aI V 10 (fun _ => 0)), (y 28, aI V 10 (fun _ => 0)), (y 29, aI V 10 (fun _ => 0))]) [4, 5, 6, 0, 1, 2, 3] rfl rfl
            exact ih_i_4 e_10 _ _ _ ⟨v_5, (v_6 + 1), ((1103515245 * ((1103515245 * x_7) + 12345)) + 12345), (x_8 + 1), (by omega), (cn_go hcd_i_4 (cst_30 e_16 e_31)), hP, hD, hS, lv_sub hl [0, 3, 1, 5, 6, 7, 8, 9, 10] rfl⟩
          · refine tpi (y := 1) e_32 ?_
            refine lv_istore (lv' := [(10, .int 1), (7, .int ((1103515245 * ((1103515245 * x_7) + 12345)) + 12345)), (9, .int 3), (8, .int (nI i_4)), (6, .int x_8), (5, .int 0), (4, .int 0), (3, .int 0), (0, .ref (y 0)), (1, .int p0), (2, .int (nI N_3))]) hx hb dX9_century_89 hl (by decide) rfl (fun ls hl => ?_)
            refine lv_aload_n hx hb dX9_century_91 rfl (lv_at hl 8 rfl) ?_
            refine lv_iload hx hb dX9_century_92 (lv_at hl 0 rfl) ?_
            refine lv_i2l (v := 1) hx hb dX9_century_94 (by decide +kernel) ?_
            refine jnI (wr := [(y 19, .inr (4, [.ref (y 2), .ref (y 20), .ref (y 21), .ref (y 22), .ref (y 23), .ref (y 24)])), (y 26, .inr (5, [.ref (y 27), .ref (y 28), .ref (y 29), .int 0])), (y 27, aI V 10 (fun _ => 0)), (y 28, aI V 10 (fun _ => 0)), (y 29, aI V 10 (fun _ => 0))]) (rnV (rest := []) ⟨hx, hb, hml, hown, hg⟩ (c_X9_tryDeed_3 l V y v_5 v_6) mt_X9_tryDeed q_3_185 ⟨Nat.le_of_ble_eq_true rfl, Nat.le_of_ble_eq_true rfl⟩ hK hP hD hS hA hE [0, 1] rfl rfl 0 rfl rfl rfl rfl hl.1 rfl (Nat.le_of_ble_eq_true rfl) dX9_century_95 ⟨Nat.le_of_ble_eq_true rfl, Nat.le_of_ble_eq_true rfl⟩) hP hD hS hA [0, 1] [2, 3, 4, 5, 6] rfl rfl rfl (by decide) (fun r_37 w H locs hw hP hD hS => ?_)
            obtain ⟨rfl, rfl⟩ := hw
            have hP : va_P V.1 vwCl [(y 19, .inr (4, [.ref (y 2), .ref (y 20), .ref (y 21), .ref (y 22), .ref (y 23), .ref (y 24)])), (y 26, .inr (5, [.ref (y 27), .ref (y 28), .ref (y 29), .int 0])), (y 27, aI V 10 (fun _ => 0)), (y 28, aI V 10 (fun _ => 0)), (y 29, aI V 10 (fun _ => 0)), (y 0, .inr (9, [.ref (y 1), .int 0, .ref (y 2), .ref (y 10), .ref (y 19), .ref (y 25), .ref (y 26), .ref (y 30), .ref (y 31), .ref (y 32), .null, .null, .int 0, .int v_5, .int v_6])), (y 2, .inr (1, [.int 0, .int 0, .int 0, .int 0, .int 0, .int 0, .ref (y 3), .ref (y 4), .ref (y 5), .ref (y 6), .ref (y 7), .ref (y 8), .ref (y 9), .int 0, .int 0, .int 0, .int 0, .int 0]))] H := hP
            have hD : va_D A [(y 19, .inr (4, [.ref (y 2), .ref (y 20), .ref (y 21), .ref (y 22), .ref (y 23), .ref (y 24)])), (y 26, .inr (5, [.ref (y 27), .ref (y 28), .ref (y 29), .int 0])), (y 27, aI V 10 (fun _ => 0)), (y 28, aI V 10 (fun _ => 0)), (y 29, aI V 10 (fun _ => 0)), (y 0, .inr (9, [.ref (y 1), .int 0, .ref (y 2), .ref (y 10), .ref (y 19), .ref (y 25), .ref (y 26), .ref (y 30), .ref (y 31), .ref (y 32), .null, .null, .int 0, .int v_5, .int v_6])), (y 2, .inr (1, [.int 0, .int 0, .int 0, .int 0, .int 0, .int 0, .ref (y 3), .ref (y 4), .ref (y 5), .ref (y 6), .ref (y 7), .ref (y 8), .ref (y 9), .int 0, .int 0, .int 0, .int 0, .int 0]))] := hD
            refine lv_if_ne (tgt := 104) hx hb dX9_century_98 (by decide) (fun _ => ?_) (fun c_38 => absurd c_38 (by decide))
            refine lv_iinc (v := nI (i_4 + 1)) (lv' := [(8, .int (nI (i_4 + 1))), (10, .int 1), (7, .int ((1103515245 * ((1103515245 * x_7) + 12345)) + 12345)), (9, .int 3), (6, .int x_8), (5, .int 0), (4, .int 0), (3, .int 0), (0, .ref (y 0)), (1, .int p0), (2, .int (nI N_3))]) hx hb dX9_century_104 hl (k := 3) rfl (nI_add i_4 1) (by decide) rfl (fun ls hl => ?_)
            refine lv_goto (tgt := 40) hx hb dX9_century_107 (by decide) ?_
            have hP := subP (ws' := [(y 0, .inr (9, [.ref (y 1), .int 0, .ref (y 2), .ref (y 10), .ref (y 19), .ref (y 25), .ref (y 26), .ref (y 30), .ref (y 31), .ref (y 32), .null, .null, .int 0, .int v_5, .int v_6])), (y 2, .inr (1, [.int 0, .int 0, .int 0, .int 0, .int 0, .int 0, .ref (y 3), .ref (y 4), .ref (y 5), .ref (y 6), .ref (y 7), .ref (y 8), .ref (y 9), .int 0, .int 0, .int 0, .int 0, .int 0])), (y 19, .inr (4, [.ref (y 2), .ref (y 20), .ref (y 21), .ref (y 22), .ref (y 23), .ref (y 24)])), (y 26, .inr (5, [.ref (y 27), .ref (y 28), .ref (y 29), .int 0])), (y 27, aI V 10 (fun _ => 0)), (y 28, aI V 10 (fun _ => 0)), (y 29, aI V 10 (fun _ => 0))]) hP [5, 6, 0, 1, 2, 3, 4] rfl
            have hD := hD.sub (ws' := [(y 0, .inr (9, [.ref (y 1), .int 0, .ref (y 2), .ref (y 10), .ref (y 19), .ref (y 25), .ref (y 26), .ref (y 30), .ref (y 31), .ref (y 32), .null, .null, .int 0, .int v_5, .int v_6])), (y 2, .inr (1, [.int 0, .int 0, .int 0, .int 0, .int 0, .int 0, .ref (y 3), .ref (y 4), .ref (y 5), .ref (y 6), .ref (y 7), .ref (y 8), .ref (y 9), .int 0, .int 0, .int 0, .int 0, .int 0])), (y 19, .inr (4, [.ref (y 2), .ref (y 20), .ref (y 21), .ref (y 22), .ref (y 23), .ref (y 24)])), (y 26, .inr (5, [.ref (y 27), .ref (y 28), .ref (y 29), .int 0])), (y 27, aI V 10 (fun _ => 0)), (y 28, aI V 10 (fun _ => 0)), (y 29, aI V 10 (fun _ => 0))]) [5, 6, 0, 1, 2, 3, 4] rfl rfl
            exact ih_i_4 e_10 _ _ _ ⟨v_5, v_6, ((1103515245 * ((1103515245 * x_7) + 12345)) + 12345), x_8, (by omega), (cn_go hcd_i_4 (cst_3n e_16 e_32 (by decide))), hP, hD, hS, lv_sub hl [0, 2, 4, 5, 6, 7, 8, 9, 10] rfl⟩
          · refine tpi (y := 2) e_33 ?_
            refine lv_istore (lv' := [(10, .int 2), (7, .int ((1103515245 * ((1103515245 * x_7) + 12345)) + 12345)), (9, .int 3), (8, .int (nI i_4)), (6, .int x_8), (5, .int 0), (4, .int 0), (3, .int 0), (0, .ref (y 0)), (1, .int p0), (2, .int (nI N_3))]) hx hb dX9_century_89 hl (by decide) rfl (fun ls hl => ?_)
            refine lv_aload_n hx hb dX9_century_91 rfl (lv_at hl 8 rfl) ?_
            refine lv_iload hx hb dX9_century_92 (lv_at hl 0 rfl) ?_
            refine lv_i2l (v := 2) hx hb dX9_century_94 (by decide +kernel) ?_
            refine jnI (wr := [(y 19, .inr (4, [.ref (y 2), .ref (y 20), .ref (y 21), .ref (y 22), .ref (y 23), .ref (y 24)])), (y 26, .inr (5, [.ref (y 27), .ref (y 28), .ref (y 29), .int 0])), (y 27, aI V 10 (fun _ => 0)), (y 28, aI V 10 (fun _ => 0)), (y 29, aI V 10 (fun _ => 0))]) (rnV (rest := []) ⟨hx, hb, hml, hown, hg⟩ (c_X9_tryDeed_4 l V y v_5 v_6) mt_X9_tryDeed q_3_185 ⟨Nat.le_of_ble_eq_true rfl, Nat.le_of_ble_eq_true rfl⟩ hK hP hD hS hA hE [0, 1] rfl rfl 0 rfl rfl rfl rfl hl.1 rfl (Nat.le_of_ble_eq_true rfl) dX9_century_95 ⟨Nat.le_of_ble_eq_true rfl, Nat.le_of_ble_eq_true rfl⟩) hP hD hS hA [0, 1] [2, 3, 4, 5, 6] rfl rfl rfl (by decide) (fun r_39 w H locs hw hP hD hS => ?_)
            obtain ⟨rfl, rfl⟩ := hw
            have hP : va_P V.1 vwCl [(y 19, .inr (4, [.ref (y 2), .ref (y 20), .ref (y 21), .ref (y 22), .ref (y 23), .ref (y 24)])), (y 26, .inr (5, [.ref (y 27), .ref (y 28), .ref (y 29), .int 0])), (y 27, aI V 10 (fun _ => 0)), (y 28, aI V 10 (fun _ => 0)), (y 29, aI V 10 (fun _ => 0)), (y 0, .inr (9, [.ref (y 1), .int 0, .ref (y 2), .ref (y 10), .ref (y 19), .ref (y 25), .ref (y 26), .ref (y 30), .ref (y 31), .ref (y 32), .null, .null, .int 0, .int v_5, .int v_6])), (y 2, .inr (1, [.int 0, .int 0, .int 0, .int 0, .int 0, .int 0, .ref (y 3), .ref (y 4), .ref (y 5), .ref (y 6), .ref (y 7), .ref (y 8), .ref (y 9), .int 0, .int 0, .int 0, .int 0, .int 0]))] H := hP
            have hD : va_D A [(y 19, .inr (4, [.ref (y 2), .ref (y 20), .ref (y 21), .ref (y 22), .ref (y 23), .ref (y 24)])), (y 26, .inr (5, [.ref (y 27), .ref (y 28), .ref (y 29), .int 0])), (y 27, aI V 10 (fun _ => 0)), (y 28, aI V 10 (fun _ => 0)), (y 29, aI V 10 (fun _ => 0)), (y 0, .inr (9, [.ref (y 1), .int 0, .ref (y 2), .ref (y 10), .ref (y 19), .ref (y 25), .ref (y 26), .ref (y 30), .ref (y 31), .ref (y 32), .null, .null, .int 0, .int v_5, .int v_6])), (y 2, .inr (1, [.int 0, .int 0, .int 0, .int 0, .int 0, .int 0, .ref (y 3), .ref (y 4), .ref (y 5), .ref (y 6), .ref (y 7), .ref (y 8), .ref (y 9), .int 0, .int 0, .int 0, .int 0, .int 0]))] := hD
            refine lv_if_ne (tgt := 104) hx hb dX9_century_98 (by decide) (fun _ => ?_) (fun c_40 => absurd c_40 (by decide))
            refine lv_iinc (v := nI (i_4 + 1)) (lv' := [(8, .int (nI (i_4 + 1))), (10, .int 2), (7, .int ((1103515245 * ((1103515245 * x_7) + 12345)) + 12345)), (9, .int 3), (6, .int x_8), (5, .int 0), (4, .int 0), (3, .int 0), (0, .ref (y 0)), (1, .int p0), (2, .int (nI N_3))]) hx hb dX9_century_104 hl (k := 3) rfl (nI_add i_4 1) (by decide) rfl (fun ls hl => ?_)
            refine lv_goto (tgt := 40) hx hb dX9_century_107 (by decide) ?_
            have hP := subP (ws' := [(y 0, .inr (9, [.ref (y 1), .int 0, .ref (y 2), .ref (y 10), .ref (y 19), .ref (y 25), .ref (y 26), .ref (y 30), .ref (y 31), .ref (y 32), .null, .null, .int 0, .int v_5, .int v_6])), (y 2, .inr (1, [.int 0, .int 0, .int 0, .int 0, .int 0, .int 0, .ref (y 3), .ref (y 4), .ref (y 5), .ref (y 6), .ref (y 7), .ref (y 8), .ref (y 9), .int 0, .int 0, .int 0, .int 0, .int 0])), (y 19, .inr (4, [.ref (y 2), .ref (y 20), .ref (y 21), .ref (y 22), .ref (y 23), .ref (y 24)])), (y 26, .inr (5, [.ref (y 27), .ref (y 28), .ref (y 29), .int 0])), (y 27, aI V 10 (fun _ => 0)), (y 28, aI V 10 (fun _ => 0)), (y 29, aI V 10 (fun _ => 0))]) hP [5, 6, 0, 1, 2, 3, 4] rfl
            have hD := hD.sub (ws' := [(y 0, .inr (9, [.ref (y 1), .int 0, .ref (y 2), .ref (y 10), .ref (y 19), .ref (y 25), .ref (y 26), .ref (y 30), .ref (y 31), .ref (y 32), .null, .null, .int 0, .int v_5, .int v_6])), (y 2, .inr (1, [.int 0, .int 0, .int 0, .int 0, .int 0, .int 0, .ref (y 3), .ref (y 4), .ref (y 5), .ref (y 6), .ref (y 7), .ref (y 8), .ref (y 9), .int 0, .int 0, .int 0, .int 0, .int 0])), (y 19, .inr (4, [.ref (y 2), .ref (y 20), .ref (y 21), .ref (y 22), .ref (y 23), .ref (y 24)])), (y 26, .inr (5, [.ref (y 27), .ref (y 28), .ref (y 29), .int 0])), (y 27, aI V 10 (fun _ => 0)), (y 28, aI V 10 (fun _ => 0)), (y 29, aI V 10 (fun _ => 0))]) [5, 6, 0, 1, 2, 3, 4] rfl rfl
            exact ih_i_4 e_10 _ _ _ ⟨v_5, v_6, ((1103515245 * ((1103515245 * x_7) + 12345)) + 12345), x_8, (by omega), (cn_go hcd_i_4 (cst_3n e_16 e_33 (by decide))), hP, hD, hS, lv_sub hl [0, 2, 4, 5, 6, 7, 8, 9, 10] rfl⟩
          · refine tpi (y := 3) e_34 ?_
            refine lv_istore (lv' := [(10, .int 3), (7, .int ((1103515245 * ((1103515245 * x_7) + 12345)) + 12345)), (9, .int 3), (8, .int (nI i_4)), (6, .int x_8), (5, .int 0), (4, .int 0), (3, .int 0), (0, .ref (y 0)), (1, .int p0), (2, .int (nI N_3))]) hx hb dX9_century_89 hl (by decide) rfl (fun ls hl => ?_)
            refine lv_aload_n hx hb dX9_century_91 rfl (lv_at hl 8 rfl) ?_
            refine lv_iload hx hb dX9_century_92 (lv_at hl 0 rfl) ?_
            refine lv_i2l (v := 3) hx hb dX9_century_94 (by decide +kernel) ?_
            refine jnI (wr := [(y 19, .inr (4, [.ref (y 2), .ref (y 20), .ref (y 21), .ref (y 22), .ref (y 23), .ref (y 24)])), (y 26, .inr (5, [.ref (y 27), .ref (y 28), .ref (y 29), .int 0])), (y 27, aI V 10 (fun _ => 0)), (y 28, aI V 10 (fun _ => 0)), (y 29, aI V 10 (fun _ => 0))]) (rnV (rest := []) ⟨hx, hb, hml, hown, hg⟩ (c_X9_tryDeed_5 l V y v_5 v_6) mt_X9_tryDeed q_3_185 ⟨Nat.le_of_ble_eq_true rfl, Nat.le_of_ble_eq_true rfl⟩ hK hP hD hS hA hE [0, 1] rfl rfl 0 rfl rfl rfl rfl hl.1 rfl (Nat.le_of_ble_eq_true rfl) dX9_century_95 ⟨Nat.le_of_ble_eq_true rfl, Nat.le_of_ble_eq_true rfl⟩) hP hD hS hA [0, 1] [2, 3, 4, 5, 6] rfl rfl rfl (by decide) (fun r_41 w H locs hw hP hD hS => ?_)
            obtain ⟨rfl, rfl⟩ := hw
            have hP : va_P V.1 vwCl [(y 19, .inr (4, [.ref (y 2), .ref (y 20), .ref (y 21), .ref (y 22), .ref (y 23), .ref (y 24)])), (y 26, .inr (5, [.ref (y 27), .ref (y 28), .ref (y 29), .int 0])), (y 27, aI V 10 (fun _ => 0)), (y 28, aI V 10 (fun _ => 0)), (y 29, aI V 10 (fun _ => 0)), (y 0, .inr (9, [.ref (y 1), .int 0, .ref (y 2), .ref (y 10), .ref (y 19), .ref (y 25), .ref (y 26), .ref (y 30), .ref (y 31), .ref (y 32), .null, .null, .int 0, .int v_5, .int v_6])), (y 2, .inr (1, [.int 0, .int 0, .int 0, .int 0, .int 0, .int 0, .ref (y 3), .ref (y 4), .ref (y 5), .ref (y 6), .ref (y 7), .ref (y 8), .ref (y 9), .int 0, .int 0, .int 0, .int 0, .int 0]))] H := hP
            have hD : va_D A [(y 19, .inr (4, [.ref (y 2), .ref (y 20), .ref (y 21), .ref (y 22), .ref (y 23), .ref (y 24)])), (y 26, .inr (5, [.ref (y 27), .ref (y 28), .ref (y 29), .int 0])), (y 27, aI V 10 (fun _ => 0)), (y 28, aI V 10 (fun _ => 0)), (y 29, aI V 10 (fun _ => 0)), (y 0, .inr (9, [.ref (y 1), .int 0, .ref (y 2), .ref (y 10), .ref (y 19), .ref (y 25), .ref (y 26), .ref (y 30), .ref (y 31), .ref (y 32), .null, .null, .int 0, .int v_5, .int v_6])), (y 2, .inr (1, [.int 0, .int 0, .int 0, .int 0, .int 0, .int 0, .ref (y 3), .ref (y 4), .ref (y 5), .ref (y 6), .ref (y 7), .ref (y 8), .ref (y 9), .int 0, .int 0, .int 0, .int 0, .int 0]))] := hD
            refine lv_if_ne (tgt := 104) hx hb dX9_century_98 (by decide) (fun _ => ?_) (fun c_42 => absurd c_42 (by decide))
            refine lv_iinc (v := nI (i_4 + 1)) (lv' := [(8, .int (nI (i_4 + 1))), (10, .int 3), (7, .int ((1103515245 * ((1103515245 * x_7) + 12345)) + 12345)), (9, .int 3), (6, .int x_8), (5, .int 0), (4, .int 0), (3, .int 0), (0, .ref (y 0)), (1, .int p0), (2, .int (nI N_3))]) hx hb dX9_century_104 hl (k := 3) rfl (nI_add i_4 1) (by decide) rfl (fun ls hl => ?_)
            refine lv_goto (tgt := 40) hx hb dX9_century_107 (by decide) ?_
            have hP := subP (ws' := [(y 0, .inr (9, [.ref (y 1), .int 0, .ref (y 2), .ref (y 10), .ref (y 19), .ref (y 25), .ref (y 26), .ref (y 30), .ref (y 31), .ref (y 32), .null, .null, .int 0, .int v_5, .int v_6])), (y 2, .inr (1, [.int 0, .int 0, .int 0, .int 0, .int 0, .int 0, .ref (y 3), .ref (y 4), .ref (y 5), .ref (y 6), .ref (y 7), .ref (y 8), .ref (y 9), .int 0, .int 0, .int 0, .int 0, .int 0])), (y 19, .inr (4, [.ref (y 2), .ref (y 20), .ref (y 21), .ref (y 22), .ref (y 23), .ref (y 24)])), (y 26, .inr (5, [.ref (y 27), .ref (y 28), .ref (y 29), .int 0])), (y 27, aI V 10 (fun _ => 0)), (y 28, aI V 10 (fun _ => 0)), (y 29, aI V 10 (fun _ => 0))]) hP [5, 6, 0, 1, 2, 3, 4] rfl
            have hD := hD.sub (ws' := [(y 0, .inr (9, [.ref (y 1), .int 0, .ref (y 2), .ref (y 10), .ref (y 19), .ref (y 25), .ref (y 26), .ref (y 30), .ref (y 31), .ref (y 32), .null, .null, .int 0, .int v_5, .int v_6])), (y 2, .inr (1, [.int 0, .int 0, .int 0, .int 0, .int 0, .int 0, .ref (y 3), .ref (y 4), .ref (y 5), .ref (y 6), .ref (y 7), .ref (y 8), .ref (y 9), .int 0, .int 0, .int 0, .int 0, .int 0])), (y 19, .inr (4, [.ref (y 2), .ref (y 20), .ref (y 21), .ref (y 22), .ref (y 23), .ref (y 24)])), (y 26, .inr (5, [.ref (y 27), .ref (y 28), .ref (y 29), .int 0])), (y 27, aI V 10 (fun _ => 0)), (y 28, aI V 10 (fun _ => 0)), (y 29, aI V 10 (fun _ => 0))]) [5, 6, 0, 1, 2, 3, 4] rfl rfl
            exact ih_i_4 e_10 _ _ _ ⟨v_5, v_6, ((1103515245 * ((1103515245 * x_7) + 12345)) + 12345), x_8, (by omega), (cn_go hcd_i_4 (cst_3n e_16 e_34 (by decide))), hP, hD, hS, lv_sub hl [0, 2, 4, 5, 6, 7, 8, 9, 10] rfl⟩
        · refine tpi (y := 4) e_17 ?_
          refine lv_istore (lv' := [(9, .int 4), (7, .int ((1103515245 * x_7) + 12345)), (8, .int (nI i_4)), (6, .int x_8), (5, .int 0), (4, .int 0), (3, .int 0), (0, .ref (y 0)), (1, .int p0), (2, .int (nI N_3))]) hx hb dX9_century_61 hl (by decide) rfl (fun ls hl => ?_)
          refine lv_iconst (v := 0) hx hb dX9_century_63 (by decide) ?_
          refine lv_istore (lv' := [(10, .int 0), (9, .int 4), (7, .int ((1103515245 * x_7) + 12345)), (8, .int (nI i_4)), (6, .int x_8), (5, .int 0), (4, .int 0), (3, .int 0), (0, .ref (y 0)), (1, .int p0), (2, .int (nI N_3))]) hx hb dX9_century_64 hl (by decide) rfl (fun ls hl => ?_)
          refine lv_iload hx hb dX9_century_66 (lv_at hl 1 rfl) ?_
          refine lv_iconst (v := 2) hx hb dX9_century_68 (by decide) ?_
          refine lv_icmp_le (tgt := 91) hx hb dX9_century_69 (by decide) (fun c_43 => absurd c_43 (by decide)) (fun _ => ?_)
          refine lv_iload hx hb dX9_century_72 (lv_at hl 2 rfl) ?_
          refine jnI (wr := [(y 0, .inr (9, [.ref (y 1), .int 0, .ref (y 2), .ref (y 10), .ref (y 19), .ref (y 25), .ref (y 26), .ref (y 30), .ref (y 31), .ref (y 32), .null, .null, .int 0, .int v_5, .int v_6])), (y 2, .inr (1, [.int 0, .int 0, .int 0, .int 0, .int 0, .int 0, .ref (y 3), .ref (y 4), .ref (y 5), .ref (y 6), .ref (y 7), .ref (y 8), .ref (y 9), .int 0, .int 0, .int 0, .int 0, .int 0])), (y 19, .inr (4, [.ref (y 2), .ref (y 20), .ref (y 21), .ref (y 22), .ref (y 23), .ref (y 24)])), (y 26, .inr (5, [.ref (y 27), .ref (y 28), .ref (y 29), .int 0])), (y 27, aI V 10 (fun _ => 0)), (y 28, aI V 10 (fun _ => 0)), (y 29, aI V 10 (fun _ => 0))]) (rnS (rest := []) ⟨hx, hb, hml, hown, hg⟩ (c_X9_drawnFrom_0 l V (((1103515245 * x_7) + 12345))) mt_X9_drawnFrom q_4_10 ⟨Nat.le_of_ble_eq_true rfl, Nat.le_of_ble_eq_true rfl⟩ hK hP hD hS hA hE [] rfl rfl rfl hl.1 rfl (Nat.le_of_ble_eq_true rfl) dX9_century_74 ⟨Nat.le_of_ble_eq_true rfl, Nat.le_of_ble_eq_true rfl⟩) hP hD hS hA [] [0, 1, 2, 3, 4, 5, 6] rfl rfl rfl (by decide) (fun r_44 w H locs hw hP hD hS => ?_)
          obtain ⟨rfl, rfl⟩ := hw
          have hP : va_P V.1 vwCl [(y 0, .inr (9, [.ref (y 1), .int 0, .ref (y 2), .ref (y 10), .ref (y 19), .ref (y 25), .ref (y 26), .ref (y 30), .ref (y 31), .ref (y 32), .null, .null, .int 0, .int v_5, .int v_6])), (y 2, .inr (1, [.int 0, .int 0, .int 0, .int 0, .int 0, .int 0, .ref (y 3), .ref (y 4), .ref (y 5), .ref (y 6), .ref (y 7), .ref (y 8), .ref (y 9), .int 0, .int 0, .int 0, .int 0, .int 0])), (y 19, .inr (4, [.ref (y 2), .ref (y 20), .ref (y 21), .ref (y 22), .ref (y 23), .ref (y 24)])), (y 26, .inr (5, [.ref (y 27), .ref (y 28), .ref (y 29), .int 0])), (y 27, aI V 10 (fun _ => 0)), (y 28, aI V 10 (fun _ => 0)), (y 29, aI V 10 (fun _ => 0))] H := hP
          have hD : va_D A [(y 0, .inr (9, [.ref (y 1), .int 0, .ref (y 2), .ref (y 10), .ref (y 19), .ref (y 25), .ref (y 26), .ref (y 30), .ref (y 31), .ref (y 32), .null, .null, .int 0, .int v_5, .int v_6])), (y 2, .inr (1, [.int 0, .int 0, .int 0, .int 0, .int 0, .int 0, .ref (y 3), .ref (y 4), .ref (y 5), .ref (y 6), .ref (y 7), .ref (y 8), .ref (y 9), .int 0, .int 0, .int 0, .int 0, .int 0])), (y 19, .inr (4, [.ref (y 2), .ref (y 20), .ref (y 21), .ref (y 22), .ref (y 23), .ref (y 24)])), (y 26, .inr (5, [.ref (y 27), .ref (y 28), .ref (y 29), .int 0])), (y 27, aI V 10 (fun _ => 0)), (y 28, aI V 10 (fun _ => 0)), (y 29, aI V 10 (fun _ => 0))] := hD
          refine lv_istore (lv' := [(7, .int ((1103515245 * ((1103515245 * x_7) + 12345)) + 12345)), (10, .int 0), (9, .int 4), (8, .int (nI i_4)), (6, .int x_8), (5, .int 0), (4, .int 0), (3, .int 0), (0, .ref (y 0)), (1, .int p0), (2, .int (nI N_3))]) hx hb dX9_century_77 hl (by decide) rfl (fun ls hl => ?_)
          refine lv_iload hx hb dX9_century_79 (lv_at hl 2 rfl) ?_
          refine lv_iload hx hb dX9_century_81 (lv_at hl 0 rfl) ?_
          refine lv_bipush (v := 16) hx hb dX9_century_83 (by decide) ?_
          refine lv_iushr (v := ((((1103515245 * ((1103515245 * x_7) + 12345)) + 12345).toUInt32 >>> ((16 : Int32).toUInt32 &&& Int32.toUInt32 31)).toInt32)) hx hb dX9_century_85 rfl ?_
          refine jnI (wr := [(y 0, .inr (9, [.ref (y 1), .int 0, .ref (y 2), .ref (y 10), .ref (y 19), .ref (y 25), .ref (y 26), .ref (y 30), .ref (y 31), .ref (y 32), .null, .null, .int 0, .int v_5, .int v_6])), (y 2, .inr (1, [.int 0, .int 0, .int 0, .int 0, .int 0, .int 0, .ref (y 3), .ref (y 4), .ref (y 5), .ref (y 6), .ref (y 7), .ref (y 8), .ref (y 9), .int 0, .int 0, .int 0, .int 0, .int 0])), (y 19, .inr (4, [.ref (y 2), .ref (y 20), .ref (y 21), .ref (y 22), .ref (y 23), .ref (y 24)])), (y 26, .inr (5, [.ref (y 27), .ref (y 28), .ref (y 29), .int 0])), (y 27, aI V 10 (fun _ => 0)), (y 28, aI V 10 (fun _ => 0)), (y 29, aI V 10 (fun _ => 0))]) (rnS (rest := []) ⟨hx, hb, hml, hown, hg⟩ (c_X9_drawnDeed_1 l V (((((1103515245 * ((1103515245 * x_7) + 12345)) + 12345).toUInt32 >>> ((16 : Int32).toUInt32 &&& Int32.toUInt32 31)).toInt32))) mt_X9_drawnDeed q_4_14 ⟨Nat.le_of_ble_eq_true rfl, Nat.le_of_ble_eq_true rfl⟩ hK hP hD hS hA hE [] rfl rfl rfl hl.1 rfl (Nat.le_of_ble_eq_true rfl) dX9_century_86 ⟨Nat.le_of_ble_eq_true rfl, Nat.le_of_ble_eq_true rfl⟩) hP hD hS hA [] [0, 1, 2, 3, 4, 5, 6] rfl rfl rfl (by decide) (fun r_45 w H locs hw hP hD hS => ?_)
          obtain ⟨rfl, rfl⟩ := hw
          have hP : va_P V.1 vwCl [(y 0, .inr (9, [.ref (y 1), .int 0, .ref (y 2), .ref (y 10), .ref (y 19), .ref (y 25), .ref (y 26), .ref (y 30), .ref (y 31), .ref (y 32), .null, .null, .int 0, .int v_5, .int v_6])), (y 2, .inr (1, [.int 0, .int 0, .int 0, .int 0, .int 0, .int 0, .ref (y 3), .ref (y 4), .ref (y 5), .ref (y 6), .ref (y 7), .ref (y 8), .ref (y 9), .int 0, .int 0, .int 0, .int 0, .int 0])), (y 19, .inr (4, [.ref (y 2), .ref (y 20), .ref (y 21), .ref (y 22), .ref (y 23), .ref (y 24)])), (y 26, .inr (5, [.ref (y 27), .ref (y 28), .ref (y 29), .int 0])), (y 27, aI V 10 (fun _ => 0)), (y 28, aI V 10 (fun _ => 0)), (y 29, aI V 10 (fun _ => 0))] H := hP
          have hD : va_D A [(y 0, .inr (9, [.ref (y 1), .int 0, .ref (y 2), .ref (y 10), .ref (y 19), .ref (y 25), .ref (y 26), .ref (y 30), .ref (y 31), .ref (y 32), .null, .null, .int 0, .int v_5, .int v_6])), (y 2, .inr (1, [.int 0, .int 0, .int 0, .int 0, .int 0, .int 0, .ref (y 3), .ref (y 4), .ref (y 5), .ref (y 6), .ref (y 7), .ref (y 8), .ref (y 9), .int 0, .int 0, .int 0, .int 0, .int 0])), (y 19, .inr (4, [.ref (y 2), .ref (y 20), .ref (y 21), .ref (y 22), .ref (y 23), .ref (y 24)])), (y 26, .inr (5, [.ref (y 27), .ref (y 28), .ref (y 29), .int 0])), (y 27, aI V 10 (fun _ => 0)), (y 28, aI V 10 (fun _ => 0)), (y 29, aI V 10 (fun _ => 0))] := hD
          rcases rem4 ((1103515245 * ((1103515245 * x_7) + 12345)) + 12345) with e_46 | e_47 | e_48 | e_49
          · refine tpi (y := 10) ((congrArg (fun q9 : Int32 => 10 + q9) e_46).trans (by decide)) ?_
            refine lv_istore (lv' := [(10, .int 10), (7, .int ((1103515245 * ((1103515245 * x_7) + 12345)) + 12345)), (9, .int 4), (8, .int (nI i_4)), (6, .int x_8), (5, .int 0), (4, .int 0), (3, .int 0), (0, .ref (y 0)), (1, .int p0), (2, .int (nI N_3))]) hx hb dX9_century_89 hl (by decide) rfl (fun ls hl => ?_)
            refine lv_aload_n hx hb dX9_century_91 rfl (lv_at hl 8 rfl) ?_
            refine lv_iload hx hb dX9_century_92 (lv_at hl 0 rfl) ?_
            refine lv_i2l (v := 10) hx hb dX9_century_94 (by decide +kernel) ?_
            refine jnI (wr := [(y 19, .inr (4, [.ref (y 2), .ref (y 20), .ref (y 21), .ref (y 22), .ref (y 23), .ref (y 24)])), (y 26, .inr (5, [.ref (y 27), .ref (y 28), .ref (y 29), .int 0])), (y 27, aI V 10 (fun _ => 0)), (y 28, aI V 10 (fun _ => 0)), (y 29, aI V 10 (fun _ => 0))]) (rnV (rest := []) ⟨hx, hb, hml, hown, hg⟩ (c_X9_tryDeed_6 l V y v_5 v_6) mt_X9_tryDeed q_3_185 ⟨Nat.le_of_ble_eq_true rfl, Nat.le_of_ble_eq_true rfl⟩ hK hP hD hS hA hE [0, 1] rfl rfl 0 rfl rfl rfl rfl hl.1 rfl (Nat.le_of_ble_eq_true rfl) dX9_century_95 ⟨Nat.le_of_ble_eq_true rfl, Nat.le_of_ble_eq_true rfl⟩) hP hD hS hA [0, 1] [2, 3, 4, 5, 6] rfl rfl rfl (by decide) (fun r_50 w H locs hw hP hD hS => ?_)
            obtain ⟨rfl, rfl⟩ := hw
            have hP : va_P V.1 vwCl [(y 19, .inr (4, [.ref (y 2), .ref (y 20), .ref (y 21), .ref (y 22), .ref (y 23), .ref (y 24)])), (y 26, .inr (5, [.ref (y 27), .ref (y 28), .ref (y 29), .int 0])), (y 27, aI V 10 (fun _ => 0)), (y 28, aI V 10 (fun _ => 0)), (y 29, aI V 10 (fun _ => 0)), (y 0, .inr (9, [.ref (y 1), .int 0, .ref (y 2), .ref (y 10), .ref (y 19), .ref (y 25), .ref (y 26), .ref (y 30), .ref (y 31), .ref (y 32), .null, .null, .int 0, .int v_5, .int v_6])), (y 2, .inr (1, [.int 0, .int 0, .int 0, .int 0, .int 0, .int 0, .ref (y 3), .ref (y 4), .ref (y 5), .ref (y 6), .ref (y 7), .ref (y 8), .ref (y 9), .int 0, .int 0, .int 0, .int 0, .int 0]))] H := hP
            have hD : va_D A [(y 19, .inr (4, [.ref (y 2), .ref (y 20), .ref (y 21), .ref (y 22), .ref (y 23), .ref (y 24)])), (y 26, .inr (5, [.ref (y 27), .ref (y 28), .ref (y 29), .int 0])), (y 27, aI V 10 (fun _ => 0)), (y 28, aI V 10 (fun _ => 0)), (y 29, aI V 10 (fun _ => 0)), (y 0, .inr (9, [.ref (y 1), .int 0, .ref (y 2), .ref (y 10), .ref (y 19), .ref (y 25), .ref (y 26), .ref (y 30), .ref (y 31), .ref (y 32), .null, .null, .int 0, .int v_5, .int v_6])), (y 2, .inr (1, [.int 0, .int 0, .int 0, .int 0, .int 0, .int 0, .ref (y 3), .ref (y 4), .ref (y 5), .ref (y 6), .ref (y 7), .ref (y 8), .ref (y 9), .int 0, .int 0, .int 0, .int 0, .int 0]))] := hD
            refine lv_if_ne (tgt := 104) hx hb dX9_century_98 (by decide) (fun _ => ?_) (fun c_51 => absurd c_51 (by decide))
            refine lv_iinc (v := nI (i_4 + 1)) (lv' := [(8, .int (nI (i_4 + 1))), (10, .int 10), (7, .int ((1103515245 * ((1103515245 * x_7) + 12345)) + 12345)), (9, .int 4), (6, .int x_8), (5, .int 0), (4, .int 0), (3, .int 0), (0, .ref (y 0)), (1, .int p0), (2, .int (nI N_3))]) hx hb dX9_century_104 hl (k := 3) rfl (nI_add i_4 1) (by decide) rfl (fun ls hl => ?_)
            refine lv_goto (tgt := 40) hx hb dX9_century_107 (by decide) ?_
            have hP := subP (ws' := [(y 0, .inr (9, [.ref (y 1), .int 0, .ref (y 2), .ref (y 10), .ref (y 19), .ref (y 25), .ref (y 26), .ref (y 30), .ref (y 31), .ref (y 32), .null, .null, .int 0, .int v_5, .int v_6])), (y 2, .inr (1, [.int 0, .int 0, .int 0, .int 0, .int 0, .int 0, .ref (y 3), .ref (y 4), .ref (y 5), .ref (y 6), .ref (y 7), .ref (y 8), .ref (y 9), .int 0, .int 0, .int 0, .int 0, .int 0])), (y 19, .inr (4, [.ref (y 2), .ref (y 20), .ref (y 21), .ref (y 22), .ref (y 23), .ref (y 24)])), (y 26, .inr (5, [.ref (y 27), .ref (y 28), .ref (y 29), .int 0])), (y 27, aI V 10 (fun _ => 0)), (y 28, aI V 10 (fun _ => 0)), (y 29, aI V 10 (fun _ => 0))]) hP [5, 6, 0, 1, 2, 3, 4] rfl
            have hD := hD.sub (ws' := [(y 0, .inr (9, [.ref (y 1), .int 0, .ref (y 2), .ref (y 10), .ref (y 19), .ref (y 25), .ref (y 26), .ref (y 30), .ref (y 31), .ref (y 32), .null, .null, .int 0, .int v_5, .int v_6])), (y 2, .inr (1, [.int 0, .int 0, .int 0, .int 0, .int 0, .int 0, .ref (y 3), .ref (y 4), .ref (y 5), .ref (y 6), .ref (y 7), .ref (y 8), .ref (y 9), .int 0, .int 0, .int 0, .int 0, .int 0])), (y 19, .inr (4, [.ref (y 2), .ref (y 20), .ref (y 21), .ref (y 22), .ref (y 23), .ref (y 24)])), (y 26, .inr (5, [.ref (y 27), .ref (y 28), .ref (y 29), .int 0])), (y 27, aI V 10 (fun _ => 0)), (y 28, aI V 10 (fun _ => 0)), (y 29, aI V 10 (fun _ => 0))]) [5, 6, 0, 1, 2, 3, 4] rfl rfl
            exact ih_i_4 e_10 _ _ _ ⟨v_5, v_6, ((1103515245 * ((1103515245 * x_7) + 12345)) + 12345), x_8, (by omega), (cn_go hcd_i_4 (cst_4 e_17)), hP, hD, hS, lv_sub hl [0, 2, 4, 5, 6, 7, 8, 9, 10] rfl⟩
          · refine tpi (y := 11) ((congrArg (fun q9 : Int32 => 10 + q9) e_47).trans (by decide)) ?_
            refine lv_istore (lv' := [(10, .int 11), (7, .int ((1103515245 * ((1103515245 * x_7) + 12345)) + 12345)), (9, .int 4), (8, .int (nI i_4)), (6, .int x_8), (5, .int 0), (4, .int 0), (3, .int 0), (0, .ref (y 0)), (1, .int p0), (2, .int (nI N_3))]) hx hb dX9_century_89 hl (by decide) rfl (fun ls hl => ?_)
            refine lv_aload_n hx hb dX9_century_91 rfl (lv_at hl 8 rfl) ?_
            refine lv_iload hx hb dX9_century_92 (lv_at hl 0 rfl) ?_
            refine lv_i2l (v := 11) hx hb dX9_century_94 (by decide +kernel) ?_
            refine jnI (wr := [(y 19, .inr (4, [.ref (y 2), .ref (y 20), .ref (y 21), .ref (y 22), .ref (y 23), .ref (y 24)])), (y 26, .inr (5, [.ref (y 27), .ref (y 28), .ref (y 29), .int 0])), (y 27, aI V 10 (fun _ => 0)), (y 28, aI V 10 (fun _ => 0)), (y 29, aI V 10 (fun _ => 0))]) (rnV (rest := []) ⟨hx, hb, hml, hown, hg⟩ (c_X9_tryDeed_7 l V y v_5 v_6) mt_X9_tryDeed q_3_185 ⟨Nat.le_of_ble_eq_true rfl, Nat.le_of_ble_eq_true rfl⟩ hK hP hD hS hA hE [0, 1] rfl rfl 0 rfl rfl rfl rfl hl.1 rfl (Nat.le_of_ble_eq_true rfl) dX9_century_95 ⟨Nat.le_of_ble_eq_true rfl, Nat.le_of_ble_eq_true rfl⟩) hP hD hS hA [0, 1] [2, 3, 4, 5, 6] rfl rfl rfl (by decide) (fun r_52 w H locs hw hP hD hS => ?_)
            obtain ⟨rfl, rfl⟩ := hw
            have hP : va_P V.1 vwCl [(y 19, .inr (4, [.ref (y 2), .ref (y 20), .ref (y 21), .ref (y 22), .ref (y 23), .ref (y 24)])), (y 26, .inr (5, [.ref (y 27), .ref (y 28), .ref (y 29), .int 0])), (y 27, aI V 10 (fun _ => 0)), (y 28, aI V 10 (fun _ => 0)), (y 29, aI V 10 (fun _ => 0)), (y 0, .inr (9, [.ref (y 1), .int 0, .ref (y 2), .ref (y 10), .ref (y 19), .ref (y 25), .ref (y 26), .ref (y 30), .ref (y 31), .ref (y 32), .null, .null, .int 0, .int v_5, .int v_6])), (y 2, .inr (1, [.int 0, .int 0, .int 0, .int 0, .int 0, .int 0, .ref (y 3), .ref (y 4), .ref (y 5), .ref (y 6), .ref (y 7), .ref (y 8), .ref (y 9), .int 0, .int 0, .int 0, .int 0, .int 0]))] H := hP
            have hD : va_D A [(y 19, .inr (4, [.ref (y 2), .ref (y 20), .ref (y 21), .ref (y 22), .ref (y 23), .ref (y 24)])), (y 26, .inr (5, [.ref (y 27), .ref (y 28), .ref (y 29), .int 0])), (y 27, aI V 10 (fun _ => 0)), (y 28, aI V 10 (fun _ => 0)), (y 29, aI V 10 (fun _ => 0)), (y 0, .inr (9, [.ref (y 1), .int 0, .ref (y 2), .ref (y 10), .ref (y 19), .ref (y 25), .ref (y 26), .ref (y 30), .ref (y 31), .ref (y 32), .null, .null, .int 0, .int v_5, .int v_6])), (y 2, .inr (1, [.int 0, .int 0, .int 0, .int 0, .int 0, .int 0, .ref (y 3), .ref (y 4), .ref (y 5), .ref (y 6), .ref (y 7), .ref (y 8), .ref (y 9), .int 0, .int 0, .int 0, .int 0, .int 0]))] := hD
            refine lv_if_ne (tgt := 104) hx hb dX9_century_98 (by decide) (fun _ => ?_) (fun c_53 => absurd c_53 (by decide))
            refine lv_iinc (v := nI (i_4 + 1)) (lv' := [(8, .int (nI (i_4 + 1))), (10, .int 11), (7, .int ((1103515245 * ((1103515245 * x_7) + 12345)) + 12345)), (9, .int 4), (6, .int x_8), (5, .int 0), (4, .int 0), (3, .int 0), (0, .ref (y 0)), (1, .int p0), (2, .int (nI N_3))]) hx hb dX9_century_104 hl (k := 3) rfl (nI_add i_4 1) (by decide) rfl (fun ls hl => ?_)
            refine lv_goto (tgt := 40) hx hb dX9_century_107 (by decide) ?_
            have hP := subP (ws' := [(y 0, .inr (9, [.ref (y 1), .int 0, .ref (y 2), .ref (y 10), .ref (y 19), .ref (y 25), .ref (y 26), .ref (y 30), .ref (y 31), .ref (y 32), .null, .null, .int 0, .int v_5, .int v_6])), (y 2, .inr (1, [.int 0, .int 0, .int 0, .int 0, .int 0, .int 0, .ref (y 3), .ref (y 4), .ref (y 5), .ref (y 6), .ref (y 7), .ref (y 8), .ref (y 9), .int 0, .int 0, .int 0, .int 0, .int 0])), (y 19, .inr (4, [.ref (y 2), .ref (y 20), .ref (y 21), .ref (y 22), .ref (y 23), .ref (y 24)])), (y 26, .inr (5, [.ref (y 27), .ref (y 28), .ref (y 29), .int 0])), (y 27, aI V 10 (fun _ => 0)), (y 28, aI V 10 (fun _ => 0)), (y 29, aI V 10 (fun _ => 0))]) hP [5, 6, 0, 1, 2, 3, 4] rfl
            have hD := hD.sub (ws' := [(y 0, .inr (9, [.ref (y 1), .int 0, .ref (y 2), .ref (y 10), .ref (y 19), .ref (y 25), .ref (y 26), .ref (y 30), .ref (y 31), .ref (y 32), .null, .null, .int 0, .int v_5, .int v_6])), (y 2, .inr (1, [.int 0, .int 0, .int 0, .int 0, .int 0, .int 0, .ref (y 3), .ref (y 4), .ref (y 5), .ref (y 6), .ref (y 7), .ref (y 8), .ref (y 9), .int 0, .int 0, .int 0, .int 0, .int 0])), (y 19, .inr (4, [.ref (y 2), .ref (y 20), .ref (y 21), .ref (y 22), .ref (y 23), .ref (y 24)])), (y 26, .inr (5, [.ref (y 27), .ref (y 28), .ref (y 29), .int 0])), (y 27, aI V 10 (fun _ => 0)), (y 28, aI V 10 (fun _ => 0)), (y 29, aI V 10 (fun _ => 0))]) [5, 6, 0, 1, 2, 3, 4] rfl rfl
            exact ih_i_4 e_10 _ _ _ ⟨v_5, v_6, ((1103515245 * ((1103515245 * x_7) + 12345)) + 12345), x_8, (by omega), (cn_go hcd_i_4 (cst_4 e_17)), hP, hD, hS, lv_sub hl [0, 2, 4, 5, 6, 7, 8, 9, 10] rfl⟩
          · refine tpi (y := 12) ((congrArg (fun q9 : Int32 => 10 + q9) e_48).trans (by decide)) ?_
            refine lv_istore (lv' := [(10, .int 12), (7, .int ((1103515245 * ((1103515245 * x_7) + 12345)) + 12345)), (9, .int 4), (8, .int (nI i_4)), (6, .int x_8), (5, .int 0), (4, .int 0), (3, .int 0), (0, .ref (y 0)), (1, .int p0), (2, .int (nI N_3))]) hx hb dX9_century_89 hl (by decide) rfl (fun ls hl => ?_)
            refine lv_aload_n hx hb dX9_century_91 rfl (lv_at hl 8 rfl) ?_
            refine lv_iload hx hb dX9_century_92 (lv_at hl 0 rfl) ?_
            refine lv_i2l (v := 12) hx hb dX9_century_94 (by decide +kernel) ?_
            refine jnI (wr := [(y 19, .inr (4, [.ref (y 2), .ref (y 20), .ref (y 21), .ref (y 22), .ref (y 23), .ref (y 24)])), (y 26, .inr (5, [.ref (y 27), .ref (y 28), .ref (y 29), .int 0])), (y 27, aI V 10 (fun _ => 0)), (y 28, aI V 10 (fun _ => 0)), (y 29, aI V 10 (fun _ => 0))]) (rnV (rest := []) ⟨hx, hb, hml, hown, hg⟩ (c_X9_tryDeed_8 l V y v_5 v_6) mt_X9_tryDeed q_3_185 ⟨Nat.le_of_ble_eq_true rfl, Nat.le_of_ble_eq_true rfl⟩ hK hP hD hS hA hE [0, 1] rfl rfl 0 rfl rfl rfl rfl hl.1 rfl (Nat.le_of_ble_eq_true rfl) dX9_century_95 ⟨Nat.le_of_ble_eq_true rfl, Nat.le_of_ble_eq_true rfl⟩) hP hD hS hA [0, 1] [2, 3, 4, 5, 6] rfl rfl rfl (by decide) (fun r_54 w H locs hw hP hD hS => ?_)
            obtain ⟨rfl, rfl⟩ := hw
            have hP : va_P V.1 vwCl [(y 19, .inr (4, [.ref (y 2), .ref (y 20), .ref (y 21), .ref (y 22), .ref (y 23), .ref (y 24)])), (y 26, .inr (5, [.ref (y 27), .ref (y 28), .ref (y 29), .int 0])), (y 27, aI V 10 (fun _ => 0)), (y 28, aI V 10 (fun _ => 0)), (y 29, aI V 10 (fun _ => 0)), (y 0, .inr (9, [.ref (y 1), .int 0, .ref (y 2), .ref (y 10), .ref (y 19), .ref (y 25), .ref (y 26), .ref (y 30), .ref (y 31), .ref (y 32), .null, .null, .int 0, .int v_5, .int v_6])), (y 2, .inr (1, [.int 0, .int 0, .int 0, .int 0, .int 0, .int 0, .ref (y 3), .ref (y 4), .ref (y 5), .ref (y 6), .ref (y 7), .ref (y 8), .ref (y 9), .int 0, .int 0, .int 0, .int 0, .int 0]))] H := hP
            have hD : va_D A [(y 19, .inr (4, [.ref (y 2), .ref (y 20), .ref (y 21), .ref (y 22), .ref (y 23), .ref (y 24)])), (y 26, .inr (5, [.ref (y 27), .ref (y 28), .ref (y 29), .int 0])), (y 27, aI V 10 (fun _ => 0)), (y 28, aI V 10 (fun _ => 0)), (y 29, aI V 10 (fun _ => 0)), (y 0, .inr (9, [.ref (y 1), .int 0, .ref (y 2), .ref (y 10), .ref (y 19), .ref (y 25), .ref (y 26), .ref (y 30), .ref (y 31), .ref (y 32), .null, .null, .int 0, .int v_5, .int v_6])), (y 2, .inr (1, [.int 0, .int 0, .int 0, .int 0, .int 0, .int 0, .ref (y 3), .ref (y 4), .ref (y 5), .ref (y 6), .ref (y 7), .ref (y 8), .ref (y 9), .int 0, .int 0, .int 0, .int 0, .int 0]))] := hD
            refine lv_if_ne (tgt := 104) hx hb dX9_century_98 (by decide) (fun _ => ?_) (fun c_55 => absurd c_55 (by decide))
            refine lv_iinc (v := nI (i_4 + 1)) (lv' := [(8, .int (nI (i_4 + 1))), (10, .int 12), (7, .int ((1103515245 * ((1103515245 * x_7) + 12345)) + 12345)), (9, .int 4), (6, .int x_8), (5, .int 0), (4, .int 0), (3, .int 0), (0, .ref (y 0)), (1, .int p0), (2, .int (nI N_3))]) hx hb dX9_century_104 hl (k := 3) rfl (nI_add i_4 1) (by decide) rfl (fun ls hl => ?_)
            refine lv_goto (tgt := 40) hx hb dX9_century_107 (by decide) ?_
            have hP := subP (ws' := [(y 0, .inr (9, [.ref (y 1), .int 0, .ref (y 2), .ref (y 10), .ref (y 19), .ref (y 25), .ref (y 26), .ref (y 30), .ref (y 31), .ref (y 32), .null, .null, .int 0, .int v_5, .int v_6])), (y 2, .inr (1, [.int 0, .int 0, .int 0, .int 0, .int 0, .int 0, .ref (y 3), .ref (y 4), .ref (y 5), .ref (y 6), .ref (y 7), .ref (y 8), .ref (y 9), .int 0, .int 0, .int 0, .int 0, .int 0])), (y 19, .inr (4, [.ref (y 2), .ref (y 20), .ref (y 21), .ref (y 22), .ref (y 23), .ref (y 24)])), (y 26, .inr (5, [.ref (y 27), .ref (y 28), .ref (y 29), .int 0])), (y 27, aI V 10 (fun _ => 0)), (y 28, aI V 10 (fun _ => 0)), (y 29, aI V 10 (fun _ => 0))]) hP [5, 6, 0, 1, 2, 3, 4] rfl
            have hD := hD.sub (ws' := [(y 0, .inr (9, [.ref (y 1), .int 0, .ref (y 2), .ref (y 10), .ref (y 19), .ref (y 25), .ref (y 26), .ref (y 30), .ref (y 31), .ref (y 32), .null, .null, .int 0, .int v_5, .int v_6])), (y 2, .inr (1, [.int 0, .int 0, .int 0, .int 0, .int 0, .int 0, .ref (y 3), .ref (y 4), .ref (y 5), .ref (y 6), .ref (y 7), .ref (y 8), .ref (y 9), .int 0, .int 0, .int 0, .int 0, .int 0])), (y 19, .inr (4, [.ref (y 2), .ref (y 20), .ref (y 21), .ref (y 22), .ref (y 23), .ref (y 24)])), (y 26, .inr (5, [.ref (y 27), .ref (y 28), .ref (y 29), .int 0])), (y 27, aI V 10 (fun _ => 0)), (y 28, aI V 10 (fun _ => 0)), (y 29, aI V 10 (fun _ => 0))]) [5, 6, 0, 1, 2, 3, 4] rfl rfl
            exact ih_i_4 e_10 _ _ _ ⟨v_5, v_6, ((1103515245 * ((1103515245 * x_7) + 12345)) + 12345), x_8, (by omega), (cn_go hcd_i_4 (cst_4 e_17)), hP, hD, hS, lv_sub hl [0, 2, 4, 5, 6, 7, 8, 9, 10] rfl⟩
          · refine tpi (y := 13) ((congrArg (fun q9 : Int32 => 10 + q9) e_49).trans (by decide)) ?_
            refine lv_istore (lv' := [(10, .int 13), (7, .int ((1103515245 * ((1103515245 * x_7) + 12345)) + 12345)), (9, .int 4), (8, .int (nI i_4)), (6, .int x_8), (5, .int 0), (4, .int 0), (3, .int 0), (0, .ref (y 0)), (1, .int p0), (2, .int (nI N_3))]) hx hb dX9_century_89 hl (by decide) rfl (fun ls hl => ?_)
            refine lv_aload_n hx hb dX9_century_91 rfl (lv_at hl 8 rfl) ?_
            refine lv_iload hx hb dX9_century_92 (lv_at hl 0 rfl) ?_
            refine lv_i2l (v := 13) hx hb dX9_century_94 (by decide +kernel) ?_
            refine jnI (wr := [(y 19, .inr (4, [.ref (y 2), .ref (y 20), .ref (y 21), .ref (y 22), .ref (y 23), .ref (y 24)])), (y 26, .inr (5, [.ref (y 27), .ref (y 28), .ref (y 29), .int 0])), (y 27, aI V 10 (fun _ => 0)), (y 28, aI V 10 (fun _ => 0)), (y 29, aI V 10 (fun _ => 0))]) (rnV (rest := []) ⟨hx, hb, hml, hown, hg⟩ (c_X9_tryDeed_9 l V y v_5 v_6) mt_X9_tryDeed q_3_185 ⟨Nat.le_of_ble_eq_true rfl, Nat.le_of_ble_eq_true rfl⟩ hK hP hD hS hA hE [0, 1] rfl rfl 0 rfl rfl rfl rfl hl.1 rfl (Nat.le_of_ble_eq_true rfl) dX9_century_95 ⟨Nat.le_of_ble_eq_true rfl, Nat.le_of_ble_eq_true rfl⟩) hP hD hS hA [0, 1] [2, 3, 4, 5, 6] rfl rfl rfl (by decide) (fun r_56 w H locs hw hP hD hS => ?_)
            obtain ⟨rfl, rfl⟩ := hw
            have hP : va_P V.1 vwCl [(y 19, .inr (4, [.ref (y 2), .ref (y 20), .ref (y 21), .ref (y 22), .ref (y 23), .ref (y 24)])), (y 26, .inr (5, [.ref (y 27), .ref (y 28), .ref (y 29), .int 0])), (y 27, aI V 10 (fun _ => 0)), (y 28, aI V 10 (fun _ => 0)), (y 29, aI V 10 (fun _ => 0)), (y 0, .inr (9, [.ref (y 1), .int 0, .ref (y 2), .ref (y 10), .ref (y 19), .ref (y 25), .ref (y 26), .ref (y 30), .ref (y 31), .ref (y 32), .null, .null, .int 0, .int v_5, .int v_6])), (y 2, .inr (1, [.int 0, .int 0, .int 0, .int 0, .int 0, .int 0, .ref (y 3), .ref (y 4), .ref (y 5), .ref (y 6), .ref (y 7), .ref (y 8), .ref (y 9), .int 0, .int 0, .int 0, .int 0, .int 0]))] H := hP
            have hD : va_D A [(y 19, .inr (4, [.ref (y 2), .ref (y 20), .ref (y 21), .ref (y 22), .ref (y 23), .ref (y 24)])), (y 26, .inr (5, [.ref (y 27), .ref (y 28), .ref (y 29), .int 0])), (y 27, aI V 10 (fun _ => 0)), (y 28, aI V 10 (fun _ => 0)), (y 29, aI V 10 (fun _ => 0)), (y 0, .inr (9, [.ref (y 1), .int 0, .ref (y 2), .ref (y 10), .ref (y 19), .ref (y 25), .ref (y 26), .ref (y 30), .ref (y 31), .ref (y 32), .null, .null, .int 0, .int v_5, .int v_6])), (y 2, .inr (1, [.int 0, .int 0, .int 0, .int 0, .int 0, .int 0, .ref (y 3), .ref (y 4), .ref (y 5), .ref (y 6), .ref (y 7), .ref (y 8), .ref (y 9), .int 0, .int 0, .int 0, .int 0, .int 0]))] := hD
            refine lv_if_ne (tgt := 104) hx hb dX9_century_98 (by decide) (fun _ => ?_) (fun c_57 => absurd c_57 (by decide))
            refine lv_iinc (v := nI (i_4 + 1)) (lv' := [(8, .int (nI (i_4 + 1))), (10, .int 13), (7, .int ((1103515245 * ((1103515245 * x_7) + 12345)) + 12345)), (9, .int 4), (6, .int x_8), (5, .int 0), (4, .int 0), (3, .int 0), (0, .ref (y 0)), (1, .int p0), (2, .int (nI N_3))]) hx hb dX9_century_104 hl (k := 3) rfl (nI_add i_4 1) (by decide) rfl (fun ls hl => ?_)
            refine lv_goto (tgt := 40) hx hb dX9_century_107 (by decide) ?_
            have hP := subP (ws' := [(y 0, .inr (9, [.ref (y 1), .int 0, .ref (y 2), .ref (y 10), .ref (y 19), .ref (y 25), .ref (y 26), .ref (y 30), .ref (y 31), .ref (y 32), .null, .null, .int 0, .int v_5, .int v_6])), (y 2, .inr (1, [.int 0, .int 0, .int 0, .int 0, .int 0, .int 0, .ref (y 3), .ref (y 4), .ref (y 5), .ref (y 6), .ref (y 7), .ref (y 8), .ref (y 9), .int 0, .int 0, .int 0, .int 0, .int 0])), (y 19, .inr (4, [.ref (y 2), .ref (y 20), .ref (y 21), .ref (y 22), .ref (y 23), .ref (y 24)])), (y 26, .inr (5, [.ref (y 27), .ref (y 28), .ref (y 29), .int 0])), (y 27, aI V 10 (fun _ => 0)), (y 28, aI V 10 (fun _ => 0)), (y 29, aI V 10 (fun _ => 0))]) hP [5, 6, 0, 1, 2, 3, 4] rfl
            have hD := hD.sub (ws' := [(y 0, .inr (9, [.ref (y 1), .int 0, .ref (y 2), .ref (y 10), .ref (y 19), .ref (y 25), .ref (y 26), .ref (y 30), .ref (y 31), .ref (y 32), .null, .null, .int 0, .int v_5, .int v_6])), (y 2, .inr (1, [.int 0, .int 0, .int 0, .int 0, .int 0, .int 0, .ref (y 3), .ref (y 4), .ref (y 5), .ref (y 6), .ref (y 7), .ref (y 8), .ref (y 9), .int 0, .int 0, .int 0, .int 0, .int 0])), (y 19, .inr (4, [.ref (y 2), .ref (y 20), .ref (y 21), .ref (y 22), .ref (y 23), .ref (y 24)])), (y 26, .inr (5, [.ref (y 27), .ref (y 28), .ref (y 29), .int 0])), (y 27, aI V 10 (fun _ => 0)), (y 28, aI V 10 (fun _ => 0)), (y 29, aI V 10 (fun _ => 0))]) [5, 6, 0, 1, 2, 3, 4] rfl rfl
            exact ih_i_4 e_10 _ _ _ ⟨v_5, v_6, ((1103515245 * ((1103515245 * x_7) + 12345)) + 12345), x_8, (by omega), (cn_go hcd_i_4 (cst_4 e_17)), hP, hD, hS, lv_sub hl [0, 2, 4, 5, 6, 7, 8, 9, 10] rfl⟩
        · refine tpi (y := 5) e_18 ?_
          refine lv_istore (lv' := [(9, .int 5), (7, .int ((1103515245 * x_7) + 12345)), (8, .int (nI i_4)), (6, .int x_8), (5, .int 0), (4, .int 0), (3, .int 0), (0, .ref (y 0)), (1, .int p0), (2, .int (nI N_3))]) hx hb dX9_century_61 hl (by decide) rfl (fun ls hl => ?_)
          refine lv_iconst (v := 0) hx hb dX9_century_63 (by decide) ?_
          refine lv_istore (lv' := [(10, .int 0), (9, .int 5), (7, .int ((1103515245 * x_7) + 12345)), (8, .int (nI i_4)), (6, .int x_8), (5, .int 0), (4, .int 0), (3, .int 0), (0, .ref (y 0)), (1, .int p0), (2, .int (nI N_3))]) hx hb dX9_century_64 hl (by decide) rfl (fun ls hl => ?_)
          refine lv_iload hx hb dX9_century_66 (lv_at hl 1 rfl) ?_
          refine lv_iconst (v := 2) hx hb dX9_century_68 (by decide) ?_
          refine lv_icmp_le (tgt := 91) hx hb dX9_century_69 (by decide) (fun c_58 => absurd c_58 (by decide)) (fun _ => ?_)
          refine lv_iload hx hb dX9_century_72 (lv_at hl 2 rfl) ?_
          refine jnI (wr := [(y 0, .inr (9, [.ref (y 1), .int 0, .ref (y 2), .ref (y 10), .ref (y 19), .ref (y 25), .ref (y 26), .ref (y 30), .ref (y 31), .ref (y 32), .null, .null, .int 0, .int v_5, .int v_6])), (y 2, .inr (1, [.int 0, .int 0, .int 0, .int 0, .int 0, .int 0, .ref (y 3), .ref (y 4), .ref (y 5), .ref (y 6), .ref (y 7), .ref (y 8), .ref (y 9), .int 0, .int 0, .int 0, .int 0, .int 0])), (y 19, .inr (4, [.ref (y 2), .ref (y 20), .ref (y 21), .ref (y 22), .ref (y 23), .ref (y 24)])), (y 26, .inr (5, [.ref (y 27), .ref (y 28), .ref (y 29), .int 0])), (y 27, aI V 10 (fun _ => 0)), (y 28, aI V 10 (fun _ => 0)), (y 29, aI V 10 (fun _ => 0))]) (rnS (rest := []) ⟨hx, hb, hml, hown, hg⟩ (c_X9_drawnFrom_0 l V (((1103515245 * x_7) + 12345))) mt_X9_drawnFrom q_4_10 ⟨Nat.le_of_ble_eq_true rfl, Nat.le_of_ble_eq_true rfl⟩ hK hP hD hS hA hE [] rfl rfl rfl hl.1 rfl (Nat.le_of_ble_eq_true rfl) dX9_century_74 ⟨Nat.le_of_ble_eq_true rfl, Nat.le_of_ble_eq_true rfl⟩) hP hD hS hA [] [0, 1, 2, 3, 4, 5, 6] rfl rfl rfl (by decide) (fun r_59 w H locs hw hP hD hS => ?_)
          obtain ⟨rfl, rfl⟩ := hw
          have hP : va_P V.1 vwCl [(y 0, .inr (9, [.ref (y 1), .int 0, .ref (y 2), .ref (y 10), .ref (y 19), .ref (y 25), .ref (y 26), .ref (y 30), .ref (y 31), .ref (y 32), .null, .null, .int 0, .int v_5, .int v_6])), (y 2, .inr (1, [.int 0, .int 0, .int 0, .int 0, .int 0, .int 0, .ref (y 3), .ref (y 4), .ref (y 5), .ref (y 6), .ref (y 7), .ref (y 8), .ref (y 9), .int 0, .int 0, .int 0, .int 0, .int 0])), (y 19, .inr (4, [.ref (y 2), .ref (y 20), .ref (y 21), .ref (y 22), .ref (y 23), .ref (y 24)])), (y 26, .inr (5, [.ref (y 27), .ref (y 28), .ref (y 29), .int 0])), (y 27, aI V 10 (fun _ => 0)), (y 28, aI V 10 (fun _ => 0)), (y 29, aI V 10 (fun _ => 0))] H := hP
          have hD : va_D A [(y 0, .inr (9, [.ref (y 1), .int 0, .ref (y 2), .ref (y 10), .ref (y 19), .ref (y 25), .ref (y 26), .ref (y 30), .ref (y 31), .ref (y 32), .null, .null, .int 0, .int v_5, .int v_6])), (y 2, .inr (1, [.int 0, .int 0, .int 0, .int 0, .int 0, .int 0, .ref (y 3), .ref (y 4), .ref (y 5), .ref (y 6), .ref (y 7), .ref (y 8), .ref (y 9), .int 0, .int 0, .int 0, .int 0, .int 0])), (y 19, .inr (4, [.ref (y 2), .ref (y 20), .ref (y 21), .ref (y 22), .ref (y 23), .ref (y 24)])), (y 26, .inr (5, [.ref (y 27), .ref (y 28), .ref (y 29), .int 0])), (y 27, aI V 10 (fun _ => 0)), (y 28, aI V 10 (fun _ => 0)), (y 29, aI V 10 (fun _ => 0))] := hD
          refine lv_istore (lv' := [(7, .int ((1103515245 * ((1103515245 * x_7) + 12345)) + 12345)), (10, .int 0), (9, .int 5), (8, .int (nI i_4)), (6, .int x_8), (5, .int 0), (4, .int 0), (3, .int 0), (0, .ref (y 0)), (1, .int p0), (2, .int (nI N_3))]) hx hb dX9_century_77 hl (by decide) rfl (fun ls hl => ?_)
          refine lv_iload hx hb dX9_century_79 (lv_at hl 2 rfl) ?_
          refine lv_iload hx hb dX9_century_81 (lv_at hl 0 rfl) ?_
          refine lv_bipush (v := 16) hx hb dX9_century_83 (by decide) ?_
          refine lv_iushr (v := ((((1103515245 * ((1103515245 * x_7) + 12345)) + 12345).toUInt32 >>> ((16 : Int32).toUInt32 &&& Int32.toUInt32 31)).toInt32)) hx hb dX9_century_85 rfl ?_
          refine jnI (wr := [(y 0, .inr (9, [.ref (y 1), .int 0, .ref (y 2), .ref (y 10), .ref (y 19), .ref (y 25), .ref (y 26), .ref (y 30), .ref (y 31), .ref (y 32), .null, .null, .int 0, .int v_5, .int v_6])), (y 2, .inr (1, [.int 0, .int 0, .int 0, .int 0, .int 0, .int 0, .ref (y 3), .ref (y 4), .ref (y 5), .ref (y 6), .ref (y 7), .ref (y 8), .ref (y 9), .int 0, .int 0, .int 0, .int 0, .int 0])), (y 19, .inr (4, [.ref (y 2), .ref (y 20), .ref (y 21), .ref (y 22), .ref (y 23), .ref (y 24)])), (y 26, .inr (5, [.ref (y 27), .ref (y 28), .ref (y 29), .int 0])), (y 27, aI V 10 (fun _ => 0)), (y 28, aI V 10 (fun _ => 0)), (y 29, aI V 10 (fun _ => 0))]) (rnS (rest := []) ⟨hx, hb, hml, hown, hg⟩ (c_X9_drawnDeed_2 l V (((((1103515245 * ((1103515245 * x_7) + 12345)) + 12345).toUInt32 >>> ((16 : Int32).toUInt32 &&& Int32.toUInt32 31)).toInt32))) mt_X9_drawnDeed q_4_14 ⟨Nat.le_of_ble_eq_true rfl, Nat.le_of_ble_eq_true rfl⟩ hK hP hD hS hA hE [] rfl rfl rfl hl.1 rfl (Nat.le_of_ble_eq_true rfl) dX9_century_86 ⟨Nat.le_of_ble_eq_true rfl, Nat.le_of_ble_eq_true rfl⟩) hP hD hS hA [] [0, 1, 2, 3, 4, 5, 6] rfl rfl rfl (by decide) (fun r_60 w H locs hw hP hD hS => ?_)
          obtain ⟨rfl, rfl⟩ := hw
          have hP : va_P V.1 vwCl [(y 0, .inr (9, [.ref (y 1), .int 0, .ref (y 2), .ref (y 10), .ref (y 19), .ref (y 25), .ref (y 26), .ref (y 30), .ref (y 31), .ref (y 32), .null, .null, .int 0, .int v_5, .int v_6])), (y 2, .inr (1, [.int 0, .int 0, .int 0, .int 0, .int 0, .int 0, .ref (y 3), .ref (y 4), .ref (y 5), .ref (y 6), .ref (y 7), .ref (y 8), .ref (y 9), .int 0, .int 0, .int 0, .int 0, .int 0])), (y 19, .inr (4, [.ref (y 2), .ref (y 20), .ref (y 21), .ref (y 22), .ref (y 23), .ref (y 24)])), (y 26, .inr (5, [.ref (y 27), .ref (y 28), .ref (y 29), .int 0])), (y 27, aI V 10 (fun _ => 0)), (y 28, aI V 10 (fun _ => 0)), (y 29, aI V 10 (fun _ => 0))] H := hP
          have hD : va_D A [(y 0, .inr (9, [.ref (y 1), .int 0, .ref (y 2), .ref (y 10), .ref (y 19), .ref (y 25), .ref (y 26), .ref (y 30), .ref (y 31), .ref (y 32), .null, .null, .int 0, .int v_5, .int v_6])), (y 2, .inr (1, [.int 0, .int 0, .int 0, .int 0, .int 0, .int 0, .ref (y 3), .ref (y 4), .ref (y 5), .ref (y 6), .ref (y 7), .ref (y 8), .ref (y 9), .int 0, .int 0, .int 0, .int 0, .int 0])), (y 19, .inr (4, [.ref (y 2), .ref (y 20), .ref (y 21), .ref (y 22), .ref (y 23), .ref (y 24)])), (y 26, .inr (5, [.ref (y 27), .ref (y 28), .ref (y 29), .int 0])), (y 27, aI V 10 (fun _ => 0)), (y 28, aI V 10 (fun _ => 0)), (y 29, aI V 10 (fun _ => 0))] := hD
          rcases rem10 ((1103515245 * ((1103515245 * x_7) + 12345)) + 12345) with e_61 | e_62 | e_63 | e_64 | e_65 | e_66 | e_67 | e_68 | e_69 | e_70
          · refine tpi (y := 20) ((congrArg (fun q9 : Int32 => 20 + q9) e_61).trans (by decide)) ?_
            refine lv_istore (lv' := [(10, .int 20), (7, .int ((1103515245 * ((1103515245 * x_7) + 12345)) + 12345)), (9, .int 5), (8, .int (nI i_4)), (6, .int x_8), (5, .int 0), (4, .int 0), (3, .int 0), (0, .ref (y 0)), (1, .int p0), (2, .int (nI N_3))]) hx hb dX9_century_89 hl (by decide) rfl (fun ls hl => ?_)
            refine lv_aload_n hx hb dX9_century_91 rfl (lv_at hl 8 rfl) ?_
            refine lv_iload hx hb dX9_century_92 (lv_at hl 0 rfl) ?_
            refine lv_i2l (v := 20) hx hb dX9_century_94 (by decide +kernel) ?_
            refine jnI (wr := [(y 2, .inr (1, [.int 0, .int 0, .int 0, .int 0, .int 0, .int 0, .ref (y 3), .ref (y 4), .ref (y 5), .ref (y 6), .ref (y 7), .ref (y 8), .ref (y 9), .int 0, .int 0, .int 0, .int 0, .int 0])), (y 19, .inr (4, [.ref (y 2), .ref (y 20), .ref (y 21), .ref (y 22), .ref (y 23), .ref (y 24)])), (y 26, .inr (5, [.ref (y 27), .ref (y 28), .ref (y 29), .int 0])), (y 27, aI V 10 (fun _ => 0)), (y 28, aI V 10 (fun _ => 0)), (y 29, aI V 10 (fun _ => 0))]) (rnV (rest := []) ⟨hx, hb, hml, hown, hg⟩ (c_X9_tryDeed_10 l V y v_5 v_6) mt_X9_tryDeed q_3_185 ⟨Nat.le_of_ble_eq_true rfl, Nat.le_of_ble_eq_true rfl⟩ hK hP hD hS hA hE [0] rfl rfl 0 rfl rfl rfl rfl hl.1 rfl (Nat.le_of_ble_eq_true rfl) dX9_century_95 ⟨Nat.le_of_ble_eq_true rfl, Nat.le_of_ble_eq_true rfl⟩) hP hD hS hA [0] [1, 2, 3, 4, 5, 6] rfl rfl rfl (by decide) (fun r_71 w H locs hw hP hD hS => ?_)
            obtain ⟨rfl, rfl⟩ := hw
            have hP : va_P V.1 vwCl [(y 2, .inr (1, [.int 0, .int 0, .int 0, .int 0, .int 0, .int 0, .ref (y 3), .ref (y 4), .ref (y 5), .ref (y 6), .ref (y 7), .ref (y 8), .ref (y 9), .int 0, .int 0, .int 0, .int 0, .int 0])), (y 19, .inr (4, [.ref (y 2), .ref (y 20), .ref (y 21), .ref (y 22), .ref (y 23), .ref (y 24)])), (y 26, .inr (5, [.ref (y 27), .ref (y 28), .ref (y 29), .int 0])), (y 27, aI V 10 (fun _ => 0)), (y 28, aI V 10 (fun _ => 0)), (y 29, aI V 10 (fun _ => 0)), (y 0, .inr (9, [.ref (y 1), .int 0, .ref (y 2), .ref (y 10), .ref (y 19), .ref (y 25), .ref (y 26), .ref (y 30), .ref (y 31), .ref (y 32), .null, .null, .int 0, .int 0, .int v_6]))] H := hP
            have hD : va_D A [(y 2, .inr (1, [.int 0, .int 0, .int 0, .int 0, .int 0, .int 0, .ref (y 3), .ref (y 4), .ref (y 5), .ref (y 6), .ref (y 7), .ref (y 8), .ref (y 9), .int 0, .int 0, .int 0, .int 0, .int 0])), (y 19, .inr (4, [.ref (y 2), .ref (y 20), .ref (y 21), .ref (y 22), .ref (y 23), .ref (y 24)])), (y 26, .inr (5, [.ref (y 27), .ref (y 28), .ref (y 29), .int 0])), (y 27, aI V 10 (fun _ => 0)), (y 28, aI V 10 (fun _ => 0)), (y 29, aI V 10 (fun _ => 0)), (y 0, .inr (9, [.ref (y 1), .int 0, .ref (y 2), .ref (y 10), .ref (y 19), .ref (y 25), .ref (y 26), .ref (y 30), .ref (y 31), .ref (y 32), .null, .null, .int 0, .int 0, .int v_6]))] := hD
            refine lv_if_ne (tgt := 104) hx hb dX9_century_98 (by decide) (fun c_72 => absurd c_72 (by decide)) (fun _ => ?_)
            refine lv_iinc (v := (x_8 + 1)) (lv' := [(6, .int (x_8 + 1)), (10, .int 20), (7, .int ((1103515245 * ((1103515245 * x_7) + 12345)) + 12345)), (9, .int 5), (8, .int (nI i_4)), (5, .int 0), (4, .int 0), (3, .int 0), (0, .ref (y 0)), (1, .int p0), (2, .int (nI N_3))]) hx hb dX9_century_101 hl (k := 4) rfl rfl (by decide) rfl (fun ls hl => ?_)
            refine lv_iinc (v := nI (i_4 + 1)) (lv' := [(8, .int (nI (i_4 + 1))), (6, .int (x_8 + 1)), (10, .int 20), (7, .int ((1103515245 * ((1103515245 * x_7) + 12345)) + 12345)), (9, .int 5), (5, .int 0), (4, .int 0), (3, .int 0), (0, .ref (y 0)), (1, .int p0), (2, .int (nI N_3))]) hx hb dX9_century_104 hl (k := 4) rfl (nI_add i_4 1) (by decide) rfl (fun ls hl => ?_)
            refine lv_goto (tgt := 40) hx hb dX9_century_107 (by decide) ?_
            have hP := subP (ws' := [(y 0, .inr (9, [.ref (y 1), .int 0, .ref (y 2), .ref (y 10), .ref (y 19), .ref (y 25), .ref (y 26), .ref (y 30), .ref (y 31), .ref (y 32), .null, .null, .int 0, .int 0, .int v_6])), (y 2, .inr (1, [.int 0, .int 0, .int 0, .int 0, .int 0, .int 0, .ref (y 3), .ref (y 4), .ref (y 5), .ref (y 6), .ref (y 7), .ref (y 8), .ref (y 9), .int 0, .int 0, .int 0, .int 0, .int 0])), (y 19, .inr (4, [.ref (y 2), .ref (y 20), .ref (y 21), .ref (y 22), .ref (y 23), .ref (y 24)])), (y 26, .inr (5, [.ref (y 27), .ref (y 28), .ref (y 29), .int 0])), (y 27, aI V 10 (fun _ => 0)), (y 28, aI V 10 (fun _ => 0)), (y 29, aI V 10 (fun _ => 0))]) hP [6, 0, 1, 2, 3, 4, 5] rfl
            have hD := hD.sub (ws' := [(y 0, .inr (9, [.ref (y 1), .int 0, .ref (y 2), .ref (y 10), .ref (y 19), .ref (y 25), .ref (y 26), .ref (y 30), .ref (y 31), .ref (y 32), .null, .null, .int 0, .int 0, .int v_6])), (y 2, .inr (1, [.int 0, .int 0, .int 0, .int 0, .int 0, .int 0, .ref (y 3), .ref (y 4), .ref (y 5), .ref (y 6), .ref (y 7), .ref (y 8), .ref (y 9), .int 0, .int 0, .int 0, .int 0, .int 0])), (y 19, .inr (4, [.ref (y 2), .ref (y 20), .ref (y 21), .ref (y 22), .ref (y 23), .ref (y 24)])), (y 26, .inr (5, [.ref (y 27), .ref (y 28), .ref (y 29), .int 0])), (y 27, aI V 10 (fun _ => 0)), (y 28, aI V 10 (fun _ => 0)), (y 29, aI V 10 (fun _ => 0))]) [6, 0, 1, 2, 3, 4, 5] rfl rfl
            exact ih_i_4 e_10 _ _ _ ⟨0, v_6, ((1103515245 * ((1103515245 * x_7) + 12345)) + 12345), (x_8 + 1), (by omega), (cn_go hcd_i_4 (cst_5 e_18)), hP, hD, hS, lv_sub hl [0, 3, 1, 5, 6, 7, 8, 9, 10] rfl⟩
          · refine tpi (y := 21) ((congrArg (fun q9 : Int32 => 20 + q9) e_62).trans (by decide)) ?_
            refine lv_istore (lv' := [(10, .int 21), (7, .int ((1103515245 * ((1103515245 * x_7) + 12345)) + 12345)), (9, .int 5), (8, .int (nI i_4)), (6, .int x_8), (5, .int 0), (4, .int 0), (3, .int 0), (0, .ref (y 0)), (1, .int p0), (2, .int (nI N_3))]) hx hb dX9_century_89 hl (by decide) rfl (fun ls hl => ?_)
            refine lv_aload_n hx hb dX9_century_91 rfl (lv_at hl 8 rfl) ?_
            refine lv_iload hx hb dX9_century_92 (lv_at hl 0 rfl) ?_
            refine lv_i2l (v := 21) hx hb dX9_century_94 (by decide +kernel) ?_
            refine jnI (wr := [(y 2, .inr (1, [.int 0, .int 0, .int 0, .int 0, .int 0, .int 0, .ref (y 3), .ref (y 4), .ref (y 5), .ref (y 6), .ref (y 7), .ref (y 8), .ref (y 9), .int 0, .int 0, .int 0, .int 0, .int 0])), (y 19, .inr (4, [.ref (y 2), .ref (y 20), .ref (y 21), .ref (y 22), .ref (y 23), .ref (y 24)])), (y 26, .inr (5, [.ref (y 27), .ref (y 28), .ref (y 29), .int 0])), (y 27, aI V 10 (fun _ => 0)), (y 28, aI V 10 (fun _ => 0)), (y 29, aI V 10 (fun _ => 0))]) (rnV (rest := []) ⟨hx, hb, hml, hown, hg⟩ (c_X9_tryDeed_11 l V y v_5 v_6) mt_X9_tryDeed q_3_185 ⟨Nat.le_of_ble_eq_true rfl, Nat.le_of_ble_eq_true rfl⟩ hK hP hD hS hA hE [0] rfl rfl 0 rfl rfl rfl rfl hl.1 rfl (Nat.le_of_ble_eq_true rfl) dX9_century_95 ⟨Nat.le_of_ble_eq_true rfl, Nat.le_of_ble_eq_true rfl⟩) hP hD hS hA [0] [1, 2, 3, 4, 5, 6] rfl rfl rfl (by decide) (fun r_73 w H locs hw hP hD hS => ?_)
            obtain ⟨rfl, rfl⟩ := hw
            have hP : va_P V.1 vwCl [(y 2, .inr (1, [.int 0, .int 0, .int 0, .int 0, .int 0, .int 0, .ref (y 3), .ref (y 4), .ref (y 5), .ref (y 6), .ref (y 7), .ref (y 8), .ref (y 9), .int 0, .int 0, .int 0, .int 0, .int 0])), (y 19, .inr (4, [.ref (y 2), .ref (y 20), .ref (y 21), .ref (y 22), .ref (y 23), .ref (y 24)])), (y 26, .inr (5, [.ref (y 27), .ref (y 28), .ref (y 29), .int 0])), (y 27, aI V 10 (fun _ => 0)), (y 28, aI V 10 (fun _ => 0)), (y 29, aI V 10 (fun _ => 0)), (y 0, .inr (9, [.ref (y 1), .int 0, .ref (y 2), .ref (y 10), .ref (y 19), .ref (y 25), .ref (y 26), .ref (y 30), .ref (y 31), .ref (y 32), .null, .null, .int 0, .int 1, .int v_6]))] H := hP
            have hD : va_D A [(y 2, .inr (1, [.int 0, .int 0, .int 0, .int 0, .int 0, .int 0, .ref (y 3), .ref (y 4), .ref (y 5), .ref (y 6), .ref (y 7), .ref (y 8), .ref (y 9), .int 0, .int 0, .int 0, .int 0, .int 0])), (y 19, .inr (4, [.ref (y 2), .ref (y 20), .ref (y 21), .ref (y 22), .ref (y 23), .ref (y 24)])), (y 26, .inr (5, [.ref (y 27), .ref (y 28), .ref (y 29), .int 0])), (y 27, aI V 10 (fun _ => 0)), (y 28, aI V 10 (fun _ => 0)), (y 29, aI V 10 (fun _ => 0)), (y 0, .inr (9, [.ref (y 1), .int 0, .ref (y 2), .ref (y 10), .ref (y 19), .ref (y 25), .ref (y 26), .ref (y 30), .ref (y 31), .ref (y 32), .null, .null, .int 0, .int 1, .int v_6]))] := hD
            refine lv_if_ne (tgt := 104) hx hb dX9_century_98 (by decide) (fun c_74 => absurd c_74 (by decide)) (fun _ => ?_)
            refine lv_iinc (v := (x_8 + 1)) (lv' := [(6, .int (x_8 + 1)), (10, .int 21), (7, .int ((1103515245 * ((1103515245 * x_7) + 12345)) + 12345)), (9, .int 5), (8, .int (nI i_4)), (5, .int 0), (4, .int 0), (3, .int 0), (0, .ref (y 0)), (1, .int p0), (2, .int (nI N_3))]) hx hb dX9_century_101 hl (k := 4) rfl rfl (by decide) rfl (fun ls hl => ?_)
            refine lv_iinc (v := nI (i_4 + 1)) (lv' := [(8, .int (nI (i_4 + 1))), (6, .int (x_8 + 1)), (10, .int 21), (7, .int ((1103515245 * ((1103515245 * x_7) + 12345)) + 12345)), (9, .int 5), (5, .int 0), (4, .int 0), (3, .int 0), (0, .ref (y 0)), (1, .int p0), (2, .int (nI N_3))]) hx hb dX9_century_104 hl (k := 4) rfl (nI_add i_4 1) (by decide) rfl (fun ls hl => ?_)
            refine lv_goto (tgt := 40) hx hb dX9_century_107 (by decide) ?_
            have hP := subP (ws' := [(y 0, .inr (9, [.ref (y 1), .int 0, .ref (y 2), .ref (y 10), .ref (y 19), .ref (y 25), .ref (y 26), .ref (y 30), .ref (y 31), .ref (y 32), .null, .null, .int 0, .int 1, .int v_6])), (y 2, .inr (1, [.int 0, .int 0, .int 0, .int 0, .int 0, .int 0, .ref (y 3), .ref (y 4), .ref (y 5), .ref (y 6), .ref (y 7), .ref (y 8), .ref (y 9), .int 0, .int 0, .int 0, .int 0, .int 0])), (y 19, .inr (4, [.ref (y 2), .ref (y 20), .ref (y 21), .ref (y 22), .ref (y 23), .ref (y 24)])), (y 26, .inr (5, [.ref (y 27), .ref (y 28), .ref (y 29), .int 0])), (y 27, aI V 10 (fun _ => 0)), (y 28, aI V 10 (fun _ => 0)), (y 29, aI V 10 (fun _ => 0))]) hP [6, 0, 1, 2, 3, 4, 5] rfl
            have hD := hD.sub (ws' := [(y 0, .inr (9, [.ref (y 1), .int 0, .ref (y 2), .ref (y 10), .ref (y 19), .ref (y 25), .ref (y 26), .ref (y 30), .ref (y 31), .ref (y 32), .null, .null, .int 0, .int 1, .int v_6])), (y 2, .inr (1, [.int 0, .int 0, .int 0, .int 0, .int 0, .int 0, .ref (y 3), .ref (y 4), .ref (y 5), .ref (y 6), .ref (y 7), .ref (y 8), .ref (y 9), .int 0, .int 0, .int 0, .int 0, .int 0])), (y 19, .inr (4, [.ref (y 2), .ref (y 20), .ref (y 21), .ref (y 22), .ref (y 23), .ref (y 24)])), (y 26, .inr (5, [.ref (y 27), .ref (y 28), .ref (y 29), .int 0])), (y 27, aI V 10 (fun _ => 0)), (y 28, aI V 10 (fun _ => 0)), (y 29, aI V 10 (fun _ => 0))]) [6, 0, 1, 2, 3, 4, 5] rfl rfl
            exact ih_i_4 e_10 _ _ _ ⟨1, v_6, ((1103515245 * ((1103515245 * x_7) + 12345)) + 12345), (x_8 + 1), (by omega), (cn_go hcd_i_4 (cst_5 e_18)), hP, hD, hS, lv_sub hl [0, 3, 1, 5, 6, 7, 8, 9, 10] rfl⟩
          · refine tpi (y := 22) ((congrArg (fun q9 : Int32 => 20 + q9) e_63).trans (by decide)) ?_
            refine lv_istore (lv' := [(10, .int 22), (7, .int ((1103515245 * ((1103515245 * x_7) + 12345)) + 12345)), (9, .int 5), (8, .int (nI i_4)), (6, .int x_8), (5, .int 0), (4, .int 0), (3, .int 0), (0, .ref (y 0)), (1, .int p0), (2, .int (nI N_3))]) hx hb dX9_century_89 hl (by decide) rfl (fun ls hl => ?_)
            refine lv_aload_n hx hb dX9_century_91 rfl (lv_at hl 8 rfl) ?_
            refine lv_iload hx hb dX9_century_92 (lv_at hl 0 rfl) ?_
            refine lv_i2l (v := 22) hx hb dX9_century_94 (by decide +kernel) ?_
            refine jnI (wr := [(y 2, .inr (1, [.int 0, .int 0, .int 0, .int 0, .int 0, .int 0, .ref (y 3), .ref (y 4), .ref (y 5), .ref (y 6), .ref (y 7), .ref (y 8), .ref (y 9), .int 0, .int 0, .int 0, .int 0, .int 0])), (y 19, .inr (4, [.ref (y 2), .ref (y 20), .ref (y 21), .ref (y 22), .ref (y 23), .ref (y 24)])), (y 26, .inr (5, [.ref (y 27), .ref (y 28), .ref (y 29), .int 0])), (y 27, aI V 10 (fun _ => 0)), (y 28, aI V 10 (fun _ => 0)), (y 29, aI V 10 (fun _ => 0))]) (rnV (rest := []) ⟨hx, hb, hml, hown, hg⟩ (c_X9_tryDeed_12 l V y v_5 v_6) mt_X9_tryDeed q_3_185 ⟨Nat.le_of_ble_eq_true rfl, Nat.le_of_ble_eq_true rfl⟩ hK hP hD hS hA hE [0] rfl rfl 0 rfl rfl rfl rfl hl.1 rfl (Nat.le_of_ble_eq_true rfl) dX9_century_95 ⟨Nat.le_of_ble_eq_true rfl, Nat.le_of_ble_eq_true rfl⟩) hP hD hS hA [0] [1, 2, 3, 4, 5, 6] rfl rfl rfl (by decide) (fun r_75 w H locs hw hP hD hS => ?_)
            obtain ⟨rfl, rfl⟩ := hw
            have hP : va_P V.1 vwCl [(y 2, .inr (1, [.int 0, .int 0, .int 0, .int 0, .int 0, .int 0, .ref (y 3), .ref (y 4), .ref (y 5), .ref (y 6), .ref (y 7), .ref (y 8), .ref (y 9), .int 0, .int 0, .int 0, .int 0, .int 0])), (y 19, .inr (4, [.ref (y 2), .ref (y 20), .ref (y 21), .ref (y 22), .ref (y 23), .ref (y 24)])), (y 26, .inr (5, [.ref (y 27), .ref (y 28), .ref (y 29), .int 0])), (y 27, aI V 10 (fun _ => 0)), (y 28, aI V 10 (fun _ => 0)), (y 29, aI V 10 (fun _ => 0)), (y 0, .inr (9, [.ref (y 1), .int 0, .ref (y 2), .ref (y 10), .ref (y 19), .ref (y 25), .ref (y 26), .ref (y 30), .ref (y 31), .ref (y 32), .null, .null, .int 0, .int 2, .int v_6]))] H := hP
            have hD : va_D A [(y 2, .inr (1, [.int 0, .int 0, .int 0, .int 0, .int 0, .int 0, .ref (y 3), .ref (y 4), .ref (y 5), .ref (y 6), .ref (y 7), .ref (y 8), .ref (y 9), .int 0, .int 0, .int 0, .int 0, .int 0])), (y 19, .inr (4, [.ref (y 2), .ref (y 20), .ref (y 21), .ref (y 22), .ref (y 23), .ref (y 24)])), (y 26, .inr (5, [.ref (y 27), .ref (y 28), .ref (y 29), .int 0])), (y 27, aI V 10 (fun _ => 0)), (y 28, aI V 10 (fun _ => 0)), (y 29, aI V 10 (fun _ => 0)), (y 0, .inr (9, [.ref (y 1), .int 0, .ref (y 2), .ref (y 10), .ref (y 19), .ref (y 25), .ref (y 26), .ref (y 30), .ref (y 31), .ref (y 32), .null, .null, .int 0, .int 2, .int v_6]))] := hD
            refine lv_if_ne (tgt := 104) hx hb dX9_century_98 (by decide) (fun c_76 => absurd c_76 (by decide)) (fun _ => ?_)
            refine lv_iinc (v := (x_8 + 1)) (lv' := [(6, .int (x_8 + 1)), (10, .int 22), (7, .int ((1103515245 * ((1103515245 * x_7) + 12345)) + 12345)), (9, .int 5), (8, .int (nI i_4)), (5, .int 0), (4, .int 0), (3, .int 0), (0, .ref (y 0)), (1, .int p0), (2, .int (nI N_3))]) hx hb dX9_century_101 hl (k := 4) rfl rfl (by decide) rfl (fun ls hl => ?_)
            refine lv_iinc (v := nI (i_4 + 1)) (lv' := [(8, .int (nI (i_4 + 1))), (6, .int (x_8 + 1)), (10, .int 22), (7, .int ((1103515245 * ((1103515245 * x_7) + 12345)) + 12345)), (9, .int 5), (5, .int 0), (4, .int 0), (3, .int 0), (0, .ref (y 0)), (1, .int p0), (2, .int (nI N_3))]) hx hb dX9_century_104 hl (k := 4) rfl (nI_add i_4 1) (by decide) rfl (fun ls hl => ?_)
            refine lv_goto (tgt := 40) hx hb dX9_century_107 (by decide) ?_
            have hP := subP (ws' := [(y 0, .inr (9, [.ref (y 1), .int 0, .ref (y 2), .ref (y 10), .ref (y 19), .ref (y 25), .ref (y 26), .ref (y 30), .ref (y 31), .ref (y 32), .null, .null, .int 0, .int 2, .int v_6])), (y 2, .inr (1, [.int 0, .int 0, .int 0, .int 0, .int 0, .int 0, .ref (y 3), .ref (y 4), .ref (y 5), .ref (y 6), .ref (y 7), .ref (y 8), .ref (y 9), .int 0, .int 0, .int 0, .int 0, .int 0])), (y 19, .inr (4, [.ref (y 2), .ref (y 20), .ref (y 21), .ref (y 22), .ref (y 23), .ref (y 24)])), (y 26, .inr (5, [.ref (y 27), .ref (y 28), .ref (y 29), .int 0])), (y 27, aI V 10 (fun _ => 0)), (y 28, aI V 10 (fun _ => 0)), (y 29, aI V 10 (fun _ => 0))]) hP [6, 0, 1, 2, 3, 4, 5] rfl
            have hD := hD.sub (ws' := [(y 0, .inr (9, [.ref (y 1), .int 0, .ref (y 2), .ref (y 10), .ref (y 19), .ref (y 25), .ref (y 26), .ref (y 30), .ref (y 31), .ref (y 32), .null, .null, .int 0, .int 2, .int v_6])), (y 2, .inr (1, [.int 0, .int 0, .int 0, .int 0, .int 0, .int 0, .ref (y 3), .ref (y 4), .ref (y 5), .ref (y 6), .ref (y 7), .ref (y 8), .ref (y 9), .int 0, .int 0, .int 0, .int 0, .int 0])), (y 19, .inr (4, [.ref (y 2), .ref (y 20), .ref (y 21), .ref (y 22), .ref (y 23), .ref (y 24)])), (y 26, .inr (5, [.ref (y 27), .ref (y 28), .ref (y 29), .int 0])), (y 27, aI V 10 (fun _ => 0)), (y 28, aI V 10 (fun _ => 0)), (y 29, aI V 10 (fun _ => 0))]) [6, 0, 1, 2, 3, 4, 5] rfl rfl
            exact ih_i_4 e_10 _ _ _ ⟨2, v_6, ((1103515245 * ((1103515245 * x_7) + 12345)) + 12345), (x_8 + 1), (by omega), (cn_go hcd_i_4 (cst_5 e_18)), hP, hD, hS, lv_sub hl [0, 3, 1, 5, 6, 7, 8, 9, 10] rfl⟩
          · refine tpi (y := 23) ((congrArg (fun q9 : Int32 => 20 + q9) e_64).trans (by decide)) ?_
            refine lv_istore (lv' := [(10, .int 23), (7, .int ((1103515245 * ((1103515245 * x_7) + 12345)) + 12345)), (9, .int 5), (8, .int (nI i_4)), (6, .int x_8), (5, .int 0), (4, .int 0), (3, .int 0), (0, .ref (y 0)), (1, .int p0), (2, .int (nI N_3))]) hx hb dX9_century_89 hl (by decide) rfl (fun ls hl => ?_)
            refine lv_aload_n hx hb dX9_century_91 rfl (lv_at hl 8 rfl) ?_
            refine lv_iload hx hb dX9_century_92 (lv_at hl 0 rfl) ?_
            refine lv_i2l (v := 23) hx hb dX9_century_94 (by decide +kernel) ?_
            refine jnI (wr := [(y 2, .inr (1, [.int 0, .int 0, .int 0, .int 0, .int 0, .int 0, .ref (y 3), .ref (y 4), .ref (y 5), .ref (y 6), .ref (y 7), .ref (y 8), .ref (y 9), .int 0, .int 0, .int 0, .int 0, .int 0])), (y 19, .inr (4, [.ref (y 2), .ref (y 20), .ref (y 21), .ref (y 22), .ref (y 23), .ref (y 24)])), (y 26, .inr (5, [.ref (y 27), .ref (y 28), .ref (y 29), .int 0])), (y 27, aI V 10 (fun _ => 0)), (y 28, aI V 10 (fun _ => 0)), (y 29, aI V 10 (fun _ => 0))]) (rnV (rest := []) ⟨hx, hb, hml, hown, hg⟩ (c_X9_tryDeed_13 l V y v_5 v_6) mt_X9_tryDeed q_3_185 ⟨Nat.le_of_ble_eq_true rfl, Nat.le_of_ble_eq_true rfl⟩ hK hP hD hS hA hE [0] rfl rfl 0 rfl rfl rfl rfl hl.1 rfl (Nat.le_of_ble_eq_true rfl) dX9_century_95 ⟨Nat.le_of_ble_eq_true rfl, Nat.le_of_ble_eq_true rfl⟩) hP hD hS hA [0] [1, 2, 3, 4, 5, 6] rfl rfl rfl (by decide) (fun r_77 w H locs hw hP hD hS => ?_)
            obtain ⟨rfl, rfl⟩ := hw
            have hP : va_P V.1 vwCl [(y 2, .inr (1, [.int 0, .int 0, .int 0, .int 0, .int 0, .int 0, .ref (y 3), .ref (y 4), .ref (y 5), .ref (y 6), .ref (y 7), .ref (y 8), .ref (y 9), .int 0, .int 0, .int 0, .int 0, .int 0])), (y 19, .inr (4, [.ref (y 2), .ref (y 20), .ref (y 21), .ref (y 22), .ref (y 23), .ref (y 24)])), (y 26, .inr (5, [.ref (y 27), .ref (y 28), .ref (y 29), .int 0])), (y 27, aI V 10 (fun _ => 0)), (y 28, aI V 10 (fun _ => 0)), (y 29, aI V 10 (fun _ => 0)), (y 0, .inr (9, [.ref (y 1), .int 0, .ref (y 2), .ref (y 10), .ref (y 19), .ref (y 25), .ref (y 26), .ref (y 30), .ref (y 31), .ref (y 32), .null, .null, .int 0, .int 3, .int v_6]))] H := hP
            have hD : va_D A [(y 2, .inr (1, [.int 0, .int 0, .int 0, .int 0, .int 0, .int 0, .ref (y 3), .ref (y 4), .ref (y 5), .ref (y 6), .ref (y 7), .ref (y 8), .ref (y 9), .int 0, .int 0, .int 0, .int 0, .int 0])), (y 19, .inr (4, [.ref (y 2), .ref (y 20), .ref (y 21), .ref (y 22), .ref (y 23), .ref (y 24)])), (y 26, .inr (5, [.ref (y 27), .ref (y 28), .ref (y 29), .int 0])), (y 27, aI V 10 (fun _ => 0)), (y 28, aI V 10 (fun _ => 0)), (y 29, aI V 10 (fun _ => 0)), (y 0, .inr (9, [.ref (y 1), .int 0, .ref (y 2), .ref (y 10), .ref (y 19), .ref (y 25), .ref (y 26), .ref (y 30), .ref (y 31), .ref (y 32), .null, .null, .int 0, .int 3, .int v_6]))] := hD
            refine lv_if_ne (tgt := 104) hx hb dX9_century_98 (by decide) (fun c_78 => absurd c_78 (by decide)) (fun _ => ?_)
            refine lv_iinc (v := (x_8 + 1)) (lv' := [(6, .int (x_8 + 1)), (10, .int 23), (7, .int ((1103515245 * ((1103515245 * x_7) + 12345)) + 12345)), (9, .int 5), (8, .int (nI i_4)), (5, .int 0), (4, .int 0), (3, .int 0), (0, .ref (y 0)), (1, .int p0), (2, .int (nI N_3))]) hx hb dX9_century_101 hl (k := 4) rfl rfl (by decide) rfl (fun ls hl => ?_)
            refine lv_iinc (v := nI (i_4 + 1)) (lv' := [(8, .int (nI (i_4 + 1))), (6, .int (x_8 + 1)), (10, .int 23), (7, .int ((1103515245 * ((1103515245 * x_7) + 12345)) + 12345)), (9, .int 5), (5, .int 0), (4, .int 0), (3, .int 0), (0, .ref (y 0)), (1, .int p0), (2, .int (nI N_3))]) hx hb dX9_century_104 hl (k := 4) rfl (nI_add i_4 1) (by decide) rfl (fun ls hl => ?_)
            refine lv_goto (tgt := 40) hx hb dX9_century_107 (by decide) ?_
            have hP := subP (ws' := [(y 0, .inr (9, [.ref (y 1), .int 0, .ref (y 2), .ref (y 10), .ref (y 19), .ref (y 25), .ref (y 26), .ref (y 30), .ref (y 31), .ref (y 32), .null, .null, .int 0, .int 3, .int v_6])), (y 2, .inr (1, [.int 0, .int 0, .int 0, .int 0, .int 0, .int 0, .ref (y 3), .ref (y 4), .ref (y 5), .ref (y 6), .ref (y 7), .ref (y 8), .ref (y 9), .int 0, .int 0, .int 0, .int 0, .int 0])), (y 19, .inr (4, [.ref (y 2), .ref (y 20), .ref (y 21), .ref (y 22), .ref (y 23), .ref (y 24)])), (y 26, .inr (5, [.ref (y 27), .ref (y 28), .ref (y 29), .int 0])), (y 27, aI V 10 (fun _ => 0)), (y 28, aI V 10 (fun _ => 0)), (y 29, aI V 10 (fun _ => 0))]) hP [6, 0, 1, 2, 3, 4, 5] rfl
            have hD := hD.sub (ws' := [(y 0, .inr (9, [.ref (y 1), .int 0, .ref (y 2), .ref (y 10), .ref (y 19), .ref (y 25), .ref (y 26), .ref (y 30), .ref (y 31), .ref (y 32), .null, .null, .int 0, .int 3, .int v_6])), (y 2, .inr (1, [.int 0, .int 0, .int 0, .int 0, .int 0, .int 0, .ref (y 3), .ref (y 4), .ref (y 5), .ref (y 6), .ref (y 7), .ref (y 8), .ref (y 9), .int 0, .int 0, .int 0, .int 0, .int 0])), (y 19, .inr (4, [.ref (y 2), .ref (y 20), .ref (y 21), .ref (y 22), .ref (y 23), .ref (y 24)])), (y 26, .inr (5, [.ref (y 27), .ref (y 28), .ref (y 29), .int 0])), (y 27, aI V 10 (fun _ => 0)), (y 28, aI V 10 (fun _ => 0)), (y 29, aI V 10 (fun _ => 0))]) [6, 0, 1, 2, 3, 4, 5] rfl rfl
            exact ih_i_4 e_10 _ _ _ ⟨3, v_6, ((1103515245 * ((1103515245 * x_7) + 12345)) + 12345), (x_8 + 1), (by omega), (cn_go hcd_i_4 (cst_5 e_18)), hP, hD, hS, lv_sub hl [0, 3, 1, 5, 6, 7, 8, 9, 10] rfl⟩
          · refine tpi (y := 24) ((congrArg (fun q9 : Int32 => 20 + q9) e_65).trans (by decide)) ?_
            refine lv_istore (lv' := [(10, .int 24), (7, .int ((1103515245 * ((1103515245 * x_7) + 12345)) + 12345)), (9, .int 5), (8, .int (nI i_4)), (6, .int x_8), (5, .int 0), (4, .int 0), (3, .int 0), (0, .ref (y 0)), (1, .int p0), (2, .int (nI N_3))]) hx hb dX9_century_89 hl (by decide) rfl (fun ls hl => ?_)
            refine lv_aload_n hx hb dX9_century_91 rfl (lv_at hl 8 rfl) ?_
            refine lv_iload hx hb dX9_century_92 (lv_at hl 0 rfl) ?_
            refine lv_i2l (v := 24) hx hb dX9_century_94 (by decide +kernel) ?_
            refine jnI (wr := [(y 2, .inr (1, [.int 0, .int 0, .int 0, .int 0, .int 0, .int 0, .ref (y 3), .ref (y 4), .ref (y 5), .ref (y 6), .ref (y 7), .ref (y 8), .ref (y 9), .int 0, .int 0, .int 0, .int 0, .int 0])), (y 19, .inr (4, [.ref (y 2), .ref (y 20), .ref (y 21), .ref (y 22), .ref (y 23), .ref (y 24)])), (y 26, .inr (5, [.ref (y 27), .ref (y 28), .ref (y 29), .int 0])), (y 27, aI V 10 (fun _ => 0)), (y 28, aI V 10 (fun _ => 0)), (y 29, aI V 10 (fun _ => 0))]) (rnV (rest := []) ⟨hx, hb, hml, hown, hg⟩ (c_X9_tryDeed_14 l V y v_5 v_6) mt_X9_tryDeed q_3_185 ⟨Nat.le_of_ble_eq_true rfl, Nat.le_of_ble_eq_true rfl⟩ hK hP hD hS hA hE [0] rfl rfl 0 rfl rfl rfl rfl hl.1 rfl (Nat.le_of_ble_eq_true rfl) dX9_century_95 ⟨Nat.le_of_ble_eq_true rfl, Nat.le_of_ble_eq_true rfl⟩) hP hD hS hA [0] [1, 2, 3, 4, 5, 6] rfl rfl rfl (by decide) (fun r_79 w H locs hw hP hD hS => ?_)
            obtain ⟨rfl, rfl⟩ := hw
            have hP : va_P V.1 vwCl [(y 2, .inr (1, [.int 0, .int 0, .int 0, .int 0, .int 0, .int 0, .ref (y 3), .ref (y 4), .ref (y 5), .ref (y 6), .ref (y 7), .ref (y 8), .ref (y 9), .int 0, .int 0, .int 0, .int 0, .int 0])), (y 19, .inr (4, [.ref (y 2), .ref (y 20), .ref (y 21), .ref (y 22), .ref (y 23), .ref (y 24)])), (y 26, .inr (5, [.ref (y 27), .ref (y 28), .ref (y 29), .int 0])), (y 27, aI V 10 (fun _ => 0)), (y 28, aI V 10 (fun _ => 0)), (y 29, aI V 10 (fun _ => 0)), (y 0, .inr (9, [.ref (y 1), .int 0, .ref (y 2), .ref (y 10), .ref (y 19), .ref (y 25), .ref (y 26), .ref (y 30), .ref (y 31), .ref (y 32), .null, .null, .int 0, .int 4, .int v_6]))] H := hP
            have hD : va_D A [(y 2, .inr (1, [.int 0, .int 0, .int 0, .int 0, .int 0, .int 0, .ref (y 3), .ref (y 4), .ref (y 5), .ref (y 6), .ref (y 7), .ref (y 8), .ref (y 9), .int 0, .int 0, .int 0, .int 0, .int 0])), (y 19, .inr (4, [.ref (y 2), .ref (y 20), .ref (y 21), .ref (y 22), .ref (y 23), .ref (y 24)])), (y 26, .inr (5, [.ref (y 27), .ref (y 28), .ref (y 29), .int 0])), (y 27, aI V 10 (fun _ => 0)), (y 28, aI V 10 (fun _ => 0)), (y 29, aI V 10 (fun _ => 0)), (y 0, .inr (9, [.ref (y 1), .int 0, .ref (y 2), .ref (y 10), .ref (y 19), .ref (y 25), .ref (y 26), .ref (y 30), .ref (y 31), .ref (y 32), .null, .null, .int 0, .int 4, .int v_6]))] := hD
            refine lv_if_ne (tgt := 104) hx hb dX9_century_98 (by decide) (fun c_80 => absurd c_80 (by decide)) (fun _ => ?_)
            refine lv_iinc (v := (x_8 + 1)) (lv' := [(6, .int (x_8 + 1)), (10, .int 24), (7, .int ((1103515245 * ((1103515245 * x_7) + 12345)) + 12345)), (9, .int 5), (8, .int (nI i_4)), (5, .int 0), (4, .int 0), (3, .int 0), (0, .ref (y 0)), (1, .int p0), (2, .int (nI N_3))]) hx hb dX9_century_101 hl (k := 4) rfl rfl (by decide) rfl (fun ls hl => ?_)
            refine lv_iinc (v := nI (i_4 + 1)) (lv' := [(8, .int (nI (i_4 + 1))), (6, .int (x_8 + 1)), (10, .int 24), (7, .int ((1103515245 * ((1103515245 * x_7) + 12345)) + 12345)), (9, .int 5), (5, .int 0), (4, .int 0), (3, .int 0), (0, .ref (y 0)), (1, .int p0), (2, .int (nI N_3))]) hx hb dX9_century_104 hl (k := 4) rfl (nI_add i_4 1) (by decide) rfl (fun ls hl => ?_)
            refine lv_goto (tgt := 40) hx hb dX9_century_107 (by decide) ?_
            have hP := subP (ws' := [(y 0, .inr (9, [.ref (y 1), .int 0, .ref (y 2), .ref (y 10), .ref (y 19), .ref (y 25), .ref (y 26), .ref (y 30), .ref (y 31), .ref (y 32), .null, .null, .int 0, .int 4, .int v_6])), (y 2, .inr (1, [.int 0, .int 0, .int 0, .int 0, .int 0, .int 0, .ref (y 3), .ref (y 4), .ref (y 5), .ref (y 6), .ref (y 7), .ref (y 8), .ref (y 9), .int 0, .int 0, .int 0, .int 0, .int 0])), (y 19, .inr (4, [.ref (y 2), .ref (y 20), .ref (y 21), .ref (y 22), .ref (y 23), .ref (y 24)])), (y 26, .inr (5, [.ref (y 27), .ref (y 28), .ref (y 29), .int 0])), (y 27, aI V 10 (fun _ => 0)), (y 28, aI V 10 (fun _ => 0)), (y 29, aI V 10 (fun _ => 0))]) hP [6, 0, 1, 2, 3, 4, 5] rfl
            have hD := hD.sub (ws' := [(y 0, .inr (9, [.ref (y 1), .int 0, .ref (y 2), .ref (y 10), .ref (y 19), .ref (y 25), .ref (y 26), .ref (y 30), .ref (y 31), .ref (y 32), .null, .null, .int 0, .int 4, .int v_6])), (y 2, .inr (1, [.int 0, .int 0, .int 0, .int 0, .int 0, .int 0, .ref (y 3), .ref (y 4), .ref (y 5), .ref (y 6), .ref (y 7), .ref (y 8), .ref (y 9), .int 0, .int 0, .int 0, .int 0, .int 0])), (y 19, .inr (4, [.ref (y 2), .ref (y 20), .ref (y 21), .ref (y 22), .ref (y 23), .ref (y 24)])), (y 26, .inr (5, [.ref (y 27), .ref (y 28), .ref (y 29), .int 0])), (y 27, aI V 10 (fun _ => 0)), (y 28, aI V 10 (fun _ => 0)), (y 29, aI V 10 (fun _ => 0))]) [6, 0, 1, 2, 3, 4, 5] rfl rfl
            exact ih_i_4 e_10 _ _ _ ⟨4, v_6, ((1103515245 * ((1103515245 * x_7) + 12345)) + 12345), (x_8 + 1), (by omega), (cn_go hcd_i_4 (cst_5 e_18)), hP, hD, hS, lv_sub hl [0, 3, 1, 5, 6, 7, 8, 9, 10] rfl⟩
          · refine tpi (y := 25) ((congrArg (fun q9 : Int32 => 20 + q9) e_66).trans (by decide)) ?_
            refine lv_istore (lv' := [(10, .int 25), (7, .int ((1103515245 * ((1103515245 * x_7) + 12345)) + 12345)), (9, .int 5), (8, .int (nI i_4)), (6, .int x_8), (5, .int 0), (4, .int 0), (3, .int 0), (0, .ref (y 0)), (1, .int p0), (2, .int (nI N_3))]) hx hb dX9_century_89 hl (by decide) rfl (fun ls hl => ?_)
            refine lv_aload_n hx hb dX9_century_91 rfl (lv_at hl 8 rfl) ?_
            refine lv_iload hx hb dX9_century_92 (lv_at hl 0 rfl) ?_
            refine lv_i2l (v := 25) hx hb dX9_century_94 (by decide +kernel) ?_
            refine jnI (wr := [(y 2, .inr (1, [.int 0, .int 0, .int 0, .int 0, .int 0, .int 0, .ref (y 3), .ref (y 4), .ref (y 5), .ref (y 6), .ref (y 7), .ref (y 8), .ref (y 9), .int 0, .int 0, .int 0, .int 0, .int 0])), (y 19, .inr (4, [.ref (y 2), .ref (y 20), .ref (y 21), .ref (y 22), .ref (y 23), .ref (y 24)])), (y 26, .inr (5, [.ref (y 27), .ref (y 28), .ref (y 29), .int 0])), (y 27, aI V 10 (fun _ => 0)), (y 28, aI V 10 (fun _ => 0)), (y 29, aI V 10 (fun _ => 0))]) (rnV (rest := []) ⟨hx, hb, hml, hown, hg⟩ (c_X9_tryDeed_15 l V y v_5 v_6) mt_X9_tryDeed q_3_185 ⟨Nat.le_of_ble_eq_true rfl, Nat.le_of_ble_eq_true rfl⟩ hK hP hD hS hA hE [0] rfl rfl 0 rfl rfl rfl rfl hl.1 rfl (Nat.le_of_ble_eq_true rfl) dX9_century_95 ⟨Nat.le_of_ble_eq_true rfl, Nat.le_of_ble_eq_true rfl⟩) hP hD hS hA [0] [1, 2, 3, 4, 5, 6] rfl rfl rfl (by decide) (fun r_81 w H locs hw hP hD hS => ?_)
            obtain ⟨rfl, rfl⟩ := hw
            have hP : va_P V.1 vwCl [(y 2, .inr (1, [.int 0, .int 0, .int 0, .int 0, .int 0, .int 0, .ref (y 3), .ref (y 4), .ref (y 5), .ref (y 6), .ref (y 7), .ref (y 8), .ref (y 9), .int 0, .int 0, .int 0, .int 0, .int 0])), (y 19, .inr (4, [.ref (y 2), .ref (y 20), .ref (y 21), .ref (y 22), .ref (y 23), .ref (y 24)])), (y 26, .inr (5, [.ref (y 27), .ref (y 28), .ref (y 29), .int 0])), (y 27, aI V 10 (fun _ => 0)), (y 28, aI V 10 (fun _ => 0)), (y 29, aI V 10 (fun _ => 0)), (y 0, .inr (9, [.ref (y 1), .int 0, .ref (y 2), .ref (y 10), .ref (y 19), .ref (y 25), .ref (y 26), .ref (y 30), .ref (y 31), .ref (y 32), .null, .null, .int 0, .int 5, .int v_6]))] H := hP
            have hD : va_D A [(y 2, .inr (1, [.int 0, .int 0, .int 0, .int 0, .int 0, .int 0, .ref (y 3), .ref (y 4), .ref (y 5), .ref (y 6), .ref (y 7), .ref (y 8), .ref (y 9), .int 0, .int 0, .int 0, .int 0, .int 0])), (y 19, .inr (4, [.ref (y 2), .ref (y 20), .ref (y 21), .ref (y 22), .ref (y 23), .ref (y 24)])), (y 26, .inr (5, [.ref (y 27), .ref (y 28), .ref (y 29), .int 0])), (y 27, aI V 10 (fun _ => 0)), (y 28, aI V 10 (fun _ => 0)), (y 29, aI V 10 (fun _ => 0)), (y 0, .inr (9, [.ref (y 1), .int 0, .ref (y 2), .ref (y 10), .ref (y 19), .ref (y 25), .ref (y 26), .ref (y 30), .ref (y 31), .ref (y 32), .null, .null, .int 0, .int 5, .int v_6]))] := hD
            refine lv_if_ne (tgt := 104) hx hb dX9_century_98 (by decide) (fun c_82 => absurd c_82 (by decide)) (fun _ => ?_)
            refine lv_iinc (v := (x_8 + 1)) (lv' := [(6, .int (x_8 + 1)), (10, .int 25), (7, .int ((1103515245 * ((1103515245 * x_7) + 12345)) + 12345)), (9, .int 5), (8, .int (nI i_4)), (5, .int 0), (4, .int 0), (3, .int 0), (0, .ref (y 0)), (1, .int p0), (2, .int (nI N_3))]) hx hb dX9_century_101 hl (k := 4) rfl rfl (by decide) rfl (fun ls hl => ?_)
            refine lv_iinc (v := nI (i_4 + 1)) (lv' := [(8, .int (nI (i_4 + 1))), (6, .int (x_8 + 1)), (10, .int 25), (7, .int ((1103515245 * ((1103515245 * x_7) + 12345)) + 12345)), (9, .int 5), (5, .int 0), (4, .int 0), (3, .int 0), (0, .ref (y 0)), (1, .int p0), (2, .int (nI N_3))]) hx hb dX9_century_104 hl (k := 4) rfl (nI_add i_4 1) (by decide) rfl (fun ls hl => ?_)
            refine lv_goto (tgt := 40) hx hb dX9_century_107 (by decide) ?_
            have hP := subP (ws' := [(y 0, .inr (9, [.ref (y 1), .int 0, .ref (y 2), .ref (y 10), .ref (y 19), .ref (y 25), .ref (y 26), .ref (y 30), .ref (y 31), .ref (y 32), .null, .null, .int 0, .int 5, .int v_6])), (y 2, .inr (1, [.int 0, .int 0, .int 0, .int 0, .int 0, .int 0, .ref (y 3), .ref (y 4), .ref (y 5), .ref (y 6), .ref (y 7), .ref (y 8), .ref (y 9), .int 0, .int 0, .int 0, .int 0, .int 0])), (y 19, .inr (4, [.ref (y 2), .ref (y 20), .ref (y 21), .ref (y 22), .ref (y 23), .ref (y 24)])), (y 26, .inr (5, [.ref (y 27), .ref (y 28), .ref (y 29), .int 0])), (y 27, aI V 10 (fun _ => 0)), (y 28, aI V 10 (fun _ => 0)), (y 29, aI V 10 (fun _ => 0))]) hP [6, 0, 1, 2, 3, 4, 5] rfl
            have hD := hD.sub (ws' := [(y 0, .inr (9, [.ref (y 1), .int 0, .ref (y 2), .ref (y 10), .ref (y 19), .ref (y 25), .ref (y 26), .ref (y 30), .ref (y 31), .ref (y 32), .null, .null, .int 0, .int 5, .int v_6])), (y 2, .inr (1, [.int 0, .int 0, .int 0, .int 0, .int 0, .int 0, .ref (y 3), .ref (y 4), .ref (y 5), .ref (y 6), .ref (y 7), .ref (y 8), .ref (y 9), .int 0, .int 0, .int 0, .int 0, .int 0])), (y 19, .inr (4, [.ref (y 2), .ref (y 20), .ref (y 21), .ref (y 22), .ref (y 23), .ref (y 24)])), (y 26, .inr (5, [.ref (y 27), .ref (y 28), .ref (y 29), .int 0])), (y 27, aI V 10 (fun _ => 0)), (y 28, aI V 10 (fun _ => 0)), (y 29, aI V 10 (fun _ => 0))]) [6, 0, 1, 2, 3, 4, 5] rfl rfl
            exact ih_i_4 e_10 _ _ _ ⟨5, v_6, ((1103515245 * ((1103515245 * x_7) + 12345)) + 12345), (x_8 + 1), (by omega), (cn_go hcd_i_4 (cst_5 e_18)), hP, hD, hS, lv_sub hl [0, 3, 1, 5, 6, 7, 8, 9, 10] rfl⟩
          · refine tpi (y := 26) ((congrArg (fun q9 : Int32 => 20 + q9) e_67).trans (by decide)) ?_
            refine lv_istore (lv' := [(10, .int 26), (7, .int ((1103515245 * ((1103515245 * x_7) + 12345)) + 12345)), (9, .int 5), (8, .int (nI i_4)), (6, .int x_8), (5, .int 0), (4, .int 0), (3, .int 0), (0, .ref (y 0)), (1, .int p0), (2, .int (nI N_3))]) hx hb dX9_century_89 hl (by decide) rfl (fun ls hl => ?_)
            refine lv_aload_n hx hb dX9_century_91 rfl (lv_at hl 8 rfl) ?_
            refine lv_iload hx hb dX9_century_92 (lv_at hl 0 rfl) ?_
            refine lv_i2l (v := 26) hx hb dX9_century_94 (by decide +kernel) ?_
            refine jnI (wr := [(y 2, .inr (1, [.int 0, .int 0, .int 0, .int 0, .int 0, .int 0, .ref (y 3), .ref (y 4), .ref (y 5), .ref (y 6), .ref (y 7), .ref (y 8), .ref (y 9), .int 0, .int 0, .int 0, .int 0, .int 0])), (y 19, .inr (4, [.ref (y 2), .ref (y 20), .ref (y 21), .ref (y 22), .ref (y 23), .ref (y 24)])), (y 26, .inr (5, [.ref (y 27), .ref (y 28), .ref (y 29), .int 0])), (y 27, aI V 10 (fun _ => 0)), (y 28, aI V 10 (fun _ => 0)), (y 29, aI V 10 (fun _ => 0))]) (rnV (rest := []) ⟨hx, hb, hml, hown, hg⟩ (c_X9_tryDeed_16 l V y v_5 v_6) mt_X9_tryDeed q_3_185 ⟨Nat.le_of_ble_eq_true rfl, Nat.le_of_ble_eq_true rfl⟩ hK hP hD hS hA hE [0] rfl rfl 0 rfl rfl rfl rfl hl.1 rfl (Nat.le_of_ble_eq_true rfl) dX9_century_95 ⟨Nat.le_of_ble_eq_true rfl, Nat.le_of_ble_eq_true rfl⟩) hP hD hS hA [0] [1, 2, 3, 4, 5, 6] rfl rfl rfl (by decide) (fun r_83 w H locs hw hP hD hS => ?_)
            obtain ⟨rfl, rfl⟩ := hw
            have hP : va_P V.1 vwCl [(y 2, .inr (1, [.int 0, .int 0, .int 0, .int 0, .int 0, .int 0, .ref (y 3), .ref (y 4), .ref (y 5), .ref (y 6), .ref (y 7), .ref (y 8), .ref (y 9), .int 0, .int 0, .int 0, .int 0, .int 0])), (y 19, .inr (4, [.ref (y 2), .ref (y 20), .ref (y 21), .ref (y 22), .ref (y 23), .ref (y 24)])), (y 26, .inr (5, [.ref (y 27), .ref (y 28), .ref (y 29), .int 0])), (y 27, aI V 10 (fun _ => 0)), (y 28, aI V 10 (fun _ => 0)), (y 29, aI V 10 (fun _ => 0)), (y 0, .inr (9, [.ref (y 1), .int 0, .ref (y 2), .ref (y 10), .ref (y 19), .ref (y 25), .ref (y 26), .ref (y 30), .ref (y 31), .ref (y 32), .null, .null, .int 0, .int 6, .int v_6]))] H := hP
            have hD : va_D A [(y 2, .inr (1, [.int 0, .int 0, .int 0, .int 0, .int 0, .int 0, .ref (y 3), .ref (y 4), .ref (y 5), .ref (y 6), .ref (y 7), .ref (y 8), .ref (y 9), .int 0, .int 0, .int 0, .int 0, .int 0])), (y 19, .inr (4, [.ref (y 2), .ref (y 20), .ref (y 21), .ref (y 22), .ref (y 23), .ref (y 24)])), (y 26, .inr (5, [.ref (y 27), .ref (y 28), .ref (y 29), .int 0])), (y 27, aI V 10 (fun _ => 0)), (y 28, aI V 10 (fun _ => 0)), (y 29, aI V 10 (fun _ => 0)), (y 0, .inr (9, [.ref (y 1), .int 0, .ref (y 2), .ref (y 10), .ref (y 19), .ref (y 25), .ref (y 26), .ref (y 30), .ref (y 31), .ref (y 32), .null, .null, .int 0, .int 6, .int v_6]))] := hD
            refine lv_if_ne (tgt := 104) hx hb dX9_century_98 (by decide) (fun c_84 => absurd c_84 (by decide)) (fun _ => ?_)
            refine lv_iinc (v := (x_8 + 1)) (lv' := [(6, .int (x_8 + 1)), (10, .int 26), (7, .int ((1103515245 * ((1103515245 * x_7) + 12345)) + 12345)), (9, .int 5), (8, .int (nI i_4)), (5, .int 0), (4, .int 0), (3, .int 0), (0, .ref (y 0)), (1, .int p0), (2, .int (nI N_3))]) hx hb dX9_century_101 hl (k := 4) rfl rfl (by decide) rfl (fun ls hl => ?_)
            refine lv_iinc (v := nI (i_4 + 1)) (lv' := [(8, .int (nI (i_4 + 1))), (6, .int (x_8 + 1)), (10, .int 26), (7, .int ((1103515245 * ((1103515245 * x_7) + 12345)) + 12345)), (9, .int 5), (5, .int 0), (4, .int 0), (3, .int 0), (0, .ref (y 0)), (1, .int p0), (2, .int (nI N_3))]) hx hb dX9_century_104 hl (k := 4) rfl (nI_add i_4 1) (by decide) rfl (fun ls hl => ?_)
            refine lv_goto (tgt := 40) hx hb dX9_century_107 (by decide) ?_
            have hP := subP (ws' := [(y 0, .inr (9, [.ref (y 1), .int 0, .ref (y 2), .ref (y 10), .ref (y 19), .ref (y 25), .ref (y 26), .ref (y 30), .ref (y 31), .ref (y 32), .null, .null, .int 0, .int 6, .int v_6])), (y 2, .inr (1, [.int 0, .int 0, .int 0, .int 0, .int 0, .int 0, .ref (y 3), .ref (y 4), .ref (y 5), .ref (y 6), .ref (y 7), .ref (y 8), .ref (y 9), .int 0, .int 0, .int 0, .int 0, .int 0])), (y 19, .inr (4, [.ref (y 2), .ref (y 20), .ref (y 21), .ref (y 22), .ref (y 23), .ref (y 24)])), (y 26, .inr (5, [.ref (y 27), .ref (y 28), .ref (y 29), .int 0])), (y 27, aI V 10 (fun _ => 0)), (y 28, aI V 10 (fun _ => 0)), (y 29, aI V 10 (fun _ => 0))]) hP [6, 0, 1, 2, 3, 4, 5] rfl
            have hD := hD.sub (ws' := [(y 0, .inr (9, [.ref (y 1), .int 0, .ref (y 2), .ref (y 10), .ref (y 19), .ref (y 25), .ref (y 26), .ref (y 30), .ref (y 31), .ref (y 32), .null, .null, .int 0, .int 6, .int v_6])), (y 2, .inr (1, [.int 0, .int 0, .int 0, .int 0, .int 0, .int 0, .ref (y 3), .ref (y 4), .ref (y 5), .ref (y 6), .ref (y 7), .ref (y 8), .ref (y 9), .int 0, .int 0, .int 0, .int 0, .int 0])), (y 19, .inr (4, [.ref (y 2), .ref (y 20), .ref (y 21), .ref (y 22), .ref (y 23), .ref (y 24)])), (y 26, .inr (5, [.ref (y 27), .ref (y 28), .ref (y 29), .int 0])), (y 27, aI V 10 (fun _ => 0)), (y 28, aI V 10 (fun _ => 0)), (y 29, aI V 10 (fun _ => 0))]) [6, 0, 1, 2, 3, 4, 5] rfl rfl
            exact ih_i_4 e_10 _ _ _ ⟨6, v_6, ((1103515245 * ((1103515245 * x_7) + 12345)) + 12345), (x_8 + 1), (by omega), (cn_go hcd_i_4 (cst_5 e_18)), hP, hD, hS, lv_sub hl [0, 3, 1, 5, 6, 7, 8, 9, 10] rfl⟩
          · refine tpi (y := 27) ((congrArg (fun q9 : Int32 => 20 + q9) e_68).trans (by decide)) ?_
            refine lv_istore (lv' := [(10, .int 27), (7, .int ((1103515245 * ((1103515245 * x_7) + 12345)) + 12345)), (9, .int 5), (8, .int (nI i_4)), (6, .int x_8), (5, .int 0), (4, .int 0), (3, .int 0), (0, .ref (y 0)), (1, .int p0), (2, .int (nI N_3))]) hx hb dX9_century_89 hl (by decide) rfl (fun ls hl => ?_)
            refine lv_aload_n hx hb dX9_century_91 rfl (lv_at hl 8 rfl) ?_
            refine lv_iload hx hb dX9_century_92 (lv_at hl 0 rfl) ?_
            refine lv_i2l (v := 27) hx hb dX9_century_94 (by decide +kernel) ?_
            refine jnI (wr := [(y 2, .inr (1, [.int 0, .int 0, .int 0, .int 0, .int 0, .int 0, .ref (y 3), .ref (y 4), .ref (y 5), .ref (y 6), .ref (y 7), .ref (y 8), .ref (y 9), .int 0, .int 0, .int 0, .int 0, .int 0])), (y 19, .inr (4, [.ref (y 2), .ref (y 20), .ref (y 21), .ref (y 22), .ref (y 23), .ref (y 24)])), (y 26, .inr (5, [.ref (y 27), .ref (y 28), .ref (y 29), .int 0])), (y 27, aI V 10 (fun _ => 0)), (y 28, aI V 10 (fun _ => 0)), (y 29, aI V 10 (fun _ => 0))]) (rnV (rest := []) ⟨hx, hb, hml, hown, hg⟩ (c_X9_tryDeed_17 l V y v_5 v_6) mt_X9_tryDeed q_3_185 ⟨Nat.le_of_ble_eq_true rfl, Nat.le_of_ble_eq_true rfl⟩ hK hP hD hS hA hE [0] rfl rfl 0 rfl rfl rfl rfl hl.1 rfl (Nat.le_of_ble_eq_true rfl) dX9_century_95 ⟨Nat.le_of_ble_eq_true rfl, Nat.le_of_ble_eq_true rfl⟩) hP hD hS hA [0] [1, 2, 3, 4, 5, 6] rfl rfl rfl (by decide) (fun r_85 w H locs hw hP hD hS => ?_)
            obtain ⟨rfl, rfl⟩ := hw
            have hP : va_P V.1 vwCl [(y 2, .inr (1, [.int 0, .int 0, .int 0, .int 0, .int 0, .int 0, .ref (y 3), .ref (y 4), .ref (y 5), .ref (y 6), .ref (y 7), .ref (y 8), .ref (y 9), .int 0, .int 0, .int 0, .int 0, .int 0])), (y 19, .inr (4, [.ref (y 2), .ref (y 20), .ref (y 21), .ref (y 22), .ref (y 23), .ref (y 24)])), (y 26, .inr (5, [.ref (y 27), .ref (y 28), .ref (y 29), .int 0])), (y 27, aI V 10 (fun _ => 0)), (y 28, aI V 10 (fun _ => 0)), (y 29, aI V 10 (fun _ => 0)), (y 0, .inr (9, [.ref (y 1), .int 0, .ref (y 2), .ref (y 10), .ref (y 19), .ref (y 25), .ref (y 26), .ref (y 30), .ref (y 31), .ref (y 32), .null, .null, .int 0, .int 7, .int v_6]))] H := hP
            have hD : va_D A [(y 2, .inr (1, [.int 0, .int 0, .int 0, .int 0, .int 0, .int 0, .ref (y 3), .ref (y 4), .ref (y 5), .ref (y 6), .ref (y 7), .ref (y 8), .ref (y 9), .int 0, .int 0, .int 0, .int 0, .int 0])), (y 19, .inr (4, [.ref (y 2), .ref (y 20), .ref (y 21), .ref (y 22), .ref (y 23), .ref (y 24)])), (y 26, .inr (5, [.ref (y 27), .ref (y 28), .ref (y 29), .int 0])), (y 27, aI V 10 (fun _ => 0)), (y 28, aI V 10 (fun _ => 0)), (y 29, aI V 10 (fun _ => 0)), (y 0, .inr (9, [.ref (y 1), .int 0, .ref (y 2), .ref (y 10), .ref (y 19), .ref (y 25), .ref (y 26), .ref (y 30), .ref (y 31), .ref (y 32), .null, .null, .int 0, .int 7, .int v_6]))] := hD
            refine lv_if_ne (tgt := 104) hx hb dX9_century_98 (by decide) (fun c_86 => absurd c_86 (by decide)) (fun _ => ?_)
            refine lv_iinc (v := (x_8 + 1)) (lv' := [(6, .int (x_8 + 1)), (10, .int 27), (7, .int ((1103515245 * ((1103515245 * x_7) + 12345)) + 12345)), (9, .int 5), (8, .int (nI i_4)), (5, .int 0), (4, .int 0), (3, .int 0), (0, .ref (y 0)), (1, .int p0), (2, .int (nI N_3))]) hx hb dX9_century_101 hl (k := 4) rfl rfl (by decide) rfl (fun ls hl => ?_)
            refine lv_iinc (v := nI (i_4 + 1)) (lv' := [(8, .int (nI (i_4 + 1))), (6, .int (x_8 + 1)), (10, .int 27), (7, .int ((1103515245 * ((1103515245 * x_7) + 12345)) + 12345)), (9, .int 5), (5, .int 0), (4, .int 0), (3, .int 0), (0, .ref (y 0)), (1, .int p0), (2, .int (nI N_3))]) hx hb dX9_century_104 hl (k := 4) rfl (nI_add i_4 1) (by decide) rfl (fun ls hl => ?_)
            refine lv_goto (tgt := 40) hx hb dX9_century_107 (by decide) ?_
            have hP := subP (ws' := [(y 0, .inr (9, [.ref (y 1), .int 0, .ref (y 2), .ref (y 10), .ref (y 19), .ref (y 25), .ref (y 26), .ref (y 30), .ref (y 31), .ref (y 32), .null, .null, .int 0, .int 7, .int v_6])), (y 2, .inr (1, [.int 0, .int 0, .int 0, .int 0, .int 0, .int 0, .ref (y 3), .ref (y 4), .ref (y 5), .ref (y 6), .ref (y 7), .ref (y 8), .ref (y 9), .int 0, .int 0, .int 0, .int 0, .int 0])), (y 19, .inr (4, [.ref (y 2), .ref (y 20), .ref (y 21), .ref (y 22), .ref (y 23), .ref (y 24)])), (y 26, .inr (5, [.ref (y 27), .ref (y 28), .ref (y 29), .int 0])), (y 27, aI V 10 (fun _ => 0)), (y 28, aI V 10 (fun _ => 0)), (y 29, aI V 10 (fun _ => 0))]) hP [6, 0, 1, 2, 3, 4, 5] rfl
            have hD := hD.sub (ws' := [(y 0, .inr (9, [.ref (y 1), .int 0, .ref (y 2), .ref (y 10), .ref (y 19), .ref (y 25), .ref (y 26), .ref (y 30), .ref (y 31), .ref (y 32), .null, .null, .int 0, .int 7, .int v_6])), (y 2, .inr (1, [.int 0, .int 0, .int 0, .int 0, .int 0, .int 0, .ref (y 3), .ref (y 4), .ref (y 5), .ref (y 6), .ref (y 7), .ref (y 8), .ref (y 9), .int 0, .int 0, .int 0, .int 0, .int 0])), (y 19, .inr (4, [.ref (y 2), .ref (y 20), .ref (y 21), .ref (y 22), .ref (y 23), .ref (y 24)])), (y 26, .inr (5, [.ref (y 27), .ref (y 28), .ref (y 29), .int 0])), (y 27, aI V 10 (fun _ => 0)), (y 28, aI V 10 (fun _ => 0)), (y 29, aI V 10 (fun _ => 0))]) [6, 0, 1, 2, 3, 4, 5] rfl rfl
            exact ih_i_4 e_10 _ _ _ ⟨7, v_6, ((1103515245 * ((1103515245 * x_7) + 12345)) + 12345), (x_8 + 1), (by omega), (cn_go hcd_i_4 (cst_5 e_18)), hP, hD, hS, lv_sub hl [0, 3, 1, 5, 6, 7, 8, 9, 10] rfl⟩
          · refine tpi (y := 28) ((congrArg (fun q9 : Int32 => 20 + q9) e_69).trans (by decide)) ?_
            refine lv_istore (lv' := [(10, .int 28), (7, .int ((1103515245 * ((1103515245 * x_7) + 12345)) + 12345)), (9, .int 5), (8, .int (nI i_4)), (6, .int x_8), (5, .int 0), (4, .int 0), (3, .int 0), (0, .ref (y 0)), (1, .int p0), (2, .int (nI N_3))]) hx hb dX9_century_89 hl (by decide) rfl (fun ls hl => ?_)
            refine lv_aload_n hx hb dX9_century_91 rfl (lv_at hl 8 rfl) ?_
            refine lv_iload hx hb dX9_century_92 (lv_at hl 0 rfl) ?_
            refine lv_i2l (v := 28) hx hb dX9_century_94 (by decide +kernel) ?_
            refine jnI (wr := [(y 2, .inr (1, [.int 0, .int 0, .int 0, .int 0, .int 0, .int 0, .ref (y 3), .ref (y 4), .ref (y 5), .ref (y 6), .ref (y 7), .ref (y 8), .ref (y 9), .int 0, .int 0, .int 0, .int 0, .int 0])), (y 19, .inr (4, [.ref (y 2), .ref (y 20), .ref (y 21), .ref (y 22), .ref (y 23), .ref (y 24)])), (y 26, .inr (5, [.ref (y 27), .ref (y 28), .ref (y 29), .int 0])), (y 27, aI V 10 (fun _ => 0)), (y 28, aI V 10 (fun _ => 0)), (y 29, aI V 10 (fun _ => 0))]) (rnV (rest := []) ⟨hx, hb, hml, hown, hg⟩ (c_X9_tryDeed_18 l V y v_5 v_6) mt_X9_tryDeed q_3_185 ⟨Nat.le_of_ble_eq_true rfl, Nat.le_of_ble_eq_true rfl⟩ hK hP hD hS hA hE [0] rfl rfl 0 rfl rfl rfl rfl hl.1 rfl (Nat.le_of_ble_eq_true rfl) dX9_century_95 ⟨Nat.le_of_ble_eq_true rfl, Nat.le_of_ble_eq_true rfl⟩) hP hD hS hA [0] [1, 2, 3, 4, 5, 6] rfl rfl rfl (by decide) (fun r_87 w H locs hw hP hD hS => ?_)
            obtain ⟨rfl, rfl⟩ := hw
            have hP : va_P V.1 vwCl [(y 2, .inr (1, [.int 0, .int 0, .int 0, .int 0, .int 0, .int 0, .ref (y 3), .ref (y 4), .ref (y 5), .ref (y 6), .ref (y 7), .ref (y 8), .ref (y 9), .int 0, .int 0, .int 0, .int 0, .int 0])), (y 19, .inr (4, [.ref (y 2), .ref (y 20), .ref (y 21), .ref (y 22), .ref (y 23), .ref (y 24)])), (y 26, .inr (5, [.ref (y 27), .ref (y 28), .ref (y 29), .int 0])), (y 27, aI V 10 (fun _ => 0)), (y 28, aI V 10 (fun _ => 0)), (y 29, aI V 10 (fun _ => 0)), (y 0, .inr (9, [.ref (y 1), .int 0, .ref (y 2), .ref (y 10), .ref (y 19), .ref (y 25), .ref (y 26), .ref (y 30), .ref (y 31), .ref (y 32), .null, .null, .int 0, .int 8, .int v_6]))] H := hP
            have hD : va_D A [(y 2, .inr (1, [.int 0, .int 0, .int 0, .int 0, .int 0, .int 0, .ref (y 3), .ref (y 4), .ref (y 5), .ref (y 6), .ref (y 7), .ref (y 8), .ref (y 9), .int 0, .int 0, .int 0, .int 0, .int 0])), (y 19, .inr (4, [.ref (y 2), .ref (y 20), .ref (y 21), .ref (y 22), .ref (y 23), .ref (y 24)])), (y 26, .inr (5, [.ref (y 27), .ref (y 28), .ref (y 29), .int 0])), (y 27, aI V 10 (fun _ => 0)), (y 28, aI V 10 (fun _ => 0)), (y 29, aI V 10 (fun _ => 0)), (y 0, .inr (9, [.ref (y 1), .int 0, .ref (y 2), .ref (y 10), .ref (y 19), .ref (y 25), .ref (y 26), .ref (y 30), .ref (y 31), .ref (y 32), .null, .null, .int 0, .int 8, .int v_6]))] := hD
            refine lv_if_ne (tgt := 104) hx hb dX9_century_98 (by decide) (fun c_88 => absurd c_88 (by decide)) (fun _ => ?_)
            refine lv_iinc (v := (x_8 + 1)) (lv' := [(6, .int (x_8 + 1)), (10, .int 28), (7, .int ((1103515245 * ((1103515245 * x_7) + 12345)) + 12345)), (9, .int 5), (8, .int (nI i_4)), (5, .int 0), (4, .int 0), (3, .int 0), (0, .ref (y 0)), (1, .int p0), (2, .int (nI N_3))]) hx hb dX9_century_101 hl (k := 4) rfl rfl (by decide) rfl (fun ls hl => ?_)
            refine lv_iinc (v := nI (i_4 + 1)) (lv' := [(8, .int (nI (i_4 + 1))), (6, .int (x_8 + 1)), (10, .int 28), (7, .int ((1103515245 * ((1103515245 * x_7) + 12345)) + 12345)), (9, .int 5), (5, .int 0), (4, .int 0), (3, .int 0), (0, .ref (y 0)), (1, .int p0), (2, .int (nI N_3))]) hx hb dX9_century_104 hl (k := 4) rfl (nI_add i_4 1) (by decide) rfl (fun ls hl => ?_)
            refine lv_goto (tgt := 40) hx hb dX9_century_107 (by decide) ?_
            have hP := subP (ws' := [(y 0, .inr (9, [.ref (y 1), .int 0, .ref (y 2), .ref (y 10), .ref (y 19), .ref (y 25), .ref (y 26), .ref (y 30), .ref (y 31), .ref (y 32), .null, .null, .int 0, .int 8, .int v_6])), (y 2, .inr (1, [.int 0, .int 0, .int 0, .int 0, .int 0, .int 0, .ref (y 3), .ref (y 4), .ref (y 5), .ref (y 6), .ref (y 7), .ref (y 8), .ref (y 9), .int 0, .int 0, .int 0, .int 0, .int 0])), (y 19, .inr (4, [.ref (y 2), .ref (y 20), .ref (y 21), .ref (y 22), .ref (y 23), .ref (y 24)])), (y 26, .inr (5, [.ref (y 27), .ref (y 28), .ref (y 29), .int 0])), (y 27, aI V 10 (fun _ => 0)), (y 28, aI V 10 (fun _ => 0)), (y 29, aI V 10 (fun _ => 0))]) hP [6, 0, 1, 2, 3, 4, 5] rfl
            have hD := hD.sub (ws' := [(y 0, .inr (9, [.ref (y 1), .int 0, .ref (y 2), .ref (y 10), .ref (y 19), .ref (y 25), .ref (y 26), .ref (y 30), .ref (y 31), .ref (y 32), .null, .null, .int 0, .int 8, .int v_6])), (y 2, .inr (1, [.int 0, .int 0, .int 0, .int 0, .int 0, .int 0, .ref (y 3), .ref (y 4), .ref (y 5), .ref (y 6), .ref (y 7), .ref (y 8), .ref (y 9), .int 0, .int 0, .int 0, .int 0, .int 0])), (y 19, .inr (4, [.ref (y 2), .ref (y 20), .ref (y 21), .ref (y 22), .ref (y 23), .ref (y 24)])), (y 26, .inr (5, [.ref (y 27), .ref (y 28), .ref (y 29), .int 0])), (y 27, aI V 10 (fun _ => 0)), (y 28, aI V 10 (fun _ => 0)), (y 29, aI V 10 (fun _ => 0))]) [6, 0, 1, 2, 3, 4, 5] rfl rfl
            exact ih_i_4 e_10 _ _ _ ⟨8, v_6, ((1103515245 * ((1103515245 * x_7) + 12345)) + 12345), (x_8 + 1), (by omega), (cn_go hcd_i_4 (cst_5 e_18)), hP, hD, hS, lv_sub hl [0, 3, 1, 5, 6, 7, 8, 9, 10] rfl⟩
          · refine tpi (y := 29) ((congrArg (fun q9 : Int32 => 20 + q9) e_70).trans (by decide)) ?_
            refine lv_istore (lv' := [(10, .int 29), (7, .int ((1103515245 * ((1103515245 * x_7) + 12345)) + 12345)), (9, .int 5), (8, .int (nI i_4)), (6, .int x_8), (5, .int 0), (4, .int 0), (3, .int 0), (0, .ref (y 0)), (1, .int p0), (2, .int (nI N_3))]) hx hb dX9_century_89 hl (by decide) rfl (fun ls hl => ?_)
            refine lv_aload_n hx hb dX9_century_91 rfl (lv_at hl 8 rfl) ?_
            refine lv_iload hx hb dX9_century_92 (lv_at hl 0 rfl) ?_
            refine lv_i2l (v := 29) hx hb dX9_century_94 (by decide +kernel) ?_
            refine jnI (wr := [(y 2, .inr (1, [.int 0, .int 0, .int 0, .int 0, .int 0, .int 0, .ref (y 3), .ref (y 4), .ref (y 5), .ref (y 6), .ref (y 7), .ref (y 8), .ref (y 9), .int 0, .int 0, .int 0, .int 0, .int 0])), (y 19, .inr (4, [.ref (y 2), .ref (y 20), .ref (y 21), .ref (y 22), .ref (y 23), .ref (y 24)])), (y 26, .inr (5, [.ref (y 27), .ref (y 28), .ref (y 29), .int 0])), (y 27, aI V 10 (fun _ => 0)), (y 28, aI V 10 (fun _ => 0)), (y 29, aI V 10 (fun _ => 0))]) (rnV (rest := []) ⟨hx, hb, hml, hown, hg⟩ (c_X9_tryDeed_19 l V y v_5 v_6) mt_X9_tryDeed q_3_185 ⟨Nat.le_of_ble_eq_true rfl, Nat.le_of_ble_eq_true rfl⟩ hK hP hD hS hA hE [0] rfl rfl 0 rfl rfl rfl rfl hl.1 rfl (Nat.le_of_ble_eq_true rfl) dX9_century_95 ⟨Nat.le_of_ble_eq_true rfl, Nat.le_of_ble_eq_true rfl⟩) hP hD hS hA [0] [1, 2, 3, 4, 5, 6] rfl rfl rfl (by decide) (fun r_89 w H locs hw hP hD hS => ?_)
            obtain ⟨rfl, rfl⟩ := hw
            have hP : va_P V.1 vwCl [(y 2, .inr (1, [.int 0, .int 0, .int 0, .int 0, .int 0, .int 0, .ref (y 3), .ref (y 4), .ref (y 5), .ref (y 6), .ref (y 7), .ref (y 8), .ref (y 9), .int 0, .int 0, .int 0, .int 0, .int 0])), (y 19, .inr (4, [.ref (y 2), .ref (y 20), .ref (y 21), .ref (y 22), .ref (y 23), .ref (y 24)])), (y 26, .inr (5, [.ref (y 27), .ref (y 28), .ref (y 29), .int 0])), (y 27, aI V 10 (fun _ => 0)), (y 28, aI V 10 (fun _ => 0)), (y 29, aI V 10 (fun _ => 0)), (y 0, .inr (9, [.ref (y 1), .int 0, .ref (y 2), .ref (y 10), .ref (y 19), .ref (y 25), .ref (y 26), .ref (y 30), .ref (y 31), .ref (y 32), .null, .null, .int 0, .int 9, .int v_6]))] H := hP
            have hD : va_D A [(y 2, .inr (1, [.int 0, .int 0, .int 0, .int 0, .int 0, .int 0, .ref (y 3), .ref (y 4), .ref (y 5), .ref (y 6), .ref (y 7), .ref (y 8), .ref (y 9), .int 0, .int 0, .int 0, .int 0, .int 0])), (y 19, .inr (4, [.ref (y 2), .ref (y 20), .ref (y 21), .ref (y 22), .ref (y 23), .ref (y 24)])), (y 26, .inr (5, [.ref (y 27), .ref (y 28), .ref (y 29), .int 0])), (y 27, aI V 10 (fun _ => 0)), (y 28, aI V 10 (fun _ => 0)), (y 29, aI V 10 (fun _ => 0)), (y 0, .inr (9, [.ref (y 1), .int 0, .ref (y 2), .ref (y 10), .ref (y 19), .ref (y 25), .ref (y 26), .ref (y 30), .ref (y 31), .ref (y 32), .null, .null, .int 0, .int 9, .int v_6]))] := hD
            refine lv_if_ne (tgt := 104) hx hb dX9_century_98 (by decide) (fun c_90 => absurd c_90 (by decide)) (fun _ => ?_)
            refine lv_iinc (v := (x_8 + 1)) (lv' := [(6, .int (x_8 + 1)), (10, .int 29), (7, .int ((1103515245 * ((1103515245 * x_7) + 12345)) + 12345)), (9, .int 5), (8, .int (nI i_4)), (5, .int 0), (4, .int 0), (3, .int 0), (0, .ref (y 0)), (1, .int p0), (2, .int (nI N_3))]) hx hb dX9_century_101 hl (k := 4) rfl rfl (by decide) rfl (fun ls hl => ?_)
            refine lv_iinc (v := nI (i_4 + 1)) (lv' := [(8, .int (nI (i_4 + 1))), (6, .int (x_8 + 1)), (10, .int 29), (7, .int ((1103515245 * ((1103515245 * x_7) + 12345)) + 12345)), (9, .int 5), (5, .int 0), (4, .int 0), (3, .int 0), (0, .ref (y 0)), (1, .int p0), (2, .int (nI N_3))]) hx hb dX9_century_104 hl (k := 4) rfl (nI_add i_4 1) (by decide) rfl (fun ls hl => ?_)
            refine lv_goto (tgt := 40) hx hb dX9_century_107 (by decide) ?_
            have hP := subP (ws' := [(y 0, .inr (9, [.ref (y 1), .int 0, .ref (y 2), .ref (y 10), .ref (y 19), .ref (y 25), .ref (y 26), .ref (y 30), .ref (y 31), .ref (y 32), .null, .null, .int 0, .int 9, .int v_6])), (y 2, .inr (1, [.int 0, .int 0, .int 0, .int 0, .int 0, .int 0, .ref (y 3), .ref (y 4), .ref (y 5), .ref (y 6), .ref (y 7), .ref (y 8), .ref (y 9), .int 0, .int 0, .int 0, .int 0, .int 0])), (y 19, .inr (4, [.ref (y 2), .ref (y 20), .ref (y 21), .ref (y 22), .ref (y 23), .ref (y 24)])), (y 26, .inr (5, [.ref (y 27), .ref (y 28), .ref (y 29), .int 0])), (y 27, aI V 10 (fun _ => 0)), (y 28, aI V 10 (fun _ => 0)), (y 29, aI V 10 (fun _ => 0))]) hP [6, 0, 1, 2, 3, 4, 5] rfl
            have hD := hD.sub (ws' := [(y 0, .inr (9, [.ref (y 1), .int 0, .ref (y 2), .ref (y 10), .ref (y 19), .ref (y 25), .ref (y 26), .ref (y 30), .ref (y 31), .ref (y 32), .null, .null, .int 0, .int 9, .int v_6])), (y 2, .inr (1, [.int 0, .int 0, .int 0, .int 0, .int 0, .int 0, .ref (y 3), .ref (y 4), .ref (y 5), .ref (y 6), .ref (y 7), .ref (y 8), .ref (y 9), .int 0, .int 0, .int 0, .int 0, .int 0])), (y 19, .inr (4, [.ref (y 2), .ref (y 20), .ref (y 21), .ref (y 22), .ref (y 23), .ref (y 24)])), (y 26, .inr (5, [.ref (y 27), .ref (y 28), .ref (y 29), .int 0])), (y 27, aI V 10 (fun _ => 0)), (y 28, aI V 10 (fun _ => 0)), (y 29, aI V 10 (fun _ => 0))]) [6, 0, 1, 2, 3, 4, 5] rfl rfl
            exact ih_i_4 e_10 _ _ _ ⟨9, v_6, ((1103515245 * ((1103515245 * x_7) + 12345)) + 12345), (x_8 + 1), (by omega), (cn_go hcd_i_4 (cst_5 e_18)), hP, hD, hS, lv_sub hl [0, 3, 1, 5, 6, 7, 8, 9, 10] rfl⟩
    · refine lv_bipush (v := (-3)) hx hb dX9_century_11 (by decide) ?_
      exact fiI hx hb hr hlk hK hP hD hS dX9_century_13 (Nat.le_of_ble_eq_true rfl) (Nat.le_of_ble_eq_true rfl) (Or.inr (Or.inl ⟨c_1, c_2, rfl, rfl⟩))
