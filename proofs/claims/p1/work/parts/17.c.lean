theorem updsw {f : Nat → Int32} {j k : Nat} {a b c : Int32} (h : j ≠ k) : upd (upd (upd f j a) k b) j c = upd (upd f j c) k b := by
  funext q; unfold upd
  by_cases h1 : q = j
  · rw [if_pos h1, if_neg (fun e => h (h1.symm.trans e)), if_pos h1]
  · by_cases h2 : q = k
    · rw [if_neg h1, if_pos h2, if_pos h2]
    · rw [if_neg h1, if_neg h2, if_neg h1, if_neg h2, if_neg h1]
theorem dX10_numbers_0 : decode cX10_numbers 0 = .ok (.aload_n 0, 1) := by decide +kernel
theorem dX10_numbers_1 : decode cX10_numbers 1 = .ok (.iconst 0, 1) := by decide +kernel
theorem dX10_numbers_2 : decode cX10_numbers 2 = .ok (.putfield 1, 3) := by decide +kernel
theorem dX10_numbers_5 : decode cX10_numbers 5 = .ok (.iload_n 1, 1) := by decide +kernel
theorem dX10_numbers_6 : decode cX10_numbers 6 = .ok (.i2l, 1) := by decide +kernel
theorem dX10_numbers_7 : decode cX10_numbers 7 = .ok (.lconst 0, 1) := by decide +kernel
theorem dX10_numbers_8 : decode cX10_numbers 8 = .ok (.ldc2_w 315, 3) := by decide +kernel
theorem dX10_numbers_11 : decode cX10_numbers 11 = .ok (.invokestatic 159, 3) := by decide +kernel
theorem dX10_numbers_14 : decode cX10_numbers 14 = .ok (.ifCond .eq 15, 3) := by decide +kernel
theorem dX10_numbers_29 : decode cX10_numbers 29 = .ok (.bipush (-2), 2) := by decide +kernel
theorem dX10_numbers_31 : decode cX10_numbers 31 = .ok (.ireturn, 1) := by decide +kernel
theorem dX10_numbers_17 : decode cX10_numbers 17 = .ok (.iload_n 2, 1) := by decide +kernel
theorem dX10_numbers_18 : decode cX10_numbers 18 = .ok (.i2l, 1) := by decide +kernel
theorem dX10_numbers_19 : decode cX10_numbers 19 = .ok (.lconst 0, 1) := by decide +kernel
theorem dX10_numbers_20 : decode cX10_numbers 20 = .ok (.ldc2_w 315, 3) := by decide +kernel
theorem dX10_numbers_23 : decode cX10_numbers 23 = .ok (.invokestatic 159, 3) := by decide +kernel
theorem dX10_numbers_26 : decode cX10_numbers 26 = .ok (.ifCond .ne 6, 3) := by decide +kernel
theorem dX10_numbers_32 : decode cX10_numbers 32 = .ok (.iload_n 3, 1) := by decide +kernel
theorem dX10_numbers_33 : decode cX10_numbers 33 = .ok (.i2l, 1) := by decide +kernel
theorem dX10_numbers_34 : decode cX10_numbers 34 = .ok (.lconst 0, 1) := by decide +kernel
theorem q_7_143 : Cond.constantLong "BeaconDelayModel" 336 (40 : Int64) ∈ gw := gw_7 (i := 143) (by decide +kernel) rfl
theorem dX10_numbers_35 : decode cX10_numbers 35 = .ok (.ldc2_w 336, 3) := by decide +kernel
theorem dX10_numbers_38 : decode cX10_numbers 38 = .ok (.invokestatic 159, 3) := by decide +kernel
theorem dX10_numbers_41 : decode cX10_numbers 41 = .ok (.ifCond .ne 6, 3) := by decide +kernel
theorem dX10_numbers_44 : decode cX10_numbers 44 = .ok (.bipush (-3), 2) := by decide +kernel
theorem dX10_numbers_46 : decode cX10_numbers 46 = .ok (.ireturn, 1) := by decide +kernel
theorem dX10_numbers_47 : decode cX10_numbers 47 = .ok (.aload_n 0, 1) := by decide +kernel
theorem dX10_numbers_48 : decode cX10_numbers 48 = .ok (.getfield 84, 3) := by decide +kernel
theorem dX10_numbers_51 : decode cX10_numbers 51 = .ok (.iload_n 1, 1) := by decide +kernel
theorem dX10_numbers_52 : decode cX10_numbers 52 = .ok (.iload_n 2, 1) := by decide +kernel
theorem dX10_numbers_53 : decode cX10_numbers 53 = .ok (.iastore, 1) := by decide +kernel
theorem dX10_numbers_54 : decode cX10_numbers 54 = .ok (.aload_n 0, 1) := by decide +kernel
theorem dX10_numbers_55 : decode cX10_numbers 55 = .ok (.getfield 87, 3) := by decide +kernel
theorem dX10_numbers_58 : decode cX10_numbers 58 = .ok (.iload_n 1, 1) := by decide +kernel
theorem dX10_numbers_59 : decode cX10_numbers 59 = .ok (.iload_n 3, 1) := by decide +kernel
theorem dX10_numbers_60 : decode cX10_numbers 60 = .ok (.iastore, 1) := by decide +kernel
theorem dX10_numbers_61 : decode cX10_numbers 61 = .ok (.iconst 0, 1) := by decide +kernel
theorem dX10_numbers_62 : decode cX10_numbers 62 = .ok (.istore 4, 2) := by decide +kernel
theorem dX10_numbers_64 : decode cX10_numbers 64 = .ok (.iload 4, 2) := by decide +kernel
theorem dX10_numbers_66 : decode cX10_numbers 66 = .ok (.iload_n 3, 1) := by decide +kernel
theorem dX10_numbers_67 : decode cX10_numbers 67 = .ok (.if_icmp .ge 22, 3) := by decide +kernel
theorem dX10_numbers_89 : decode cX10_numbers 89 = .ok (.iconst 0, 1) := by decide +kernel
theorem dX10_numbers_90 : decode cX10_numbers 90 = .ok (.ireturn, 1) := by decide +kernel
theorem dX10_numbers_70 : decode cX10_numbers 70 = .ok (.aload_n 0, 1) := by decide +kernel
theorem dX10_numbers_71 : decode cX10_numbers 71 = .ok (.getfield 90, 3) := by decide +kernel
theorem dX10_numbers_74 : decode cX10_numbers 74 = .ok (.bipush 40, 2) := by decide +kernel
theorem dX10_numbers_76 : decode cX10_numbers 76 = .ok (.iload_n 1, 1) := by decide +kernel
theorem dX10_numbers_77 : decode cX10_numbers 77 = .ok (.imul, 1) := by decide +kernel
theorem dX10_numbers_78 : decode cX10_numbers 78 = .ok (.iload 4, 2) := by decide +kernel
theorem dX10_numbers_80 : decode cX10_numbers 80 = .ok (.iadd, 1) := by decide +kernel
theorem dX10_numbers_81 : decode cX10_numbers 81 = .ok (.lconst 0, 1) := by decide +kernel
theorem dX10_numbers_82 : decode cX10_numbers 82 = .ok (.lastore, 1) := by decide +kernel
theorem dX10_numbers_83 : decode cX10_numbers 83 = .ok (.iinc 4 1, 3) := by decide +kernel
theorem dX10_numbers_86 : decode cX10_numbers 86 = .ok (.goto (-22), 3) := by decide +kernel
set_option maxHeartbeats 4000000 in
set_option maxRecDepth 100000 in
theorem c_X10_numbers_0 (l : Launch) (V : GV) (z : Nat → Nat) (p0 : Int32) (p1 : Int32) (p2 : Int32) : Ct l V yX10_numbers (.code yX10_numbers cX10_numbers 5 (some .int)) 2 [.ref (z 0), .int p0, .int p1, .int p2] [(z 0, .inr (10, mo z 0 0 0 0 0 0 0 0 0 0 (-1) 0 0 0 0 0)), (z 37, aI V 4 (upd (upd (upd (upd (fun _ => 0) 0 (-1)) 1 (-1)) 2 (-1)) 3 (-1))), (z 38, aI V 4 (fun _ => 0)), (z 39, aJ V 160 (fun _ => 0))] 0 0 (QI V (fun (r : Int32) (w : va_W) => (p0.toInt64 < 0 ∧ r = (-2) ∧ w = [(z 0, .inr (10, mo z 0 0 0 0 0 0 0 0 0 0 (-1) 0 0 0 0 0)), (z 37, aI V 4 (upd (upd (upd (upd (fun _ => 0) 0 (-1)) 1 (-1)) 2 (-1)) 3 (-1))), (z 38, aI V 4 (fun _ => 0)), (z 39, aJ V 160 (fun _ => 0))]) ∨ ((¬ p0.toInt64 < 0) ∧ 3 < p0.toInt64 ∧ r = (-2) ∧ w = [(z 0, .inr (10, mo z 0 0 0 0 0 0 0 0 0 0 (-1) 0 0 0 0 0)), (z 37, aI V 4 (upd (upd (upd (upd (fun _ => 0) 0 (-1)) 1 (-1)) 2 (-1)) 3 (-1))), (z 38, aI V 4 (fun _ => 0)), (z 39, aJ V 160 (fun _ => 0))]) ∨ ((¬ p0.toInt64 < 0) ∧ (¬ 3 < p0.toInt64) ∧ p1.toInt64 < 0 ∧ r = (-2) ∧ w = [(z 0, .inr (10, mo z 0 0 0 0 0 0 0 0 0 0 (-1) 0 0 0 0 0)), (z 37, aI V 4 (upd (upd (upd (upd (fun _ => 0) 0 (-1)) 1 (-1)) 2 (-1)) 3 (-1))), (z 38, aI V 4 (fun _ => 0)), (z 39, aJ V 160 (fun _ => 0))]) ∨ ((¬ p0.toInt64 < 0) ∧ (¬ 3 < p0.toInt64) ∧ (¬ p1.toInt64 < 0) ∧ 3 < p1.toInt64 ∧ r = (-2) ∧ w = [(z 0, .inr (10, mo z 0 0 0 0 0 0 0 0 0 0 (-1) 0 0 0 0 0)), (z 37, aI V 4 (upd (upd (upd (upd (fun _ => 0) 0 (-1)) 1 (-1)) 2 (-1)) 3 (-1))), (z 38, aI V 4 (fun _ => 0)), (z 39, aJ V 160 (fun _ => 0))]) ∨ ((¬ p0.toInt64 < 0) ∧ (¬ 3 < p0.toInt64) ∧ (¬ p1.toInt64 < 0) ∧ (¬ 3 < p1.toInt64) ∧ p2.toInt64 < 0 ∧ r = (-3) ∧ w = [(z 0, .inr (10, mo z 0 0 0 0 0 0 0 0 0 0 (-1) 0 0 0 0 0)), (z 37, aI V 4 (upd (upd (upd (upd (fun _ => 0) 0 (-1)) 1 (-1)) 2 (-1)) 3 (-1))), (z 38, aI V 4 (fun _ => 0)), (z 39, aJ V 160 (fun _ => 0))]) ∨ ((¬ p0.toInt64 < 0) ∧ (¬ 3 < p0.toInt64) ∧ (¬ p1.toInt64 < 0) ∧ (¬ 3 < p1.toInt64) ∧ (¬ p2.toInt64 < 0) ∧ 40 < p2.toInt64 ∧ r = (-3) ∧ w = [(z 0, .inr (10, mo z 0 0 0 0 0 0 0 0 0 0 (-1) 0 0 0 0 0)), (z 37, aI V 4 (upd (upd (upd (upd (fun _ => 0) 0 (-1)) 1 (-1)) 2 (-1)) 3 (-1))), (z 38, aI V 4 (fun _ => 0)), (z 39, aJ V 160 (fun _ => 0))]) ∨ ((¬ p0.toInt64 < 0) ∧ (¬ 3 < p0.toInt64) ∧ (¬ p1.toInt64 < 0) ∧ (¬ 3 < p1.toInt64) ∧ (¬ p2.toInt64 < 0) ∧ (¬ 40 < p2.toInt64) ∧ p0 = 0 ∧ r = 0 ∧ w = [(z 0, .inr (10, mo z 0 0 0 0 0 0 0 0 0 0 (-1) 0 0 0 0 0)), (z 37, aI V 4 (upd (upd (upd (upd (upd (fun _ => 0) 0 (-1)) 1 (-1)) 2 (-1)) 3 (-1)) 0 p1)), (z 38, aI V 4 (upd (fun _ => 0) 0 p2)), (z 39, aJ V 160 (fun _ => 0))]) ∨ ((¬ p0.toInt64 < 0) ∧ (¬ 3 < p0.toInt64) ∧ (¬ p1.toInt64 < 0) ∧ (¬ 3 < p1.toInt64) ∧ (¬ p2.toInt64 < 0) ∧ (¬ 40 < p2.toInt64) ∧ p0 = 1 ∧ r = 0 ∧ w = [(z 0, .inr (10, mo z 0 0 0 0 0 0 0 0 0 0 (-1) 0 0 0 0 0)), (z 37, aI V 4 (upd (upd (upd (upd (upd (fun _ => 0) 0 (-1)) 1 (-1)) 2 (-1)) 3 (-1)) 1 p1)), (z 38, aI V 4 (upd (fun _ => 0) 1 p2)), (z 39, aJ V 160 (fun _ => 0))]) ∨ ((¬ p0.toInt64 < 0) ∧ (¬ 3 < p0.toInt64) ∧ (¬ p1.toInt64 < 0) ∧ (¬ 3 < p1.toInt64) ∧ (¬ p2.toInt64 < 0) ∧ (¬ 40 < p2.toInt64) ∧ p0 = 2 ∧ r = 0 ∧ w = [(z 0, .inr (10, mo z 0 0 0 0 0 0 0 0 0 0 (-1) 0 0 0 0 0)), (z 37, aI V 4 (upd (upd (upd (upd (fun _ => 0) 0 (-1)) 1 (-1)) 2 p1) 3 (-1))), (z 38, aI V 4 (upd (fun _ => 0) 2 p2)), (z 39, aJ V 160 (fun _ => 0))]) ∨ ((¬ p0.toInt64 < 0) ∧ (¬ 3 < p0.toInt64) ∧ (¬ p1.toInt64 < 0) ∧ (¬ 3 < p1.toInt64) ∧ (¬ p2.toInt64 < 0) ∧ (¬ 40 < p2.toInt64) ∧ p0 = 3 ∧ r = 0 ∧ w = [(z 0, .inr (10, mo z 0 0 0 0 0 0 0 0 0 0 (-1) 0 0 0 0 0)), (z 37, aI V 4 (upd (upd (upd (upd (fun _ => 0) 0 (-1)) 1 (-1)) 2 (-1)) 3 p1)), (z 38, aI V 4 (upd (fun _ => 0) 3 p2)), (z 39, aJ V 160 (fun _ => 0))]))) := by
  refine Ct.of (by decide) (Nat.le_of_ble_eq_true rfl) (fun p e s m below meth c A ls hx hb hr hml hown hlk hnm hg hP hK hD hE hA hS hl => ?_)
  have hl : lv_has ls 5 [(0, .ref (z 0)), (1, .int p0), (2, .int p1), (3, .int p2)] := hl
  refine lv_aload_n hx hb dX10_numbers_0 rfl (lv_at hl 0 rfl) ?_
  refine lv_iconst (v := 0) hx hb dX10_numbers_1 (by decide) ?_
  refine va_put (ci := 10) (v := .int 0) (ty := .int) (C := RX10) (T := TX10) (N := 40) hx hb hg inX10 tyX10 tyX10_ok nmX10 hown hK hP hD hS 0 rfl rfl 0 (by decide) (hg _ q_5_224) (fun _ h9 => h9) rfl (by decide +kernel) rfl rfl (Nat.le_of_ble_eq_true rfl) dX10_numbers_2 (fun H locs hP hD hS => ?_)
  have hP : va_P V.1 vwCl [(z 0, .inr (10, mo z 0 0 0 0 0 0 0 0 0 0 (-1) 0 0 0 0 0)), (z 37, aI V 4 (upd (upd (upd (upd (fun _ => 0) 0 (-1)) 1 (-1)) 2 (-1)) 3 (-1))), (z 38, aI V 4 (fun _ => 0)), (z 39, aJ V 160 (fun _ => 0))] H := hP
  have hD : va_D A [(z 0, .inr (10, mo z 0 0 0 0 0 0 0 0 0 0 (-1) 0 0 0 0 0)), (z 37, aI V 4 (upd (upd (upd (upd (fun _ => 0) 0 (-1)) 1 (-1)) 2 (-1)) 3 (-1))), (z 38, aI V 4 (fun _ => 0)), (z 39, aJ V 160 (fun _ => 0))] := hD
  refine lv_iload_n hx hb dX10_numbers_5 rfl (lv_at hl 1 rfl) ?_
  refine lv_i2l (v := p0.toInt64) hx hb dX10_numbers_6 rfl ?_
  refine lv_lconst (v := 0) hx hb dX10_numbers_7 (by decide) ?_
  refine lv_ldc2 (v := 3) hx hb hown (hg _ q_7_107) dX10_numbers_8 ?_
  refine jnI (wr := [(z 0, .inr (10, mo z 0 0 0 0 0 0 0 0 0 0 (-1) 0 0 0 0 0)), (z 37, aI V 4 (upd (upd (upd (upd (fun _ => 0) 0 (-1)) 1 (-1)) 2 (-1)) 3 (-1))), (z 38, aI V 4 (fun _ => 0)), (z 39, aJ V 160 (fun _ => 0))]) (rnS (rest := []) ⟨hx, hb, hml, hown, hg⟩ (c_X10_within_0 l V p0.toInt64 0 3) mt_X10_within q_6_114 ⟨Nat.le_of_ble_eq_true rfl, Nat.le_of_ble_eq_true rfl⟩ hK hP hD hS hA hE [] rfl rfl rfl hl.1 rfl (Nat.le_of_ble_eq_true rfl) dX10_numbers_11 ⟨Nat.le_of_ble_eq_true rfl, Nat.le_of_ble_eq_true rfl⟩) hP hD hS hA [] [0, 1, 2, 3] rfl rfl rfl (by decide) (fun r_1 w H locs hw hP hD hS => ?_)
  rcases hw with ⟨c_2, rfl, rfl⟩ | ⟨c_3, c_4, rfl, rfl⟩ | ⟨c_5, c_6, rfl, rfl⟩
  · have hP : va_P V.1 vwCl [(z 0, .inr (10, mo z 0 0 0 0 0 0 0 0 0 0 (-1) 0 0 0 0 0)), (z 37, aI V 4 (upd (upd (upd (upd (fun _ => 0) 0 (-1)) 1 (-1)) 2 (-1)) 3 (-1))), (z 38, aI V 4 (fun _ => 0)), (z 39, aJ V 160 (fun _ => 0))] H := hP
    have hD : va_D A [(z 0, .inr (10, mo z 0 0 0 0 0 0 0 0 0 0 (-1) 0 0 0 0 0)), (z 37, aI V 4 (upd (upd (upd (upd (fun _ => 0) 0 (-1)) 1 (-1)) 2 (-1)) 3 (-1))), (z 38, aI V 4 (fun _ => 0)), (z 39, aJ V 160 (fun _ => 0))] := hD
    refine lv_if_eq (tgt := 29) hx hb dX10_numbers_14 (by decide) (fun _ => ?_) (fun c_7 => absurd c_7 (by decide))
    refine lv_bipush (v := (-2)) hx hb dX10_numbers_29 (by decide) ?_
    exact fiI hx hb hr hlk hK hP hD hS dX10_numbers_31 (Nat.le_of_ble_eq_true rfl) (Nat.le_of_ble_eq_true rfl) (Or.inl ⟨c_2, rfl, rfl⟩)
  · have hP : va_P V.1 vwCl [(z 0, .inr (10, mo z 0 0 0 0 0 0 0 0 0 0 (-1) 0 0 0 0 0)), (z 37, aI V 4 (upd (upd (upd (upd (fun _ => 0) 0 (-1)) 1 (-1)) 2 (-1)) 3 (-1))), (z 38, aI V 4 (fun _ => 0)), (z 39, aJ V 160 (fun _ => 0))] H := hP
    have hD : va_D A [(z 0, .inr (10, mo z 0 0 0 0 0 0 0 0 0 0 (-1) 0 0 0 0 0)), (z 37, aI V 4 (upd (upd (upd (upd (fun _ => 0) 0 (-1)) 1 (-1)) 2 (-1)) 3 (-1))), (z 38, aI V 4 (fun _ => 0)), (z 39, aJ V 160 (fun _ => 0))] := hD
    refine lv_if_eq (tgt := 29) hx hb dX10_numbers_14 (by decide) (fun _ => ?_) (fun c_8 => absurd c_8 (by decide))
    refine lv_bipush (v := (-2)) hx hb dX10_numbers_29 (by decide) ?_
    exact fiI hx hb hr hlk hK hP hD hS dX10_numbers_31 (Nat.le_of_ble_eq_true rfl) (Nat.le_of_ble_eq_true rfl) (Or.inr (Or.inl ⟨c_3, c_4, rfl, rfl⟩))
  · have hP : va_P V.1 vwCl [(z 0, .inr (10, mo z 0 0 0 0 0 0 0 0 0 0 (-1) 0 0 0 0 0)), (z 37, aI V 4 (upd (upd (upd (upd (fun _ => 0) 0 (-1)) 1 (-1)) 2 (-1)) 3 (-1))), (z 38, aI V 4 (fun _ => 0)), (z 39, aJ V 160 (fun _ => 0))] H := hP
    have hD : va_D A [(z 0, .inr (10, mo z 0 0 0 0 0 0 0 0 0 0 (-1) 0 0 0 0 0)), (z 37, aI V 4 (upd (upd (upd (upd (fun _ => 0) 0 (-1)) 1 (-1)) 2 (-1)) 3 (-1))), (z 38, aI V 4 (fun _ => 0)), (z 39, aJ V 160 (fun _ => 0))] := hD
    refine lv_if_eq (tgt := 29) hx hb dX10_numbers_14 (by decide) (fun c_9 => absurd c_9 (by decide)) (fun _ => ?_)
    refine lv_iload_n hx hb dX10_numbers_17 rfl (lv_at hl 2 rfl) ?_
    refine lv_i2l (v := p1.toInt64) hx hb dX10_numbers_18 rfl ?_
    refine lv_lconst (v := 0) hx hb dX10_numbers_19 (by decide) ?_
    refine lv_ldc2 (v := 3) hx hb hown (hg _ q_7_107) dX10_numbers_20 ?_
    refine jnI (wr := [(z 0, .inr (10, mo z 0 0 0 0 0 0 0 0 0 0 (-1) 0 0 0 0 0)), (z 37, aI V 4 (upd (upd (upd (upd (fun _ => 0) 0 (-1)) 1 (-1)) 2 (-1)) 3 (-1))), (z 38, aI V 4 (fun _ => 0)), (z 39, aJ V 160 (fun _ => 0))]) (rnS (rest := []) ⟨hx, hb, hml, hown, hg⟩ (c_X10_within_0 l V p1.toInt64 0 3) mt_X10_within q_6_114 ⟨Nat.le_of_ble_eq_true rfl, Nat.le_of_ble_eq_true rfl⟩ hK hP hD hS hA hE [] rfl rfl rfl hl.1 rfl (Nat.le_of_ble_eq_true rfl) dX10_numbers_23 ⟨Nat.le_of_ble_eq_true rfl, Nat.le_of_ble_eq_true rfl⟩) hP hD hS hA [] [0, 1, 2, 3] rfl rfl rfl (by decide) (fun r_10 w H locs hw hP hD hS => ?_)
    rcases hw with ⟨c_11, rfl, rfl⟩ | ⟨c_12, c_13, rfl, rfl⟩ | ⟨c_14, c_15, rfl, rfl⟩
    · have hP : va_P V.1 vwCl [(z 0, .inr (10, mo z 0 0 0 0 0 0 0 0 0 0 (-1) 0 0 0 0 0)), (z 37, aI V 4 (upd (upd (upd (upd (fun _ => 0) 0 (-1)) 1 (-1)) 2 (-1)) 3 (-1))), (z 38, aI V 4 (fun _ => 0)), (z 39, aJ V 160 (fun _ => 0))] H := hP
      have hD : va_D A [(z 0, .inr (10, mo z 0 0 0 0 0 0 0 0 0 0 (-1) 0 0 0 0 0)), (z 37, aI V 4 (upd (upd (upd (upd (fun _ => 0) 0 (-1)) 1 (-1)) 2 (-1)) 3 (-1))), (z 38, aI V 4 (fun _ => 0)), (z 39, aJ V 160 (fun _ => 0))] := hD
      refine lv_if_ne (tgt := 32) hx hb dX10_numbers_26 (by decide) (fun c_16 => absurd c_16 (by decide)) (fun _ => ?_)
      refine lv_bipush (v := (-2)) hx hb dX10_numbers_29 (by decide) ?_
      exact fiI hx hb hr hlk hK hP hD hS dX10_numbers_31 (Nat.le_of_ble_eq_true rfl) (Nat.le_of_ble_eq_true rfl) (Or.inr (Or.inr (Or.inl ⟨c_5, c_6, c_11, rfl, rfl⟩)))
    · have hP : va_P V.1 vwCl [(z 0, .inr (10, mo z 0 0 0 0 0 0 0 0 0 0 (-1) 0 0 0 0 0)), (z 37, aI V 4 (upd (upd (upd (upd (fun _ => 0) 0 (-1)) 1 (-1)) 2 (-1)) 3 (-1))), (z 38, aI V 4 (fun _ => 0)), (z 39, aJ V 160 (fun _ => 0))] H := hP
      have hD : va_D A [(z 0, .inr (10, mo z 0 0 0 0 0 0 0 0 0 0 (-1) 0 0 0 0 0)), (z 37, aI V 4 (upd (upd (upd (upd (fun _ => 0) 0 (-1)) 1 (-1)) 2 (-1)) 3 (-1))), (z 38, aI V 4 (fun _ => 0)), (z 39, aJ V 160 (fun _ => 0))] := hD
      refine lv_if_ne (tgt := 32) hx hb dX10_numbers_26 (by decide) (fun c_17 => absurd c_17 (by decide)) (fun _ => ?_)
      refine lv_bipush (v := (-2)) hx hb dX10_numbers_29 (by decide) ?_
      exact fiI hx hb hr hlk hK hP hD hS dX10_numbers_31 (Nat.le_of_ble_eq_true rfl) (Nat.le_of_ble_eq_true rfl) (Or.inr (Or.inr (Or.inr (Or.inl ⟨c_5, c_6, c_12, c_13, rfl, rfl⟩))))
    · have hP : va_P V.1 vwCl [(z 0, .inr (10, mo z 0 0 0 0 0 0 0 0 0 0 (-1) 0 0 0 0 0)), (z 37, aI V 4 (upd (upd (upd (upd (fun _ => 0) 0 (-1)) 1 (-1)) 2 (-1)) 3 (-1))), (z 38, aI V 4 (fun _ => 0)), (z 39, aJ V 160 (fun _ => 0))] H := hP
      have hD : va_D A [(z 0, .inr (10, mo z 0 0 0 0 0 0 0 0 0 0 (-1) 0 0 0 0 0)), (z 37, aI V 4 (upd (upd (upd (upd (fun _ => 0) 0 (-1)) 1 (-1)) 2 (-1)) 3 (-1))), (z 38, aI V 4 (fun _ => 0)), (z 39, aJ V 160 (fun _ => 0))] := hD
      refine lv_if_ne (tgt := 32) hx hb dX10_numbers_26 (by decide) (fun _ => ?_) (fun c_18 => absurd c_18 (by decide))
      refine lv_iload_n hx hb dX10_numbers_32 rfl (lv_at hl 3 rfl) ?_
      refine lv_i2l (v := p2.toInt64) hx hb dX10_numbers_33 rfl ?_
      refine lv_lconst (v := 0) hx hb dX10_numbers_34 (by decide) ?_
      refine lv_ldc2 (v := 40) hx hb hown (hg _ q_7_143) dX10_numbers_35 ?_
      refine jnI (wr := [(z 0, .inr (10, mo z 0 0 0 0 0 0 0 0 0 0 (-1) 0 0 0 0 0)), (z 37, aI V 4 (upd (upd (upd (upd (fun _ => 0) 0 (-1)) 1 (-1)) 2 (-1)) 3 (-1))), (z 38, aI V 4 (fun _ => 0)), (z 39, aJ V 160 (fun _ => 0))]) (rnS (rest := []) ⟨hx, hb, hml, hown, hg⟩ (c_X10_within_0 l V p2.toInt64 0 40) mt_X10_within q_6_114 ⟨Nat.le_of_ble_eq_true rfl, Nat.le_of_ble_eq_true rfl⟩ hK hP hD hS hA hE [] rfl rfl rfl hl.1 rfl (Nat.le_of_ble_eq_true rfl) dX10_numbers_38 ⟨Nat.le_of_ble_eq_true rfl, Nat.le_of_ble_eq_true rfl⟩) hP hD hS hA [] [0, 1, 2, 3] rfl rfl rfl (by decide) (fun r_19 w H locs hw hP hD hS => ?_)
      rcases hw with ⟨c_20, rfl, rfl⟩ | ⟨c_21, c_22, rfl, rfl⟩ | ⟨c_23, c_24, rfl, rfl⟩
      · have hP : va_P V.1 vwCl [(z 0, .inr (10, mo z 0 0 0 0 0 0 0 0 0 0 (-1) 0 0 0 0 0)), (z 37, aI V 4 (upd (upd (upd (upd (fun _ => 0) 0 (-1)) 1 (-1)) 2 (-1)) 3 (-1))), (z 38, aI V 4 (fun _ => 0)), (z 39, aJ V 160 (fun _ => 0))] H := hP
        have hD : va_D A [(z 0, .inr (10, mo z 0 0 0 0 0 0 0 0 0 0 (-1) 0 0 0 0 0)), (z 37, aI V 4 (upd (upd (upd (upd (fun _ => 0) 0 (-1)) 1 (-1)) 2 (-1)) 3 (-1))), (z 38, aI V 4 (fun _ => 0)), (z 39, aJ V 160 (fun _ => 0))] := hD
        refine lv_if_ne (tgt := 47) hx hb dX10_numbers_41 (by decide) (fun c_25 => absurd c_25 (by decide)) (fun _ => ?_)
        refine lv_bipush (v := (-3)) hx hb dX10_numbers_44 (by decide) ?_
        exact fiI hx hb hr hlk hK hP hD hS dX10_numbers_46 (Nat.le_of_ble_eq_true rfl) (Nat.le_of_ble_eq_true rfl) (Or.inr (Or.inr (Or.inr (Or.inr (Or.inl ⟨c_5, c_6, c_14, c_15, c_20, rfl, rfl⟩)))))
      · have hP : va_P V.1 vwCl [(z 0, .inr (10, mo z 0 0 0 0 0 0 0 0 0 0 (-1) 0 0 0 0 0)), (z 37, aI V 4 (upd (upd (upd (upd (fun _ => 0) 0 (-1)) 1 (-1)) 2 (-1)) 3 (-1))), (z 38, aI V 4 (fun _ => 0)), (z 39, aJ V 160 (fun _ => 0))] H := hP
        have hD : va_D A [(z 0, .inr (10, mo z 0 0 0 0 0 0 0 0 0 0 (-1) 0 0 0 0 0)), (z 37, aI V 4 (upd (upd (upd (upd (fun _ => 0) 0 (-1)) 1 (-1)) 2 (-1)) 3 (-1))), (z 38, aI V 4 (fun _ => 0)), (z 39, aJ V 160 (fun _ => 0))] := hD
        refine lv_if_ne (tgt := 47) hx hb dX10_numbers_41 (by decide) (fun c_26 => absurd c_26 (by decide)) (fun _ => ?_)
        refine lv_bipush (v := (-3)) hx hb dX10_numbers_44 (by decide) ?_
        exact fiI hx hb hr hlk hK hP hD hS dX10_numbers_46 (Nat.le_of_ble_eq_true rfl) (Nat.le_of_ble_eq_true rfl) (Or.inr (Or.inr (Or.inr (Or.inr (Or.inr (Or.inl ⟨c_5, c_6, c_14, c_15, c_21, c_22, rfl, rfl⟩))))))
      · have hP : va_P V.1 vwCl [(z 0, .inr (10, mo z 0 0 0 0 0 0 0 0 0 0 (-1) 0 0 0 0 0)), (z 37, aI V 4 (upd (upd (upd (upd (fun _ => 0) 0 (-1)) 1 (-1)) 2 (-1)) 3 (-1))), (z 38, aI V 4 (fun _ => 0)), (z 39, aJ V 160 (fun _ => 0))] H := hP
        have hD : va_D A [(z 0, .inr (10, mo z 0 0 0 0 0 0 0 0 0 0 (-1) 0 0 0 0 0)), (z 37, aI V 4 (upd (upd (upd (upd (fun _ => 0) 0 (-1)) 1 (-1)) 2 (-1)) 3 (-1))), (z 38, aI V 4 (fun _ => 0)), (z 39, aJ V 160 (fun _ => 0))] := hD
        refine lv_if_ne (tgt := 47) hx hb dX10_numbers_41 (by decide) (fun _ => ?_) (fun c_27 => absurd c_27 (by decide))
        refine lv_aload_n hx hb dX10_numbers_47 rfl (lv_at hl 0 rfl) ?_
        refine va_get (ci := 10) (v := .ref (z 37)) (C := RX10) (T := TX10) (N := 40) hx hb hg inX10 hown hK hP 0 rfl rfl 37 (by decide) (hg _ q_6_21) (fun _ h9 => h9) rfl dX10_numbers_48 ?_
        refine lv_iload_n hx hb dX10_numbers_51 rfl (lv_at hl 1 rfl) ?_
        refine lv_iload_n hx hb dX10_numbers_52 rfl (lv_at hl 2 rfl) ?_
        have c_28 : p0 = 0 ∨ p0 = 1 ∨ p0 = 2 ∨ p0 = 3 := by simp only [tI_lt, tI_le, tI_eq, tL_lt, tL_le, tL_eq, tWx, (by decide : (0 : Int32).toInt = 0), (by decide : (0 : Int64).toInt = 0), (by decide : (1 : Int32).toInt = 1), (by decide : (2 : Int32).toInt = 2), (by decide : (3 : Int32).toInt = 3), (by decide : (3 : Int64).toInt = 3)] at c_5 c_6 ⊢; omega
        rcases c_28 with rfl | rfl | rfl | rfl
        · refine va_iast hx hb hK hP hD hS 1 0 rfl rfl (vin (by decide +kernel)) dX10_numbers_53 (fun H locs hP hD hS => ?_)
          have hP : va_P V.1 vwCl [(z 0, .inr (10, mo z 0 0 0 0 0 0 0 0 0 0 (-1) 0 0 0 0 0)), (z 37, aI V 4 (upd (upd (upd (upd (upd (fun _ => 0) 0 (-1)) 1 (-1)) 2 (-1)) 3 (-1)) 0 p1)), (z 38, aI V 4 (fun _ => 0)), (z 39, aJ V 160 (fun _ => 0))] H := hP
          have hD : va_D A [(z 0, .inr (10, mo z 0 0 0 0 0 0 0 0 0 0 (-1) 0 0 0 0 0)), (z 37, aI V 4 (upd (upd (upd (upd (upd (fun _ => 0) 0 (-1)) 1 (-1)) 2 (-1)) 3 (-1)) 0 p1)), (z 38, aI V 4 (fun _ => 0)), (z 39, aJ V 160 (fun _ => 0))] := hD
          refine lv_aload_n hx hb dX10_numbers_54 rfl (lv_at hl 0 rfl) ?_
          refine va_get (ci := 10) (v := .ref (z 38)) (C := RX10) (T := TX10) (N := 40) hx hb hg inX10 hown hK hP 0 rfl rfl 38 (by decide) (hg _ q_6_22) (fun _ h9 => h9) rfl dX10_numbers_55 ?_
          refine lv_iload_n hx hb dX10_numbers_58 rfl (lv_at hl 1 rfl) ?_
          refine lv_iload_n hx hb dX10_numbers_59 rfl (lv_at hl 3 rfl) ?_
          refine va_iast hx hb hK hP hD hS 2 0 rfl rfl (vin (by decide +kernel)) dX10_numbers_60 (fun H locs hP hD hS => ?_)
          have hP : va_P V.1 vwCl [(z 0, .inr (10, mo z 0 0 0 0 0 0 0 0 0 0 (-1) 0 0 0 0 0)), (z 37, aI V 4 (upd (upd (upd (upd (upd (fun _ => 0) 0 (-1)) 1 (-1)) 2 (-1)) 3 (-1)) 0 p1)), (z 38, aI V 4 (upd (fun _ => 0) 0 p2)), (z 39, aJ V 160 (fun _ => 0))] H := hP
          have hD : va_D A [(z 0, .inr (10, mo z 0 0 0 0 0 0 0 0 0 0 (-1) 0 0 0 0 0)), (z 37, aI V 4 (upd (upd (upd (upd (upd (fun _ => 0) 0 (-1)) 1 (-1)) 2 (-1)) 3 (-1)) 0 p1)), (z 38, aI V 4 (upd (fun _ => 0) 0 p2)), (z 39, aJ V 160 (fun _ => 0))] := hD
          refine lv_iconst (v := 0) hx hb dX10_numbers_61 (by decide) ?_
          refine lv_istore (lv' := [(4, .int 0), (0, .ref (z 0)), (1, .int 0), (2, .int p1), (3, .int p2)]) hx hb dX10_numbers_62 hl (by decide) rfl (fun ls hl => ?_)
          obtain ⟨N_29, lN_29, hN_29, rfl⟩ : ∃ j : Nat, 0 ≤ j ∧ j ≤ 40 ∧ p2 = nI j := natOf (M := 40) (by decide) (m := 0) (c := 0) (by decide) (by simp only [tI_lt, tI_le, tI_eq, tL_lt, tL_le, tL_eq, tWx, (by decide : (0 : Int32).toInt = 0), (by decide : (0 : Int64).toInt = 0), (by decide : (40 : Int32).toInt = 40), (by decide : (40 : Int64).toInt = 40)] at c_23 c_24 ⊢; omega) (by simp only [tI_lt, tI_le, tI_eq, tL_lt, tL_le, tL_eq, tWx, (by decide : (0 : Int32).toInt = 0), (by decide : (0 : Int64).toInt = 0), (by decide : (40 : Int32).toInt = 40), (by decide : (40 : Int64).toInt = 40)] at c_23 c_24 ⊢; omega)
          refine loopW N_29 (X := fun (i_30 : Nat) (H : Heap) (locs : List Loc) (ls : Array Slot) => 0 ≤ i_30 ∧ va_P V.1 vwCl [(z 0, .inr (10, mo z 0 0 0 0 0 0 0 0 0 0 (-1) 0 0 0 0 0)), (z 37, aI V 4 (upd (upd (upd (upd (upd (fun _ => 0) 0 (-1)) 1 (-1)) 2 (-1)) 3 (-1)) 0 p1)), (z 38, aI V 4 (upd (fun _ => 0) 0 (nI N_29))), (z 39, aJ V 160 (fun _ => 0))] H ∧ va_D A [(z 0, .inr (10, mo z 0 0 0 0 0 0 0 0 0 0 (-1) 0 0 0 0 0)), (z 37, aI V 4 (upd (upd (upd (upd (upd (fun _ => 0) 0 (-1)) 1 (-1)) 2 (-1)) 3 (-1)) 0 p1)), (z 38, aI V 4 (upd (fun _ => 0) 0 (nI N_29))), (z 39, aJ V 160 (fun _ => 0))] ∧ va_S A s.heap H locs ∧ lv_has ls 5 [(4, .int (nI i_30)), (0, .ref (z 0)), (1, .int 0), (2, .int p1), (3, .int (nI N_29))]) (g := fun ls => F0 m 64 ls []) (fun i_30 H locs ls hi_i_30 hX ih_i_30 => ?_) 0 (by omega) ⟨Nat.le_refl _, hP, hD, hS, lv_sub hl [0, 1, 2, 3, 4] rfl⟩
          obtain ⟨hlo_i_30, hP, hD, hS, hl⟩ := hX
          refine lv_iload hx hb dX10_numbers_64 (lv_at hl 0 rfl) ?_
          refine lv_iload_n hx hb dX10_numbers_66 rfl (lv_at hl 4 rfl) ?_
          refine lv_icmp_ge (tgt := 89) hx hb dX10_numbers_67 (by decide) (fun c_31 => ?_) (fun c_31 => ?_)
          · have e_32 : i_30 = N_29 := by have q9 := (nI_leI (a := N_29) (b := i_30) (by omega) (by omega)).mp c_31; omega
            rw [e_32] at hl
            have hl : lv_has ls 5 [(4, .int (nI N_29)), (0, .ref (z 0)), (1, .int 0), (2, .int p1), (3, .int (nI N_29))] := hl
            refine lv_iconst (v := 0) hx hb dX10_numbers_89 (by decide) ?_
            exact fiI hx hb hr hlk hK hP hD hS dX10_numbers_90 (Nat.le_of_ble_eq_true rfl) (Nat.le_of_ble_eq_true rfl) (Or.inr (Or.inr (Or.inr (Or.inr (Or.inr (Or.inr (Or.inl ⟨c_5, c_6, c_14, c_15, c_23, c_24, rfl, rfl, rfl⟩)))))))
          · have e_32 : i_30 < N_29 := by rcases Nat.lt_or_ge i_30 N_29 with q9 | q9; exact q9; exact absurd (nI_le q9 (by omega)) c_31
            refine lv_aload_n hx hb dX10_numbers_70 rfl (lv_at hl 1 rfl) ?_
            refine va_get (ci := 10) (v := .ref (z 39)) (C := RX10) (T := TX10) (N := 40) hx hb hg inX10 hown hK hP 0 rfl rfl 39 (by decide) (hg _ q_6_23) (fun _ h9 => h9) rfl dX10_numbers_71 ?_
            refine lv_bipush (v := 40) hx hb dX10_numbers_74 (by decide) ?_
            refine lv_iload_n hx hb dX10_numbers_76 rfl (lv_at hl 2 rfl) ?_
            refine lv_imul hx hb dX10_numbers_77 ?_
            refine tpi (y := 0) (by decide +kernel) ?_
            refine lv_iload hx hb dX10_numbers_78 (lv_at hl 0 rfl) ?_
            refine lv_iadd hx hb dX10_numbers_80 ?_
            refine tpi (y := nI (0 + i_30)) (nI_add 0 i_30) ?_
            refine lv_lconst (v := 0) hx hb dX10_numbers_81 (by decide) ?_
            refine va_last hx hb hK hP hD hS 3 2 rfl rfl (vp_in_nI (by omega) (by decide)) dX10_numbers_82 (fun H locs hP hD hS => ?_)
            have hP : va_P V.1 vwCl [(z 0, .inr (10, mo z 0 0 0 0 0 0 0 0 0 0 (-1) 0 0 0 0 0)), (z 37, aI V 4 (upd (upd (upd (upd (upd (fun _ => 0) 0 (-1)) 1 (-1)) 2 (-1)) 3 (-1)) 0 p1)), (z 38, aI V 4 (upd (fun _ => 0) 0 (nI N_29))), (z 39, aJ V 160 (vp_updL (fun _ => 0) (nI (0 + i_30)).toNatClampNeg 0))] H := hP
            have hD : va_D A [(z 0, .inr (10, mo z 0 0 0 0 0 0 0 0 0 0 (-1) 0 0 0 0 0)), (z 37, aI V 4 (upd (upd (upd (upd (upd (fun _ => 0) 0 (-1)) 1 (-1)) 2 (-1)) 3 (-1)) 0 p1)), (z 38, aI V 4 (upd (fun _ => 0) 0 (nI N_29))), (z 39, aJ V 160 (vp_updL (fun _ => 0) (nI (0 + i_30)).toNatClampNeg 0))] := hD
            have hP : va_P V.1 vwCl [(z 0, .inr (10, mo z 0 0 0 0 0 0 0 0 0 0 (-1) 0 0 0 0 0)), (z 37, aI V 4 (upd (upd (upd (upd (upd (fun _ => 0) 0 (-1)) 1 (-1)) 2 (-1)) 3 (-1)) 0 p1)), (z 38, aI V 4 (upd (fun _ => 0) 0 (nI N_29))), (z 39, aJ V 160 (fun _ => 0))] H := by rw [updL0] at hP; exact hP
            have hD : va_D A [(z 0, .inr (10, mo z 0 0 0 0 0 0 0 0 0 0 (-1) 0 0 0 0 0)), (z 37, aI V 4 (upd (upd (upd (upd (upd (fun _ => 0) 0 (-1)) 1 (-1)) 2 (-1)) 3 (-1)) 0 p1)), (z 38, aI V 4 (upd (fun _ => 0) 0 (nI N_29))), (z 39, aJ V 160 (fun _ => 0))] := by rw [updL0] at hD; exact hD
            refine lv_iinc (v := nI (i_30 + 1)) (lv' := [(4, .int (nI (i_30 + 1))), (0, .ref (z 0)), (1, .int 0), (2, .int p1), (3, .int (nI N_29))]) hx hb dX10_numbers_83 hl (k := 0) rfl (nI_add i_30 1) (by decide) rfl (fun ls hl => ?_)
            refine lv_goto (tgt := 64) hx hb dX10_numbers_86 (by decide) ?_
            exact ih_i_30 e_32 _ _ _ ⟨(by omega), hP, hD, hS, lv_sub hl [0, 1, 2, 3, 4] rfl⟩
        · refine va_iast hx hb hK hP hD hS 1 0 rfl rfl (vin (by decide +kernel)) dX10_numbers_53 (fun H locs hP hD hS => ?_)
          have hP : va_P V.1 vwCl [(z 0, .inr (10, mo z 0 0 0 0 0 0 0 0 0 0 (-1) 0 0 0 0 0)), (z 37, aI V 4 (upd (upd (upd (upd (upd (fun _ => 0) 0 (-1)) 1 (-1)) 2 (-1)) 3 (-1)) 1 p1)), (z 38, aI V 4 (fun _ => 0)), (z 39, aJ V 160 (fun _ => 0))] H := hP
          have hD : va_D A [(z 0, .inr (10, mo z 0 0 0 0 0 0 0 0 0 0 (-1) 0 0 0 0 0)), (z 37, aI V 4 (upd (upd (upd (upd (upd (fun _ => 0) 0 (-1)) 1 (-1)) 2 (-1)) 3 (-1)) 1 p1)), (z 38, aI V 4 (fun _ => 0)), (z 39, aJ V 160 (fun _ => 0))] := hD
          refine lv_aload_n hx hb dX10_numbers_54 rfl (lv_at hl 0 rfl) ?_
          refine va_get (ci := 10) (v := .ref (z 38)) (C := RX10) (T := TX10) (N := 40) hx hb hg inX10 hown hK hP 0 rfl rfl 38 (by decide) (hg _ q_6_22) (fun _ h9 => h9) rfl dX10_numbers_55 ?_
          refine lv_iload_n hx hb dX10_numbers_58 rfl (lv_at hl 1 rfl) ?_
          refine lv_iload_n hx hb dX10_numbers_59 rfl (lv_at hl 3 rfl) ?_
          refine va_iast hx hb hK hP hD hS 2 0 rfl rfl (vin (by decide +kernel)) dX10_numbers_60 (fun H locs hP hD hS => ?_)
          have hP : va_P V.1 vwCl [(z 0, .inr (10, mo z 0 0 0 0 0 0 0 0 0 0 (-1) 0 0 0 0 0)), (z 37, aI V 4 (upd (upd (upd (upd (upd (fun _ => 0) 0 (-1)) 1 (-1)) 2 (-1)) 3 (-1)) 1 p1)), (z 38, aI V 4 (upd (fun _ => 0) 1 p2)), (z 39, aJ V 160 (fun _ => 0))] H := hP
          have hD : va_D A [(z 0, .inr (10, mo z 0 0 0 0 0 0 0 0 0 0 (-1) 0 0 0 0 0)), (z 37, aI V 4 (upd (upd (upd (upd (upd (fun _ => 0) 0 (-1)) 1 (-1)) 2 (-1)) 3 (-1)) 1 p1)), (z 38, aI V 4 (upd (fun _ => 0) 1 p2)), (z 39, aJ V 160 (fun _ => 0))] := hD
          refine lv_iconst (v := 0) hx hb dX10_numbers_61 (by decide) ?_
          refine lv_istore (lv' := [(4, .int 0), (0, .ref (z 0)), (1, .int 1), (2, .int p1), (3, .int p2)]) hx hb dX10_numbers_62 hl (by decide) rfl (fun ls hl => ?_)
          obtain ⟨N_33, lN_33, hN_33, rfl⟩ : ∃ j : Nat, 0 ≤ j ∧ j ≤ 40 ∧ p2 = nI j := natOf (M := 40) (by decide) (m := 0) (c := 0) (by decide) (by simp only [tI_lt, tI_le, tI_eq, tL_lt, tL_le, tL_eq, tWx, (by decide : (0 : Int32).toInt = 0), (by decide : (0 : Int64).toInt = 0), (by decide : (40 : Int32).toInt = 40), (by decide : (40 : Int64).toInt = 40)] at c_23 c_24 ⊢; omega) (by simp only [tI_lt, tI_le, tI_eq, tL_lt, tL_le, tL_eq, tWx, (by decide : (0 : Int32).toInt = 0), (by decide : (0 : Int64).toInt = 0), (by decide : (40 : Int32).toInt = 40), (by decide : (40 : Int64).toInt = 40)] at c_23 c_24 ⊢; omega)
          refine loopW N_33 (X := fun (i_34 : Nat) (H : Heap) (locs : List Loc) (ls : Array Slot) => 0 ≤ i_34 ∧ va_P V.1 vwCl [(z 0, .inr (10, mo z 0 0 0 0 0 0 0 0 0 0 (-1) 0 0 0 0 0)), (z 37, aI V 4 (upd (upd (upd (upd (upd (fun _ => 0) 0 (-1)) 1 (-1)) 2 (-1)) 3 (-1)) 1 p1)), (z 38, aI V 4 (upd (fun _ => 0) 1 (nI N_33))), (z 39, aJ V 160 (fun _ => 0))] H ∧ va_D A [(z 0, .inr (10, mo z 0 0 0 0 0 0 0 0 0 0 (-1) 0 0 0 0 0)), (z 37, aI V 4 (upd (upd (upd (upd (upd (fun _ => 0) 0 (-1)) 1 (-1)) 2 (-1)) 3 (-1)) 1 p1)), (z 38, aI V 4 (upd (fun _ => 0) 1 (nI N_33))), (z 39, aJ V 160 (fun _ => 0))] ∧ va_S A s.heap H locs ∧ lv_has ls 5 [(4, .int (nI i_34)), (0, .ref (z 0)), (1, .int 1), (2, .int p1), (3, .int (nI N_33))]) (g := fun ls => F0 m 64 ls []) (fun i_34 H locs ls hi_i_34 hX ih_i_34 => ?_) 0 (by omega) ⟨Nat.le_refl _, hP, hD, hS, lv_sub hl [0, 1, 2, 3, 4] rfl⟩
          obtain ⟨hlo_i_34, hP, hD, hS, hl⟩ := hX
          refine lv_iload hx hb dX10_numbers_64 (lv_at hl 0 rfl) ?_
          refine lv_iload_n hx hb dX10_numbers_66 rfl (lv_at hl 4 rfl) ?_
          refine lv_icmp_ge (tgt := 89) hx hb dX10_numbers_67 (by decide) (fun c_35 => ?_) (fun c_35 => ?_)
          · have e_36 : i_34 = N_33 := by have q9 := (nI_leI (a := N_33) (b := i_34) (by omega) (by omega)).mp c_35; omega
            rw [e_36] at hl
            have hl : lv_has ls 5 [(4, .int (nI N_33)), (0, .ref (z 0)), (1, .int 1), (2, .int p1), (3, .int (nI N_33))] := hl
            refine lv_iconst (v := 0) hx hb dX10_numbers_89 (by decide) ?_
            exact fiI hx hb hr hlk hK hP hD hS dX10_numbers_90 (Nat.le_of_ble_eq_true rfl) (Nat.le_of_ble_eq_true rfl) (Or.inr (Or.inr (Or.inr (Or.inr (Or.inr (Or.inr (Or.inr (Or.inl ⟨c_5, c_6, c_14, c_15, c_23, c_24, rfl, rfl, rfl⟩))))))))
          · have e_36 : i_34 < N_33 := by rcases Nat.lt_or_ge i_34 N_33 with q9 | q9; exact q9; exact absurd (nI_le q9 (by omega)) c_35
            refine lv_aload_n hx hb dX10_numbers_70 rfl (lv_at hl 1 rfl) ?_
            refine va_get (ci := 10) (v := .ref (z 39)) (C := RX10) (T := TX10) (N := 40) hx hb hg inX10 hown hK hP 0 rfl rfl 39 (by decide) (hg _ q_6_23) (fun _ h9 => h9) rfl dX10_numbers_71 ?_
            refine lv_bipush (v := 40) hx hb dX10_numbers_74 (by decide) ?_
            refine lv_iload_n hx hb dX10_numbers_76 rfl (lv_at hl 2 rfl) ?_
            refine lv_imul hx hb dX10_numbers_77 ?_
            refine tpi (y := 40) (by decide +kernel) ?_
            refine lv_iload hx hb dX10_numbers_78 (lv_at hl 0 rfl) ?_
            refine lv_iadd hx hb dX10_numbers_80 ?_
            refine tpi (y := nI (40 + i_34)) (nI_add 40 i_34) ?_
            refine lv_lconst (v := 0) hx hb dX10_numbers_81 (by decide) ?_
            refine va_last hx hb hK hP hD hS 3 2 rfl rfl (vp_in_nI (by omega) (by decide)) dX10_numbers_82 (fun H locs hP hD hS => ?_)
            have hP : va_P V.1 vwCl [(z 0, .inr (10, mo z 0 0 0 0 0 0 0 0 0 0 (-1) 0 0 0 0 0)), (z 37, aI V 4 (upd (upd (upd (upd (upd (fun _ => 0) 0 (-1)) 1 (-1)) 2 (-1)) 3 (-1)) 1 p1)), (z 38, aI V 4 (upd (fun _ => 0) 1 (nI N_33))), (z 39, aJ V 160 (vp_updL (fun _ => 0) (nI (40 + i_34)).toNatClampNeg 0))] H := hP
            have hD : va_D A [(z 0, .inr (10, mo z 0 0 0 0 0 0 0 0 0 0 (-1) 0 0 0 0 0)), (z 37, aI V 4 (upd (upd (upd (upd (upd (fun _ => 0) 0 (-1)) 1 (-1)) 2 (-1)) 3 (-1)) 1 p1)), (z 38, aI V 4 (upd (fun _ => 0) 1 (nI N_33))), (z 39, aJ V 160 (vp_updL (fun _ => 0) (nI (40 + i_34)).toNatClampNeg 0))] := hD
            have hP : va_P V.1 vwCl [(z 0, .inr (10, mo z 0 0 0 0 0 0 0 0 0 0 (-1) 0 0 0 0 0)), (z 37, aI V 4 (upd (upd (upd (upd (upd (fun _ => 0) 0 (-1)) 1 (-1)) 2 (-1)) 3 (-1)) 1 p1)), (z 38, aI V 4 (upd (fun _ => 0) 1 (nI N_33))), (z 39, aJ V 160 (fun _ => 0))] H := by rw [updL0] at hP; exact hP
            have hD : va_D A [(z 0, .inr (10, mo z 0 0 0 0 0 0 0 0 0 0 (-1) 0 0 0 0 0)), (z 37, aI V 4 (upd (upd (upd (upd (upd (fun _ => 0) 0 (-1)) 1 (-1)) 2 (-1)) 3 (-1)) 1 p1)), (z 38, aI V 4 (upd (fun _ => 0) 1 (nI N_33))), (z 39, aJ V 160 (fun _ => 0))] := by rw [updL0] at hD; exact hD
            refine lv_iinc (v := nI (i_34 + 1)) (lv' := [(4, .int (nI (i_34 + 1))), (0, .ref (z 0)), (1, .int 1), (2, .int p1), (3, .int (nI N_33))]) hx hb dX10_numbers_83 hl (k := 0) rfl (nI_add i_34 1) (by decide) rfl (fun ls hl => ?_)
            refine lv_goto (tgt := 64) hx hb dX10_numbers_86 (by decide) ?_
            exact ih_i_34 e_36 _ _ _ ⟨(by omega), hP, hD, hS, lv_sub hl [0, 1, 2, 3, 4] rfl⟩
        · refine va_iast hx hb hK hP hD hS 1 0 rfl rfl (vin (by decide +kernel)) dX10_numbers_53 (fun H locs hP hD hS => ?_)
          have hP : va_P V.1 vwCl [(z 0, .inr (10, mo z 0 0 0 0 0 0 0 0 0 0 (-1) 0 0 0 0 0)), (z 37, aI V 4 (upd (upd (upd (upd (upd (fun _ => 0) 0 (-1)) 1 (-1)) 2 (-1)) 3 (-1)) 2 p1)), (z 38, aI V 4 (fun _ => 0)), (z 39, aJ V 160 (fun _ => 0))] H := hP
          have hD : va_D A [(z 0, .inr (10, mo z 0 0 0 0 0 0 0 0 0 0 (-1) 0 0 0 0 0)), (z 37, aI V 4 (upd (upd (upd (upd (upd (fun _ => 0) 0 (-1)) 1 (-1)) 2 (-1)) 3 (-1)) 2 p1)), (z 38, aI V 4 (fun _ => 0)), (z 39, aJ V 160 (fun _ => 0))] := hD
          have hP : va_P V.1 vwCl [(z 0, .inr (10, mo z 0 0 0 0 0 0 0 0 0 0 (-1) 0 0 0 0 0)), (z 37, aI V 4 (upd (upd (upd (upd (fun _ => 0) 0 (-1)) 1 (-1)) 2 p1) 3 (-1))), (z 38, aI V 4 (fun _ => 0)), (z 39, aJ V 160 (fun _ => 0))] H := by rw [updsw (by decide)] at hP; exact hP
          have hD : va_D A [(z 0, .inr (10, mo z 0 0 0 0 0 0 0 0 0 0 (-1) 0 0 0 0 0)), (z 37, aI V 4 (upd (upd (upd (upd (fun _ => 0) 0 (-1)) 1 (-1)) 2 p1) 3 (-1))), (z 38, aI V 4 (fun _ => 0)), (z 39, aJ V 160 (fun _ => 0))] := by rw [updsw (by decide)] at hD; exact hD
          refine lv_aload_n hx hb dX10_numbers_54 rfl (lv_at hl 0 rfl) ?_
          refine va_get (ci := 10) (v := .ref (z 38)) (C := RX10) (T := TX10) (N := 40) hx hb hg inX10 hown hK hP 0 rfl rfl 38 (by decide) (hg _ q_6_22) (fun _ h9 => h9) rfl dX10_numbers_55 ?_
          refine lv_iload_n hx hb dX10_numbers_58 rfl (lv_at hl 1 rfl) ?_
          refine lv_iload_n hx hb dX10_numbers_59 rfl (lv_at hl 3 rfl) ?_
          refine va_iast hx hb hK hP hD hS 2 0 rfl rfl (vin (by decide +kernel)) dX10_numbers_60 (fun H locs hP hD hS => ?_)
          have hP : va_P V.1 vwCl [(z 0, .inr (10, mo z 0 0 0 0 0 0 0 0 0 0 (-1) 0 0 0 0 0)), (z 37, aI V 4 (upd (upd (upd (upd (fun _ => 0) 0 (-1)) 1 (-1)) 2 p1) 3 (-1))), (z 38, aI V 4 (upd (fun _ => 0) 2 p2)), (z 39, aJ V 160 (fun _ => 0))] H := hP
          have hD : va_D A [(z 0, .inr (10, mo z 0 0 0 0 0 0 0 0 0 0 (-1) 0 0 0 0 0)), (z 37, aI V 4 (upd (upd (upd (upd (fun _ => 0) 0 (-1)) 1 (-1)) 2 p1) 3 (-1))), (z 38, aI V 4 (upd (fun _ => 0) 2 p2)), (z 39, aJ V 160 (fun _ => 0))] := hD
          refine lv_iconst (v := 0) hx hb dX10_numbers_61 (by decide) ?_
          refine lv_istore (lv' := [(4, .int 0), (0, .ref (z 0)), (1, .int 2), (2, .int p1), (3, .int p2)]) hx hb dX10_numbers_62 hl (by decide) rfl (fun ls hl => ?_)
          obtain ⟨N_37, lN_37, hN_37, rfl⟩ : ∃ j : Nat, 0 ≤ j ∧ j ≤ 40 ∧ p2 = nI j := natOf (M := 40) (by decide) (m := 0) (c := 0) (by decide) (by simp only [tI_lt, tI_le, tI_eq, tL_lt, tL_le, tL_eq, tWx, (by decide : (0 : Int32).toInt = 0), (by decide : (0 : Int64).toInt = 0), (by decide : (40 : Int32).toInt = 40), (by decide : (40 : Int64).toInt = 40)] at c_23 c_24 ⊢; omega) (by simp only [tI_lt, tI_le, tI_eq, tL_lt, tL_le, tL_eq, tWx, (by decide : (0 : Int32).toInt = 0), (by decide : (0 : Int64).toInt = 0), (by decide : (40 : Int32).toInt = 40), (by decide : (40 : Int64).toInt = 40)] at c_23 c_24 ⊢; omega)
          refine loopW N_37 (X := fun (i_38 : Nat) (H : Heap) (locs : List Loc) (ls : Array Slot) => 0 ≤ i_38 ∧ va_P V.1 vwCl [(z 0, .inr (10, mo z 0 0 0 0 0 0 0 0 0 0 (-1) 0 0 0 0 0)), (z 37, aI V 4 (upd (upd (upd (upd (fun _ => 0) 0 (-1)) 1 (-1)) 2 p1) 3 (-1))), (z 38, aI V 4 (upd (fun _ => 0) 2 (nI N_37))), (z 39, aJ V 160 (fun _ => 0))] H ∧ va_D A [(z 0, .inr (10, mo z 0 0 0 0 0 0 0 0 0 0 (-1) 0 0 0 0 0)), (z 37, aI V 4 (upd (upd (upd (upd (fun _ => 0) 0 (-1)) 1 (-1)) 2 p1) 3 (-1))), (z 38, aI V 4 (upd (fun _ => 0) 2 (nI N_37))), (z 39, aJ V 160 (fun _ => 0))] ∧ va_S A s.heap H locs ∧ lv_has ls 5 [(4, .int (nI i_38)), (0, .ref (z 0)), (1, .int 2), (2, .int p1), (3, .int (nI N_37))]) (g := fun ls => F0 m 64 ls []) (fun i_38 H locs ls hi_i_38 hX ih_i_38 => ?_) 0 (by omega) ⟨Nat.le_refl _, hP, hD, hS, lv_sub hl [0, 1, 2, 3, 4] rfl⟩
          obtain ⟨hlo_i_38, hP, hD, hS, hl⟩ := hX
          refine lv_iload hx hb dX10_numbers_64 (lv_at hl 0 rfl) ?_
          refine lv_iload_n hx hb dX10_numbers_66 rfl (lv_at hl 4 rfl) ?_
          refine lv_icmp_ge (tgt := 89) hx hb dX10_numbers_67 (by decide) (fun c_39 => ?_) (fun c_39 => ?_)
          · have e_40 : i_38 = N_37 := by have q9 := (nI_leI (a := N_37) (b := i_38) (by omega) (by omega)).mp c_39; omega
            rw [e_40] at hl
            have hl : lv_has ls 5 [(4, .int (nI N_37)), (0, .ref (z 0)), (1, .int 2), (2, .int p1), (3, .int (nI N_37))] := hl
            refine lv_iconst (v := 0) hx hb dX10_numbers_89 (by decide) ?_
            exact fiI hx hb hr hlk hK hP hD hS dX10_numbers_90 (Nat.le_of_ble_eq_true rfl) (Nat.le_of_ble_eq_true rfl) (Or.inr (Or.inr (Or.inr (Or.inr (Or.inr (Or.inr (Or.inr (Or.inr (Or.inl ⟨c_5, c_6, c_14, c_15, c_23, c_24, rfl, rfl, rfl⟩)))))))))
          · have e_40 : i_38 < N_37 := by rcases Nat.lt_or_ge i_38 N_37 with q9 | q9; exact q9; exact absurd (nI_le q9 (by omega)) c_39
            refine lv_aload_n hx hb dX10_numbers_70 rfl (lv_at hl 1 rfl) ?_
            refine va_get (ci := 10) (v := .ref (z 39)) (C := RX10) (T := TX10) (N := 40) hx hb hg inX10 hown hK hP 0 rfl rfl 39 (by decide) (hg _ q_6_23) (fun _ h9 => h9) rfl dX10_numbers_71 ?_
            refine lv_bipush (v := 40) hx hb dX10_numbers_74 (by decide) ?_
            refine lv_iload_n hx hb dX10_numbers_76 rfl (lv_at hl 2 rfl) ?_
            refine lv_imul hx hb dX10_numbers_77 ?_
            refine tpi (y := 80) (by decide +kernel) ?_
            refine lv_iload hx hb dX10_numbers_78 (lv_at hl 0 rfl) ?_
            refine lv_iadd hx hb dX10_numbers_80 ?_
            refine tpi (y := nI (80 + i_38)) (nI_add 80 i_38) ?_
            refine lv_lconst (v := 0) hx hb dX10_numbers_81 (by decide) ?_
            refine va_last hx hb hK hP hD hS 3 2 rfl rfl (vp_in_nI (by omega) (by decide)) dX10_numbers_82 (fun H locs hP hD hS => ?_)
            have hP : va_P V.1 vwCl [(z 0, .inr (10, mo z 0 0 0 0 0 0 0 0 0 0 (-1) 0 0 0 0 0)), (z 37, aI V 4 (upd (upd (upd (upd (fun _ => 0) 0 (-1)) 1 (-1)) 2 p1) 3 (-1))), (z 38, aI V 4 (upd (fun _ => 0) 2 (nI N_37))), (z 39, aJ V 160 (vp_updL (fun _ => 0) (nI (80 + i_38)).toNatClampNeg 0))] H := hP
            have hD : va_D A [(z 0, .inr (10, mo z 0 0 0 0 0 0 0 0 0 0 (-1) 0 0 0 0 0)), (z 37, aI V 4 (upd (upd (upd (upd (fun _ => 0) 0 (-1)) 1 (-1)) 2 p1) 3 (-1))), (z 38, aI V 4 (upd (fun _ => 0) 2 (nI N_37))), (z 39, aJ V 160 (vp_updL (fun _ => 0) (nI (80 + i_38)).toNatClampNeg 0))] := hD
            have hP : va_P V.1 vwCl [(z 0, .inr (10, mo z 0 0 0 0 0 0 0 0 0 0 (-1) 0 0 0 0 0)), (z 37, aI V 4 (upd (upd (upd (upd (fun _ => 0) 0 (-1)) 1 (-1)) 2 p1) 3 (-1))), (z 38, aI V 4 (upd (fun _ => 0) 2 (nI N_37))), (z 39, aJ V 160 (fun _ => 0))] H := by rw [updL0] at hP; exact hP
            have hD : va_D A [(z 0, .inr (10, mo z 0 0 0 0 0 0 0 0 0 0 (-1) 0 0 0 0 0)), (z 37, aI V 4 (upd (upd (upd (upd (fun _ => 0) 0 (-1)) 1 (-1)) 2 p1) 3 (-1))), (z 38, aI V 4 (upd (fun _ => 0) 2 (nI N_37))), (z 39, aJ V 160 (fun _ => 0))] := by rw [updL0] at hD; exact hD
            refine lv_iinc (v := nI (i_38 + 1)) (lv' := [(4, .int (nI (i_38 + 1))), (0, .ref (z 0)), (1, .int 2), (2, .int p1), (3, .int (nI N_37))]) hx hb dX10_numbers_83 hl (k := 0) rfl (nI_add i_38 1) (by decide) rfl (fun ls hl => ?_)
            refine lv_goto (tgt := 64) hx hb dX10_numbers_86 (by decide) ?_
            exact ih_i_38 e_40 _ _ _ ⟨(by omega), hP, hD, hS, lv_sub hl [0, 1, 2, 3, 4] rfl⟩
        · refine va_iast hx hb hK hP hD hS 1 0 rfl rfl (vin (by decide +kernel)) dX10_numbers_53 (fun H locs hP hD hS => ?_)
          have hP : va_P V.1 vwCl [(z 0, .inr (10, mo z 0 0 0 0 0 0 0 0 0 0 (-1) 0 0 0 0 0)), (z 37, aI V 4 (upd (upd (upd (upd (upd (fun _ => 0) 0 (-1)) 1 (-1)) 2 (-1)) 3 (-1)) 3 p1)), (z 38, aI V 4 (fun _ => 0)), (z 39, aJ V 160 (fun _ => 0))] H := hP
          have hD : va_D A [(z 0, .inr (10, mo z 0 0 0 0 0 0 0 0 0 0 (-1) 0 0 0 0 0)), (z 37, aI V 4 (upd (upd (upd (upd (upd (fun _ => 0) 0 (-1)) 1 (-1)) 2 (-1)) 3 (-1)) 3 p1)), (z 38, aI V 4 (fun _ => 0)), (z 39, aJ V 160 (fun _ => 0))] := hD
          have hP : va_P V.1 vwCl [(z 0, .inr (10, mo z 0 0 0 0 0 0 0 0 0 0 (-1) 0 0 0 0 0)), (z 37, aI V 4 (upd (upd (upd (upd (fun _ => 0) 0 (-1)) 1 (-1)) 2 (-1)) 3 p1)), (z 38, aI V 4 (fun _ => 0)), (z 39, aJ V 160 (fun _ => 0))] H := by rw [updup] at hP; exact hP
          have hD : va_D A [(z 0, .inr (10, mo z 0 0 0 0 0 0 0 0 0 0 (-1) 0 0 0 0 0)), (z 37, aI V 4 (upd (upd (upd (upd (fun _ => 0) 0 (-1)) 1 (-1)) 2 (-1)) 3 p1)), (z 38, aI V 4 (fun _ => 0)), (z 39, aJ V 160 (fun _ => 0))] := by rw [updup] at hD; exact hD
          refine lv_aload_n hx hb dX10_numbers_54 rfl (lv_at hl 0 rfl) ?_
          refine va_get (ci := 10) (v := .ref (z 38)) (C := RX10) (T := TX10) (N := 40) hx hb hg inX10 hown hK hP 0 rfl rfl 38 (by decide) (hg _ q_6_22) (fun _ h9 => h9) rfl dX10_numbers_55 ?_
          refine lv_iload_n hx hb dX10_numbers_58 rfl (lv_at hl 1 rfl) ?_
          refine lv_iload_n hx hb dX10_numbers_59 rfl (lv_at hl 3 rfl) ?_
          refine va_iast hx hb hK hP hD hS 2 0 rfl rfl (vin (by decide +kernel)) dX10_numbers_60 (fun H locs hP hD hS => ?_)
          have hP : va_P V.1 vwCl [(z 0, .inr (10, mo z 0 0 0 0 0 0 0 0 0 0 (-1) 0 0 0 0 0)), (z 37, aI V 4 (upd (upd (upd (upd (fun _ => 0) 0 (-1)) 1 (-1)) 2 (-1)) 3 p1)), (z 38, aI V 4 (upd (fun _ => 0) 3 p2)), (z 39, aJ V 160 (fun _ => 0))] H := hP
          have hD : va_D A [(z 0, .inr (10, mo z 0 0 0 0 0 0 0 0 0 0 (-1) 0 0 0 0 0)), (z 37, aI V 4 (upd (upd (upd (upd (fun _ => 0) 0 (-1)) 1 (-1)) 2 (-1)) 3 p1)), (z 38, aI V 4 (upd (fun _ => 0) 3 p2)), (z 39, aJ V 160 (fun _ => 0))] := hD
          refine lv_iconst (v := 0) hx hb dX10_numbers_61 (by decide) ?_
          refine lv_istore (lv' := [(4, .int 0), (0, .ref (z 0)), (1, .int 3), (2, .int p1), (3, .int p2)]) hx hb dX10_numbers_62 hl (by decide) rfl (fun ls hl => ?_)
          obtain ⟨N_41, lN_41, hN_41, rfl⟩ : ∃ j : Nat, 0 ≤ j ∧ j ≤ 40 ∧ p2 = nI j := natOf (M := 40) (by decide) (m := 0) (c := 0) (by decide) (by simp only [tI_lt, tI_le, tI_eq, tL_lt, tL_le, tL_eq, tWx, (by decide : (0 : Int32).toInt = 0), (by decide : (0 : Int64).toInt = 0), (by decide : (40 : Int32).toInt = 40), (by decide : (40 : Int64).toInt = 40)] at c_23 c_24 ⊢; omega) (by simp only [tI_lt, tI_le, tI_eq, tL_lt, tL_le, tL_eq, tWx, (by decide : (0 : Int32).toInt = 0), (by decide : (0 : Int64).toInt = 0), (by decide : (40 : Int32).toInt = 40), (by decide : (40 : Int64).toInt = 40)] at c_23 c_24 ⊢; omega)
          refine loopW N_41 (X := fun (i_42 : Nat) (H : Heap) (locs : List Loc) (ls : Array Slot) => 0 ≤ i_42 ∧ va_P V.1 vwCl [(z 0, .inr (10, mo z 0 0 0 0 0 0 0 0 0 0 (-1) 0 0 0 0 0)), (z 37, aI V 4 (upd (upd (upd (upd (fun _ => 0) 0 (-1)) 1 (-1)) 2 (-1)) 3 p1)), (z 38, aI V 4 (upd (fun _ => 0) 3 (nI N_41))), (z 39, aJ V 160 (fun _ => 0))] H ∧ va_D A [(z 0, .inr (10, mo z 0 0 0 0 0 0 0 0 0 0 (-1) 0 0 0 0 0)), (z 37, aI V 4 (upd (upd (upd (upd (fun _ => 0) 0 (-1)) 1 (-1)) 2 (-1)) 3 p1)), (z 38, aI V 4 (upd (fun _ => 0) 3 (nI N_41))), (z 39, aJ V 160 (fun _ => 0))] ∧ va_S A s.heap H locs ∧ lv_has ls 5 [(4, .int (nI i_42)), (0, .ref (z 0)), (1, .int 3), (2, .int p1), (3, .int (nI N_41))]) (g := fun ls => F0 m 64 ls []) (fun i_42 H locs ls hi_i_42 hX ih_i_42 => ?_) 0 (by omega) ⟨Nat.le_refl _, hP, hD, hS, lv_sub hl [0, 1, 2, 3, 4] rfl⟩
          obtain ⟨hlo_i_42, hP, hD, hS, hl⟩ := hX
          refine lv_iload hx hb dX10_numbers_64 (lv_at hl 0 rfl) ?_
          refine lv_iload_n hx hb dX10_numbers_66 rfl (lv_at hl 4 rfl) ?_
          refine lv_icmp_ge (tgt := 89) hx hb dX10_numbers_67 (by decide) (fun c_43 => ?_) (fun c_43 => ?_)
          · have e_44 : i_42 = N_41 := by have q9 := (nI_leI (a := N_41) (b := i_42) (by omega) (by omega)).mp c_43; omega
            rw [e_44] at hl
            have hl : lv_has ls 5 [(4, .int (nI N_41)), (0, .ref (z 0)), (1, .int 3), (2, .int p1), (3, .int (nI N_41))] := hl
            refine lv_iconst (v := 0) hx hb dX10_numbers_89 (by decide) ?_
            exact fiI hx hb hr hlk hK hP hD hS dX10_numbers_90 (Nat.le_of_ble_eq_true rfl) (Nat.le_of_ble_eq_true rfl) (Or.inr (Or.inr (Or.inr (Or.inr (Or.inr (Or.inr (Or.inr (Or.inr (Or.inr (⟨c_5, c_6, c_14, c_15, c_23, c_24, rfl, rfl, rfl⟩))))))))))
          · have e_44 : i_42 < N_41 := by rcases Nat.lt_or_ge i_42 N_41 with q9 | q9; exact q9; exact absurd (nI_le q9 (by omega)) c_43
            refine lv_aload_n hx hb dX10_numbers_70 rfl (lv_at hl 1 rfl) ?_
            refine va_get (ci := 10) (v := .ref (z 39)) (C := RX10) (T := TX10) (N := 40) hx hb hg inX10 hown hK hP 0 rfl rfl 39 (by decide) (hg _ q_6_23) (fun _ h9 => h9) rfl dX10_numbers_71 ?_
            refine lv_bipush (v := 40) hx hb dX10_numbers_74 (by decide) ?_
            refine lv_iload_n hx hb dX10_numbers_76 rfl (lv_at hl 2 rfl) ?_
            refine lv_imul hx hb dX10_numbers_77 ?_
            refine tpi (y := 120) (by decide +kernel) ?_
            refine lv_iload hx hb dX10_numbers_78 (lv_at hl 0 rfl) ?_
            refine lv_iadd hx hb dX10_numbers_80 ?_
            refine tpi (y := nI (120 + i_42)) (nI_add 120 i_42) ?_
            refine lv_lconst (v := 0) hx hb dX10_numbers_81 (by decide) ?_
            refine va_last hx hb hK hP hD hS 3 2 rfl rfl (vp_in_nI (by omega) (by decide)) dX10_numbers_82 (fun H locs hP hD hS => ?_)
            have hP : va_P V.1 vwCl [(z 0, .inr (10, mo z 0 0 0 0 0 0 0 0 0 0 (-1) 0 0 0 0 0)), (z 37, aI V 4 (upd (upd (upd (upd (fun _ => 0) 0 (-1)) 1 (-1)) 2 (-1)) 3 p1)), (z 38, aI V 4 (upd (fun _ => 0) 3 (nI N_41))), (z 39, aJ V 160 (vp_updL (fun _ => 0) (nI (120 + i_42)).toNatClampNeg 0))] H := hP
            have hD : va_D A [(z 0, .inr (10, mo z 0 0 0 0 0 0 0 0 0 0 (-1) 0 0 0 0 0)), (z 37, aI V 4 (upd (upd (upd (upd (fun _ => 0) 0 (-1)) 1 (-1)) 2 (-1)) 3 p1)), (z 38, aI V 4 (upd (fun _ => 0) 3 (nI N_41))), (z 39, aJ V 160 (vp_updL (fun _ => 0) (nI (120 + i_42)).toNatClampNeg 0))] := hD
            have hP : va_P V.1 vwCl [(z 0, .inr (10, mo z 0 0 0 0 0 0 0 0 0 0 (-1) 0 0 0 0 0)), (z 37, aI V 4 (upd (upd (upd (upd (fun _ => 0) 0 (-1)) 1 (-1)) 2 (-1)) 3 p1)), (z 38, aI V 4 (upd (fun _ => 0) 3 (nI N_41))), (z 39, aJ V 160 (fun _ => 0))] H := by rw [updL0] at hP; exact hP
            have hD : va_D A [(z 0, .inr (10, mo z 0 0 0 0 0 0 0 0 0 0 (-1) 0 0 0 0 0)), (z 37, aI V 4 (upd (upd (upd (upd (fun _ => 0) 0 (-1)) 1 (-1)) 2 (-1)) 3 p1)), (z 38, aI V 4 (upd (fun _ => 0) 3 (nI N_41))), (z 39, aJ V 160 (fun _ => 0))] := by rw [updL0] at hD; exact hD
            refine lv_iinc (v := nI (i_42 + 1)) (lv' := [(4, .int (nI (i_42 + 1))), (0, .ref (z 0)), (1, .int 3), (2, .int p1), (3, .int (nI N_41))]) hx hb dX10_numbers_83 hl (k := 0) rfl (nI_add i_42 1) (by decide) rfl (fun ls hl => ?_)
            refine lv_goto (tgt := 64) hx hb dX10_numbers_86 (by decide) ?_
            exact ih_i_42 e_44 _ _ _ ⟨(by omega), hP, hD, hS, lv_sub hl [0, 1, 2, 3, 4] rfl⟩
theorem dJ7_fill_d0a16_0 : decode cJ7_fill_d0a16 0 = .ok (.iconst 0, 1) := by decide +kernel
theorem dJ7_fill_d0a16_1 : decode cJ7_fill_d0a16 1 = .ok (.istore_n 3, 1) := by decide +kernel
theorem dJ7_fill_d0a16_2 : decode cJ7_fill_d0a16 2 = .ok (.aload_n 0, 1) := by decide +kernel
theorem dJ7_fill_d0a16_3 : decode cJ7_fill_d0a16 3 = .ok (.arraylength, 1) := by decide +kernel
theorem dJ7_fill_d0a16_4 : decode cJ7_fill_d0a16 4 = .ok (.istore 4, 2) := by decide +kernel
theorem dJ7_fill_d0a16_6 : decode cJ7_fill_d0a16 6 = .ok (.iload_n 3, 1) := by decide +kernel
theorem dJ7_fill_d0a16_7 : decode cJ7_fill_d0a16 7 = .ok (.iload 4, 2) := by decide +kernel
theorem dJ7_fill_d0a16_9 : decode cJ7_fill_d0a16 9 = .ok (.if_icmp .ge 13, 3) := by decide +kernel
theorem dJ7_fill_d0a16_22 : decode cJ7_fill_d0a16 22 = .ok (.return_, 1) := by decide +kernel
theorem dJ7_fill_d0a16_12 : decode cJ7_fill_d0a16 12 = .ok (.aload_n 0, 1) := by decide +kernel
theorem dJ7_fill_d0a16_13 : decode cJ7_fill_d0a16 13 = .ok (.iload_n 3, 1) := by decide +kernel
theorem dJ7_fill_d0a16_14 : decode cJ7_fill_d0a16 14 = .ok (.lload_n 1, 1) := by decide +kernel
theorem dJ7_fill_d0a16_15 : decode cJ7_fill_d0a16 15 = .ok (.lastore, 1) := by decide +kernel
theorem dJ7_fill_d0a16_16 : decode cJ7_fill_d0a16 16 = .ok (.iinc 3 1, 3) := by decide +kernel
theorem dJ7_fill_d0a16_19 : decode cJ7_fill_d0a16 19 = .ok (.goto (-13), 3) := by decide +kernel
set_option maxHeartbeats 4000000 in
set_option maxRecDepth 100000 in
theorem c_J7_fill_d0a16_0 (l : Launch) (V : GV) (y : Nat → Nat) : Ct l V yJ7_fill_d0a16 (.code yJ7_fill_d0a16 cJ7_fill_d0a16 5 none) 1 [.ref (y 34), .long 0] [(y 34, aJ V 40 (fun _ => 0))] 0 0 (QV V (fun (w : va_W) => (w = [(y 34, aJ V 40 (fun _ => 0))]))) := by
  refine Ct.of (by decide) (Nat.le_of_ble_eq_true rfl) (fun p e s m below meth c A ls hx hb hr hml hown hlk hnm hg hP hK hD hE hA hS hl => ?_)
  have hl : lv_has ls 5 [(0, .ref (y 34)), (1, .long 0)] := hl
  refine lv_iconst (v := 0) hx hb dJ7_fill_d0a16_0 (by decide) ?_
  refine lv_istore_n (lv' := [(3, .int 0), (0, .ref (y 34)), (1, .long 0)]) hx hb dJ7_fill_d0a16_1 rfl hl (by decide) rfl (fun ls hl => ?_)
  refine lv_aload_n hx hb dJ7_fill_d0a16_2 rfl (lv_at hl 1 rfl) ?_
  refine va_alen (v := 40) hx hb hK hP 0 2 rfl rfl (by decide) dJ7_fill_d0a16_3 ?_
  refine lv_istore (lv' := [(4, .int 40), (3, .int 0), (0, .ref (y 34)), (1, .long 0)]) hx hb dJ7_fill_d0a16_4 hl (by decide) rfl (fun ls hl => ?_)
  refine loopW 40 (X := fun (i_1 : Nat) (H : Heap) (locs : List Loc) (ls : Array Slot) => 0 ≤ i_1 ∧ va_P V.1 vwCl [(y 34, aJ V 40 (fun _ => 0))] H ∧ va_D A [(y 34, aJ V 40 (fun _ => 0))] ∧ va_S A s.heap H locs ∧ lv_has ls 5 [(4, .int 40), (3, .int (nI i_1)), (0, .ref (y 34)), (1, .long 0)]) (g := fun ls => F0 m 6 ls []) (fun i_1 H locs ls hi_i_1 hX ih_i_1 => ?_) 0 (Nat.le_of_ble_eq_true rfl) ⟨Nat.le_refl _, hP, hD, hS, lv_sub hl [0, 1, 2, 3] rfl⟩
  obtain ⟨hlo_i_1, hP, hD, hS, hl⟩ := hX
  refine lv_iload_n hx hb dJ7_fill_d0a16_6 rfl (lv_at hl 1 rfl) ?_
  refine lv_iload hx hb dJ7_fill_d0a16_7 (lv_at hl 0 rfl) ?_
  refine lv_icmp_ge (tgt := 22) hx hb dJ7_fill_d0a16_9 (by decide) (fun c_2 => ?_) (fun c_2 => ?_)
  · have e_3 : i_1 = 40 := by have q9 := (nI_leI (a := 40) (b := i_1) (by omega) (by omega)).mp c_2; omega
    rw [e_3] at hl
    have hl : lv_has ls 5 [(4, .int 40), (3, .int 40), (0, .ref (y 34)), (1, .long 0)] := hl
    exact fiV hx hb hr hlk hK hP hD hS dJ7_fill_d0a16_22 (Nat.le_of_ble_eq_true rfl) (Nat.le_of_ble_eq_true rfl) (rfl)
  · have e_3 : i_1 < 40 := by rcases Nat.lt_or_ge i_1 40 with q9 | q9; exact q9; exact absurd (nI_le q9 (by omega)) c_2
    refine lv_aload_n hx hb dJ7_fill_d0a16_12 rfl (lv_at hl 2 rfl) ?_
    refine lv_iload_n hx hb dJ7_fill_d0a16_13 rfl (lv_at hl 1 rfl) ?_
    refine lv_lload_n hx hb dJ7_fill_d0a16_14 rfl (lv_at hl 3 rfl) ?_
    refine va_last hx hb hK hP hD hS 0 2 rfl rfl (vp_in_nI (by omega) (by decide)) dJ7_fill_d0a16_15 (fun H locs hP hD hS => ?_)
    have hP : va_P V.1 vwCl [(y 34, aJ V 40 (vp_updL (fun _ => 0) (nI i_1).toNatClampNeg 0))] H := hP
    have hD : va_D A [(y 34, aJ V 40 (vp_updL (fun _ => 0) (nI i_1).toNatClampNeg 0))] := hD
    have hP : va_P V.1 vwCl [(y 34, aJ V 40 (fun _ => 0))] H := by rw [updL0] at hP; exact hP
    have hD : va_D A [(y 34, aJ V 40 (fun _ => 0))] := by rw [updL0] at hD; exact hD
    refine lv_iinc (v := nI (i_1 + 1)) (lv' := [(3, .int (nI (i_1 + 1))), (4, .int 40), (0, .ref (y 34)), (1, .long 0)]) hx hb dJ7_fill_d0a16_16 hl (k := 1) rfl (nI_add i_1 1) (by decide) rfl (fun ls hl => ?_)
    refine lv_goto (tgt := 6) hx hb dJ7_fill_d0a16_19 (by decide) ?_
    exact ih_i_1 e_3 _ _ _ ⟨(by omega), hP, hD, hS, lv_sub hl [1, 0, 2, 3] rfl⟩
theorem dX7_begin_0 : decode cX7_begin 0 = .ok (.aload_n 0, 1) := by decide +kernel
theorem dX7_begin_1 : decode cX7_begin 1 = .ok (.iload_n 1, 1) := by decide +kernel
theorem q_2_3 : Cond.fieldLink "BeaconDelay$Tray" 19 "BeaconDelay$Tray" "sort" "I" ∈ gw := gw_2 (i := 3) (by decide +kernel) rfl
theorem dX7_begin_2 : decode cX7_begin 2 = .ok (.putfield 19, 3) := by decide +kernel
theorem dX7_begin_5 : decode cX7_begin 5 = .ok (.aload_n 0, 1) := by decide +kernel
theorem dX7_begin_6 : decode cX7_begin 6 = .ok (.iload_n 2, 1) := by decide +kernel
theorem dX7_begin_7 : decode cX7_begin 7 = .ok (.putfield 15, 3) := by decide +kernel
theorem dX7_begin_10 : decode cX7_begin 10 = .ok (.aload_n 0, 1) := by decide +kernel
theorem dX7_begin_11 : decode cX7_begin 11 = .ok (.getfield 9, 3) := by decide +kernel
theorem dX7_begin_14 : decode cX7_begin 14 = .ok (.lconst 0, 1) := by decide +kernel
theorem q_5_183 : Cond.code yJ7_fill_d0a16 prog_20_method_101_code 5 none ∈ gw := gw_5 (i := 183) (rfl) rfl
theorem q_5_182 : Cond.static yJ7_fill_d0a16 ∈ gw := gw_5 (i := 182) (by decide +kernel) rfl
theorem mt_J7_fill_d0a16 : MtS yJ7_fill_d0a16 cJ7_fill_d0a16 5 none 2 := ⟨⟨q_5_183, q_1_17, by decide +kernel, by decide +kernel, by decide +kernel⟩, q_5_182⟩
theorem q_5_181 : Cond.methodLink "BeaconDelay$Tray" 22 yJ7_fill_d0a16 ∈ gw := gw_5 (i := 181) (by decide +kernel) rfl
theorem dX7_begin_15 : decode cX7_begin 15 = .ok (.invokestatic 22, 3) := by decide +kernel
theorem dX7_begin_18 : decode cX7_begin 18 = .ok (.return_, 1) := by decide +kernel
set_option maxHeartbeats 4000000 in
set_option maxRecDepth 100000 in
theorem c_X7_begin_0 (l : Launch) (V : GV) (y : Nat → Nat) (p0 : Int32) (p1 : Int32) : Ct l V yX7_begin (.code yX7_begin cX7_begin 3 none) 2 [.ref (y 33), .int p0, .int p1] [(y 33, .inr (7, [.ref (y 34), .int (-1), .int 0])), (y 34, aJ V 40 (fun _ => 0))] 0 0 (QV V (fun (w : va_W) => (w = [(y 33, .inr (7, [.ref (y 34), .int p1, .int p0])), (y 34, aJ V 40 (fun _ => 0))]))) := by
  refine Ct.of (by decide) (Nat.le_of_ble_eq_true rfl) (fun p e s m below meth c A ls hx hb hr hml hown hlk hnm hg hP hK hD hE hA hS hl => ?_)
  have hl : lv_has ls 3 [(0, .ref (y 33)), (1, .int p0), (2, .int p1)] := hl
  refine lv_aload_n hx hb dX7_begin_0 rfl (lv_at hl 0 rfl) ?_
  refine lv_iload_n hx hb dX7_begin_1 rfl (lv_at hl 1 rfl) ?_
  refine va_put (ci := 7) (v := .int p0) (ty := .int) (C := RX7) (T := TX7) (N := 3) hx hb hg inX7 tyX7 tyX7_ok nmX7 hown hK hP hD hS 0 rfl rfl 2 (by decide) (hg _ q_2_3) (fun _ h9 => h9) rfl (by decide +kernel) rfl rfl (Nat.le_of_ble_eq_true rfl) dX7_begin_2 (fun H locs hP hD hS => ?_)
  have hP : va_P V.1 vwCl [(y 33, .inr (7, [.ref (y 34), .int (-1), .int p0])), (y 34, aJ V 40 (fun _ => 0))] H := hP
  have hD : va_D A [(y 33, .inr (7, [.ref (y 34), .int (-1), .int p0])), (y 34, aJ V 40 (fun _ => 0))] := hD
  refine lv_aload_n hx hb dX7_begin_5 rfl (lv_at hl 0 rfl) ?_
  refine lv_iload_n hx hb dX7_begin_6 rfl (lv_at hl 2 rfl) ?_
  refine va_put (ci := 7) (v := .int p1) (ty := .int) (C := RX7) (T := TX7) (N := 3) hx hb hg inX7 tyX7 tyX7_ok nmX7 hown hK hP hD hS 0 rfl rfl 1 (by decide) (hg _ q_2_0) (fun _ h9 => h9) rfl (by decide +kernel) rfl rfl (Nat.le_of_ble_eq_true rfl) dX7_begin_7 (fun H locs hP hD hS => ?_)
  have hP : va_P V.1 vwCl [(y 33, .inr (7, [.ref (y 34), .int p1, .int p0])), (y 34, aJ V 40 (fun _ => 0))] H := hP
  have hD : va_D A [(y 33, .inr (7, [.ref (y 34), .int p1, .int p0])), (y 34, aJ V 40 (fun _ => 0))] := hD
  refine lv_aload_n hx hb dX7_begin_10 rfl (lv_at hl 0 rfl) ?_
  refine va_get (ci := 7) (v := .ref (y 34)) (C := RX7) (T := TX7) (N := 3) hx hb hg inX7 hown hK hP 0 rfl rfl 0 (by decide) (hg _ q_1_237) (fun _ h9 => h9) rfl dX7_begin_11 ?_
  refine lv_lconst (v := 0) hx hb dX7_begin_14 (by decide) ?_
  refine jnV (wr := [(y 33, .inr (7, [.ref (y 34), .int p1, .int p0]))]) (rnS (rest := []) ⟨hx, hb, hml, hown, hg⟩ (c_J7_fill_d0a16_0 l V y) mt_J7_fill_d0a16 q_5_181 ⟨Nat.le_of_ble_eq_true rfl, Nat.le_of_ble_eq_true rfl⟩ hK hP hD hS hA hE [1] rfl rfl rfl hl.1 rfl (Nat.le_of_ble_eq_true rfl) dX7_begin_15 ⟨Nat.le_of_ble_eq_true rfl, Nat.le_of_ble_eq_true rfl⟩) hP hD hS hA [1] [0] rfl rfl rfl (by decide) (fun  w H locs hw hP hD hS => ?_)
  subst hw
  have hP : va_P V.1 vwCl [(y 33, .inr (7, [.ref (y 34), .int p1, .int p0])), (y 34, aJ V 40 (fun _ => 0))] H := hP
  have hD : va_D A [(y 33, .inr (7, [.ref (y 34), .int p1, .int p0])), (y 34, aJ V 40 (fun _ => 0))] := hD
  exact fiV hx hb hr hlk hK hP hD hS dX7_begin_18 (Nat.le_of_ble_eq_true rfl) (Nat.le_of_ble_eq_true rfl) (rfl)
set_option maxHeartbeats 4000000 in
set_option maxRecDepth 100000 in
theorem c_J7_fill_d0a16_1 (l : Launch) (V : GV) (y : Nat → Nat) : Ct l V yJ7_fill_d0a16 (.code yJ7_fill_d0a16 cJ7_fill_d0a16 5 none) 1 [.ref (y 36), .long 0] [(y 36, aJ V 40 (fun _ => 0))] 0 0 (QV V (fun (w : va_W) => (w = [(y 36, aJ V 40 (fun _ => 0))]))) := by
  refine Ct.of (by decide) (Nat.le_of_ble_eq_true rfl) (fun p e s m below meth c A ls hx hb hr hml hown hlk hnm hg hP hK hD hE hA hS hl => ?_)
  have hl : lv_has ls 5 [(0, .ref (y 36)), (1, .long 0)] := hl
  refine lv_iconst (v := 0) hx hb dJ7_fill_d0a16_0 (by decide) ?_
  refine lv_istore_n (lv' := [(3, .int 0), (0, .ref (y 36)), (1, .long 0)]) hx hb dJ7_fill_d0a16_1 rfl hl (by decide) rfl (fun ls hl => ?_)
  refine lv_aload_n hx hb dJ7_fill_d0a16_2 rfl (lv_at hl 1 rfl) ?_
  refine va_alen (v := 40) hx hb hK hP 0 2 rfl rfl (by decide) dJ7_fill_d0a16_3 ?_
  refine lv_istore (lv' := [(4, .int 40), (3, .int 0), (0, .ref (y 36)), (1, .long 0)]) hx hb dJ7_fill_d0a16_4 hl (by decide) rfl (fun ls hl => ?_)
  refine loopW 40 (X := fun (i_1 : Nat) (H : Heap) (locs : List Loc) (ls : Array Slot) => 0 ≤ i_1 ∧ va_P V.1 vwCl [(y 36, aJ V 40 (fun _ => 0))] H ∧ va_D A [(y 36, aJ V 40 (fun _ => 0))] ∧ va_S A s.heap H locs ∧ lv_has ls 5 [(4, .int 40), (3, .int (nI i_1)), (0, .ref (y 36)), (1, .long 0)]) (g := fun ls => F0 m 6 ls []) (fun i_1 H locs ls hi_i_1 hX ih_i_1 => ?_) 0 (Nat.le_of_ble_eq_true rfl) ⟨Nat.le_refl _, hP, hD, hS, lv_sub hl [0, 1, 2, 3] rfl⟩
  obtain ⟨hlo_i_1, hP, hD, hS, hl⟩ := hX
  refine lv_iload_n hx hb dJ7_fill_d0a16_6 rfl (lv_at hl 1 rfl) ?_
  refine lv_iload hx hb dJ7_fill_d0a16_7 (lv_at hl 0 rfl) ?_
  refine lv_icmp_ge (tgt := 22) hx hb dJ7_fill_d0a16_9 (by decide) (fun c_2 => ?_) (fun c_2 => ?_)
  · have e_3 : i_1 = 40 := by have q9 := (nI_leI (a := 40) (b := i_1) (by omega) (by omega)).mp c_2; omega
    rw [e_3] at hl
    have hl : lv_has ls 5 [(4, .int 40), (3, .int 40), (0, .ref (y 36)), (1, .long 0)] := hl
    exact fiV hx hb hr hlk hK hP hD hS dJ7_fill_d0a16_22 (Nat.le_of_ble_eq_true rfl) (Nat.le_of_ble_eq_true rfl) (rfl)
  · have e_3 : i_1 < 40 := by rcases Nat.lt_or_ge i_1 40 with q9 | q9; exact q9; exact absurd (nI_le q9 (by omega)) c_2
    refine lv_aload_n hx hb dJ7_fill_d0a16_12 rfl (lv_at hl 2 rfl) ?_
    refine lv_iload_n hx hb dJ7_fill_d0a16_13 rfl (lv_at hl 1 rfl) ?_
    refine lv_lload_n hx hb dJ7_fill_d0a16_14 rfl (lv_at hl 3 rfl) ?_
    refine va_last hx hb hK hP hD hS 0 2 rfl rfl (vp_in_nI (by omega) (by decide)) dJ7_fill_d0a16_15 (fun H locs hP hD hS => ?_)
    have hP : va_P V.1 vwCl [(y 36, aJ V 40 (vp_updL (fun _ => 0) (nI i_1).toNatClampNeg 0))] H := hP
    have hD : va_D A [(y 36, aJ V 40 (vp_updL (fun _ => 0) (nI i_1).toNatClampNeg 0))] := hD
    have hP : va_P V.1 vwCl [(y 36, aJ V 40 (fun _ => 0))] H := by rw [updL0] at hP; exact hP
    have hD : va_D A [(y 36, aJ V 40 (fun _ => 0))] := by rw [updL0] at hD; exact hD
    refine lv_iinc (v := nI (i_1 + 1)) (lv' := [(3, .int (nI (i_1 + 1))), (4, .int 40), (0, .ref (y 36)), (1, .long 0)]) hx hb dJ7_fill_d0a16_16 hl (k := 1) rfl (nI_add i_1 1) (by decide) rfl (fun ls hl => ?_)
    refine lv_goto (tgt := 6) hx hb dJ7_fill_d0a16_19 (by decide) ?_
    exact ih_i_1 e_3 _ _ _ ⟨(by omega), hP, hD, hS, lv_sub hl [1, 0, 2, 3] rfl⟩
set_option maxHeartbeats 4000000 in
set_option maxRecDepth 100000 in
theorem c_X7_begin_1 (l : Launch) (V : GV) (y : Nat → Nat) (p0 : Int32) (p1 : Int32) : Ct l V yX7_begin (.code yX7_begin cX7_begin 3 none) 2 [.ref (y 35), .int p0, .int p1] [(y 35, .inr (7, [.ref (y 36), .int (-1), .int 0])), (y 36, aJ V 40 (fun _ => 0))] 0 0 (QV V (fun (w : va_W) => (w = [(y 35, .inr (7, [.ref (y 36), .int p1, .int p0])), (y 36, aJ V 40 (fun _ => 0))]))) := by
  refine Ct.of (by decide) (Nat.le_of_ble_eq_true rfl) (fun p e s m below meth c A ls hx hb hr hml hown hlk hnm hg hP hK hD hE hA hS hl => ?_)
  have hl : lv_has ls 3 [(0, .ref (y 35)), (1, .int p0), (2, .int p1)] := hl
  refine lv_aload_n hx hb dX7_begin_0 rfl (lv_at hl 0 rfl) ?_
  refine lv_iload_n hx hb dX7_begin_1 rfl (lv_at hl 1 rfl) ?_
  refine va_put (ci := 7) (v := .int p0) (ty := .int) (C := RX7) (T := TX7) (N := 3) hx hb hg inX7 tyX7 tyX7_ok nmX7 hown hK hP hD hS 0 rfl rfl 2 (by decide) (hg _ q_2_3) (fun _ h9 => h9) rfl (by decide +kernel) rfl rfl (Nat.le_of_ble_eq_true rfl) dX7_begin_2 (fun H locs hP hD hS => ?_)
  have hP : va_P V.1 vwCl [(y 35, .inr (7, [.ref (y 36), .int (-1), .int p0])), (y 36, aJ V 40 (fun _ => 0))] H := hP
  have hD : va_D A [(y 35, .inr (7, [.ref (y 36), .int (-1), .int p0])), (y 36, aJ V 40 (fun _ => 0))] := hD
  refine lv_aload_n hx hb dX7_begin_5 rfl (lv_at hl 0 rfl) ?_
  refine lv_iload_n hx hb dX7_begin_6 rfl (lv_at hl 2 rfl) ?_
  refine va_put (ci := 7) (v := .int p1) (ty := .int) (C := RX7) (T := TX7) (N := 3) hx hb hg inX7 tyX7 tyX7_ok nmX7 hown hK hP hD hS 0 rfl rfl 1 (by decide) (hg _ q_2_0) (fun _ h9 => h9) rfl (by decide +kernel) rfl rfl (Nat.le_of_ble_eq_true rfl) dX7_begin_7 (fun H locs hP hD hS => ?_)
  have hP : va_P V.1 vwCl [(y 35, .inr (7, [.ref (y 36), .int p1, .int p0])), (y 36, aJ V 40 (fun _ => 0))] H := hP
  have hD : va_D A [(y 35, .inr (7, [.ref (y 36), .int p1, .int p0])), (y 36, aJ V 40 (fun _ => 0))] := hD
  refine lv_aload_n hx hb dX7_begin_10 rfl (lv_at hl 0 rfl) ?_
  refine va_get (ci := 7) (v := .ref (y 36)) (C := RX7) (T := TX7) (N := 3) hx hb hg inX7 hown hK hP 0 rfl rfl 0 (by decide) (hg _ q_1_237) (fun _ h9 => h9) rfl dX7_begin_11 ?_
  refine lv_lconst (v := 0) hx hb dX7_begin_14 (by decide) ?_
  refine jnV (wr := [(y 35, .inr (7, [.ref (y 36), .int p1, .int p0]))]) (rnS (rest := []) ⟨hx, hb, hml, hown, hg⟩ (c_J7_fill_d0a16_1 l V y) mt_J7_fill_d0a16 q_5_181 ⟨Nat.le_of_ble_eq_true rfl, Nat.le_of_ble_eq_true rfl⟩ hK hP hD hS hA hE [1] rfl rfl rfl hl.1 rfl (Nat.le_of_ble_eq_true rfl) dX7_begin_15 ⟨Nat.le_of_ble_eq_true rfl, Nat.le_of_ble_eq_true rfl⟩) hP hD hS hA [1] [0] rfl rfl rfl (by decide) (fun  w H locs hw hP hD hS => ?_)
  subst hw
  have hP : va_P V.1 vwCl [(y 35, .inr (7, [.ref (y 36), .int p1, .int p0])), (y 36, aJ V 40 (fun _ => 0))] H := hP
  have hD : va_D A [(y 35, .inr (7, [.ref (y 36), .int p1, .int p0])), (y 36, aJ V 40 (fun _ => 0))] := hD
  exact fiV hx hb hr hlk hK hP hD hS dX7_begin_18 (Nat.le_of_ble_eq_true rfl) (Nat.le_of_ble_eq_true rfl) (rfl)
set_option maxHeartbeats 4000000 in
set_option maxRecDepth 100000 in
theorem c_J7_fill_d0a16_2 (l : Launch) (V : GV) (y : Nat → Nat) : Ct l V yJ7_fill_d0a16 (.code yJ7_fill_d0a16 cJ7_fill_d0a16 5 none) 1 [.ref (y 38), .long 0] [(y 38, aJ V 40 (fun _ => 0))] 0 0 (QV V (fun (w : va_W) => (w = [(y 38, aJ V 40 (fun _ => 0))]))) := by
  refine Ct.of (by decide) (Nat.le_of_ble_eq_true rfl) (fun p e s m below meth c A ls hx hb hr hml hown hlk hnm hg hP hK hD hE hA hS hl => ?_)
  have hl : lv_has ls 5 [(0, .ref (y 38)), (1, .long 0)] := hl
  refine lv_iconst (v := 0) hx hb dJ7_fill_d0a16_0 (by decide) ?_
  refine lv_istore_n (lv' := [(3, .int 0), (0, .ref (y 38)), (1, .long 0)]) hx hb dJ7_fill_d0a16_1 rfl hl (by decide) rfl (fun ls hl => ?_)
  refine lv_aload_n hx hb dJ7_fill_d0a16_2 rfl (lv_at hl 1 rfl) ?_
  refine va_alen (v := 40) hx hb hK hP 0 2 rfl rfl (by decide) dJ7_fill_d0a16_3 ?_
  refine lv_istore (lv' := [(4, .int 40), (3, .int 0), (0, .ref (y 38)), (1, .long 0)]) hx hb dJ7_fill_d0a16_4 hl (by decide) rfl (fun ls hl => ?_)
  refine loopW 40 (X := fun (i_1 : Nat) (H : Heap) (locs : List Loc) (ls : Array Slot) => 0 ≤ i_1 ∧ va_P V.1 vwCl [(y 38, aJ V 40 (fun _ => 0))] H ∧ va_D A [(y 38, aJ V 40 (fun _ => 0))] ∧ va_S A s.heap H locs ∧ lv_has ls 5 [(4, .int 40), (3, .int (nI i_1)), (0, .ref (y 38)), (1, .long 0)]) (g := fun ls => F0 m 6 ls []) (fun i_1 H locs ls hi_i_1 hX ih_i_1 => ?_) 0 (Nat.le_of_ble_eq_true rfl) ⟨Nat.le_refl _, hP, hD, hS, lv_sub hl [0, 1, 2, 3] rfl⟩
  obtain ⟨hlo_i_1, hP, hD, hS, hl⟩ := hX
  refine lv_iload_n hx hb dJ7_fill_d0a16_6 rfl (lv_at hl 1 rfl) ?_
  refine lv_iload hx hb dJ7_fill_d0a16_7 (lv_at hl 0 rfl) ?_
  refine lv_icmp_ge (tgt := 22) hx hb dJ7_fill_d0a16_9 (by decide) (fun c_2 => ?_) (fun c_2 => ?_)
  · have e_3 : i_1 = 40 := by have q9 := (nI_leI (a := 40) (b := i_1) (by omega) (by omega)).mp c_2; omega
    rw [e_3] at hl
    have hl : lv_has ls 5 [(4, .int 40), (3, .int 40), (0, .ref (y 38)), (1, .long 0)] := hl
    exact fiV hx hb hr hlk hK hP hD hS dJ7_fill_d0a16_22 (Nat.le_of_ble_eq_true rfl) (Nat.le_of_ble_eq_true rfl) (rfl)
  · have e_3 : i_1 < 40 := by rcases Nat.lt_or_ge i_1 40 with q9 | q9; exact q9; exact absurd (nI_le q9 (by omega)) c_2
    refine lv_aload_n hx hb dJ7_fill_d0a16_12 rfl (lv_at hl 2 rfl) ?_
    refine lv_iload_n hx hb dJ7_fill_d0a16_13 rfl (lv_at hl 1 rfl) ?_
    refine lv_lload_n hx hb dJ7_fill_d0a16_14 rfl (lv_at hl 3 rfl) ?_
    refine va_last hx hb hK hP hD hS 0 2 rfl rfl (vp_in_nI (by omega) (by decide)) dJ7_fill_d0a16_15 (fun H locs hP hD hS => ?_)
    have hP : va_P V.1 vwCl [(y 38, aJ V 40 (vp_updL (fun _ => 0) (nI i_1).toNatClampNeg 0))] H := hP
    have hD : va_D A [(y 38, aJ V 40 (vp_updL (fun _ => 0) (nI i_1).toNatClampNeg 0))] := hD
    have hP : va_P V.1 vwCl [(y 38, aJ V 40 (fun _ => 0))] H := by rw [updL0] at hP; exact hP
    have hD : va_D A [(y 38, aJ V 40 (fun _ => 0))] := by rw [updL0] at hD; exact hD
    refine lv_iinc (v := nI (i_1 + 1)) (lv' := [(3, .int (nI (i_1 + 1))), (4, .int 40), (0, .ref (y 38)), (1, .long 0)]) hx hb dJ7_fill_d0a16_16 hl (k := 1) rfl (nI_add i_1 1) (by decide) rfl (fun ls hl => ?_)
    refine lv_goto (tgt := 6) hx hb dJ7_fill_d0a16_19 (by decide) ?_
    exact ih_i_1 e_3 _ _ _ ⟨(by omega), hP, hD, hS, lv_sub hl [1, 0, 2, 3] rfl⟩
set_option maxHeartbeats 4000000 in
set_option maxRecDepth 100000 in
theorem c_X7_begin_2 (l : Launch) (V : GV) (y : Nat → Nat) (p0 : Int32) (p1 : Int32) : Ct l V yX7_begin (.code yX7_begin cX7_begin 3 none) 2 [.ref (y 37), .int p0, .int p1] [(y 37, .inr (7, [.ref (y 38), .int (-1), .int 0])), (y 38, aJ V 40 (fun _ => 0))] 0 0 (QV V (fun (w : va_W) => (w = [(y 37, .inr (7, [.ref (y 38), .int p1, .int p0])), (y 38, aJ V 40 (fun _ => 0))]))) := by
  refine Ct.of (by decide) (Nat.le_of_ble_eq_true rfl) (fun p e s m below meth c A ls hx hb hr hml hown hlk hnm hg hP hK hD hE hA hS hl => ?_)
  have hl : lv_has ls 3 [(0, .ref (y 37)), (1, .int p0), (2, .int p1)] := hl
  refine lv_aload_n hx hb dX7_begin_0 rfl (lv_at hl 0 rfl) ?_
  refine lv_iload_n hx hb dX7_begin_1 rfl (lv_at hl 1 rfl) ?_
  refine va_put (ci := 7) (v := .int p0) (ty := .int) (C := RX7) (T := TX7) (N := 3) hx hb hg inX7 tyX7 tyX7_ok nmX7 hown hK hP hD hS 0 rfl rfl 2 (by decide) (hg _ q_2_3) (fun _ h9 => h9) rfl (by decide +kernel) rfl rfl (Nat.le_of_ble_eq_true rfl) dX7_begin_2 (fun H locs hP hD hS => ?_)
  have hP : va_P V.1 vwCl [(y 37, .inr (7, [.ref (y 38), .int (-1), .int p0])), (y 38, aJ V 40 (fun _ => 0))] H := hP
  have hD : va_D A [(y 37, .inr (7, [.ref (y 38), .int (-1), .int p0])), (y 38, aJ V 40 (fun _ => 0))] := hD
  refine lv_aload_n hx hb dX7_begin_5 rfl (lv_at hl 0 rfl) ?_
  refine lv_iload_n hx hb dX7_begin_6 rfl (lv_at hl 2 rfl) ?_
  refine va_put (ci := 7) (v := .int p1) (ty := .int) (C := RX7) (T := TX7) (N := 3) hx hb hg inX7 tyX7 tyX7_ok nmX7 hown hK hP hD hS 0 rfl rfl 1 (by decide) (hg _ q_2_0) (fun _ h9 => h9) rfl (by decide +kernel) rfl rfl (Nat.le_of_ble_eq_true rfl) dX7_begin_7 (fun H locs hP hD hS => ?_)
  have hP : va_P V.1 vwCl [(y 37, .inr (7, [.ref (y 38), .int p1, .int p0])), (y 38, aJ V 40 (fun _ => 0))] H := hP
  have hD : va_D A [(y 37, .inr (7, [.ref (y 38), .int p1, .int p0])), (y 38, aJ V 40 (fun _ => 0))] := hD
  refine lv_aload_n hx hb dX7_begin_10 rfl (lv_at hl 0 rfl) ?_
  refine va_get (ci := 7) (v := .ref (y 38)) (C := RX7) (T := TX7) (N := 3) hx hb hg inX7 hown hK hP 0 rfl rfl 0 (by decide) (hg _ q_1_237) (fun _ h9 => h9) rfl dX7_begin_11 ?_
  refine lv_lconst (v := 0) hx hb dX7_begin_14 (by decide) ?_
  refine jnV (wr := [(y 37, .inr (7, [.ref (y 38), .int p1, .int p0]))]) (rnS (rest := []) ⟨hx, hb, hml, hown, hg⟩ (c_J7_fill_d0a16_2 l V y) mt_J7_fill_d0a16 q_5_181 ⟨Nat.le_of_ble_eq_true rfl, Nat.le_of_ble_eq_true rfl⟩ hK hP hD hS hA hE [1] rfl rfl rfl hl.1 rfl (Nat.le_of_ble_eq_true rfl) dX7_begin_15 ⟨Nat.le_of_ble_eq_true rfl, Nat.le_of_ble_eq_true rfl⟩) hP hD hS hA [1] [0] rfl rfl rfl (by decide) (fun  w H locs hw hP hD hS => ?_)
  subst hw
  have hP : va_P V.1 vwCl [(y 37, .inr (7, [.ref (y 38), .int p1, .int p0])), (y 38, aJ V 40 (fun _ => 0))] H := hP
  have hD : va_D A [(y 37, .inr (7, [.ref (y 38), .int p1, .int p0])), (y 38, aJ V 40 (fun _ => 0))] := hD
  exact fiV hx hb hr hlk hK hP hD hS dX7_begin_18 (Nat.le_of_ble_eq_true rfl) (Nat.le_of_ble_eq_true rfl) (rfl)
set_option maxHeartbeats 4000000 in
set_option maxRecDepth 100000 in
theorem c_J7_fill_d0a16_3 (l : Launch) (V : GV) (y : Nat → Nat) : Ct l V yJ7_fill_d0a16 (.code yJ7_fill_d0a16 cJ7_fill_d0a16 5 none) 1 [.ref (y 40), .long 0] [(y 40, aJ V 40 (fun _ => 0))] 0 0 (QV V (fun (w : va_W) => (w = [(y 40, aJ V 40 (fun _ => 0))]))) := by
  refine Ct.of (by decide) (Nat.le_of_ble_eq_true rfl) (fun p e s m below meth c A ls hx hb hr hml hown hlk hnm hg hP hK hD hE hA hS hl => ?_)
  have hl : lv_has ls 5 [(0, .ref (y 40)), (1, .long 0)] := hl
  refine lv_iconst (v := 0) hx hb dJ7_fill_d0a16_0 (by decide) ?_
  refine lv_istore_n (lv' := [(3, .int 0), (0, .ref (y 40)), (1, .long 0)]) hx hb dJ7_fill_d0a16_1 rfl hl (by decide) rfl (fun ls hl => ?_)
  refine lv_aload_n hx hb dJ7_fill_d0a16_2 rfl (lv_at hl 1 rfl) ?_
  refine va_alen (v := 40) hx hb hK hP 0 2 rfl rfl (by decide) dJ7_fill_d0a16_3 ?_
  refine lv_istore (lv' := [(4, .int 40), (3, .int 0), (0, .ref (y 40)), (1, .long 0)]) hx hb dJ7_fill_d0a16_4 hl (by decide) rfl (fun ls hl => ?_)
  refine loopW 40 (X := fun (i_1 : Nat) (H : Heap) (locs : List Loc) (ls : Array Slot) => 0 ≤ i_1 ∧ va_P V.1 vwCl [(y 40, aJ V 40 (fun _ => 0))] H ∧ va_D A [(y 40, aJ V 40 (fun _ => 0))] ∧ va_S A s.heap H locs ∧ lv_has ls 5 [(4, .int 40), (3, .int (nI i_1)), (0, .ref (y 40)), (1, .long 0)]) (g := fun ls => F0 m 6 ls []) (fun i_1 H locs ls hi_i_1 hX ih_i_1 => ?_) 0 (Nat.le_of_ble_eq_true rfl) ⟨Nat.le_refl _, hP, hD, hS, lv_sub hl [0, 1, 2, 3] rfl⟩
  obtain ⟨hlo_i_1, hP, hD, hS, hl⟩ := hX
  refine lv_iload_n hx hb dJ7_fill_d0a16_6 rfl (lv_at hl 1 rfl) ?_
  refine lv_iload hx hb dJ7_fill_d0a16_7 (lv_at hl 0 rfl) ?_
  refine lv_icmp_ge (tgt := 22) hx hb dJ7_fill_d0a16_9 (by decide) (fun c_2 => ?_) (fun c_2 => ?_)
  · have e_3 : i_1 = 40 := by have q9 := (nI_leI (a := 40) (b := i_1) (by omega) (by omega)).mp c_2; omega
    rw [e_3] at hl
    have hl : lv_has ls 5 [(4, .int 40), (3, .int 40), (0, .ref (y 40)), (1, .long 0)] := hl
    exact fiV hx hb hr hlk hK hP hD hS dJ7_fill_d0a16_22 (Nat.le_of_ble_eq_true rfl) (Nat.le_of_ble_eq_true rfl) (rfl)
  · have e_3 : i_1 < 40 := by rcases Nat.lt_or_ge i_1 40 with q9 | q9; exact q9; exact absurd (nI_le q9 (by omega)) c_2
    refine lv_aload_n hx hb dJ7_fill_d0a16_12 rfl (lv_at hl 2 rfl) ?_
    refine lv_iload_n hx hb dJ7_fill_d0a16_13 rfl (lv_at hl 1 rfl) ?_
    refine lv_lload_n hx hb dJ7_fill_d0a16_14 rfl (lv_at hl 3 rfl) ?_
    refine va_last hx hb hK hP hD hS 0 2 rfl rfl (vp_in_nI (by omega) (by decide)) dJ7_fill_d0a16_15 (fun H locs hP hD hS => ?_)
    have hP : va_P V.1 vwCl [(y 40, aJ V 40 (vp_updL (fun _ => 0) (nI i_1).toNatClampNeg 0))] H := hP
    have hD : va_D A [(y 40, aJ V 40 (vp_updL (fun _ => 0) (nI i_1).toNatClampNeg 0))] := hD
    have hP : va_P V.1 vwCl [(y 40, aJ V 40 (fun _ => 0))] H := by rw [updL0] at hP; exact hP
    have hD : va_D A [(y 40, aJ V 40 (fun _ => 0))] := by rw [updL0] at hD; exact hD
    refine lv_iinc (v := nI (i_1 + 1)) (lv' := [(3, .int (nI (i_1 + 1))), (4, .int 40), (0, .ref (y 40)), (1, .long 0)]) hx hb dJ7_fill_d0a16_16 hl (k := 1) rfl (nI_add i_1 1) (by decide) rfl (fun ls hl => ?_)
    refine lv_goto (tgt := 6) hx hb dJ7_fill_d0a16_19 (by decide) ?_
    exact ih_i_1 e_3 _ _ _ ⟨(by omega), hP, hD, hS, lv_sub hl [1, 0, 2, 3] rfl⟩
set_option maxHeartbeats 4000000 in
set_option maxRecDepth 100000 in
theorem c_X7_begin_3 (l : Launch) (V : GV) (y : Nat → Nat) (p0 : Int32) (p1 : Int32) : Ct l V yX7_begin (.code yX7_begin cX7_begin 3 none) 2 [.ref (y 39), .int p0, .int p1] [(y 39, .inr (7, [.ref (y 40), .int (-1), .int 0])), (y 40, aJ V 40 (fun _ => 0))] 0 0 (QV V (fun (w : va_W) => (w = [(y 39, .inr (7, [.ref (y 40), .int p1, .int p0])), (y 40, aJ V 40 (fun _ => 0))]))) := by
  refine Ct.of (by decide) (Nat.le_of_ble_eq_true rfl) (fun p e s m below meth c A ls hx hb hr hml hown hlk hnm hg hP hK hD hE hA hS hl => ?_)
  have hl : lv_has ls 3 [(0, .ref (y 39)), (1, .int p0), (2, .int p1)] := hl
  refine lv_aload_n hx hb dX7_begin_0 rfl (lv_at hl 0 rfl) ?_
  refine lv_iload_n hx hb dX7_begin_1 rfl (lv_at hl 1 rfl) ?_
  refine va_put (ci := 7) (v := .int p0) (ty := .int) (C := RX7) (T := TX7) (N := 3) hx hb hg inX7 tyX7 tyX7_ok nmX7 hown hK hP hD hS 0 rfl rfl 2 (by decide) (hg _ q_2_3) (fun _ h9 => h9) rfl (by decide +kernel) rfl rfl (Nat.le_of_ble_eq_true rfl) dX7_begin_2 (fun H locs hP hD hS => ?_)
  have hP : va_P V.1 vwCl [(y 39, .inr (7, [.ref (y 40), .int (-1), .int p0])), (y 40, aJ V 40 (fun _ => 0))] H := hP
  have hD : va_D A [(y 39, .inr (7, [.ref (y 40), .int (-1), .int p0])), (y 40, aJ V 40 (fun _ => 0))] := hD
  refine lv_aload_n hx hb dX7_begin_5 rfl (lv_at hl 0 rfl) ?_
  refine lv_iload_n hx hb dX7_begin_6 rfl (lv_at hl 2 rfl) ?_
  refine va_put (ci := 7) (v := .int p1) (ty := .int) (C := RX7) (T := TX7) (N := 3) hx hb hg inX7 tyX7 tyX7_ok nmX7 hown hK hP hD hS 0 rfl rfl 1 (by decide) (hg _ q_2_0) (fun _ h9 => h9) rfl (by decide +kernel) rfl rfl (Nat.le_of_ble_eq_true rfl) dX7_begin_7 (fun H locs hP hD hS => ?_)
  have hP : va_P V.1 vwCl [(y 39, .inr (7, [.ref (y 40), .int p1, .int p0])), (y 40, aJ V 40 (fun _ => 0))] H := hP
  have hD : va_D A [(y 39, .inr (7, [.ref (y 40), .int p1, .int p0])), (y 40, aJ V 40 (fun _ => 0))] := hD
  refine lv_aload_n hx hb dX7_begin_10 rfl (lv_at hl 0 rfl) ?_
  refine va_get (ci := 7) (v := .ref (y 40)) (C := RX7) (T := TX7) (N := 3) hx hb hg inX7 hown hK hP 0 rfl rfl 0 (by decide) (hg _ q_1_237) (fun _ h9 => h9) rfl dX7_begin_11 ?_
  refine lv_lconst (v := 0) hx hb dX7_begin_14 (by decide) ?_
  refine jnV (wr := [(y 39, .inr (7, [.ref (y 40), .int p1, .int p0]))]) (rnS (rest := []) ⟨hx, hb, hml, hown, hg⟩ (c_J7_fill_d0a16_3 l V y) mt_J7_fill_d0a16 q_5_181 ⟨Nat.le_of_ble_eq_true rfl, Nat.le_of_ble_eq_true rfl⟩ hK hP hD hS hA hE [1] rfl rfl rfl hl.1 rfl (Nat.le_of_ble_eq_true rfl) dX7_begin_15 ⟨Nat.le_of_ble_eq_true rfl, Nat.le_of_ble_eq_true rfl⟩) hP hD hS hA [1] [0] rfl rfl rfl (by decide) (fun  w H locs hw hP hD hS => ?_)
  subst hw
  have hP : va_P V.1 vwCl [(y 39, .inr (7, [.ref (y 40), .int p1, .int p0])), (y 40, aJ V 40 (fun _ => 0))] H := hP
  have hD : va_D A [(y 39, .inr (7, [.ref (y 40), .int p1, .int p0])), (y 40, aJ V 40 (fun _ => 0))] := hD
  exact fiV hx hb hr hlk hK hP hD hS dX7_begin_18 (Nat.le_of_ble_eq_true rfl) (Nat.le_of_ble_eq_true rfl) (rfl)
theorem dX9_numbers_0 : decode cX9_numbers 0 = .ok (.iload_n 1, 1) := by decide +kernel
theorem dX9_numbers_1 : decode cX9_numbers 1 = .ok (.invokestatic 205, 3) := by decide +kernel
theorem dX9_numbers_4 : decode cX9_numbers 4 = .ok (.ifCond .eq 12, 3) := by decide +kernel
theorem dX9_numbers_16 : decode cX9_numbers 16 = .ok (.bipush (-2), 2) := by decide +kernel
theorem dX9_numbers_18 : decode cX9_numbers 18 = .ok (.ireturn, 1) := by decide +kernel
theorem dX9_numbers_7 : decode cX9_numbers 7 = .ok (.iload_n 2, 1) := by decide +kernel
theorem dX9_numbers_8 : decode cX9_numbers 8 = .ok (.ifCond .lt 8, 3) := by decide +kernel
theorem dX9_numbers_11 : decode cX9_numbers 11 = .ok (.iload_n 2, 1) := by decide +kernel
theorem dX9_numbers_12 : decode cX9_numbers 12 = .ok (.iconst 3, 1) := by decide +kernel
theorem dX9_numbers_13 : decode cX9_numbers 13 = .ok (.if_icmp .le 6, 3) := by decide +kernel
theorem dX9_numbers_19 : decode cX9_numbers 19 = .ok (.iload_n 3, 1) := by decide +kernel
theorem dX9_numbers_20 : decode cX9_numbers 20 = .ok (.ifCond .lt 9, 3) := by decide +kernel
theorem dX9_numbers_29 : decode cX9_numbers 29 = .ok (.bipush (-3), 2) := by decide +kernel
theorem dX9_numbers_31 : decode cX9_numbers 31 = .ok (.ireturn, 1) := by decide +kernel
theorem dX9_numbers_23 : decode cX9_numbers 23 = .ok (.iload_n 3, 1) := by decide +kernel
theorem dX9_numbers_24 : decode cX9_numbers 24 = .ok (.bipush 40, 2) := by decide +kernel
theorem dX9_numbers_26 : decode cX9_numbers 26 = .ok (.if_icmp .le 6, 3) := by decide +kernel
theorem dX9_numbers_32 : decode cX9_numbers 32 = .ok (.aload_n 0, 1) := by decide +kernel
theorem dX9_numbers_33 : decode cX9_numbers 33 = .ok (.getfield 54, 3) := by decide +kernel
theorem dX9_numbers_36 : decode cX9_numbers 36 = .ok (.iload_n 1, 1) := by decide +kernel
theorem dX9_numbers_37 : decode cX9_numbers 37 = .ok (.aaload, 1) := by decide +kernel
theorem dX9_numbers_38 : decode cX9_numbers 38 = .ok (.iload_n 2, 1) := by decide +kernel
theorem dX9_numbers_39 : decode cX9_numbers 39 = .ok (.iload_n 3, 1) := by decide +kernel
theorem q_5_180 : Cond.code yX7_begin prog_9_method_3_code 3 none ∈ gw := gw_5 (i := 180) (rfl) rfl
theorem q_5_178 : Cond.instanceMethod yX7_begin ∈ gw := gw_5 (i := 178) (by decide +kernel) rfl
theorem q_5_179 : Cond.selects "BeaconDelay$Tray" yX7_begin yX7_begin ∈ gw := gw_5 (i := 179) (by decide +kernel) rfl
theorem mt_X7_begin : MtV yX7_begin cX7_begin 3 none 2 := ⟨⟨q_5_180, q_1_7, by decide +kernel, by decide +kernel, by decide +kernel⟩, q_5_178, q_5_179⟩
theorem q_5_177 : Cond.methodLink "BeaconDelay" 383 yX7_begin ∈ gw := gw_5 (i := 177) (by decide +kernel) rfl
theorem dX9_numbers_40 : decode cX9_numbers 40 = .ok (.invokevirtual 383, 3) := by decide +kernel
theorem dX9_numbers_43 : decode cX9_numbers 43 = .ok (.iconst 0, 1) := by decide +kernel
theorem dX9_numbers_44 : decode cX9_numbers 44 = .ok (.ireturn, 1) := by decide +kernel
set_option maxHeartbeats 4000000 in
set_option maxRecDepth 100000 in
theorem c_X9_numbers_0 (l : Launch) (V : GV) (y : Nat → Nat) (p0 : Int32) (p1 : Int32) (p2 : Int32) : Ct l V yX9_numbers (.code yX9_numbers cX9_numbers 4 (some .int)) 3 [.ref (y 0), .int p0, .int p1, .int p2] [(y 0, .inr (9, [.ref (y 1), .int 0, .ref (y 2), .ref (y 10), .ref (y 19), .ref (y 25), .ref (y 26), .ref (y 30), .ref (y 31), .ref (y 32), .null, .null, .int 0, .int 0, .int 0])), (y 30, aT V 4 (va_up (va_up (va_up (va_up (fun _ => none) 0 (some (y 33))) 1 (some (y 35))) 2 (some (y 37))) 3 (some (y 39)))), (y 33, .inr (7, [.ref (y 34), .int (-1), .int 0])), (y 34, aJ V 40 (fun _ => 0)), (y 35, .inr (7, [.ref (y 36), .int (-1), .int 0])), (y 36, aJ V 40 (fun _ => 0)), (y 37, .inr (7, [.ref (y 38), .int (-1), .int 0])), (y 38, aJ V 40 (fun _ => 0)), (y 39, .inr (7, [.ref (y 40), .int (-1), .int 0])), (y 40, aJ V 40 (fun _ => 0))] 0 0 (QI V (fun (r : Int32) (w : va_W) => (p0 < 0 ∧ r = (-2) ∧ w = [(y 0, .inr (9, [.ref (y 1), .int 0, .ref (y 2), .ref (y 10), .ref (y 19), .ref (y 25), .ref (y 26), .ref (y 30), .ref (y 31), .ref (y 32), .null, .null, .int 0, .int 0, .int 0])), (y 30, aT V 4 (va_up (va_up (va_up (va_up (fun _ => none) 0 (some (y 33))) 1 (some (y 35))) 2 (some (y 37))) 3 (some (y 39)))), (y 33, .inr (7, [.ref (y 34), .int (-1), .int 0])), (y 34, aJ V 40 (fun _ => 0)), (y 35, .inr (7, [.ref (y 36), .int (-1), .int 0])), (y 36, aJ V 40 (fun _ => 0)), (y 37, .inr (7, [.ref (y 38), .int (-1), .int 0])), (y 38, aJ V 40 (fun _ => 0)), (y 39, .inr (7, [.ref (y 40), .int (-1), .int 0])), (y 40, aJ V 40 (fun _ => 0))]) ∨ ((¬ p0 < 0) ∧ 4 ≤ p0 ∧ r = (-2) ∧ w = [(y 0, .inr (9, [.ref (y 1), .int 0, .ref (y 2), .ref (y 10), .ref (y 19), .ref (y 25), .ref (y 26), .ref (y 30), .ref (y 31), .ref (y 32), .null, .null, .int 0, .int 0, .int 0])), (y 30, aT V 4 (va_up (va_up (va_up (va_up (fun _ => none) 0 (some (y 33))) 1 (some (y 35))) 2 (some (y 37))) 3 (some (y 39)))), (y 33, .inr (7, [.ref (y 34), .int (-1), .int 0])), (y 34, aJ V 40 (fun _ => 0)), (y 35, .inr (7, [.ref (y 36), .int (-1), .int 0])), (y 36, aJ V 40 (fun _ => 0)), (y 37, .inr (7, [.ref (y 38), .int (-1), .int 0])), (y 38, aJ V 40 (fun _ => 0)), (y 39, .inr (7, [.ref (y 40), .int (-1), .int 0])), (y 40, aJ V 40 (fun _ => 0))]) ∨ ((¬ p0 < 0) ∧ (¬ 4 ≤ p0) ∧ p1 < 0 ∧ r = (-2) ∧ w = [(y 0, .inr (9, [.ref (y 1), .int 0, .ref (y 2), .ref (y 10), .ref (y 19), .ref (y 25), .ref (y 26), .ref (y 30), .ref (y 31), .ref (y 32), .null, .null, .int 0, .int 0, .int 0])), (y 30, aT V 4 (va_up (va_up (va_up (va_up (fun _ => none) 0 (some (y 33))) 1 (some (y 35))) 2 (some (y 37))) 3 (some (y 39)))), (y 33, .inr (7, [.ref (y 34), .int (-1), .int 0])), (y 34, aJ V 40 (fun _ => 0)), (y 35, .inr (7, [.ref (y 36), .int (-1), .int 0])), (y 36, aJ V 40 (fun _ => 0)), (y 37, .inr (7, [.ref (y 38), .int (-1), .int 0])), (y 38, aJ V 40 (fun _ => 0)), (y 39, .inr (7, [.ref (y 40), .int (-1), .int 0])), (y 40, aJ V 40 (fun _ => 0))]) ∨ ((¬ p0 < 0) ∧ (¬ 4 ≤ p0) ∧ (¬ p1 < 0) ∧ (¬ p1 ≤ 3) ∧ r = (-2) ∧ w = [(y 0, .inr (9, [.ref (y 1), .int 0, .ref (y 2), .ref (y 10), .ref (y 19), .ref (y 25), .ref (y 26), .ref (y 30), .ref (y 31), .ref (y 32), .null, .null, .int 0, .int 0, .int 0])), (y 30, aT V 4 (va_up (va_up (va_up (va_up (fun _ => none) 0 (some (y 33))) 1 (some (y 35))) 2 (some (y 37))) 3 (some (y 39)))), (y 33, .inr (7, [.ref (y 34), .int (-1), .int 0])), (y 34, aJ V 40 (fun _ => 0)), (y 35, .inr (7, [.ref (y 36), .int (-1), .int 0])), (y 36, aJ V 40 (fun _ => 0)), (y 37, .inr (7, [.ref (y 38), .int (-1), .int 0])), (y 38, aJ V 40 (fun _ => 0)), (y 39, .inr (7, [.ref (y 40), .int (-1), .int 0])), (y 40, aJ V 40 (fun _ => 0))]) ∨ ((¬ p0 < 0) ∧ (¬ 4 ≤ p0) ∧ (¬ p1 < 0) ∧ p1 ≤ 3 ∧ p2 < 0 ∧ r = (-3) ∧ w = [(y 0, .inr (9, [.ref (y 1), .int 0, .ref (y 2), .ref (y 10), .ref (y 19), .ref (y 25), .ref (y 26), .ref (y 30), .ref (y 31), .ref (y 32), .null, .null, .int 0, .int 0, .int 0])), (y 30, aT V 4 (va_up (va_up (va_up (va_up (fun _ => none) 0 (some (y 33))) 1 (some (y 35))) 2 (some (y 37))) 3 (some (y 39)))), (y 33, .inr (7, [.ref (y 34), .int (-1), .int 0])), (y 34, aJ V 40 (fun _ => 0)), (y 35, .inr (7, [.ref (y 36), .int (-1), .int 0])), (y 36, aJ V 40 (fun _ => 0)), (y 37, .inr (7, [.ref (y 38), .int (-1), .int 0])), (y 38, aJ V 40 (fun _ => 0)), (y 39, .inr (7, [.ref (y 40), .int (-1), .int 0])), (y 40, aJ V 40 (fun _ => 0))]) ∨ ((¬ p0 < 0) ∧ (¬ 4 ≤ p0) ∧ (¬ p1 < 0) ∧ p1 ≤ 3 ∧ (¬ p2 < 0) ∧ (¬ p2 ≤ 40) ∧ r = (-3) ∧ w = [(y 0, .inr (9, [.ref (y 1), .int 0, .ref (y 2), .ref (y 10), .ref (y 19), .ref (y 25), .ref (y 26), .ref (y 30), .ref (y 31), .ref (y 32), .null, .null, .int 0, .int 0, .int 0])), (y 30, aT V 4 (va_up (va_up (va_up (va_up (fun _ => none) 0 (some (y 33))) 1 (some (y 35))) 2 (some (y 37))) 3 (some (y 39)))), (y 33, .inr (7, [.ref (y 34), .int (-1), .int 0])), (y 34, aJ V 40 (fun _ => 0)), (y 35, .inr (7, [.ref (y 36), .int (-1), .int 0])), (y 36, aJ V 40 (fun _ => 0)), (y 37, .inr (7, [.ref (y 38), .int (-1), .int 0])), (y 38, aJ V 40 (fun _ => 0)), (y 39, .inr (7, [.ref (y 40), .int (-1), .int 0])), (y 40, aJ V 40 (fun _ => 0))]) ∨ ((¬ p0 < 0) ∧ (¬ 4 ≤ p0) ∧ (¬ p1 < 0) ∧ p1 ≤ 3 ∧ (¬ p2 < 0) ∧ p2 ≤ 40 ∧ p0 = 0 ∧ r = 0 ∧ w = [(y 0, .inr (9, [.ref (y 1), .int 0, .ref (y 2), .ref (y 10), .ref (y 19), .ref (y 25), .ref (y 26), .ref (y 30), .ref (y 31), .ref (y 32), .null, .null, .int 0, .int 0, .int 0])), (y 30, aT V 4 (va_up (va_up (va_up (va_up (fun _ => none) 0 (some (y 33))) 1 (some (y 35))) 2 (some (y 37))) 3 (some (y 39)))), (y 33, .inr (7, [.ref (y 34), .int p2, .int p1])), (y 34, aJ V 40 (fun _ => 0)), (y 35, .inr (7, [.ref (y 36), .int (-1), .int 0])), (y 36, aJ V 40 (fun _ => 0)), (y 37, .inr (7, [.ref (y 38), .int (-1), .int 0])), (y 38, aJ V 40 (fun _ => 0)), (y 39, .inr (7, [.ref (y 40), .int (-1), .int 0])), (y 40, aJ V 40 (fun _ => 0))]) ∨ ((¬ p0 < 0) ∧ (¬ 4 ≤ p0) ∧ (¬ p1 < 0) ∧ p1 ≤ 3 ∧ (¬ p2 < 0) ∧ p2 ≤ 40 ∧ p0 = 1 ∧ r = 0 ∧ w = [(y 0, .inr (9, [.ref (y 1), .int 0, .ref (y 2), .ref (y 10), .ref (y 19), .ref (y 25), .ref (y 26), .ref (y 30), .ref (y 31), .ref (y 32), .null, .null, .int 0, .int 0, .int 0])), (y 30, aT V 4 (va_up (va_up (va_up (va_up (fun _ => none) 0 (some (y 33))) 1 (some (y 35))) 2 (some (y 37))) 3 (some (y 39)))), (y 33, .inr (7, [.ref (y 34), .int (-1), .int 0])), (y 34, aJ V 40 (fun _ => 0)), (y 35, .inr (7, [.ref (y 36), .int p2, .int p1])), (y 36, aJ V 40 (fun _ => 0)), (y 37, .inr (7, [.ref (y 38), .int (-1), .int 0])), (y 38, aJ V 40 (fun _ => 0)), (y 39, .inr (7, [.ref (y 40), .int (-1), .int 0])), (y 40, aJ V 40 (fun _ => 0))]) ∨ ((¬ p0 < 0) ∧ (¬ 4 ≤ p0) ∧ (¬ p1 < 0) ∧ p1 ≤ 3 ∧ (¬ p2 < 0) ∧ p2 ≤ 40 ∧ p0 = 2 ∧ r = 0 ∧ w = [(y 0, .inr (9, [.ref (y 1), .int 0, .ref (y 2), .ref (y 10), .ref (y 19), .ref (y 25), .ref (y 26), .ref (y 30), .ref (y 31), .ref (y 32), .null, .null, .int 0, .int 0, .int 0])), (y 30, aT V 4 (va_up (va_up (va_up (va_up (fun _ => none) 0 (some (y 33))) 1 (some (y 35))) 2 (some (y 37))) 3 (some (y 39)))), (y 33, .inr (7, [.ref (y 34), .int (-1), .int 0])), (y 34, aJ V 40 (fun _ => 0)), (y 35, .inr (7, [.ref (y 36), .int (-1), .int 0])), (y 36, aJ V 40 (fun _ => 0)), (y 37, .inr (7, [.ref (y 38), .int p2, .int p1])), (y 38, aJ V 40 (fun _ => 0)), (y 39, .inr (7, [.ref (y 40), .int (-1), .int 0])), (y 40, aJ V 40 (fun _ => 0))]) ∨ ((¬ p0 < 0) ∧ (¬ 4 ≤ p0) ∧ (¬ p1 < 0) ∧ p1 ≤ 3 ∧ (¬ p2 < 0) ∧ p2 ≤ 40 ∧ p0 = 3 ∧ r = 0 ∧ w = [(y 0, .inr (9, [.ref (y 1), .int 0, .ref (y 2), .ref (y 10), .ref (y 19), .ref (y 25), .ref (y 26), .ref (y 30), .ref (y 31), .ref (y 32), .null, .null, .int 0, .int 0, .int 0])), (y 30, aT V 4 (va_up (va_up (va_up (va_up (fun _ => none) 0 (some (y 33))) 1 (some (y 35))) 2 (some (y 37))) 3 (some (y 39)))), (y 33, .inr (7, [.ref (y 34), .int (-1), .int 0])), (y 34, aJ V 40 (fun _ => 0)), (y 35, .inr (7, [.ref (y 36), .int (-1), .int 0])), (y 36, aJ V 40 (fun _ => 0)), (y 37, .inr (7, [.ref (y 38), .int (-1), .int 0])), (y 38, aJ V 40 (fun _ => 0)), (y 39, .inr (7, [.ref (y 40), .int p2, .int p1])), (y 40, aJ V 40 (fun _ => 0))]))) := by
  refine Ct.of (by decide) (Nat.le_of_ble_eq_true rfl) (fun p e s m below meth c A ls hx hb hr hml hown hlk hnm hg hP hK hD hE hA hS hl => ?_)
  have hl : lv_has ls 4 [(0, .ref (y 0)), (1, .int p0), (2, .int p1), (3, .int p2)] := hl
  refine lv_iload_n hx hb dX9_numbers_0 rfl (lv_at hl 1 rfl) ?_
  refine jnI (wr := [(y 0, .inr (9, [.ref (y 1), .int 0, .ref (y 2), .ref (y 10), .ref (y 19), .ref (y 25), .ref (y 26), .ref (y 30), .ref (y 31), .ref (y 32), .null, .null, .int 0, .int 0, .int 0])), (y 30, aT V 4 (va_up (va_up (va_up (va_up (fun _ => none) 0 (some (y 33))) 1 (some (y 35))) 2 (some (y 37))) 3 (some (y 39)))), (y 33, .inr (7, [.ref (y 34), .int (-1), .int 0])), (y 34, aJ V 40 (fun _ => 0)), (y 35, .inr (7, [.ref (y 36), .int (-1), .int 0])), (y 36, aJ V 40 (fun _ => 0)), (y 37, .inr (7, [.ref (y 38), .int (-1), .int 0])), (y 38, aJ V 40 (fun _ => 0)), (y 39, .inr (7, [.ref (y 40), .int (-1), .int 0])), (y 40, aJ V 40 (fun _ => 0))]) (rnS (rest := []) ⟨hx, hb, hml, hown, hg⟩ (c_X9_isTray_0 l V p0) mt_X9_isTray q_3_228 ⟨Nat.le_of_ble_eq_true rfl, Nat.le_of_ble_eq_true rfl⟩ hK hP hD hS hA hE [] rfl rfl rfl hl.1 rfl (Nat.le_of_ble_eq_true rfl) dX9_numbers_1 ⟨Nat.le_of_ble_eq_true rfl, Nat.le_of_ble_eq_true rfl⟩) hP hD hS hA [] [0, 1, 2, 3, 4, 5, 6, 7, 8, 9] rfl rfl rfl (by decide) (fun r_1 w H locs hw hP hD hS => ?_)
  rcases hw with ⟨c_2, rfl, rfl⟩ | ⟨c_3, c_4, rfl, rfl⟩ | ⟨c_5, c_6, rfl, rfl⟩
  · have hP : va_P V.1 vwCl [(y 0, .inr (9, [.ref (y 1), .int 0, .ref (y 2), .ref (y 10), .ref (y 19), .ref (y 25), .ref (y 26), .ref (y 30), .ref (y 31), .ref (y 32), .null, .null, .int 0, .int 0, .int 0])), (y 30, aT V 4 (va_up (va_up (va_up (va_up (fun _ => none) 0 (some (y 33))) 1 (some (y 35))) 2 (some (y 37))) 3 (some (y 39)))), (y 33, .inr (7, [.ref (y 34), .int (-1), .int 0])), (y 34, aJ V 40 (fun _ => 0)), (y 35, .inr (7, [.ref (y 36), .int (-1), .int 0])), (y 36, aJ V 40 (fun _ => 0)), (y 37, .inr (7, [.ref (y 38), .int (-1), .int 0])), (y 38, aJ V 40 (fun _ => 0)), (y 39, .inr (7, [.ref (y 40), .int (-1), .int 0])), (y 40, aJ V 40 (fun _ => 0))] H := hP
    have hD : va_D A [(y 0, .inr (9, [.ref (y 1), .int 0, .ref (y 2), .ref (y 10), .ref (y 19), .ref (y 25), .ref (y 26), .ref (y 30), .ref (y 31), .ref (y 32), .null, .null, .int 0, .int 0, .int 0])), (y 30, aT V 4 (va_up (va_up (va_up (va_up (fun _ => none) 0 (some (y 33))) 1 (some (y 35))) 2 (some (y 37))) 3 (some (y 39)))), (y 33, .inr (7, [.ref (y 34), .int (-1), .int 0])), (y 34, aJ V 40 (fun _ => 0)), (y 35, .inr (7, [.ref (y 36), .int (-1), .int 0])), (y 36, aJ V 40 (fun _ => 0)), (y 37, .inr (7, [.ref (y 38), .int (-1), .int 0])), (y 38, aJ V 40 (fun _ => 0)), (y 39, .inr (7, [.ref (y 40), .int (-1), .int 0])), (y 40, aJ V 40 (fun _ => 0))] := hD
    refine lv_if_eq (tgt := 16) hx hb dX9_numbers_4 (by decide) (fun _ => ?_) (fun c_7 => absurd c_7 (by decide))
    refine lv_bipush (v := (-2)) hx hb dX9_numbers_16 (by decide) ?_
    exact fiI hx hb hr hlk hK hP hD hS dX9_numbers_18 (Nat.le_of_ble_eq_true rfl) (Nat.le_of_ble_eq_true rfl) (Or.inl ⟨c_2, rfl, rfl⟩)
  · have hP : va_P V.1 vwCl [(y 0, .inr (9, [.ref (y 1), .int 0, .ref (y 2), .ref (y 10), .ref (y 19), .ref (y 25), .ref (y 26), .ref (y 30), .ref (y 31), .ref (y 32), .null, .null, .int 0, .int 0, .int 0])), (y 30, aT V 4 (va_up (va_up (va_up (va_up (fun _ => none) 0 (some (y 33))) 1 (some (y 35))) 2 (some (y 37))) 3 (some (y 39)))), (y 33, .inr (7, [.ref (y 34), .int (-1), .int 0])), (y 34, aJ V 40 (fun _ => 0)), (y 35, .inr (7, [.ref (y 36), .int (-1), .int 0])), (y 36, aJ V 40 (fun _ => 0)), (y 37, .inr (7, [.ref (y 38), .int (-1), .int 0])), (y 38, aJ V 40 (fun _ => 0)), (y 39, .inr (7, [.ref (y 40), .int (-1), .int 0])), (y 40, aJ V 40 (fun _ => 0))] H := hP
    have hD : va_D A [(y 0, .inr (9, [.ref (y 1), .int 0, .ref (y 2), .ref (y 10), .ref (y 19), .ref (y 25), .ref (y 26), .ref (y 30), .ref (y 31), .ref (y 32), .null, .null, .int 0, .int 0, .int 0])), (y 30, aT V 4 (va_up (va_up (va_up (va_up (fun _ => none) 0 (some (y 33))) 1 (some (y 35))) 2 (some (y 37))) 3 (some (y 39)))), (y 33, .inr (7, [.ref (y 34), .int (-1), .int 0])), (y 34, aJ V 40 (fun _ => 0)), (y 35, .inr (7, [.ref (y 36), .int (-1), .int 0])), (y 36, aJ V 40 (fun _ => 0)), (y 37, .inr (7, [.ref (y 38), .int (-1), .int 0])), (y 38, aJ V 40 (fun _ => 0)), (y 39, .inr (7, [.ref (y 40), .int (-1), .int 0])), (y 40, aJ V 40 (fun _ => 0))] := hD
    refine lv_if_eq (tgt := 16) hx hb dX9_numbers_4 (by decide) (fun _ => ?_) (fun c_8 => absurd c_8 (by decide))
    refine lv_bipush (v := (-2)) hx hb dX9_numbers_16 (by decide) ?_
    exact fiI hx hb hr hlk hK hP hD hS dX9_numbers_18 (Nat.le_of_ble_eq_true rfl) (Nat.le_of_ble_eq_true rfl) (Or.inr (Or.inl ⟨c_3, c_4, rfl, rfl⟩))
  · have hP : va_P V.1 vwCl [(y 0, .inr (9, [.ref (y 1), .int 0, .ref (y 2), .ref (y 10), .ref (y 19), .ref (y 25), .ref (y 26), .ref (y 30), .ref (y 31), .ref (y 32), .null, .null, .int 0, .int 0, .int 0])), (y 30, aT V 4 (va_up (va_up (va_up (va_up (fun _ => none) 0 (some (y 33))) 1 (some (y 35))) 2 (some (y 37))) 3 (some (y 39)))), (y 33, .inr (7, [.ref (y 34), .int (-1), .int 0])), (y 34, aJ V 40 (fun _ => 0)), (y 35, .inr (7, [.ref (y 36), .int (-1), .int 0])), (y 36, aJ V 40 (fun _ => 0)), (y 37, .inr (7, [.ref (y 38), .int (-1), .int 0])), (y 38, aJ V 40 (fun _ => 0)), (y 39, .inr (7, [.ref (y 40), .int (-1), .int 0])), (y 40, aJ V 40 (fun _ => 0))] H := hP
    have hD : va_D A [(y 0, .inr (9, [.ref (y 1), .int 0, .ref (y 2), .ref (y 10), .ref (y 19), .ref (y 25), .ref (y 26), .ref (y 30), .ref (y 31), .ref (y 32), .null, .null, .int 0, .int 0, .int 0])), (y 30, aT V 4 (va_up (va_up (va_up (va_up (fun _ => none) 0 (some (y 33))) 1 (some (y 35))) 2 (some (y 37))) 3 (some (y 39)))), (y 33, .inr (7, [.ref (y 34), .int (-1), .int 0])), (y 34, aJ V 40 (fun _ => 0)), (y 35, .inr (7, [.ref (y 36), .int (-1), .int 0])), (y 36, aJ V 40 (fun _ => 0)), (y 37, .inr (7, [.ref (y 38), .int (-1), .int 0])), (y 38, aJ V 40 (fun _ => 0)), (y 39, .inr (7, [.ref (y 40), .int (-1), .int 0])), (y 40, aJ V 40 (fun _ => 0))] := hD
    refine lv_if_eq (tgt := 16) hx hb dX9_numbers_4 (by decide) (fun c_9 => absurd c_9 (by decide)) (fun _ => ?_)
    refine lv_iload_n hx hb dX9_numbers_7 rfl (lv_at hl 2 rfl) ?_
    refine lv_if_lt (tgt := 16) hx hb dX9_numbers_8 (by decide) (fun c_10 => ?_) (fun c_10 => ?_)
    · refine lv_bipush (v := (-2)) hx hb dX9_numbers_16 (by decide) ?_
      exact fiI hx hb hr hlk hK hP hD hS dX9_numbers_18 (Nat.le_of_ble_eq_true rfl) (Nat.le_of_ble_eq_true rfl) (Or.inr (Or.inr (Or.inl ⟨c_5, c_6, c_10, rfl, rfl⟩)))
    · refine lv_iload_n hx hb dX9_numbers_11 rfl (lv_at hl 2 rfl) ?_
      refine lv_iconst (v := 3) hx hb dX9_numbers_12 (by decide) ?_
      refine lv_icmp_le (tgt := 19) hx hb dX9_numbers_13 (by decide) (fun c_11 => ?_) (fun c_11 => ?_)
      · refine lv_iload_n hx hb dX9_numbers_19 rfl (lv_at hl 3 rfl) ?_
        refine lv_if_lt (tgt := 29) hx hb dX9_numbers_20 (by decide) (fun c_12 => ?_) (fun c_12 => ?_)
        · refine lv_bipush (v := (-3)) hx hb dX9_numbers_29 (by decide) ?_
          exact fiI hx hb hr hlk hK hP hD hS dX9_numbers_31 (Nat.le_of_ble_eq_true rfl) (Nat.le_of_ble_eq_true rfl) (Or.inr (Or.inr (Or.inr (Or.inr (Or.inl ⟨c_5, c_6, c_10, c_11, c_12, rfl, rfl⟩)))))
        · refine lv_iload_n hx hb dX9_numbers_23 rfl (lv_at hl 3 rfl) ?_
          refine lv_bipush (v := 40) hx hb dX9_numbers_24 (by decide) ?_
          refine lv_icmp_le (tgt := 32) hx hb dX9_numbers_26 (by decide) (fun c_13 => ?_) (fun c_13 => ?_)
          · refine lv_aload_n hx hb dX9_numbers_32 rfl (lv_at hl 0 rfl) ?_
            refine va_get (ci := 9) (v := .ref (y 30)) (C := RX9) (T := TX9) (N := 15) hx hb hg inX9 hown hK hP 0 rfl rfl 7 (by decide) (hg _ q_2_43) (fun _ h9 => h9) rfl dX9_numbers_33 ?_
            refine lv_iload_n hx hb dX9_numbers_36 rfl (lv_at hl 1 rfl) ?_
            have c_14 : p0 = 0 ∨ p0 = 1 ∨ p0 = 2 ∨ p0 = 3 := by simp only [tI_lt, tI_le, tI_eq, tL_lt, tL_le, tL_eq, tWx, (by decide : (0 : Int32).toInt = 0), (by decide : (1 : Int32).toInt = 1), (by decide : (2 : Int32).toInt = 2), (by decide : (3 : Int32).toInt = 3), (by decide : (4 : Int32).toInt = 4)] at c_5 c_6 ⊢; omega
            rcases c_14 with rfl | rfl | rfl | rfl
            · refine va_aldq hx hb hK hP 1 4 rfl rfl (vin (by decide +kernel)) dX9_numbers_37 ?_
              refine W.eq (g2 := F0 m 38 ls (.ref (y 33) :: [])) rfl ?_
              refine lv_iload_n hx hb dX9_numbers_38 rfl (lv_at hl 2 rfl) ?_
              refine lv_iload_n hx hb dX9_numbers_39 rfl (lv_at hl 3 rfl) ?_
              refine jnV (wr := [(y 0, .inr (9, [.ref (y 1), .int 0, .ref (y 2), .ref (y 10), .ref (y 19), .ref (y 25), .ref (y 26), .ref (y 30), .ref (y 31), .ref (y 32), .null, .null, .int 0, .int 0, .int 0])), (y 30, aT V 4 (va_up (va_up (va_up (va_up (fun _ => none) 0 (some (y 33))) 1 (some (y 35))) 2 (some (y 37))) 3 (some (y 39)))), (y 35, .inr (7, [.ref (y 36), .int (-1), .int 0])), (y 36, aJ V 40 (fun _ => 0)), (y 37, .inr (7, [.ref (y 38), .int (-1), .int 0])), (y 38, aJ V 40 (fun _ => 0)), (y 39, .inr (7, [.ref (y 40), .int (-1), .int 0])), (y 40, aJ V 40 (fun _ => 0))]) (rnV (rest := []) ⟨hx, hb, hml, hown, hg⟩ (c_X7_begin_0 l V y p1 p2) mt_X7_begin q_5_177 ⟨Nat.le_of_ble_eq_true rfl, Nat.le_of_ble_eq_true rfl⟩ hK hP hD hS hA hE [2, 3] rfl rfl 2 rfl rfl rfl rfl hl.1 rfl (Nat.le_of_ble_eq_true rfl) dX9_numbers_40 ⟨Nat.le_of_ble_eq_true rfl, Nat.le_of_ble_eq_true rfl⟩) hP hD hS hA [2, 3] [0, 1, 4, 5, 6, 7, 8, 9] rfl rfl rfl (by decide) (fun  w H locs hw hP hD hS => ?_)
              subst hw
              have hP : va_P V.1 vwCl [(y 0, .inr (9, [.ref (y 1), .int 0, .ref (y 2), .ref (y 10), .ref (y 19), .ref (y 25), .ref (y 26), .ref (y 30), .ref (y 31), .ref (y 32), .null, .null, .int 0, .int 0, .int 0])), (y 30, aT V 4 (va_up (va_up (va_up (va_up (fun _ => none) 0 (some (y 33))) 1 (some (y 35))) 2 (some (y 37))) 3 (some (y 39)))), (y 35, .inr (7, [.ref (y 36), .int (-1), .int 0])), (y 36, aJ V 40 (fun _ => 0)), (y 37, .inr (7, [.ref (y 38), .int (-1), .int 0])), (y 38, aJ V 40 (fun _ => 0)), (y 39, .inr (7, [.ref (y 40), .int (-1), .int 0])), (y 40, aJ V 40 (fun _ => 0)), (y 33, .inr (7, [.ref (y 34), .int p2, .int p1])), (y 34, aJ V 40 (fun _ => 0))] H := hP
              have hD : va_D A [(y 0, .inr (9, [.ref (y 1), .int 0, .ref (y 2), .ref (y 10), .ref (y 19), .ref (y 25), .ref (y 26), .ref (y 30), .ref (y 31), .ref (y 32), .null, .null, .int 0, .int 0, .int 0])), (y 30, aT V 4 (va_up (va_up (va_up (va_up (fun _ => none) 0 (some (y 33))) 1 (some (y 35))) 2 (some (y 37))) 3 (some (y 39)))), (y 35, .inr (7, [.ref (y 36), .int (-1), .int 0])), (y 36, aJ V 40 (fun _ => 0)), (y 37, .inr (7, [.ref (y 38), .int (-1), .int 0])), (y 38, aJ V 40 (fun _ => 0)), (y 39, .inr (7, [.ref (y 40), .int (-1), .int 0])), (y 40, aJ V 40 (fun _ => 0)), (y 33, .inr (7, [.ref (y 34), .int p2, .int p1])), (y 34, aJ V 40 (fun _ => 0))] := hD
              refine lv_iconst (v := 0) hx hb dX9_numbers_43 (by decide) ?_
              have hP := subP (ws' := [(y 0, .inr (9, [.ref (y 1), .int 0, .ref (y 2), .ref (y 10), .ref (y 19), .ref (y 25), .ref (y 26), .ref (y 30), .ref (y 31), .ref (y 32), .null, .null, .int 0, .int 0, .int 0])), (y 30, aT V 4 (va_up (va_up (va_up (va_up (fun _ => none) 0 (some (y 33))) 1 (some (y 35))) 2 (some (y 37))) 3 (some (y 39)))), (y 33, .inr (7, [.ref (y 34), .int p2, .int p1])), (y 34, aJ V 40 (fun _ => 0)), (y 35, .inr (7, [.ref (y 36), .int (-1), .int 0])), (y 36, aJ V 40 (fun _ => 0)), (y 37, .inr (7, [.ref (y 38), .int (-1), .int 0])), (y 38, aJ V 40 (fun _ => 0)), (y 39, .inr (7, [.ref (y 40), .int (-1), .int 0])), (y 40, aJ V 40 (fun _ => 0))]) hP [0, 1, 8, 9, 2, 3, 4, 5, 6, 7] rfl
              have hD := hD.sub (ws' := [(y 0, .inr (9, [.ref (y 1), .int 0, .ref (y 2), .ref (y 10), .ref (y 19), .ref (y 25), .ref (y 26), .ref (y 30), .ref (y 31), .ref (y 32), .null, .null, .int 0, .int 0, .int 0])), (y 30, aT V 4 (va_up (va_up (va_up (va_up (fun _ => none) 0 (some (y 33))) 1 (some (y 35))) 2 (some (y 37))) 3 (some (y 39)))), (y 33, .inr (7, [.ref (y 34), .int p2, .int p1])), (y 34, aJ V 40 (fun _ => 0)), (y 35, .inr (7, [.ref (y 36), .int (-1), .int 0])), (y 36, aJ V 40 (fun _ => 0)), (y 37, .inr (7, [.ref (y 38), .int (-1), .int 0])), (y 38, aJ V 40 (fun _ => 0)), (y 39, .inr (7, [.ref (y 40), .int (-1), .int 0])), (y 40, aJ V 40 (fun _ => 0))]) [0, 1, 8, 9, 2, 3, 4, 5, 6, 7] rfl rfl
              exact fiI hx hb hr hlk hK hP hD hS dX9_numbers_44 (Nat.le_of_ble_eq_true rfl) (Nat.le_of_ble_eq_true rfl) (Or.inr (Or.inr (Or.inr (Or.inr (Or.inr (Or.inr (Or.inl ⟨c_5, c_6, c_10, c_11, c_12, c_13, rfl, rfl, rfl⟩)))))))
            · refine va_aldq hx hb hK hP 1 4 rfl rfl (vin (by decide +kernel)) dX9_numbers_37 ?_
              refine W.eq (g2 := F0 m 38 ls (.ref (y 35) :: [])) rfl ?_
              refine lv_iload_n hx hb dX9_numbers_38 rfl (lv_at hl 2 rfl) ?_
              refine lv_iload_n hx hb dX9_numbers_39 rfl (lv_at hl 3 rfl) ?_
              refine jnV (wr := [(y 0, .inr (9, [.ref (y 1), .int 0, .ref (y 2), .ref (y 10), .ref (y 19), .ref (y 25), .ref (y 26), .ref (y 30), .ref (y 31), .ref (y 32), .null, .null, .int 0, .int 0, .int 0])), (y 30, aT V 4 (va_up (va_up (va_up (va_up (fun _ => none) 0 (some (y 33))) 1 (some (y 35))) 2 (some (y 37))) 3 (some (y 39)))), (y 33, .inr (7, [.ref (y 34), .int (-1), .int 0])), (y 34, aJ V 40 (fun _ => 0)), (y 37, .inr (7, [.ref (y 38), .int (-1), .int 0])), (y 38, aJ V 40 (fun _ => 0)), (y 39, .inr (7, [.ref (y 40), .int (-1), .int 0])), (y 40, aJ V 40 (fun _ => 0))]) (rnV (rest := []) ⟨hx, hb, hml, hown, hg⟩ (c_X7_begin_1 l V y p1 p2) mt_X7_begin q_5_177 ⟨Nat.le_of_ble_eq_true rfl, Nat.le_of_ble_eq_true rfl⟩ hK hP hD hS hA hE [4, 5] rfl rfl 4 rfl rfl rfl rfl hl.1 rfl (Nat.le_of_ble_eq_true rfl) dX9_numbers_40 ⟨Nat.le_of_ble_eq_true rfl, Nat.le_of_ble_eq_true rfl⟩) hP hD hS hA [4, 5] [0, 1, 2, 3, 6, 7, 8, 9] rfl rfl rfl (by decide) (fun  w H locs hw hP hD hS => ?_)
              subst hw
              have hP : va_P V.1 vwCl [(y 0, .inr (9, [.ref (y 1), .int 0, .ref (y 2), .ref (y 10), .ref (y 19), .ref (y 25), .ref (y 26), .ref (y 30), .ref (y 31), .ref (y 32), .null, .null, .int 0, .int 0, .int 0])), (y 30, aT V 4 (va_up (va_up (va_up (va_up (fun _ => none) 0 (some (y 33))) 1 (some (y 35))) 2 (some (y 37))) 3 (some (y 39)))), (y 33, .inr (7, [.ref (y 34), .int (-1), .int 0])), (y 34, aJ V 40 (fun _ => 0)), (y 37, .inr (7, [.ref (y 38), .int (-1), .int 0])), (y 38, aJ V 40 (fun _ => 0)), (y 39, .inr (7, [.ref (y 40), .int (-1), .int 0])), (y 40, aJ V 40 (fun _ => 0)), (y 35, .inr (7, [.ref (y 36), .int p2, .int p1])), (y 36, aJ V 40 (fun _ => 0))] H := hP
              have hD : va_D A [(y 0, .inr (9, [.ref (y 1), .int 0, .ref (y 2), .ref (y 10), .ref (y 19), .ref (y 25), .ref (y 26), .ref (y 30), .ref (y 31), .ref (y 32), .null, .null, .int 0, .int 0, .int 0])), (y 30, aT V 4 (va_up (va_up (va_up (va_up (fun _ => none) 0 (some (y 33))) 1 (some (y 35))) 2 (some (y 37))) 3 (some (y 39)))), (y 33, .inr (7, [.ref (y 34), .int (-1), .int 0])), (y 34, aJ V 40 (fun _ => 0)), (y 37, .inr (7, [.ref (y 38), .int (-1), .int 0])), (y 38, aJ V 40 (fun _ => 0)), (y 39, .inr (7, [.ref (y 40), .int (-1), .int 0])), (y 40, aJ V 40 (fun _ => 0)), (y 35, .inr (7, [.ref (y 36), .int p2, .int p1])), (y 36, aJ V 40 (fun _ => 0))] := hD
              refine lv_iconst (v := 0) hx hb dX9_numbers_43 (by decide) ?_
              have hP := subP (ws' := [(y 0, .inr (9, [.ref (y 1), .int 0, .ref (y 2), .ref (y 10), .ref (y 19), .ref (y 25), .ref (y 26), .ref (y 30), .ref (y 31), .ref (y 32), .null, .null, .int 0, .int 0, .int 0])), (y 30, aT V 4 (va_up (va_up (va_up (va_up (fun _ => none) 0 (some (y 33))) 1 (some (y 35))) 2 (some (y 37))) 3 (some (y 39)))), (y 33, .inr (7, [.ref (y 34), .int (-1), .int 0])), (y 34, aJ V 40 (fun _ => 0)), (y 35, .inr (7, [.ref (y 36), .int p2, .int p1])), (y 36, aJ V 40 (fun _ => 0)), (y 37, .inr (7, [.ref (y 38), .int (-1), .int 0])), (y 38, aJ V 40 (fun _ => 0)), (y 39, .inr (7, [.ref (y 40), .int (-1), .int 0])), (y 40, aJ V 40 (fun _ => 0))]) hP [0, 1, 2, 3, 8, 9, 4, 5, 6, 7] rfl
              have hD := hD.sub (ws' := [(y 0, .inr (9, [.ref (y 1), .int 0, .ref (y 2), .ref (y 10), .ref (y 19), .ref (y 25), .ref (y 26), .ref (y 30), .ref (y 31), .ref (y 32), .null, .null, .int 0, .int 0, .int 0])), (y 30, aT V 4 (va_up (va_up (va_up (va_up (fun _ => none) 0 (some (y 33))) 1 (some (y 35))) 2 (some (y 37))) 3 (some (y 39)))), (y 33, .inr (7, [.ref (y 34), .int (-1), .int 0])), (y 34, aJ V 40 (fun _ => 0)), (y 35, .inr (7, [.ref (y 36), .int p2, .int p1])), (y 36, aJ V 40 (fun _ => 0)), (y 37, .inr (7, [.ref (y 38), .int (-1), .int 0])), (y 38, aJ V 40 (fun _ => 0)), (y 39, .inr (7, [.ref (y 40), .int (-1), .int 0])), (y 40, aJ V 40 (fun _ => 0))]) [0, 1, 2, 3, 8, 9, 4, 5, 6, 7] rfl rfl
              exact fiI hx hb hr hlk hK hP hD hS dX9_numbers_44 (Nat.le_of_ble_eq_true rfl) (Nat.le_of_ble_eq_true rfl) (Or.inr (Or.inr (Or.inr (Or.inr (Or.inr (Or.inr (Or.inr (Or.inl ⟨c_5, c_6, c_10, c_11, c_12, c_13, rfl, rfl, rfl⟩))))))))
            · refine va_aldq hx hb hK hP 1 4 rfl rfl (vin (by decide +kernel)) dX9_numbers_37 ?_
              refine W.eq (g2 := F0 m 38 ls (.ref (y 37) :: [])) rfl ?_
              refine lv_iload_n hx hb dX9_numbers_38 rfl (lv_at hl 2 rfl) ?_
              refine lv_iload_n hx hb dX9_numbers_39 rfl (lv_at hl 3 rfl) ?_
              refine jnV (wr := [(y 0, .inr (9, [.ref (y 1), .int 0, .ref (y 2), .ref (y 10), .ref (y 19), .ref (y 25), .ref (y 26), .ref (y 30), .ref (y 31), .ref (y 32), .null, .null, .int 0, .int 0, .int 0])), (y 30, aT V 4 (va_up (va_up (va_up (va_up (fun _ => none) 0 (some (y 33))) 1 (some (y 35))) 2 (some (y 37))) 3 (some (y 39)))), (y 33, .inr (7, [.ref (y 34), .int (-1), .int 0])), (y 34, aJ V 40 (fun _ => 0)), (y 35, .inr (7, [.ref (y 36), .int (-1), .int 0])), (y 36, aJ V 40 (fun _ => 0)), (y 39, .inr (7, [.ref (y 40), .int (-1), .int 0])), (y 40, aJ V 40 (fun _ => 0))]) (rnV (rest := []) ⟨hx, hb, hml, hown, hg⟩ (c_X7_begin_2 l V y p1 p2) mt_X7_begin q_5_177 ⟨Nat.le_of_ble_eq_true rfl, Nat.le_of_ble_eq_true rfl⟩ hK hP hD hS hA hE [6, 7] rfl rfl 6 rfl rfl rfl rfl hl.1 rfl (Nat.le_of_ble_eq_true rfl) dX9_numbers_40 ⟨Nat.le_of_ble_eq_true rfl, Nat.le_of_ble_eq_true rfl⟩) hP hD hS hA [6, 7] [0, 1, 2, 3, 4, 5, 8, 9] rfl rfl rfl (by decide) (fun  w H locs hw hP hD hS => ?_)
              subst hw
              have hP : va_P V.1 vwCl [(y 0, .inr (9, [.ref (y 1), .int 0, .ref (y 2), .ref (y 10), .ref (y 19), .ref (y 25), .ref (y 26), .ref (y 30), .ref (y 31), .ref (y 32), .null, .null, .int 0, .int 0, .int 0])), (y 30, aT V 4 (va_up (va_up (va_up (va_up (fun _ => none) 0 (some (y 33))) 1 (some (y 35))) 2 (some (y 37))) 3 (some (y 39)))), (y 33, .inr (7, [.ref (y 34), .int (-1), .int 0])), (y 34, aJ V 40 (fun _ => 0)), (y 35, .inr (7, [.ref (y 36), .int (-1), .int 0])), (y 36, aJ V 40 (fun _ => 0)), (y 39, .inr (7, [.ref (y 40), .int (-1), .int 0])), (y 40, aJ V 40 (fun _ => 0)), (y 37, .inr (7, [.ref (y 38), .int p2, .int p1])), (y 38, aJ V 40 (fun _ => 0))] H := hP
              have hD : va_D A [(y 0, .inr (9, [.ref (y 1), .int 0, .ref (y 2), .ref (y 10), .ref (y 19), .ref (y 25), .ref (y 26), .ref (y 30), .ref (y 31), .ref (y 32), .null, .null, .int 0, .int 0, .int 0])), (y 30, aT V 4 (va_up (va_up (va_up (va_up (fun _ => none) 0 (some (y 33))) 1 (some (y 35))) 2 (some (y 37))) 3 (some (y 39)))), (y 33, .inr (7, [.ref (y 34), .int (-1), .int 0])), (y 34, aJ V 40 (fun _ => 0)), (y 35, .inr (7, [.ref (y 36), .int (-1), .int 0])), (y 36, aJ V 40 (fun _ => 0)), (y 39, .inr (7, [.ref (y 40), .int (-1), .int 0])), (y 40, aJ V 40 (fun _ => 0)), (y 37, .inr (7, [.ref (y 38), .int p2, .int p1])), (y 38, aJ V 40 (fun _ => 0))] := hD
              refine lv_iconst (v := 0) hx hb dX9_numbers_43 (by decide) ?_
              have hP := subP (ws' := [(y 0, .inr (9, [.ref (y 1), .int 0, .ref (y 2), .ref (y 10), .ref (y 19), .ref (y 25), .ref (y 26), .ref (y 30), .ref (y 31), .ref (y 32), .null, .null, .int 0, .int 0, .int 0])), (y 30, aT V 4 (va_up (va_up (va_up (va_up (fun _ => none) 0 (some (y 33))) 1 (some (y 35))) 2 (some (y 37))) 3 (some (y 39)))), (y 33, .inr (7, [.ref (y 34), .int (-1), .int 0])), (y 34, aJ V 40 (fun _ => 0)), (y 35, .inr (7, [.ref (y 36), .int (-1), .int 0])), (y 36, aJ V 40 (fun _ => 0)), (y 37, .inr (7, [.ref (y 38), .int p2, .int p1])), (y 38, aJ V 40 (fun _ => 0)), (y 39, .inr (7, [.ref (y 40), .int (-1), .int 0])), (y 40, aJ V 40 (fun _ => 0))]) hP [0, 1, 2, 3, 4, 5, 8, 9, 6, 7] rfl
              have hD := hD.sub (ws' := [(y 0, .inr (9, [.ref (y 1), .int 0, .ref (y 2), .ref (y 10), .ref (y 19), .ref (y 25), .ref (y 26), .ref (y 30), .ref (y 31), .ref (y 32), .null, .null, .int 0, .int 0, .int 0])), (y 30, aT V 4 (va_up (va_up (va_up (va_up (fun _ => none) 0 (some (y 33))) 1 (some (y 35))) 2 (some (y 37))) 3 (some (y 39)))), (y 33, .inr (7, [.ref (y 34), .int (-1), .int 0])), (y 34, aJ V 40 (fun _ => 0)), (y 35, .inr (7, [.ref (y 36), .int (-1), .int 0])), (y 36, aJ V 40 (fun _ => 0)), (y 37, .inr (7, [.ref (y 38), .int p2, .int p1])), (y 38, aJ V 40 (fun _ => 0)), (y 39, .inr (7, [.ref (y 40), .int (-1), .int 0])), (y 40, aJ V 40 (fun _ => 0))]) [0, 1, 2, 3, 4, 5, 8, 9, 6, 7] rfl rfl
              exact fiI hx hb hr hlk hK hP hD hS dX9_numbers_44 (Nat.le_of_ble_eq_true rfl) (Nat.le_of_ble_eq_true rfl) (Or.inr (Or.inr (Or.inr (Or.inr (Or.inr (Or.inr (Or.inr (Or.inr (Or.inl ⟨c_5, c_6, c_10, c_11, c_12, c_13, rfl, rfl, rfl⟩)))))))))
            · refine va_aldq hx hb hK hP 1 4 rfl rfl (vin (by decide +kernel)) dX9_numbers_37 ?_
              refine W.eq (g2 := F0 m 38 ls (.ref (y 39) :: [])) rfl ?_
              refine lv_iload_n hx hb dX9_numbers_38 rfl (lv_at hl 2 rfl) ?_
              refine lv_iload_n hx hb dX9_numbers_39 rfl (lv_at hl 3 rfl) ?_
              refine jnV (wr := [(y 0, .inr (9, [.ref (y 1), .int 0, .ref (y 2), .ref (y 10), .ref (y 19), .ref (y 25), .ref (y 26), .ref (y 30), .ref (y 31), .ref (y 32), .null, .null, .int 0, .int 0, .int 0])), (y 30, aT V 4 (va_up (va_up (va_up (va_up (fun _ => none) 0 (some (y 33))) 1 (some (y 35))) 2 (some (y 37))) 3 (some (y 39)))), (y 33, .inr (7, [.ref (y 34), .int (-1), .int 0])), (y 34, aJ V 40 (fun _ => 0)), (y 35, .inr (7, [.ref (y 36), .int (-1), .int 0])), (y 36, aJ V 40 (fun _ => 0)), (y 37, .inr (7, [.ref (y 38), .int (-1), .int 0])), (y 38, aJ V 40 (fun _ => 0))]) (rnV (rest := []) ⟨hx, hb, hml, hown, hg⟩ (c_X7_begin_3 l V y p1 p2) mt_X7_begin q_5_177 ⟨Nat.le_of_ble_eq_true rfl, Nat.le_of_ble_eq_true rfl⟩ hK hP hD hS hA hE [8, 9] rfl rfl 8 rfl rfl rfl rfl hl.1 rfl (Nat.le_of_ble_eq_true rfl) dX9_numbers_40 ⟨Nat.le_of_ble_eq_true rfl, Nat.le_of_ble_eq_true rfl⟩) hP hD hS hA [8, 9] [0, 1, 2, 3, 4, 5, 6, 7] rfl rfl rfl (by decide) (fun  w H locs hw hP hD hS => ?_)
              subst hw
              have hP : va_P V.1 vwCl [(y 0, .inr (9, [.ref (y 1), .int 0, .ref (y 2), .ref (y 10), .ref (y 19), .ref (y 25), .ref (y 26), .ref (y 30), .ref (y 31), .ref (y 32), .null, .null, .int 0, .int 0, .int 0])), (y 30, aT V 4 (va_up (va_up (va_up (va_up (fun _ => none) 0 (some (y 33))) 1 (some (y 35))) 2 (some (y 37))) 3 (some (y 39)))), (y 33, .inr (7, [.ref (y 34), .int (-1), .int 0])), (y 34, aJ V 40 (fun _ => 0)), (y 35, .inr (7, [.ref (y 36), .int (-1), .int 0])), (y 36, aJ V 40 (fun _ => 0)), (y 37, .inr (7, [.ref (y 38), .int (-1), .int 0])), (y 38, aJ V 40 (fun _ => 0)), (y 39, .inr (7, [.ref (y 40), .int p2, .int p1])), (y 40, aJ V 40 (fun _ => 0))] H := hP
              have hD : va_D A [(y 0, .inr (9, [.ref (y 1), .int 0, .ref (y 2), .ref (y 10), .ref (y 19), .ref (y 25), .ref (y 26), .ref (y 30), .ref (y 31), .ref (y 32), .null, .null, .int 0, .int 0, .int 0])), (y 30, aT V 4 (va_up (va_up (va_up (va_up (fun _ => none) 0 (some (y 33))) 1 (some (y 35))) 2 (some (y 37))) 3 (some (y 39)))), (y 33, .inr (7, [.ref (y 34), .int (-1), .int 0])), (y 34, aJ V 40 (fun _ => 0)), (y 35, .inr (7, [.ref (y 36), .int (-1), .int 0])), (y 36, aJ V 40 (fun _ => 0)), (y 37, .inr (7, [.ref (y 38), .int (-1), .int 0])), (y 38, aJ V 40 (fun _ => 0)), (y 39, .inr (7, [.ref (y 40), .int p2, .int p1])), (y 40, aJ V 40 (fun _ => 0))] := hD
              refine lv_iconst (v := 0) hx hb dX9_numbers_43 (by decide) ?_
              exact fiI hx hb hr hlk hK hP hD hS dX9_numbers_44 (Nat.le_of_ble_eq_true rfl) (Nat.le_of_ble_eq_true rfl) (Or.inr (Or.inr (Or.inr (Or.inr (Or.inr (Or.inr (Or.inr (Or.inr (Or.inr (⟨c_5, c_6, c_10, c_11, c_12, c_13, rfl, rfl, rfl⟩))))))))))
          · refine lv_bipush (v := (-3)) hx hb dX9_numbers_29 (by decide) ?_
            exact fiI hx hb hr hlk hK hP hD hS dX9_numbers_31 (Nat.le_of_ble_eq_true rfl) (Nat.le_of_ble_eq_true rfl) (Or.inr (Or.inr (Or.inr (Or.inr (Or.inr (Or.inl ⟨c_5, c_6, c_10, c_11, c_12, c_13, rfl, rfl⟩))))))
      · refine lv_bipush (v := (-2)) hx hb dX9_numbers_16 (by decide) ?_
        exact fiI hx hb hr hlk hK hP hD hS dX9_numbers_18 (Nat.le_of_ble_eq_true rfl) (Nat.le_of_ble_eq_true rfl) (Or.inr (Or.inr (Or.inr (Or.inl ⟨c_5, c_6, c_10, c_11, rfl, rfl⟩))))
theorem dX10_write_0 : decode cX10_write 0 = .ok (.aload_n 0, 1) := by decide +kernel
theorem dX10_write_1 : decode cX10_write 1 = .ok (.iconst 0, 1) := by decide +kernel
theorem dX10_write_2 : decode cX10_write 2 = .ok (.putfield 1, 3) := by decide +kernel
theorem dX10_write_5 : decode cX10_write 5 = .ok (.aload_n 0, 1) := by decide +kernel
theorem dX10_write_6 : decode cX10_write 6 = .ok (.iload_n 1, 1) := by decide +kernel
theorem dX10_write_7 : decode cX10_write 7 = .ok (.invokevirtual 317, 3) := by decide +kernel
theorem dX10_write_10 : decode cX10_write 10 = .ok (.istore 5, 2) := by decide +kernel
theorem dX10_write_12 : decode cX10_write 12 = .ok (.iload 5, 2) := by decide +kernel
theorem dX10_write_14 : decode cX10_write 14 = .ok (.ifCond .eq 7, 3) := by decide +kernel
theorem dX10_write_17 : decode cX10_write 17 = .ok (.iload 5, 2) := by decide +kernel
theorem dX10_write_19 : decode cX10_write 19 = .ok (.i2l, 1) := by decide +kernel
theorem dX10_write_20 : decode cX10_write 20 = .ok (.lreturn, 1) := by decide +kernel
set_option maxHeartbeats 4000000 in
set_option maxRecDepth 100000 in
theorem c_X10_write_0 (l : Launch) (V : GV) (z : Nat → Nat) (p0 : Int32) (p1 : Int32) (j2 : Int64) : Ct l V yX10_write (.code yX10_write cX10_write 6 (some .long)) 3 [.ref (z 0), .int p0, .int p1, .long j2] [(z 0, .inr (10, mo z 0 0 0 0 0 0 0 0 0 0 (-1) 0 0 0 0 0)), (z 37, aI V 4 (upd (upd (upd (upd (fun _ => 0) 0 (-1)) 1 (-1)) 2 (-1)) 3 (-1)))] 0 0 (QL V (fun (r : Int64) (w : va_W) => (p0.toInt64 < 0 ∧ r = (-2) ∧ w = [(z 0, .inr (10, mo z 0 0 0 0 0 0 0 0 0 0 (-1) 0 0 0 0 0)), (z 37, aI V 4 (upd (upd (upd (upd (fun _ => 0) 0 (-1)) 1 (-1)) 2 (-1)) 3 (-1)))]) ∨ ((¬ p0.toInt64 < 0) ∧ 3 < p0.toInt64 ∧ r = (-2) ∧ w = [(z 0, .inr (10, mo z 0 0 0 0 0 0 0 0 0 0 (-1) 0 0 0 0 0)), (z 37, aI V 4 (upd (upd (upd (upd (fun _ => 0) 0 (-1)) 1 (-1)) 2 (-1)) 3 (-1)))]) ∨ ((¬ p0.toInt64 < 0) ∧ (¬ 3 < p0.toInt64) ∧ p0 = 0 ∧ r = (-6) ∧ w = [(z 0, .inr (10, mo z 0 0 0 0 0 0 0 0 0 0 (-1) 0 0 0 0 0)), (z 37, aI V 4 (upd (upd (upd (upd (fun _ => 0) 0 (-1)) 1 (-1)) 2 (-1)) 3 (-1)))]) ∨ ((¬ p0.toInt64 < 0) ∧ (¬ 3 < p0.toInt64) ∧ p0 = 1 ∧ r = (-6) ∧ w = [(z 0, .inr (10, mo z 0 0 0 0 0 0 0 0 0 0 (-1) 0 0 0 0 0)), (z 37, aI V 4 (upd (upd (upd (upd (fun _ => 0) 0 (-1)) 1 (-1)) 2 (-1)) 3 (-1)))]) ∨ ((¬ p0.toInt64 < 0) ∧ (¬ 3 < p0.toInt64) ∧ p0 = 2 ∧ r = (-6) ∧ w = [(z 0, .inr (10, mo z 0 0 0 0 0 0 0 0 0 0 (-1) 0 0 0 0 0)), (z 37, aI V 4 (upd (upd (upd (upd (fun _ => 0) 0 (-1)) 1 (-1)) 2 (-1)) 3 (-1)))]) ∨ ((¬ p0.toInt64 < 0) ∧ (¬ 3 < p0.toInt64) ∧ p0 = 3 ∧ r = (-6) ∧ w = [(z 0, .inr (10, mo z 0 0 0 0 0 0 0 0 0 0 (-1) 0 0 0 0 0)), (z 37, aI V 4 (upd (upd (upd (upd (fun _ => 0) 0 (-1)) 1 (-1)) 2 (-1)) 3 (-1)))]))) := by
  refine Ct.of (by decide) (Nat.le_of_ble_eq_true rfl) (fun p e s m below meth c A ls hx hb hr hml hown hlk hnm hg hP hK hD hE hA hS hl => ?_)
  have hl : lv_has ls 6 [(0, .ref (z 0)), (1, .int p0), (2, .int p1), (3, .long j2)] := hl
  refine lv_aload_n hx hb dX10_write_0 rfl (lv_at hl 0 rfl) ?_
  refine lv_iconst (v := 0) hx hb dX10_write_1 (by decide) ?_
  refine va_put (ci := 10) (v := .int 0) (ty := .int) (C := RX10) (T := TX10) (N := 40) hx hb hg inX10 tyX10 tyX10_ok nmX10 hown hK hP hD hS 0 rfl rfl 0 (by decide) (hg _ q_5_224) (fun _ h9 => h9) rfl (by decide +kernel) rfl rfl (Nat.le_of_ble_eq_true rfl) dX10_write_2 (fun H locs hP hD hS => ?_)
  have hP : va_P V.1 vwCl [(z 0, .inr (10, mo z 0 0 0 0 0 0 0 0 0 0 (-1) 0 0 0 0 0)), (z 37, aI V 4 (upd (upd (upd (upd (fun _ => 0) 0 (-1)) 1 (-1)) 2 (-1)) 3 (-1)))] H := hP
  have hD : va_D A [(z 0, .inr (10, mo z 0 0 0 0 0 0 0 0 0 0 (-1) 0 0 0 0 0)), (z 37, aI V 4 (upd (upd (upd (upd (fun _ => 0) 0 (-1)) 1 (-1)) 2 (-1)) 3 (-1)))] := hD
  refine lv_aload_n hx hb dX10_write_5 rfl (lv_at hl 0 rfl) ?_
  refine lv_iload_n hx hb dX10_write_6 rfl (lv_at hl 1 rfl) ?_
  refine jnI (wr := []) (rnV (rest := []) ⟨hx, hb, hml, hown, hg⟩ (c_X10_noTray_0 l V z p0) mt_X10_noTray q_7_108 ⟨Nat.le_of_ble_eq_true rfl, Nat.le_of_ble_eq_true rfl⟩ hK hP hD hS hA hE [0, 1] rfl rfl 0 rfl rfl rfl rfl hl.1 rfl (Nat.le_of_ble_eq_true rfl) dX10_write_7 ⟨Nat.le_of_ble_eq_true rfl, Nat.le_of_ble_eq_true rfl⟩) hP hD hS hA [0, 1] [] rfl rfl rfl (by decide) (fun r_1 w H locs hw hP hD hS => ?_)
  rcases hw with ⟨c_2, rfl, rfl⟩ | ⟨c_3, c_4, rfl, rfl⟩ | ⟨c_5, c_6, c_7, rfl, rfl⟩ | ⟨c_8, c_9, c_10, rfl, rfl⟩ | ⟨c_11, c_12, c_13, rfl, rfl⟩ | ⟨c_14, c_15, c_16, rfl, rfl⟩
  · have hP : va_P V.1 vwCl [(z 0, .inr (10, mo z 0 0 0 0 0 0 0 0 0 0 (-1) 0 0 0 0 0)), (z 37, aI V 4 (upd (upd (upd (upd (fun _ => 0) 0 (-1)) 1 (-1)) 2 (-1)) 3 (-1)))] H := hP
    have hD : va_D A [(z 0, .inr (10, mo z 0 0 0 0 0 0 0 0 0 0 (-1) 0 0 0 0 0)), (z 37, aI V 4 (upd (upd (upd (upd (fun _ => 0) 0 (-1)) 1 (-1)) 2 (-1)) 3 (-1)))] := hD
    refine lv_istore (lv' := [(5, .int (-2)), (0, .ref (z 0)), (1, .int p0), (2, .int p1), (3, .long j2)]) hx hb dX10_write_10 hl (by decide) rfl (fun ls hl => ?_)
    refine lv_iload hx hb dX10_write_12 (lv_at hl 0 rfl) ?_
    refine lv_if_eq (tgt := 21) hx hb dX10_write_14 (by decide) (fun c_17 => absurd c_17 (by decide)) (fun _ => ?_)
    refine lv_iload hx hb dX10_write_17 (lv_at hl 0 rfl) ?_
    refine lv_i2l (v := (-2)) hx hb dX10_write_19 (by decide +kernel) ?_
    exact fiL hx hb hr hlk hK hP hD hS dX10_write_20 (Nat.le_of_ble_eq_true rfl) (Nat.le_of_ble_eq_true rfl) (Or.inl ⟨c_2, rfl, rfl⟩)
  · have hP : va_P V.1 vwCl [(z 0, .inr (10, mo z 0 0 0 0 0 0 0 0 0 0 (-1) 0 0 0 0 0)), (z 37, aI V 4 (upd (upd (upd (upd (fun _ => 0) 0 (-1)) 1 (-1)) 2 (-1)) 3 (-1)))] H := hP
    have hD : va_D A [(z 0, .inr (10, mo z 0 0 0 0 0 0 0 0 0 0 (-1) 0 0 0 0 0)), (z 37, aI V 4 (upd (upd (upd (upd (fun _ => 0) 0 (-1)) 1 (-1)) 2 (-1)) 3 (-1)))] := hD
    refine lv_istore (lv' := [(5, .int (-2)), (0, .ref (z 0)), (1, .int p0), (2, .int p1), (3, .long j2)]) hx hb dX10_write_10 hl (by decide) rfl (fun ls hl => ?_)
    refine lv_iload hx hb dX10_write_12 (lv_at hl 0 rfl) ?_
    refine lv_if_eq (tgt := 21) hx hb dX10_write_14 (by decide) (fun c_18 => absurd c_18 (by decide)) (fun _ => ?_)
    refine lv_iload hx hb dX10_write_17 (lv_at hl 0 rfl) ?_
    refine lv_i2l (v := (-2)) hx hb dX10_write_19 (by decide +kernel) ?_
    exact fiL hx hb hr hlk hK hP hD hS dX10_write_20 (Nat.le_of_ble_eq_true rfl) (Nat.le_of_ble_eq_true rfl) (Or.inr (Or.inl ⟨c_3, c_4, rfl, rfl⟩))
  · have hP : va_P V.1 vwCl [(z 0, .inr (10, mo z 0 0 0 0 0 0 0 0 0 0 (-1) 0 0 0 0 0)), (z 37, aI V 4 (upd (upd (upd (upd (fun _ => 0) 0 (-1)) 1 (-1)) 2 (-1)) 3 (-1)))] H := hP
    have hD : va_D A [(z 0, .inr (10, mo z 0 0 0 0 0 0 0 0 0 0 (-1) 0 0 0 0 0)), (z 37, aI V 4 (upd (upd (upd (upd (fun _ => 0) 0 (-1)) 1 (-1)) 2 (-1)) 3 (-1)))] := hD
    refine lv_istore (lv' := [(5, .int (-6)), (0, .ref (z 0)), (1, .int p0), (2, .int p1), (3, .long j2)]) hx hb dX10_write_10 hl (by decide) rfl (fun ls hl => ?_)
    refine lv_iload hx hb dX10_write_12 (lv_at hl 0 rfl) ?_
    refine lv_if_eq (tgt := 21) hx hb dX10_write_14 (by decide) (fun c_19 => absurd c_19 (by decide)) (fun _ => ?_)
    refine lv_iload hx hb dX10_write_17 (lv_at hl 0 rfl) ?_
    refine lv_i2l (v := (-6)) hx hb dX10_write_19 (by decide +kernel) ?_
    exact fiL hx hb hr hlk hK hP hD hS dX10_write_20 (Nat.le_of_ble_eq_true rfl) (Nat.le_of_ble_eq_true rfl) (Or.inr (Or.inr (Or.inl ⟨c_5, c_6, c_7, rfl, rfl⟩)))
  · have hP : va_P V.1 vwCl [(z 0, .inr (10, mo z 0 0 0 0 0 0 0 0 0 0 (-1) 0 0 0 0 0)), (z 37, aI V 4 (upd (upd (upd (upd (fun _ => 0) 0 (-1)) 1 (-1)) 2 (-1)) 3 (-1)))] H := hP
    have hD : va_D A [(z 0, .inr (10, mo z 0 0 0 0 0 0 0 0 0 0 (-1) 0 0 0 0 0)), (z 37, aI V 4 (upd (upd (upd (upd (fun _ => 0) 0 (-1)) 1 (-1)) 2 (-1)) 3 (-1)))] := hD
    refine lv_istore (lv' := [(5, .int (-6)), (0, .ref (z 0)), (1, .int p0), (2, .int p1), (3, .long j2)]) hx hb dX10_write_10 hl (by decide) rfl (fun ls hl => ?_)
    refine lv_iload hx hb dX10_write_12 (lv_at hl 0 rfl) ?_
    refine lv_if_eq (tgt := 21) hx hb dX10_write_14 (by decide) (fun c_20 => absurd c_20 (by decide)) (fun _ => ?_)
    refine lv_iload hx hb dX10_write_17 (lv_at hl 0 rfl) ?_
    refine lv_i2l (v := (-6)) hx hb dX10_write_19 (by decide +kernel) ?_
    exact fiL hx hb hr hlk hK hP hD hS dX10_write_20 (Nat.le_of_ble_eq_true rfl) (Nat.le_of_ble_eq_true rfl) (Or.inr (Or.inr (Or.inr (Or.inl ⟨c_8, c_9, c_10, rfl, rfl⟩))))
  · have hP : va_P V.1 vwCl [(z 0, .inr (10, mo z 0 0 0 0 0 0 0 0 0 0 (-1) 0 0 0 0 0)), (z 37, aI V 4 (upd (upd (upd (upd (fun _ => 0) 0 (-1)) 1 (-1)) 2 (-1)) 3 (-1)))] H := hP
    have hD : va_D A [(z 0, .inr (10, mo z 0 0 0 0 0 0 0 0 0 0 (-1) 0 0 0 0 0)), (z 37, aI V 4 (upd (upd (upd (upd (fun _ => 0) 0 (-1)) 1 (-1)) 2 (-1)) 3 (-1)))] := hD
    refine lv_istore (lv' := [(5, .int (-6)), (0, .ref (z 0)), (1, .int p0), (2, .int p1), (3, .long j2)]) hx hb dX10_write_10 hl (by decide) rfl (fun ls hl => ?_)
    refine lv_iload hx hb dX10_write_12 (lv_at hl 0 rfl) ?_
    refine lv_if_eq (tgt := 21) hx hb dX10_write_14 (by decide) (fun c_21 => absurd c_21 (by decide)) (fun _ => ?_)
    refine lv_iload hx hb dX10_write_17 (lv_at hl 0 rfl) ?_
    refine lv_i2l (v := (-6)) hx hb dX10_write_19 (by decide +kernel) ?_
    exact fiL hx hb hr hlk hK hP hD hS dX10_write_20 (Nat.le_of_ble_eq_true rfl) (Nat.le_of_ble_eq_true rfl) (Or.inr (Or.inr (Or.inr (Or.inr (Or.inl ⟨c_11, c_12, c_13, rfl, rfl⟩)))))
  · have hP : va_P V.1 vwCl [(z 0, .inr (10, mo z 0 0 0 0 0 0 0 0 0 0 (-1) 0 0 0 0 0)), (z 37, aI V 4 (upd (upd (upd (upd (fun _ => 0) 0 (-1)) 1 (-1)) 2 (-1)) 3 (-1)))] H := hP
    have hD : va_D A [(z 0, .inr (10, mo z 0 0 0 0 0 0 0 0 0 0 (-1) 0 0 0 0 0)), (z 37, aI V 4 (upd (upd (upd (upd (fun _ => 0) 0 (-1)) 1 (-1)) 2 (-1)) 3 (-1)))] := hD
    refine lv_istore (lv' := [(5, .int (-6)), (0, .ref (z 0)), (1, .int p0), (2, .int p1), (3, .long j2)]) hx hb dX10_write_10 hl (by decide) rfl (fun ls hl => ?_)
    refine lv_iload hx hb dX10_write_12 (lv_at hl 0 rfl) ?_
    refine lv_if_eq (tgt := 21) hx hb dX10_write_14 (by decide) (fun c_22 => absurd c_22 (by decide)) (fun _ => ?_)
    refine lv_iload hx hb dX10_write_17 (lv_at hl 0 rfl) ?_
    refine lv_i2l (v := (-6)) hx hb dX10_write_19 (by decide +kernel) ?_
    exact fiL hx hb hr hlk hK hP hD hS dX10_write_20 (Nat.le_of_ble_eq_true rfl) (Nat.le_of_ble_eq_true rfl) (Or.inr (Or.inr (Or.inr (Or.inr (Or.inr (⟨c_14, c_15, c_16, rfl, rfl⟩))))))
theorem dX9_write_0 : decode cX9_write 0 = .ok (.iload_n 1, 1) := by decide +kernel
theorem dX9_write_1 : decode cX9_write 1 = .ok (.invokestatic 205, 3) := by decide +kernel
theorem dX9_write_4 : decode cX9_write 4 = .ok (.ifCond .ne 7, 3) := by decide +kernel
theorem dX9_write_7 : decode cX9_write 7 = .ok (.ldc2_w 268, 3) := by decide +kernel
theorem dX9_write_10 : decode cX9_write 10 = .ok (.lreturn, 1) := by decide +kernel
theorem dX9_write_11 : decode cX9_write 11 = .ok (.aload_n 0, 1) := by decide +kernel
theorem dX9_write_12 : decode cX9_write 12 = .ok (.getfield 54, 3) := by decide +kernel
theorem dX9_write_15 : decode cX9_write 15 = .ok (.iload_n 1, 1) := by decide +kernel
theorem dX9_write_16 : decode cX9_write 16 = .ok (.aaload, 1) := by decide +kernel
theorem dX9_write_17 : decode cX9_write 17 = .ok (.astore 5, 2) := by decide +kernel
theorem dX9_write_19 : decode cX9_write 19 = .ok (.aload 5, 2) := by decide +kernel
theorem dX9_write_21 : decode cX9_write 21 = .ok (.invokevirtual 208, 3) := by decide +kernel
theorem dX9_write_24 : decode cX9_write 24 = .ok (.ifCond .eq 7, 3) := by decide +kernel
theorem q_5_188 : Cond.constantLong "BeaconDelay" 385 (-6 : Int64) ∈ gw := gw_5 (i := 188) (by decide +kernel) rfl
theorem dX9_write_27 : decode cX9_write 27 = .ok (.ldc2_w 385, 3) := by decide +kernel
theorem dX9_write_30 : decode cX9_write 30 = .ok (.lreturn, 1) := by decide +kernel
set_option maxHeartbeats 4000000 in
set_option maxRecDepth 100000 in
theorem c_X9_write_0 (l : Launch) (V : GV) (y : Nat → Nat) (p0 : Int32) (p1 : Int32) (j2 : Int64) : Ct l V yX9_write (.code yX9_write cX9_write 6 (some .long)) 2 [.ref (y 0), .int p0, .int p1, .long j2] [(y 0, .inr (9, [.ref (y 1), .int 0, .ref (y 2), .ref (y 10), .ref (y 19), .ref (y 25), .ref (y 26), .ref (y 30), .ref (y 31), .ref (y 32), .null, .null, .int 0, .int 0, .int 0])), (y 30, aT V 4 (va_up (va_up (va_up (va_up (fun _ => none) 0 (some (y 33))) 1 (some (y 35))) 2 (some (y 37))) 3 (some (y 39)))), (y 33, .inr (7, [.ref (y 34), .int (-1), .int 0])), (y 35, .inr (7, [.ref (y 36), .int (-1), .int 0])), (y 37, .inr (7, [.ref (y 38), .int (-1), .int 0])), (y 39, .inr (7, [.ref (y 40), .int (-1), .int 0]))] 0 0 (QL V (fun (r : Int64) (w : va_W) => (p0 < 0 ∧ r = (-2) ∧ w = [(y 0, .inr (9, [.ref (y 1), .int 0, .ref (y 2), .ref (y 10), .ref (y 19), .ref (y 25), .ref (y 26), .ref (y 30), .ref (y 31), .ref (y 32), .null, .null, .int 0, .int 0, .int 0])), (y 30, aT V 4 (va_up (va_up (va_up (va_up (fun _ => none) 0 (some (y 33))) 1 (some (y 35))) 2 (some (y 37))) 3 (some (y 39)))), (y 33, .inr (7, [.ref (y 34), .int (-1), .int 0])), (y 35, .inr (7, [.ref (y 36), .int (-1), .int 0])), (y 37, .inr (7, [.ref (y 38), .int (-1), .int 0])), (y 39, .inr (7, [.ref (y 40), .int (-1), .int 0]))]) ∨ ((¬ p0 < 0) ∧ 4 ≤ p0 ∧ r = (-2) ∧ w = [(y 0, .inr (9, [.ref (y 1), .int 0, .ref (y 2), .ref (y 10), .ref (y 19), .ref (y 25), .ref (y 26), .ref (y 30), .ref (y 31), .ref (y 32), .null, .null, .int 0, .int 0, .int 0])), (y 30, aT V 4 (va_up (va_up (va_up (va_up (fun _ => none) 0 (some (y 33))) 1 (some (y 35))) 2 (some (y 37))) 3 (some (y 39)))), (y 33, .inr (7, [.ref (y 34), .int (-1), .int 0])), (y 35, .inr (7, [.ref (y 36), .int (-1), .int 0])), (y 37, .inr (7, [.ref (y 38), .int (-1), .int 0])), (y 39, .inr (7, [.ref (y 40), .int (-1), .int 0]))]) ∨ ((¬ p0 < 0) ∧ (¬ 4 ≤ p0) ∧ p0 = 0 ∧ r = (-6) ∧ w = [(y 0, .inr (9, [.ref (y 1), .int 0, .ref (y 2), .ref (y 10), .ref (y 19), .ref (y 25), .ref (y 26), .ref (y 30), .ref (y 31), .ref (y 32), .null, .null, .int 0, .int 0, .int 0])), (y 30, aT V 4 (va_up (va_up (va_up (va_up (fun _ => none) 0 (some (y 33))) 1 (some (y 35))) 2 (some (y 37))) 3 (some (y 39)))), (y 33, .inr (7, [.ref (y 34), .int (-1), .int 0])), (y 35, .inr (7, [.ref (y 36), .int (-1), .int 0])), (y 37, .inr (7, [.ref (y 38), .int (-1), .int 0])), (y 39, .inr (7, [.ref (y 40), .int (-1), .int 0]))]) ∨ ((¬ p0 < 0) ∧ (¬ 4 ≤ p0) ∧ p0 = 1 ∧ r = (-6) ∧ w = [(y 0, .inr (9, [.ref (y 1), .int 0, .ref (y 2), .ref (y 10), .ref (y 19), .ref (y 25), .ref (y 26), .ref (y 30), .ref (y 31), .ref (y 32), .null, .null, .int 0, .int 0, .int 0])), (y 30, aT V 4 (va_up (va_up (va_up (va_up (fun _ => none) 0 (some (y 33))) 1 (some (y 35))) 2 (some (y 37))) 3 (some (y 39)))), (y 33, .inr (7, [.ref (y 34), .int (-1), .int 0])), (y 35, .inr (7, [.ref (y 36), .int (-1), .int 0])), (y 37, .inr (7, [.ref (y 38), .int (-1), .int 0])), (y 39, .inr (7, [.ref (y 40), .int (-1), .int 0]))]) ∨ ((¬ p0 < 0) ∧ (¬ 4 ≤ p0) ∧ p0 = 2 ∧ r = (-6) ∧ w = [(y 0, .inr (9, [.ref (y 1), .int 0, .ref (y 2), .ref (y 10), .ref (y 19), .ref (y 25), .ref (y 26), .ref (y 30), .ref (y 31), .ref (y 32), .null, .null, .int 0, .int 0, .int 0])), (y 30, aT V 4 (va_up (va_up (va_up (va_up (fun _ => none) 0 (some (y 33))) 1 (some (y 35))) 2 (some (y 37))) 3 (some (y 39)))), (y 33, .inr (7, [.ref (y 34), .int (-1), .int 0])), (y 35, .inr (7, [.ref (y 36), .int (-1), .int 0])), (y 37, .inr (7, [.ref (y 38), .int (-1), .int 0])), (y 39, .inr (7, [.ref (y 40), .int (-1), .int 0]))]) ∨ ((¬ p0 < 0) ∧ (¬ 4 ≤ p0) ∧ p0 = 3 ∧ r = (-6) ∧ w = [(y 0, .inr (9, [.ref (y 1), .int 0, .ref (y 2), .ref (y 10), .ref (y 19), .ref (y 25), .ref (y 26), .ref (y 30), .ref (y 31), .ref (y 32), .null, .null, .int 0, .int 0, .int 0])), (y 30, aT V 4 (va_up (va_up (va_up (va_up (fun _ => none) 0 (some (y 33))) 1 (some (y 35))) 2 (some (y 37))) 3 (some (y 39)))), (y 33, .inr (7, [.ref (y 34), .int (-1), .int 0])), (y 35, .inr (7, [.ref (y 36), .int (-1), .int 0])), (y 37, .inr (7, [.ref (y 38), .int (-1), .int 0])), (y 39, .inr (7, [.ref (y 40), .int (-1), .int 0]))]))) := by
  refine Ct.of (by decide) (Nat.le_of_ble_eq_true rfl) (fun p e s m below meth c A ls hx hb hr hml hown hlk hnm hg hP hK hD hE hA hS hl => ?_)
  have hl : lv_has ls 6 [(0, .ref (y 0)), (1, .int p0), (2, .int p1), (3, .long j2)] := hl
  refine lv_iload_n hx hb dX9_write_0 rfl (lv_at hl 1 rfl) ?_
  refine jnI (wr := [(y 0, .inr (9, [.ref (y 1), .int 0, .ref (y 2), .ref (y 10), .ref (y 19), .ref (y 25), .ref (y 26), .ref (y 30), .ref (y 31), .ref (y 32), .null, .null, .int 0, .int 0, .int 0])), (y 30, aT V 4 (va_up (va_up (va_up (va_up (fun _ => none) 0 (some (y 33))) 1 (some (y 35))) 2 (some (y 37))) 3 (some (y 39)))), (y 33, .inr (7, [.ref (y 34), .int (-1), .int 0])), (y 35, .inr (7, [.ref (y 36), .int (-1), .int 0])), (y 37, .inr (7, [.ref (y 38), .int (-1), .int 0])), (y 39, .inr (7, [.ref (y 40), .int (-1), .int 0]))]) (rnS (rest := []) ⟨hx, hb, hml, hown, hg⟩ (c_X9_isTray_0 l V p0) mt_X9_isTray q_3_228 ⟨Nat.le_of_ble_eq_true rfl, Nat.le_of_ble_eq_true rfl⟩ hK hP hD hS hA hE [] rfl rfl rfl hl.1 rfl (Nat.le_of_ble_eq_true rfl) dX9_write_1 ⟨Nat.le_of_ble_eq_true rfl, Nat.le_of_ble_eq_true rfl⟩) hP hD hS hA [] [0, 1, 2, 3, 4, 5] rfl rfl rfl (by decide) (fun r_1 w H locs hw hP hD hS => ?_)
  rcases hw with ⟨c_2, rfl, rfl⟩ | ⟨c_3, c_4, rfl, rfl⟩ | ⟨c_5, c_6, rfl, rfl⟩
  · have hP : va_P V.1 vwCl [(y 0, .inr (9, [.ref (y 1), .int 0, .ref (y 2), .ref (y 10), .ref (y 19), .ref (y 25), .ref (y 26), .ref (y 30), .ref (y 31), .ref (y 32), .null, .null, .int 0, .int 0, .int 0])), (y 30, aT V 4 (va_up (va_up (va_up (va_up (fun _ => none) 0 (some (y 33))) 1 (some (y 35))) 2 (some (y 37))) 3 (some (y 39)))), (y 33, .inr (7, [.ref (y 34), .int (-1), .int 0])), (y 35, .inr (7, [.ref (y 36), .int (-1), .int 0])), (y 37, .inr (7, [.ref (y 38), .int (-1), .int 0])), (y 39, .inr (7, [.ref (y 40), .int (-1), .int 0]))] H := hP
    have hD : va_D A [(y 0, .inr (9, [.ref (y 1), .int 0, .ref (y 2), .ref (y 10), .ref (y 19), .ref (y 25), .ref (y 26), .ref (y 30), .ref (y 31), .ref (y 32), .null, .null, .int 0, .int 0, .int 0])), (y 30, aT V 4 (va_up (va_up (va_up (va_up (fun _ => none) 0 (some (y 33))) 1 (some (y 35))) 2 (some (y 37))) 3 (some (y 39)))), (y 33, .inr (7, [.ref (y 34), .int (-1), .int 0])), (y 35, .inr (7, [.ref (y 36), .int (-1), .int 0])), (y 37, .inr (7, [.ref (y 38), .int (-1), .int 0])), (y 39, .inr (7, [.ref (y 40), .int (-1), .int 0]))] := hD
    refine lv_if_ne (tgt := 11) hx hb dX9_write_4 (by decide) (fun c_7 => absurd c_7 (by decide)) (fun _ => ?_)
    refine lv_ldc2 (v := (-2)) hx hb hown (hg _ q_4_162) dX9_write_7 ?_
    exact fiL hx hb hr hlk hK hP hD hS dX9_write_10 (Nat.le_of_ble_eq_true rfl) (Nat.le_of_ble_eq_true rfl) (Or.inl ⟨c_2, rfl, rfl⟩)
  · have hP : va_P V.1 vwCl [(y 0, .inr (9, [.ref (y 1), .int 0, .ref (y 2), .ref (y 10), .ref (y 19), .ref (y 25), .ref (y 26), .ref (y 30), .ref (y 31), .ref (y 32), .null, .null, .int 0, .int 0, .int 0])), (y 30, aT V 4 (va_up (va_up (va_up (va_up (fun _ => none) 0 (some (y 33))) 1 (some (y 35))) 2 (some (y 37))) 3 (some (y 39)))), (y 33, .inr (7, [.ref (y 34), .int (-1), .int 0])), (y 35, .inr (7, [.ref (y 36), .int (-1), .int 0])), (y 37, .inr (7, [.ref (y 38), .int (-1), .int 0])), (y 39, .inr (7, [.ref (y 40), .int (-1), .int 0]))] H := hP
    have hD : va_D A [(y 0, .inr (9, [.ref (y 1), .int 0, .ref (y 2), .ref (y 10), .ref (y 19), .ref (y 25), .ref (y 26), .ref (y 30), .ref (y 31), .ref (y 32), .null, .null, .int 0, .int 0, .int 0])), (y 30, aT V 4 (va_up (va_up (va_up (va_up (fun _ => none) 0 (some (y 33))) 1 (some (y 35))) 2 (some (y 37))) 3 (some (y 39)))), (y 33, .inr (7, [.ref (y 34), .int (-1), .int 0])), (y 35, .inr (7, [.ref (y 36), .int (-1), .int 0])), (y 37, .inr (7, [.ref (y 38), .int (-1), .int 0])), (y 39, .inr (7, [.ref (y 40), .int (-1), .int 0]))] := hD
    refine lv_if_ne (tgt := 11) hx hb dX9_write_4 (by decide) (fun c_8 => absurd c_8 (by decide)) (fun _ => ?_)
    refine lv_ldc2 (v := (-2)) hx hb hown (hg _ q_4_162) dX9_write_7 ?_
    exact fiL hx hb hr hlk hK hP hD hS dX9_write_10 (Nat.le_of_ble_eq_true rfl) (Nat.le_of_ble_eq_true rfl) (Or.inr (Or.inl ⟨c_3, c_4, rfl, rfl⟩))
  · have hP : va_P V.1 vwCl [(y 0, .inr (9, [.ref (y 1), .int 0, .ref (y 2), .ref (y 10), .ref (y 19), .ref (y 25), .ref (y 26), .ref (y 30), .ref (y 31), .ref (y 32), .null, .null, .int 0, .int 0, .int 0])), (y 30, aT V 4 (va_up (va_up (va_up (va_up (fun _ => none) 0 (some (y 33))) 1 (some (y 35))) 2 (some (y 37))) 3 (some (y 39)))), (y 33, .inr (7, [.ref (y 34), .int (-1), .int 0])), (y 35, .inr (7, [.ref (y 36), .int (-1), .int 0])), (y 37, .inr (7, [.ref (y 38), .int (-1), .int 0])), (y 39, .inr (7, [.ref (y 40), .int (-1), .int 0]))] H := hP
    have hD : va_D A [(y 0, .inr (9, [.ref (y 1), .int 0, .ref (y 2), .ref (y 10), .ref (y 19), .ref (y 25), .ref (y 26), .ref (y 30), .ref (y 31), .ref (y 32), .null, .null, .int 0, .int 0, .int 0])), (y 30, aT V 4 (va_up (va_up (va_up (va_up (fun _ => none) 0 (some (y 33))) 1 (some (y 35))) 2 (some (y 37))) 3 (some (y 39)))), (y 33, .inr (7, [.ref (y 34), .int (-1), .int 0])), (y 35, .inr (7, [.ref (y 36), .int (-1), .int 0])), (y 37, .inr (7, [.ref (y 38), .int (-1), .int 0])), (y 39, .inr (7, [.ref (y 40), .int (-1), .int 0]))] := hD
    refine lv_if_ne (tgt := 11) hx hb dX9_write_4 (by decide) (fun _ => ?_) (fun c_9 => absurd c_9 (by decide))
    refine lv_aload_n hx hb dX9_write_11 rfl (lv_at hl 0 rfl) ?_
    refine va_get (ci := 9) (v := .ref (y 30)) (C := RX9) (T := TX9) (N := 15) hx hb hg inX9 hown hK hP 0 rfl rfl 7 (by decide) (hg _ q_2_43) (fun _ h9 => h9) rfl dX9_write_12 ?_
    refine lv_iload_n hx hb dX9_write_15 rfl (lv_at hl 1 rfl) ?_
    have c_10 : p0 = 0 ∨ p0 = 1 ∨ p0 = 2 ∨ p0 = 3 := by simp only [tI_lt, tI_le, tI_eq, tL_lt, tL_le, tL_eq, tWx, (by decide : (0 : Int32).toInt = 0), (by decide : (1 : Int32).toInt = 1), (by decide : (2 : Int32).toInt = 2), (by decide : (3 : Int32).toInt = 3), (by decide : (4 : Int32).toInt = 4)] at c_5 c_6 ⊢; omega
    rcases c_10 with rfl | rfl | rfl | rfl
    · refine va_aldq hx hb hK hP 1 4 rfl rfl (vin (by decide +kernel)) dX9_write_16 ?_
      refine W.eq (g2 := F0 m 17 ls (.ref (y 33) :: [])) rfl ?_
      refine lv_astore (lv' := [(5, .ref (y 33)), (0, .ref (y 0)), (1, .int 0), (2, .int p1), (3, .long j2)]) hx hb dX9_write_17 hl (by decide) rfl (fun ls hl => ?_)
      refine lv_aload hx hb dX9_write_19 (lv_at hl 0 rfl) ?_
      refine jnI (wr := [(y 0, .inr (9, [.ref (y 1), .int 0, .ref (y 2), .ref (y 10), .ref (y 19), .ref (y 25), .ref (y 26), .ref (y 30), .ref (y 31), .ref (y 32), .null, .null, .int 0, .int 0, .int 0])), (y 30, aT V 4 (va_up (va_up (va_up (va_up (fun _ => none) 0 (some (y 33))) 1 (some (y 35))) 2 (some (y 37))) 3 (some (y 39)))), (y 35, .inr (7, [.ref (y 36), .int (-1), .int 0])), (y 37, .inr (7, [.ref (y 38), .int (-1), .int 0])), (y 39, .inr (7, [.ref (y 40), .int (-1), .int 0]))]) (rnV (rest := []) ⟨hx, hb, hml, hown, hg⟩ (c_X7_isMissing_0 l V y) mt_X7_isMissing q_3_231 ⟨Nat.le_of_ble_eq_true rfl, Nat.le_of_ble_eq_true rfl⟩ hK hP hD hS hA hE [2] rfl rfl 2 rfl rfl rfl rfl hl.1 rfl (Nat.le_of_ble_eq_true rfl) dX9_write_21 ⟨Nat.le_of_ble_eq_true rfl, Nat.le_of_ble_eq_true rfl⟩) hP hD hS hA [2] [0, 1, 3, 4, 5] rfl rfl rfl (by decide) (fun r_11 w H locs hw hP hD hS => ?_)
      obtain ⟨rfl, rfl⟩ := hw
      have hP : va_P V.1 vwCl [(y 0, .inr (9, [.ref (y 1), .int 0, .ref (y 2), .ref (y 10), .ref (y 19), .ref (y 25), .ref (y 26), .ref (y 30), .ref (y 31), .ref (y 32), .null, .null, .int 0, .int 0, .int 0])), (y 30, aT V 4 (va_up (va_up (va_up (va_up (fun _ => none) 0 (some (y 33))) 1 (some (y 35))) 2 (some (y 37))) 3 (some (y 39)))), (y 35, .inr (7, [.ref (y 36), .int (-1), .int 0])), (y 37, .inr (7, [.ref (y 38), .int (-1), .int 0])), (y 39, .inr (7, [.ref (y 40), .int (-1), .int 0])), (y 33, .inr (7, [.ref (y 34), .int (-1), .int 0]))] H := hP
      have hD : va_D A [(y 0, .inr (9, [.ref (y 1), .int 0, .ref (y 2), .ref (y 10), .ref (y 19), .ref (y 25), .ref (y 26), .ref (y 30), .ref (y 31), .ref (y 32), .null, .null, .int 0, .int 0, .int 0])), (y 30, aT V 4 (va_up (va_up (va_up (va_up (fun _ => none) 0 (some (y 33))) 1 (some (y 35))) 2 (some (y 37))) 3 (some (y 39)))), (y 35, .inr (7, [.ref (y 36), .int (-1), .int 0])), (y 37, .inr (7, [.ref (y 38), .int (-1), .int 0])), (y 39, .inr (7, [.ref (y 40), .int (-1), .int 0])), (y 33, .inr (7, [.ref (y 34), .int (-1), .int 0]))] := hD
      refine lv_if_eq (tgt := 31) hx hb dX9_write_24 (by decide) (fun c_12 => absurd c_12 (by decide)) (fun _ => ?_)
      refine lv_ldc2 (v := (-6)) hx hb hown (hg _ q_5_188) dX9_write_27 ?_
      have hP := subP (ws' := [(y 0, .inr (9, [.ref (y 1), .int 0, .ref (y 2), .ref (y 10), .ref (y 19), .ref (y 25), .ref (y 26), .ref (y 30), .ref (y 31), .ref (y 32), .null, .null, .int 0, .int 0, .int 0])), (y 30, aT V 4 (va_up (va_up (va_up (va_up (fun _ => none) 0 (some (y 33))) 1 (some (y 35))) 2 (some (y 37))) 3 (some (y 39)))), (y 33, .inr (7, [.ref (y 34), .int (-1), .int 0])), (y 35, .inr (7, [.ref (y 36), .int (-1), .int 0])), (y 37, .inr (7, [.ref (y 38), .int (-1), .int 0])), (y 39, .inr (7, [.ref (y 40), .int (-1), .int 0]))]) hP [0, 1, 5, 2, 3, 4] rfl
      have hD := hD.sub (ws' := [(y 0, .inr (9, [.ref (y 1), .int 0, .ref (y 2), .ref (y 10), .ref (y 19), .ref (y 25), .ref (y 26), .ref (y 30), .ref (y 31), .ref (y 32), .null, .null, .int 0, .int 0, .int 0])), (y 30, aT V 4 (va_up (va_up (va_up (va_up (fun _ => none) 0 (some (y 33))) 1 (some (y 35))) 2 (some (y 37))) 3 (some (y 39)))), (y 33, .inr (7, [.ref (y 34), .int (-1), .int 0])), (y 35, .inr (7, [.ref (y 36), .int (-1), .int 0])), (y 37, .inr (7, [.ref (y 38), .int (-1), .int 0])), (y 39, .inr (7, [.ref (y 40), .int (-1), .int 0]))]) [0, 1, 5, 2, 3, 4] rfl rfl
      exact fiL hx hb hr hlk hK hP hD hS dX9_write_30 (Nat.le_of_ble_eq_true rfl) (Nat.le_of_ble_eq_true rfl) (Or.inr (Or.inr (Or.inl ⟨c_5, c_6, rfl, rfl, rfl⟩)))
    · refine va_aldq hx hb hK hP 1 4 rfl rfl (vin (by decide +kernel)) dX9_write_16 ?_
      refine W.eq (g2 := F0 m 17 ls (.ref (y 35) :: [])) rfl ?_
      refine lv_astore (lv' := [(5, .ref (y 35)), (0, .ref (y 0)), (1, .int 1), (2, .int p1), (3, .long j2)]) hx hb dX9_write_17 hl (by decide) rfl (fun ls hl => ?_)
      refine lv_aload hx hb dX9_write_19 (lv_at hl 0 rfl) ?_
      refine jnI (wr := [(y 0, .inr (9, [.ref (y 1), .int 0, .ref (y 2), .ref (y 10), .ref (y 19), .ref (y 25), .ref (y 26), .ref (y 30), .ref (y 31), .ref (y 32), .null, .null, .int 0, .int 0, .int 0])), (y 30, aT V 4 (va_up (va_up (va_up (va_up (fun _ => none) 0 (some (y 33))) 1 (some (y 35))) 2 (some (y 37))) 3 (some (y 39)))), (y 33, .inr (7, [.ref (y 34), .int (-1), .int 0])), (y 37, .inr (7, [.ref (y 38), .int (-1), .int 0])), (y 39, .inr (7, [.ref (y 40), .int (-1), .int 0]))]) (rnV (rest := []) ⟨hx, hb, hml, hown, hg⟩ (c_X7_isMissing_1 l V y) mt_X7_isMissing q_3_231 ⟨Nat.le_of_ble_eq_true rfl, Nat.le_of_ble_eq_true rfl⟩ hK hP hD hS hA hE [3] rfl rfl 3 rfl rfl rfl rfl hl.1 rfl (Nat.le_of_ble_eq_true rfl) dX9_write_21 ⟨Nat.le_of_ble_eq_true rfl, Nat.le_of_ble_eq_true rfl⟩) hP hD hS hA [3] [0, 1, 2, 4, 5] rfl rfl rfl (by decide) (fun r_13 w H locs hw hP hD hS => ?_)
      obtain ⟨rfl, rfl⟩ := hw
      have hP : va_P V.1 vwCl [(y 0, .inr (9, [.ref (y 1), .int 0, .ref (y 2), .ref (y 10), .ref (y 19), .ref (y 25), .ref (y 26), .ref (y 30), .ref (y 31), .ref (y 32), .null, .null, .int 0, .int 0, .int 0])), (y 30, aT V 4 (va_up (va_up (va_up (va_up (fun _ => none) 0 (some (y 33))) 1 (some (y 35))) 2 (some (y 37))) 3 (some (y 39)))), (y 33, .inr (7, [.ref (y 34), .int (-1), .int 0])), (y 37, .inr (7, [.ref (y 38), .int (-1), .int 0])), (y 39, .inr (7, [.ref (y 40), .int (-1), .int 0])), (y 35, .inr (7, [.ref (y 36), .int (-1), .int 0]))] H := hP
      have hD : va_D A [(y 0, .inr (9, [.ref (y 1), .int 0, .ref (y 2), .ref (y 10), .ref (y 19), .ref (y 25), .ref (y 26), .ref (y 30), .ref (y 31), .ref (y 32), .null, .null, .int 0, .int 0, .int 0])), (y 30, aT V 4 (va_up (va_up (va_up (va_up (fun _ => none) 0 (some (y 33))) 1 (some (y 35))) 2 (some (y 37))) 3 (some (y 39)))), (y 33, .inr (7, [.ref (y 34), .int (-1), .int 0])), (y 37, .inr (7, [.ref (y 38), .int (-1), .int 0])), (y 39, .inr (7, [.ref (y 40), .int (-1), .int 0])), (y 35, .inr (7, [.ref (y 36), .int (-1), .int 0]))] := hD
      refine lv_if_eq (tgt := 31) hx hb dX9_write_24 (by decide) (fun c_14 => absurd c_14 (by decide)) (fun _ => ?_)
      refine lv_ldc2 (v := (-6)) hx hb hown (hg _ q_5_188) dX9_write_27 ?_
      have hP := subP (ws' := [(y 0, .inr (9, [.ref (y 1), .int 0, .ref (y 2), .ref (y 10), .ref (y 19), .ref (y 25), .ref (y 26), .ref (y 30), .ref (y 31), .ref (y 32), .null, .null, .int 0, .int 0, .int 0])), (y 30, aT V 4 (va_up (va_up (va_up (va_up (fun _ => none) 0 (some (y 33))) 1 (some (y 35))) 2 (some (y 37))) 3 (some (y 39)))), (y 33, .inr (7, [.ref (y 34), .int (-1), .int 0])), (y 35, .inr (7, [.ref (y 36), .int (-1), .int 0])), (y 37, .inr (7, [.ref (y 38), .int (-1), .int 0])), (y 39, .inr (7, [.ref (y 40), .int (-1), .int 0]))]) hP [0, 1, 2, 5, 3, 4] rfl
      have hD := hD.sub (ws' := [(y 0, .inr (9, [.ref (y 1), .int 0, .ref (y 2), .ref (y 10), .ref (y 19), .ref (y 25), .ref (y 26), .ref (y 30), .ref (y 31), .ref (y 32), .null, .null, .int 0, .int 0, .int 0])), (y 30, aT V 4 (va_up (va_up (va_up (va_up (fun _ => none) 0 (some (y 33))) 1 (some (y 35))) 2 (some (y 37))) 3 (some (y 39)))), (y 33, .inr (7, [.ref (y 34), .int (-1), .int 0])), (y 35, .inr (7, [.ref (y 36), .int (-1), .int 0])), (y 37, .inr (7, [.ref (y 38), .int (-1), .int 0])), (y 39, .inr (7, [.ref (y 40), .int (-1), .int 0]))]) [0, 1, 2, 5, 3, 4] rfl rfl
      exact fiL hx hb hr hlk hK hP hD hS dX9_write_30 (Nat.le_of_ble_eq_true rfl) (Nat.le_of_ble_eq_true rfl) (Or.inr (Or.inr (Or.inr (Or.inl ⟨c_5, c_6, rfl, rfl, rfl⟩))))
    · refine va_aldq hx hb hK hP 1 4 rfl rfl (vin (by decide +kernel)) dX9_write_16 ?_
      refine W.eq (g2 := F0 m 17 ls (.ref (y 37) :: [])) rfl ?_
      refine lv_astore (lv' := [(5, .ref (y 37)), (0, .ref (y 0)), (1, .int 2), (2, .int p1), (3, .long j2)]) hx hb dX9_write_17 hl (by decide) rfl (fun ls hl => ?_)
      refine lv_aload hx hb dX9_write_19 (lv_at hl 0 rfl) ?_
      refine jnI (wr := [(y 0, .inr (9, [.ref (y 1), .int 0, .ref (y 2), .ref (y 10), .ref (y 19), .ref (y 25), .ref (y 26), .ref (y 30), .ref (y 31), .ref (y 32), .null, .null, .int 0, .int 0, .int 0])), (y 30, aT V 4 (va_up (va_up (va_up (va_up (fun _ => none) 0 (some (y 33))) 1 (some (y 35))) 2 (some (y 37))) 3 (some (y 39)))), (y 33, .inr (7, [.ref (y 34), .int (-1), .int 0])), (y 35, .inr (7, [.ref (y 36), .int (-1), .int 0])), (y 39, .inr (7, [.ref (y 40), .int (-1), .int 0]))]) (rnV (rest := []) ⟨hx, hb, hml, hown, hg⟩ (c_X7_isMissing_2 l V y) mt_X7_isMissing q_3_231 ⟨Nat.le_of_ble_eq_true rfl, Nat.le_of_ble_eq_true rfl⟩ hK hP hD hS hA hE [4] rfl rfl 4 rfl rfl rfl rfl hl.1 rfl (Nat.le_of_ble_eq_true rfl) dX9_write_21 ⟨Nat.le_of_ble_eq_true rfl, Nat.le_of_ble_eq_true rfl⟩) hP hD hS hA [4] [0, 1, 2, 3, 5] rfl rfl rfl (by decide) (fun r_15 w H locs hw hP hD hS => ?_)
      obtain ⟨rfl, rfl⟩ := hw
      have hP : va_P V.1 vwCl [(y 0, .inr (9, [.ref (y 1), .int 0, .ref (y 2), .ref (y 10), .ref (y 19), .ref (y 25), .ref (y 26), .ref (y 30), .ref (y 31), .ref (y 32), .null, .null, .int 0, .int 0, .int 0])), (y 30, aT V 4 (va_up (va_up (va_up (va_up (fun _ => none) 0 (some (y 33))) 1 (some (y 35))) 2 (some (y 37))) 3 (some (y 39)))), (y 33, .inr (7, [.ref (y 34), .int (-1), .int 0])), (y 35, .inr (7, [.ref (y 36), .int (-1), .int 0])), (y 39, .inr (7, [.ref (y 40), .int (-1), .int 0])), (y 37, .inr (7, [.ref (y 38), .int (-1), .int 0]))] H := hP
      have hD : va_D A [(y 0, .inr (9, [.ref (y 1), .int 0, .ref (y 2), .ref (y 10), .ref (y 19), .ref (y 25), .ref (y 26), .ref (y 30), .ref (y 31), .ref (y 32), .null, .null, .int 0, .int 0, .int 0])), (y 30, aT V 4 (va_up (va_up (va_up (va_up (fun _ => none) 0 (some (y 33))) 1 (some (y 35))) 2 (some (y 37))) 3 (some (y 39)))), (y 33, .inr (7, [.ref (y 34), .int (-1), .int 0])), (y 35, .inr (7, [.ref (y 36), .int (-1), .int 0])), (y 39, .inr (7, [.ref (y 40), .int (-1), .int 0])), (y 37, .inr (7, [.ref (y 38), .int (-1), .int 0]))] := hD
      refine lv_if_eq (tgt := 31) hx hb dX9_write_24 (by decide) (fun c_16 => absurd c_16 (by decide)) (fun _ => ?_)
      refine lv_ldc2 (v := (-6)) hx hb hown (hg _ q_5_188) dX9_write_27 ?_
      have hP := subP (ws' := [(y 0, .inr (9, [.ref (y 1), .int 0, .ref (y 2), .ref (y 10), .ref (y 19), .ref (y 25), .ref (y 26), .ref (y 30), .ref (y 31), .ref (y 32), .null, .null, .int 0, .int 0, .int 0])), (y 30, aT V 4 (va_up (va_up (va_up (va_up (fun _ => none) 0 (some (y 33))) 1 (some (y 35))) 2 (some (y 37))) 3 (some (y 39)))), (y 33, .inr (7, [.ref (y 34), .int (-1), .int 0])), (y 35, .inr (7, [.ref (y 36), .int (-1), .int 0])), (y 37, .inr (7, [.ref (y 38), .int (-1), .int 0])), (y 39, .inr (7, [.ref (y 40), .int (-1), .int 0]))]) hP [0, 1, 2, 3, 5, 4] rfl
      have hD := hD.sub (ws' := [(y 0, .inr (9, [.ref (y 1), .int 0, .ref (y 2), .ref (y 10), .ref (y 19), .ref (y 25), .ref (y 26), .ref (y 30), .ref (y 31), .ref (y 32), .null, .null, .int 0, .int 0, .int 0])), (y 30, aT V 4 (va_up (va_up (va_up (va_up (fun _ => none) 0 (some (y 33))) 1 (some (y 35))) 2 (some (y 37))) 3 (some (y 39)))), (y 33, .inr (7, [.ref (y 34), .int (-1), .int 0])), (y 35, .inr (7, [.ref (y 36), .int (-1), .int 0])), (y 37, .inr (7, [.ref (y 38), .int (-1), .int 0])), (y 39, .inr (7, [.ref (y 40), .int (-1), .int 0]))]) [0, 1, 2, 3, 5, 4] rfl rfl
      exact fiL hx hb hr hlk hK hP hD hS dX9_write_30 (Nat.le_of_ble_eq_true rfl) (Nat.le_of_ble_eq_true rfl) (Or.inr (Or.inr (Or.inr (Or.inr (Or.inl ⟨c_5, c_6, rfl, rfl, rfl⟩)))))
    · refine va_aldq hx hb hK hP 1 4 rfl rfl (vin (by decide +kernel)) dX9_write_16 ?_
      refine W.eq (g2 := F0 m 17 ls (.ref (y 39) :: [])) rfl ?_
      refine lv_astore (lv' := [(5, .ref (y 39)), (0, .ref (y 0)), (1, .int 3), (2, .int p1), (3, .long j2)]) hx hb dX9_write_17 hl (by decide) rfl (fun ls hl => ?_)
      refine lv_aload hx hb dX9_write_19 (lv_at hl 0 rfl) ?_
      refine jnI (wr := [(y 0, .inr (9, [.ref (y 1), .int 0, .ref (y 2), .ref (y 10), .ref (y 19), .ref (y 25), .ref (y 26), .ref (y 30), .ref (y 31), .ref (y 32), .null, .null, .int 0, .int 0, .int 0])), (y 30, aT V 4 (va_up (va_up (va_up (va_up (fun _ => none) 0 (some (y 33))) 1 (some (y 35))) 2 (some (y 37))) 3 (some (y 39)))), (y 33, .inr (7, [.ref (y 34), .int (-1), .int 0])), (y 35, .inr (7, [.ref (y 36), .int (-1), .int 0])), (y 37, .inr (7, [.ref (y 38), .int (-1), .int 0]))]) (rnV (rest := []) ⟨hx, hb, hml, hown, hg⟩ (c_X7_isMissing_3 l V y) mt_X7_isMissing q_3_231 ⟨Nat.le_of_ble_eq_true rfl, Nat.le_of_ble_eq_true rfl⟩ hK hP hD hS hA hE [5] rfl rfl 5 rfl rfl rfl rfl hl.1 rfl (Nat.le_of_ble_eq_true rfl) dX9_write_21 ⟨Nat.le_of_ble_eq_true rfl, Nat.le_of_ble_eq_true rfl⟩) hP hD hS hA [5] [0, 1, 2, 3, 4] rfl rfl rfl (by decide) (fun r_17 w H locs hw hP hD hS => ?_)
      obtain ⟨rfl, rfl⟩ := hw
      have hP : va_P V.1 vwCl [(y 0, .inr (9, [.ref (y 1), .int 0, .ref (y 2), .ref (y 10), .ref (y 19), .ref (y 25), .ref (y 26), .ref (y 30), .ref (y 31), .ref (y 32), .null, .null, .int 0, .int 0, .int 0])), (y 30, aT V 4 (va_up (va_up (va_up (va_up (fun _ => none) 0 (some (y 33))) 1 (some (y 35))) 2 (some (y 37))) 3 (some (y 39)))), (y 33, .inr (7, [.ref (y 34), .int (-1), .int 0])), (y 35, .inr (7, [.ref (y 36), .int (-1), .int 0])), (y 37, .inr (7, [.ref (y 38), .int (-1), .int 0])), (y 39, .inr (7, [.ref (y 40), .int (-1), .int 0]))] H := hP
      have hD : va_D A [(y 0, .inr (9, [.ref (y 1), .int 0, .ref (y 2), .ref (y 10), .ref (y 19), .ref (y 25), .ref (y 26), .ref (y 30), .ref (y 31), .ref (y 32), .null, .null, .int 0, .int 0, .int 0])), (y 30, aT V 4 (va_up (va_up (va_up (va_up (fun _ => none) 0 (some (y 33))) 1 (some (y 35))) 2 (some (y 37))) 3 (some (y 39)))), (y 33, .inr (7, [.ref (y 34), .int (-1), .int 0])), (y 35, .inr (7, [.ref (y 36), .int (-1), .int 0])), (y 37, .inr (7, [.ref (y 38), .int (-1), .int 0])), (y 39, .inr (7, [.ref (y 40), .int (-1), .int 0]))] := hD
      refine lv_if_eq (tgt := 31) hx hb dX9_write_24 (by decide) (fun c_18 => absurd c_18 (by decide)) (fun _ => ?_)
      refine lv_ldc2 (v := (-6)) hx hb hown (hg _ q_5_188) dX9_write_27 ?_
      exact fiL hx hb hr hlk hK hP hD hS dX9_write_30 (Nat.le_of_ble_eq_true rfl) (Nat.le_of_ble_eq_true rfl) (Or.inr (Or.inr (Or.inr (Or.inr (Or.inr (⟨c_5, c_6, rfl, rfl, rfl⟩))))))
theorem dX10_lists_0 : decode cX10_lists 0 = .ok (.aload_n 0, 1) := by decide +kernel
theorem dX10_lists_1 : decode cX10_lists 1 = .ok (.iconst 0, 1) := by decide +kernel
theorem dX10_lists_2 : decode cX10_lists 2 = .ok (.putfield 1, 3) := by decide +kernel
theorem dX10_lists_5 : decode cX10_lists 5 = .ok (.iload_n 1, 1) := by decide +kernel
theorem dX10_lists_6 : decode cX10_lists 6 = .ok (.i2l, 1) := by decide +kernel
theorem dX10_lists_7 : decode cX10_lists 7 = .ok (.lconst 0, 1) := by decide +kernel
theorem dX10_lists_8 : decode cX10_lists 8 = .ok (.ldc2_w 315, 3) := by decide +kernel
theorem dX10_lists_11 : decode cX10_lists 11 = .ok (.invokestatic 159, 3) := by decide +kernel
theorem dX10_lists_14 : decode cX10_lists 14 = .ok (.ifCond .eq 12, 3) := by decide +kernel
theorem dX10_lists_26 : decode cX10_lists 26 = .ok (.bipush (-2), 2) := by decide +kernel
theorem dX10_lists_28 : decode cX10_lists 28 = .ok (.ireturn, 1) := by decide +kernel
theorem dX10_lists_17 : decode cX10_lists 17 = .ok (.aload_n 0, 1) := by decide +kernel
theorem dX10_lists_18 : decode cX10_lists 18 = .ok (.iload_n 2, 1) := by decide +kernel
theorem dX10_lists_19 : decode cX10_lists 19 = .ok (.i2l, 1) := by decide +kernel
theorem dX10_lists_20 : decode cX10_lists 20 = .ok (.invokevirtual 262, 3) := by decide +kernel
theorem dX10_lists_23 : decode cX10_lists 23 = .ok (.ifCond .ne 6, 3) := by decide +kernel
set_option maxHeartbeats 4000000 in
set_option maxRecDepth 100000 in
theorem c_X10_lists_0 (l : Launch) (V : GV) (z : Nat → Nat) (p0 : Int32) (p1 : Int32) : Ct l V yX10_lists (.code yX10_lists cX10_lists 6 (some .int)) 3 [.ref (z 0), .int p0, .int p1] [(z 0, .inr (10, mo z 0 0 0 0 0 0 0 0 0 0 (-1) 0 0 0 0 0)), (z 1, aI V 3075 (fun _ => 0))] 0 0 (QI V (fun (r : Int32) (w : va_W) => (r = (-2) ∧ w = [(z 0, .inr (10, mo z 0 0 0 0 0 0 0 0 0 0 (-1) 0 0 0 0 0)), (z 1, aI V 3075 (fun _ => 0))]))) := by
  refine Ct.of (by decide) (Nat.le_of_ble_eq_true rfl) (fun p e s m below meth c A ls hx hb hr hml hown hlk hnm hg hP hK hD hE hA hS hl => ?_)
  have hl : lv_has ls 6 [(0, .ref (z 0)), (1, .int p0), (2, .int p1)] := hl
  refine lv_aload_n hx hb dX10_lists_0 rfl (lv_at hl 0 rfl) ?_
  refine lv_iconst (v := 0) hx hb dX10_lists_1 (by decide) ?_
  refine va_put (ci := 10) (v := .int 0) (ty := .int) (C := RX10) (T := TX10) (N := 40) hx hb hg inX10 tyX10 tyX10_ok nmX10 hown hK hP hD hS 0 rfl rfl 0 (by decide) (hg _ q_5_224) (fun _ h9 => h9) rfl (by decide +kernel) rfl rfl (Nat.le_of_ble_eq_true rfl) dX10_lists_2 (fun H locs hP hD hS => ?_)
  have hP : va_P V.1 vwCl [(z 0, .inr (10, mo z 0 0 0 0 0 0 0 0 0 0 (-1) 0 0 0 0 0)), (z 1, aI V 3075 (fun _ => 0))] H := hP
  have hD : va_D A [(z 0, .inr (10, mo z 0 0 0 0 0 0 0 0 0 0 (-1) 0 0 0 0 0)), (z 1, aI V 3075 (fun _ => 0))] := hD
  refine lv_iload_n hx hb dX10_lists_5 rfl (lv_at hl 1 rfl) ?_
  refine lv_i2l (v := p0.toInt64) hx hb dX10_lists_6 rfl ?_
  refine lv_lconst (v := 0) hx hb dX10_lists_7 (by decide) ?_
  refine lv_ldc2 (v := 3) hx hb hown (hg _ q_7_107) dX10_lists_8 ?_
  refine jnI (wr := [(z 0, .inr (10, mo z 0 0 0 0 0 0 0 0 0 0 (-1) 0 0 0 0 0)), (z 1, aI V 3075 (fun _ => 0))]) (rnS (rest := []) ⟨hx, hb, hml, hown, hg⟩ (c_X10_within_0 l V p0.toInt64 0 3) mt_X10_within q_6_114 ⟨Nat.le_of_ble_eq_true rfl, Nat.le_of_ble_eq_true rfl⟩ hK hP hD hS hA hE [] rfl rfl rfl hl.1 rfl (Nat.le_of_ble_eq_true rfl) dX10_lists_11 ⟨Nat.le_of_ble_eq_true rfl, Nat.le_of_ble_eq_true rfl⟩) hP hD hS hA [] [0, 1] rfl rfl rfl (by decide) (fun r_1 w H locs hw hP hD hS => ?_)
  rcases hw with ⟨c_2, rfl, rfl⟩ | ⟨c_3, c_4, rfl, rfl⟩ | ⟨c_5, c_6, rfl, rfl⟩
  · have hP : va_P V.1 vwCl [(z 0, .inr (10, mo z 0 0 0 0 0 0 0 0 0 0 (-1) 0 0 0 0 0)), (z 1, aI V 3075 (fun _ => 0))] H := hP
    have hD : va_D A [(z 0, .inr (10, mo z 0 0 0 0 0 0 0 0 0 0 (-1) 0 0 0 0 0)), (z 1, aI V 3075 (fun _ => 0))] := hD
    refine lv_if_eq (tgt := 26) hx hb dX10_lists_14 (by decide) (fun _ => ?_) (fun c_7 => absurd c_7 (by decide))
    refine lv_bipush (v := (-2)) hx hb dX10_lists_26 (by decide) ?_
    exact fiI hx hb hr hlk hK hP hD hS dX10_lists_28 (Nat.le_of_ble_eq_true rfl) (Nat.le_of_ble_eq_true rfl) (⟨rfl, rfl⟩)
  · have hP : va_P V.1 vwCl [(z 0, .inr (10, mo z 0 0 0 0 0 0 0 0 0 0 (-1) 0 0 0 0 0)), (z 1, aI V 3075 (fun _ => 0))] H := hP
    have hD : va_D A [(z 0, .inr (10, mo z 0 0 0 0 0 0 0 0 0 0 (-1) 0 0 0 0 0)), (z 1, aI V 3075 (fun _ => 0))] := hD
    refine lv_if_eq (tgt := 26) hx hb dX10_lists_14 (by decide) (fun _ => ?_) (fun c_8 => absurd c_8 (by decide))
    refine lv_bipush (v := (-2)) hx hb dX10_lists_26 (by decide) ?_
    exact fiI hx hb hr hlk hK hP hD hS dX10_lists_28 (Nat.le_of_ble_eq_true rfl) (Nat.le_of_ble_eq_true rfl) (⟨rfl, rfl⟩)
  · have hP : va_P V.1 vwCl [(z 0, .inr (10, mo z 0 0 0 0 0 0 0 0 0 0 (-1) 0 0 0 0 0)), (z 1, aI V 3075 (fun _ => 0))] H := hP
    have hD : va_D A [(z 0, .inr (10, mo z 0 0 0 0 0 0 0 0 0 0 (-1) 0 0 0 0 0)), (z 1, aI V 3075 (fun _ => 0))] := hD
    refine lv_if_eq (tgt := 26) hx hb dX10_lists_14 (by decide) (fun c_9 => absurd c_9 (by decide)) (fun _ => ?_)
    refine lv_aload_n hx hb dX10_lists_17 rfl (lv_at hl 0 rfl) ?_
    refine lv_iload_n hx hb dX10_lists_18 rfl (lv_at hl 2 rfl) ?_
    refine lv_i2l (v := p1.toInt64) hx hb dX10_lists_19 rfl ?_
    refine jnI (wr := []) (rnV (rest := []) ⟨hx, hb, hml, hown, hg⟩ (c_X10_isHill_0 l V z p1.toInt64) mt_X10_isHill q_6_235 ⟨Nat.le_of_ble_eq_true rfl, Nat.le_of_ble_eq_true rfl⟩ hK hP hD hS hA hE [0, 1] rfl rfl 0 rfl rfl rfl rfl hl.1 rfl (Nat.le_of_ble_eq_true rfl) dX10_lists_20 ⟨Nat.le_of_ble_eq_true rfl, Nat.le_of_ble_eq_true rfl⟩) hP hD hS hA [0, 1] [] rfl rfl rfl (by decide) (fun r_10 w H locs hw hP hD hS => ?_)
    obtain ⟨rfl, rfl⟩ := hw
    have hP : va_P V.1 vwCl [(z 0, .inr (10, mo z 0 0 0 0 0 0 0 0 0 0 (-1) 0 0 0 0 0)), (z 1, aI V 3075 (fun _ => 0))] H := hP
    have hD : va_D A [(z 0, .inr (10, mo z 0 0 0 0 0 0 0 0 0 0 (-1) 0 0 0 0 0)), (z 1, aI V 3075 (fun _ => 0))] := hD
    refine lv_if_ne (tgt := 29) hx hb dX10_lists_23 (by decide) (fun c_11 => absurd c_11 (by decide)) (fun _ => ?_)
    refine lv_bipush (v := (-2)) hx hb dX10_lists_26 (by decide) ?_
    exact fiI hx hb hr hlk hK hP hD hS dX10_lists_28 (Nat.le_of_ble_eq_true rfl) (Nat.le_of_ble_eq_true rfl) (⟨rfl, rfl⟩)
theorem dX9_lists_0 : decode cX9_lists 0 = .ok (.iload_n 1, 1) := by decide +kernel
theorem dX9_lists_1 : decode cX9_lists 1 = .ok (.invokestatic 205, 3) := by decide +kernel
theorem dX9_lists_4 : decode cX9_lists 4 = .ok (.ifCond .eq 11, 3) := by decide +kernel
theorem dX9_lists_15 : decode cX9_lists 15 = .ok (.bipush (-2), 2) := by decide +kernel
theorem dX9_lists_17 : decode cX9_lists 17 = .ok (.ireturn, 1) := by decide +kernel
theorem dX9_lists_7 : decode cX9_lists 7 = .ok (.aload_n 0, 1) := by decide +kernel
theorem dX9_lists_8 : decode cX9_lists 8 = .ok (.iload_n 2, 1) := by decide +kernel
theorem dX9_lists_9 : decode cX9_lists 9 = .ok (.invokevirtual 128, 3) := by decide +kernel
theorem dX9_lists_12 : decode cX9_lists 12 = .ok (.ifCond .ne 6, 3) := by decide +kernel
set_option maxHeartbeats 4000000 in
set_option maxRecDepth 100000 in
theorem c_X9_lists_0 (l : Launch) (V : GV) (y : Nat → Nat) (p0 : Int32) (p1 : Int32) : Ct l V yX9_lists (.code yX9_lists cX9_lists 6 (some .int)) 2 [.ref (y 0), .int p0, .int p1] [(y 0, .inr (9, [.ref (y 1), .int 0, .ref (y 2), .ref (y 10), .ref (y 19), .ref (y 25), .ref (y 26), .ref (y 30), .ref (y 31), .ref (y 32), .null, .null, .int 0, .int 0, .int 0])), (y 2, .inr (1, [.int 0, .int 0, .int 0, .int 0, .int 0, .int 0, .ref (y 3), .ref (y 4), .ref (y 5), .ref (y 6), .ref (y 7), .ref (y 8), .ref (y 9), .int 0, .int 0, .int 0, .int 0, .int 0]))] 0 0 (QI V (fun (r : Int32) (w : va_W) => (r = (-2) ∧ w = [(y 0, .inr (9, [.ref (y 1), .int 0, .ref (y 2), .ref (y 10), .ref (y 19), .ref (y 25), .ref (y 26), .ref (y 30), .ref (y 31), .ref (y 32), .null, .null, .int 0, .int 0, .int 0])), (y 2, .inr (1, [.int 0, .int 0, .int 0, .int 0, .int 0, .int 0, .ref (y 3), .ref (y 4), .ref (y 5), .ref (y 6), .ref (y 7), .ref (y 8), .ref (y 9), .int 0, .int 0, .int 0, .int 0, .int 0]))]))) := by
  refine Ct.of (by decide) (Nat.le_of_ble_eq_true rfl) (fun p e s m below meth c A ls hx hb hr hml hown hlk hnm hg hP hK hD hE hA hS hl => ?_)
  have hl : lv_has ls 6 [(0, .ref (y 0)), (1, .int p0), (2, .int p1)] := hl
  refine lv_iload_n hx hb dX9_lists_0 rfl (lv_at hl 1 rfl) ?_
  refine jnI (wr := [(y 0, .inr (9, [.ref (y 1), .int 0, .ref (y 2), .ref (y 10), .ref (y 19), .ref (y 25), .ref (y 26), .ref (y 30), .ref (y 31), .ref (y 32), .null, .null, .int 0, .int 0, .int 0])), (y 2, .inr (1, [.int 0, .int 0, .int 0, .int 0, .int 0, .int 0, .ref (y 3), .ref (y 4), .ref (y 5), .ref (y 6), .ref (y 7), .ref (y 8), .ref (y 9), .int 0, .int 0, .int 0, .int 0, .int 0]))]) (rnS (rest := []) ⟨hx, hb, hml, hown, hg⟩ (c_X9_isTray_0 l V p0) mt_X9_isTray q_3_228 ⟨Nat.le_of_ble_eq_true rfl, Nat.le_of_ble_eq_true rfl⟩ hK hP hD hS hA hE [] rfl rfl rfl hl.1 rfl (Nat.le_of_ble_eq_true rfl) dX9_lists_1 ⟨Nat.le_of_ble_eq_true rfl, Nat.le_of_ble_eq_true rfl⟩) hP hD hS hA [] [0, 1] rfl rfl rfl (by decide) (fun r_1 w H locs hw hP hD hS => ?_)
  rcases hw with ⟨c_2, rfl, rfl⟩ | ⟨c_3, c_4, rfl, rfl⟩ | ⟨c_5, c_6, rfl, rfl⟩
  · have hP : va_P V.1 vwCl [(y 0, .inr (9, [.ref (y 1), .int 0, .ref (y 2), .ref (y 10), .ref (y 19), .ref (y 25), .ref (y 26), .ref (y 30), .ref (y 31), .ref (y 32), .null, .null, .int 0, .int 0, .int 0])), (y 2, .inr (1, [.int 0, .int 0, .int 0, .int 0, .int 0, .int 0, .ref (y 3), .ref (y 4), .ref (y 5), .ref (y 6), .ref (y 7), .ref (y 8), .ref (y 9), .int 0, .int 0, .int 0, .int 0, .int 0]))] H := hP
    have hD : va_D A [(y 0, .inr (9, [.ref (y 1), .int 0, .ref (y 2), .ref (y 10), .ref (y 19), .ref (y 25), .ref (y 26), .ref (y 30), .ref (y 31), .ref (y 32), .null, .null, .int 0, .int 0, .int 0])), (y 2, .inr (1, [.int 0, .int 0, .int 0, .int 0, .int 0, .int 0, .ref (y 3), .ref (y 4), .ref (y 5), .ref (y 6), .ref (y 7), .ref (y 8), .ref (y 9), .int 0, .int 0, .int 0, .int 0, .int 0]))] := hD
    refine lv_if_eq (tgt := 15) hx hb dX9_lists_4 (by decide) (fun _ => ?_) (fun c_7 => absurd c_7 (by decide))
    refine lv_bipush (v := (-2)) hx hb dX9_lists_15 (by decide) ?_
    exact fiI hx hb hr hlk hK hP hD hS dX9_lists_17 (Nat.le_of_ble_eq_true rfl) (Nat.le_of_ble_eq_true rfl) (⟨rfl, rfl⟩)
  · have hP : va_P V.1 vwCl [(y 0, .inr (9, [.ref (y 1), .int 0, .ref (y 2), .ref (y 10), .ref (y 19), .ref (y 25), .ref (y 26), .ref (y 30), .ref (y 31), .ref (y 32), .null, .null, .int 0, .int 0, .int 0])), (y 2, .inr (1, [.int 0, .int 0, .int 0, .int 0, .int 0, .int 0, .ref (y 3), .ref (y 4), .ref (y 5), .ref (y 6), .ref (y 7), .ref (y 8), .ref (y 9), .int 0, .int 0, .int 0, .int 0, .int 0]))] H := hP
    have hD : va_D A [(y 0, .inr (9, [.ref (y 1), .int 0, .ref (y 2), .ref (y 10), .ref (y 19), .ref (y 25), .ref (y 26), .ref (y 30), .ref (y 31), .ref (y 32), .null, .null, .int 0, .int 0, .int 0])), (y 2, .inr (1, [.int 0, .int 0, .int 0, .int 0, .int 0, .int 0, .ref (y 3), .ref (y 4), .ref (y 5), .ref (y 6), .ref (y 7), .ref (y 8), .ref (y 9), .int 0, .int 0, .int 0, .int 0, .int 0]))] := hD
    refine lv_if_eq (tgt := 15) hx hb dX9_lists_4 (by decide) (fun _ => ?_) (fun c_8 => absurd c_8 (by decide))
    refine lv_bipush (v := (-2)) hx hb dX9_lists_15 (by decide) ?_
    exact fiI hx hb hr hlk hK hP hD hS dX9_lists_17 (Nat.le_of_ble_eq_true rfl) (Nat.le_of_ble_eq_true rfl) (⟨rfl, rfl⟩)
  · have hP : va_P V.1 vwCl [(y 0, .inr (9, [.ref (y 1), .int 0, .ref (y 2), .ref (y 10), .ref (y 19), .ref (y 25), .ref (y 26), .ref (y 30), .ref (y 31), .ref (y 32), .null, .null, .int 0, .int 0, .int 0])), (y 2, .inr (1, [.int 0, .int 0, .int 0, .int 0, .int 0, .int 0, .ref (y 3), .ref (y 4), .ref (y 5), .ref (y 6), .ref (y 7), .ref (y 8), .ref (y 9), .int 0, .int 0, .int 0, .int 0, .int 0]))] H := hP
    have hD : va_D A [(y 0, .inr (9, [.ref (y 1), .int 0, .ref (y 2), .ref (y 10), .ref (y 19), .ref (y 25), .ref (y 26), .ref (y 30), .ref (y 31), .ref (y 32), .null, .null, .int 0, .int 0, .int 0])), (y 2, .inr (1, [.int 0, .int 0, .int 0, .int 0, .int 0, .int 0, .ref (y 3), .ref (y 4), .ref (y 5), .ref (y 6), .ref (y 7), .ref (y 8), .ref (y 9), .int 0, .int 0, .int 0, .int 0, .int 0]))] := hD
    refine lv_if_eq (tgt := 15) hx hb dX9_lists_4 (by decide) (fun c_9 => absurd c_9 (by decide)) (fun _ => ?_)
    refine lv_aload_n hx hb dX9_lists_7 rfl (lv_at hl 0 rfl) ?_
    refine lv_iload_n hx hb dX9_lists_8 rfl (lv_at hl 2 rfl) ?_
    refine jnI (wr := []) (rnV (rest := []) ⟨hx, hb, hml, hown, hg⟩ (c_X9_isHill_0 l V y p1) mt_X9_isHill q_3_122 ⟨Nat.le_of_ble_eq_true rfl, Nat.le_of_ble_eq_true rfl⟩ hK hP hD hS hA hE [0, 1] rfl rfl 0 rfl rfl rfl rfl hl.1 rfl (Nat.le_of_ble_eq_true rfl) dX9_lists_9 ⟨Nat.le_of_ble_eq_true rfl, Nat.le_of_ble_eq_true rfl⟩) hP hD hS hA [0, 1] [] rfl rfl rfl (by decide) (fun r_10 w H locs hw hP hD hS => ?_)
    obtain ⟨rfl, rfl⟩ := hw
    have hP : va_P V.1 vwCl [(y 0, .inr (9, [.ref (y 1), .int 0, .ref (y 2), .ref (y 10), .ref (y 19), .ref (y 25), .ref (y 26), .ref (y 30), .ref (y 31), .ref (y 32), .null, .null, .int 0, .int 0, .int 0])), (y 2, .inr (1, [.int 0, .int 0, .int 0, .int 0, .int 0, .int 0, .ref (y 3), .ref (y 4), .ref (y 5), .ref (y 6), .ref (y 7), .ref (y 8), .ref (y 9), .int 0, .int 0, .int 0, .int 0, .int 0]))] H := hP
    have hD : va_D A [(y 0, .inr (9, [.ref (y 1), .int 0, .ref (y 2), .ref (y 10), .ref (y 19), .ref (y 25), .ref (y 26), .ref (y 30), .ref (y 31), .ref (y 32), .null, .null, .int 0, .int 0, .int 0])), (y 2, .inr (1, [.int 0, .int 0, .int 0, .int 0, .int 0, .int 0, .ref (y 3), .ref (y 4), .ref (y 5), .ref (y 6), .ref (y 7), .ref (y 8), .ref (y 9), .int 0, .int 0, .int 0, .int 0, .int 0]))] := hD
    refine lv_if_ne (tgt := 18) hx hb dX9_lists_12 (by decide) (fun c_11 => absurd c_11 (by decide)) (fun _ => ?_)
    refine lv_bipush (v := (-2)) hx hb dX9_lists_15 (by decide) ?_
    exact fiI hx hb hr hlk hK hP hD hS dX9_lists_17 (Nat.le_of_ble_eq_true rfl) (Nat.le_of_ble_eq_true rfl) (⟨rfl, rfl⟩)
theorem dX10_image_0 : decode cX10_image 0 = .ok (.aload_n 0, 1) := by decide +kernel
theorem dX10_image_1 : decode cX10_image 1 = .ok (.iconst 0, 1) := by decide +kernel
theorem dX10_image_2 : decode cX10_image 2 = .ok (.putfield 1, 3) := by decide +kernel
theorem dX10_image_5 : decode cX10_image 5 = .ok (.iload_n 1, 1) := by decide +kernel
theorem dX10_image_6 : decode cX10_image 6 = .ok (.i2l, 1) := by decide +kernel
theorem dX10_image_7 : decode cX10_image 7 = .ok (.lconst 0, 1) := by decide +kernel
theorem dX10_image_8 : decode cX10_image 8 = .ok (.lconst 1, 1) := by decide +kernel
theorem dX10_image_9 : decode cX10_image 9 = .ok (.invokestatic 159, 3) := by decide +kernel
theorem dX10_image_12 : decode cX10_image 12 = .ok (.ifCond .ne 6, 3) := by decide +kernel
theorem dX10_image_15 : decode cX10_image 15 = .ok (.bipush (-2), 2) := by decide +kernel
theorem dX10_image_17 : decode cX10_image 17 = .ok (.ireturn, 1) := by decide +kernel
theorem dX10_image_18 : decode cX10_image 18 = .ok (.iconst 0, 1) := by decide +kernel
theorem dX10_image_19 : decode cX10_image 19 = .ok (.istore_n 2, 1) := by decide +kernel
theorem dX10_image_20 : decode cX10_image 20 = .ok (.iload_n 2, 1) := by decide +kernel
theorem dX10_image_21 : decode cX10_image 21 = .ok (.sipush 1025, 3) := by decide +kernel
theorem dX10_image_24 : decode cX10_image 24 = .ok (.if_icmp .ge 29, 3) := by decide +kernel
theorem dX10_image_53 : decode cX10_image 53 = .ok (.aload_n 0, 1) := by decide +kernel
theorem dX10_image_54 : decode cX10_image 54 = .ok (.getfield 17, 3) := by decide +kernel
theorem dX10_image_57 : decode cX10_image 57 = .ok (.iload_n 1, 1) := by decide +kernel
theorem dX10_image_58 : decode cX10_image 58 = .ok (.iconst 1, 1) := by decide +kernel
theorem dX10_image_59 : decode cX10_image 59 = .ok (.bastore, 1) := by decide +kernel
theorem dX10_image_60 : decode cX10_image 60 = .ok (.iconst 0, 1) := by decide +kernel
theorem dX10_image_61 : decode cX10_image 61 = .ok (.ireturn, 1) := by decide +kernel
theorem dX10_image_27 : decode cX10_image 27 = .ok (.aload_n 0, 1) := by decide +kernel
theorem dX10_image_28 : decode cX10_image 28 = .ok (.getfield 13, 3) := by decide +kernel
theorem dX10_image_31 : decode cX10_image 31 = .ok (.sipush 1025, 3) := by decide +kernel
theorem dX10_image_34 : decode cX10_image 34 = .ok (.iload_n 1, 1) := by decide +kernel
theorem dX10_image_35 : decode cX10_image 35 = .ok (.iconst 1, 1) := by decide +kernel
theorem dX10_image_36 : decode cX10_image 36 = .ok (.iadd, 1) := by decide +kernel
theorem dX10_image_37 : decode cX10_image 37 = .ok (.imul, 1) := by decide +kernel
theorem dX10_image_38 : decode cX10_image 38 = .ok (.iload_n 2, 1) := by decide +kernel
theorem dX10_image_39 : decode cX10_image 39 = .ok (.iadd, 1) := by decide +kernel
theorem dX10_image_40 : decode cX10_image 40 = .ok (.aload_n 0, 1) := by decide +kernel
theorem dX10_image_41 : decode cX10_image 41 = .ok (.getfield 13, 3) := by decide +kernel
theorem dX10_image_44 : decode cX10_image 44 = .ok (.iload_n 2, 1) := by decide +kernel
theorem dX10_image_45 : decode cX10_image 45 = .ok (.iaload, 1) := by decide +kernel
theorem dX10_image_46 : decode cX10_image 46 = .ok (.iastore, 1) := by decide +kernel
theorem dX10_image_47 : decode cX10_image 47 = .ok (.iinc 2 1, 3) := by decide +kernel
theorem dX10_image_50 : decode cX10_image 50 = .ok (.goto (-30), 3) := by decide +kernel
set_option maxHeartbeats 4000000 in
set_option maxRecDepth 100000 in
theorem c_X10_image_0 (l : Launch) (V : GV) (z : Nat → Nat) (p0 : Int32) : Ct l V yX10_image (.code yX10_image cX10_image 3 (some .int)) 2 [.ref (z 0), .int p0] [(z 0, .inr (10, mo z 0 0 0 0 0 0 0 0 0 0 (-1) 0 0 0 0 0)), (z 2, aZ V 2 (fun _ => 0)), (z 1, aI V 3075 (fun _ => 0))] 0 0 (QI V (fun (r : Int32) (w : va_W) => (p0.toInt64 < 0 ∧ r = (-2) ∧ w = [(z 0, .inr (10, mo z 0 0 0 0 0 0 0 0 0 0 (-1) 0 0 0 0 0)), (z 2, aZ V 2 (fun _ => 0)), (z 1, aI V 3075 (fun _ => 0))]) ∨ ((¬ p0.toInt64 < 0) ∧ 1 < p0.toInt64 ∧ r = (-2) ∧ w = [(z 0, .inr (10, mo z 0 0 0 0 0 0 0 0 0 0 (-1) 0 0 0 0 0)), (z 2, aZ V 2 (fun _ => 0)), (z 1, aI V 3075 (fun _ => 0))]) ∨ ((¬ p0.toInt64 < 0) ∧ (¬ 1 < p0.toInt64) ∧ p0 = 0 ∧ r = 0 ∧ w = [(z 0, .inr (10, mo z 0 0 0 0 0 0 0 0 0 0 (-1) 0 0 0 0 0)), (z 2, aZ V 2 (upd (fun _ => 0) 0 1)), (z 1, aI V 3075 (fun _ => 0))]) ∨ ((¬ p0.toInt64 < 0) ∧ (¬ 1 < p0.toInt64) ∧ p0 = 1 ∧ r = 0 ∧ w = [(z 0, .inr (10, mo z 0 0 0 0 0 0 0 0 0 0 (-1) 0 0 0 0 0)), (z 2, aZ V 2 (upd (fun _ => 0) 1 1)), (z 1, aI V 3075 (fun _ => 0))]))) := by
  refine Ct.of (by decide) (Nat.le_of_ble_eq_true rfl) (fun p e s m below meth c A ls hx hb hr hml hown hlk hnm hg hP hK hD hE hA hS hl => ?_)
  have hl : lv_has ls 3 [(0, .ref (z 0)), (1, .int p0)] := hl
  refine lv_aload_n hx hb dX10_image_0 rfl (lv_at hl 0 rfl) ?_
  refine lv_iconst (v := 0) hx hb dX10_image_1 (by decide) ?_
  refine va_put (ci := 10) (v := .int 0) (ty := .int) (C := RX10) (T := TX10) (N := 40) hx hb hg inX10 tyX10 tyX10_ok nmX10 hown hK hP hD hS 0 rfl rfl 0 (by decide) (hg _ q_5_224) (fun _ h9 => h9) rfl (by decide +kernel) rfl rfl (Nat.le_of_ble_eq_true rfl) dX10_image_2 (fun H locs hP hD hS => ?_)
  have hP : va_P V.1 vwCl [(z 0, .inr (10, mo z 0 0 0 0 0 0 0 0 0 0 (-1) 0 0 0 0 0)), (z 2, aZ V 2 (fun _ => 0)), (z 1, aI V 3075 (fun _ => 0))] H := hP
  have hD : va_D A [(z 0, .inr (10, mo z 0 0 0 0 0 0 0 0 0 0 (-1) 0 0 0 0 0)), (z 2, aZ V 2 (fun _ => 0)), (z 1, aI V 3075 (fun _ => 0))] := hD
  refine lv_iload_n hx hb dX10_image_5 rfl (lv_at hl 1 rfl) ?_
  refine lv_i2l (v := p0.toInt64) hx hb dX10_image_6 rfl ?_
  refine lv_lconst (v := 0) hx hb dX10_image_7 (by decide) ?_
  refine lv_lconst (v := 1) hx hb dX10_image_8 (by decide) ?_
  refine jnI (wr := [(z 0, .inr (10, mo z 0 0 0 0 0 0 0 0 0 0 (-1) 0 0 0 0 0)), (z 2, aZ V 2 (fun _ => 0)), (z 1, aI V 3075 (fun _ => 0))]) (rnS (rest := []) ⟨hx, hb, hml, hown, hg⟩ (c_X10_within_0 l V p0.toInt64 0 1) mt_X10_within q_6_114 ⟨Nat.le_of_ble_eq_true rfl, Nat.le_of_ble_eq_true rfl⟩ hK hP hD hS hA hE [] rfl rfl rfl hl.1 rfl (Nat.le_of_ble_eq_true rfl) dX10_image_9 ⟨Nat.le_of_ble_eq_true rfl, Nat.le_of_ble_eq_true rfl⟩) hP hD hS hA [] [0, 1, 2] rfl rfl rfl (by decide) (fun r_1 w H locs hw hP hD hS => ?_)
  rcases hw with ⟨c_2, rfl, rfl⟩ | ⟨c_3, c_4, rfl, rfl⟩ | ⟨c_5, c_6, rfl, rfl⟩
  · have hP : va_P V.1 vwCl [(z 0, .inr (10, mo z 0 0 0 0 0 0 0 0 0 0 (-1) 0 0 0 0 0)), (z 2, aZ V 2 (fun _ => 0)), (z 1, aI V 3075 (fun _ => 0))] H := hP
    have hD : va_D A [(z 0, .inr (10, mo z 0 0 0 0 0 0 0 0 0 0 (-1) 0 0 0 0 0)), (z 2, aZ V 2 (fun _ => 0)), (z 1, aI V 3075 (fun _ => 0))] := hD
    refine lv_if_ne (tgt := 18) hx hb dX10_image_12 (by decide) (fun c_7 => absurd c_7 (by decide)) (fun _ => ?_)
    refine lv_bipush (v := (-2)) hx hb dX10_image_15 (by decide) ?_
    exact fiI hx hb hr hlk hK hP hD hS dX10_image_17 (Nat.le_of_ble_eq_true rfl) (Nat.le_of_ble_eq_true rfl) (Or.inl ⟨c_2, rfl, rfl⟩)
  · have hP : va_P V.1 vwCl [(z 0, .inr (10, mo z 0 0 0 0 0 0 0 0 0 0 (-1) 0 0 0 0 0)), (z 2, aZ V 2 (fun _ => 0)), (z 1, aI V 3075 (fun _ => 0))] H := hP
    have hD : va_D A [(z 0, .inr (10, mo z 0 0 0 0 0 0 0 0 0 0 (-1) 0 0 0 0 0)), (z 2, aZ V 2 (fun _ => 0)), (z 1, aI V 3075 (fun _ => 0))] := hD
    refine lv_if_ne (tgt := 18) hx hb dX10_image_12 (by decide) (fun c_8 => absurd c_8 (by decide)) (fun _ => ?_)
    refine lv_bipush (v := (-2)) hx hb dX10_image_15 (by decide) ?_
    exact fiI hx hb hr hlk hK hP hD hS dX10_image_17 (Nat.le_of_ble_eq_true rfl) (Nat.le_of_ble_eq_true rfl) (Or.inr (Or.inl ⟨c_3, c_4, rfl, rfl⟩))
  · have hP : va_P V.1 vwCl [(z 0, .inr (10, mo z 0 0 0 0 0 0 0 0 0 0 (-1) 0 0 0 0 0)), (z 2, aZ V 2 (fun _ => 0)), (z 1, aI V 3075 (fun _ => 0))] H := hP
    have hD : va_D A [(z 0, .inr (10, mo z 0 0 0 0 0 0 0 0 0 0 (-1) 0 0 0 0 0)), (z 2, aZ V 2 (fun _ => 0)), (z 1, aI V 3075 (fun _ => 0))] := hD
    refine lv_if_ne (tgt := 18) hx hb dX10_image_12 (by decide) (fun _ => ?_) (fun c_9 => absurd c_9 (by decide))
    refine lv_iconst (v := 0) hx hb dX10_image_18 (by decide) ?_
    refine lv_istore_n (lv' := [(2, .int 0), (0, .ref (z 0)), (1, .int p0)]) hx hb dX10_image_19 rfl hl (by decide) rfl (fun ls hl => ?_)
    have c_10 : p0 = 0 ∨ p0 = 1 := by simp only [tI_lt, tI_le, tI_eq, tL_lt, tL_le, tL_eq, tWx, (by decide : (0 : Int32).toInt = 0), (by decide : (0 : Int64).toInt = 0), (by decide : (1 : Int32).toInt = 1), (by decide : (1 : Int64).toInt = 1)] at c_5 c_6 ⊢; omega
    rcases c_10 with rfl | rfl
    · refine loopW 1025 (X := fun (i_11 : Nat) (H : Heap) (locs : List Loc) (ls : Array Slot) => 0 ≤ i_11 ∧ va_P V.1 vwCl [(z 0, .inr (10, mo z 0 0 0 0 0 0 0 0 0 0 (-1) 0 0 0 0 0)), (z 2, aZ V 2 (fun _ => 0)), (z 1, aI V 3075 (fun _ => 0))] H ∧ va_D A [(z 0, .inr (10, mo z 0 0 0 0 0 0 0 0 0 0 (-1) 0 0 0 0 0)), (z 2, aZ V 2 (fun _ => 0)), (z 1, aI V 3075 (fun _ => 0))] ∧ va_S A s.heap H locs ∧ lv_has ls 3 [(2, .int (nI i_11)), (0, .ref (z 0)), (1, .int 0)]) (g := fun ls => F0 m 20 ls []) (fun i_11 H locs ls hi_i_11 hX ih_i_11 => ?_) 0 (Nat.le_of_ble_eq_true rfl) ⟨Nat.le_refl _, hP, hD, hS, lv_sub hl [0, 1, 2] rfl⟩
      obtain ⟨hlo_i_11, hP, hD, hS, hl⟩ := hX
      refine lv_iload_n hx hb dX10_image_20 rfl (lv_at hl 0 rfl) ?_
      refine lv_sipush (v := 1025) hx hb dX10_image_21 (by decide) ?_
      refine lv_icmp_ge (tgt := 53) hx hb dX10_image_24 (by decide) (fun c_12 => ?_) (fun c_12 => ?_)
      · have e_13 : i_11 = 1025 := by have q9 := (nI_leI (a := 1025) (b := i_11) (by omega) (by omega)).mp c_12; omega
        rw [e_13] at hl
        have hl : lv_has ls 3 [(2, .int 1025), (0, .ref (z 0)), (1, .int 0)] := hl
        refine lv_aload_n hx hb dX10_image_53 rfl (lv_at hl 1 rfl) ?_
        refine va_get (ci := 10) (v := .ref (z 2)) (C := RX10) (T := TX10) (N := 40) hx hb hg inX10 hown hK hP 0 rfl rfl 2 (by decide) (hg _ q_5_226) (fun _ h9 => h9) rfl dX10_image_54 ?_
        refine lv_iload_n hx hb dX10_image_57 rfl (lv_at hl 2 rfl) ?_
        refine lv_iconst (v := 1) hx hb dX10_image_58 (by decide) ?_
        refine va_zast hx hb hK hP hD hS 1 3 rfl rfl (vin (by decide +kernel)) dX10_image_59 (fun H locs hP hD hS => ?_)
        have hP : va_P V.1 vwCl [(z 0, .inr (10, mo z 0 0 0 0 0 0 0 0 0 0 (-1) 0 0 0 0 0)), (z 2, aZ V 2 (upd (fun _ => 0) 0 1)), (z 1, aI V 3075 (fun _ => 0))] H := hP
        have hD : va_D A [(z 0, .inr (10, mo z 0 0 0 0 0 0 0 0 0 0 (-1) 0 0 0 0 0)), (z 2, aZ V 2 (upd (fun _ => 0) 0 1)), (z 1, aI V 3075 (fun _ => 0))] := hD
        refine lv_iconst (v := 0) hx hb dX10_image_60 (by decide) ?_
        exact fiI hx hb hr hlk hK hP hD hS dX10_image_61 (Nat.le_of_ble_eq_true rfl) (Nat.le_of_ble_eq_true rfl) (Or.inr (Or.inr (Or.inl ⟨c_5, c_6, rfl, rfl, rfl⟩)))
      · have e_13 : i_11 < 1025 := by rcases Nat.lt_or_ge i_11 1025 with q9 | q9; exact q9; exact absurd (nI_le q9 (by omega)) c_12
        refine lv_aload_n hx hb dX10_image_27 rfl (lv_at hl 1 rfl) ?_
        refine va_get (ci := 10) (v := .ref (z 1)) (C := RX10) (T := TX10) (N := 40) hx hb hg inX10 hown hK hP 0 rfl rfl 1 (by decide) (hg _ q_5_225) (fun _ h9 => h9) rfl dX10_image_28 ?_
        refine lv_sipush (v := 1025) hx hb dX10_image_31 (by decide) ?_
        refine lv_iload_n hx hb dX10_image_34 rfl (lv_at hl 2 rfl) ?_
        refine lv_iconst (v := 1) hx hb dX10_image_35 (by decide) ?_
        refine lv_iadd hx hb dX10_image_36 ?_
        refine tpi (y := 1) (by decide +kernel) ?_
        refine lv_imul hx hb dX10_image_37 ?_
        refine tpi (y := 1025) (by decide +kernel) ?_
        refine lv_iload_n hx hb dX10_image_38 rfl (lv_at hl 0 rfl) ?_
        refine lv_iadd hx hb dX10_image_39 ?_
        refine tpi (y := nI (1025 + i_11)) (nI_add 1025 i_11) ?_
        refine lv_aload_n hx hb dX10_image_40 rfl (lv_at hl 1 rfl) ?_
        refine va_get (ci := 10) (v := .ref (z 1)) (C := RX10) (T := TX10) (N := 40) hx hb hg inX10 hown hK hP 0 rfl rfl 1 (by decide) (hg _ q_5_225) (fun _ h9 => h9) rfl dX10_image_41 ?_
        refine lv_iload_n hx hb dX10_image_44 rfl (lv_at hl 0 rfl) ?_
        refine va_iald hx hb hK hP 2 0 rfl rfl (vp_in_nI (by omega) (by decide)) dX10_image_45 ?_
        refine tpi (y := 0) rfl ?_
        refine va_iast hx hb hK hP hD hS 2 0 rfl rfl (vp_in_nI (by omega) (by decide)) dX10_image_46 (fun H locs hP hD hS => ?_)
        have hP : va_P V.1 vwCl [(z 0, .inr (10, mo z 0 0 0 0 0 0 0 0 0 0 (-1) 0 0 0 0 0)), (z 2, aZ V 2 (fun _ => 0)), (z 1, aI V 3075 (upd (fun _ => 0) (nI (1025 + i_11)).toNatClampNeg 0))] H := hP
        have hD : va_D A [(z 0, .inr (10, mo z 0 0 0 0 0 0 0 0 0 0 (-1) 0 0 0 0 0)), (z 2, aZ V 2 (fun _ => 0)), (z 1, aI V 3075 (upd (fun _ => 0) (nI (1025 + i_11)).toNatClampNeg 0))] := hD
        have hP : va_P V.1 vwCl [(z 0, .inr (10, mo z 0 0 0 0 0 0 0 0 0 0 (-1) 0 0 0 0 0)), (z 2, aZ V 2 (fun _ => 0)), (z 1, aI V 3075 (fun _ => 0))] H := by rw [upd0] at hP; exact hP
        have hD : va_D A [(z 0, .inr (10, mo z 0 0 0 0 0 0 0 0 0 0 (-1) 0 0 0 0 0)), (z 2, aZ V 2 (fun _ => 0)), (z 1, aI V 3075 (fun _ => 0))] := by rw [upd0] at hD; exact hD
        refine lv_iinc (v := nI (i_11 + 1)) (lv' := [(2, .int (nI (i_11 + 1))), (0, .ref (z 0)), (1, .int 0)]) hx hb dX10_image_47 hl (k := 0) rfl (nI_add i_11 1) (by decide) rfl (fun ls hl => ?_)
        refine lv_goto (tgt := 20) hx hb dX10_image_50 (by decide) ?_
        exact ih_i_11 e_13 _ _ _ ⟨(by omega), hP, hD, hS, lv_sub hl [0, 1, 2] rfl⟩
    · refine loopW 1025 (X := fun (i_14 : Nat) (H : Heap) (locs : List Loc) (ls : Array Slot) => 0 ≤ i_14 ∧ va_P V.1 vwCl [(z 0, .inr (10, mo z 0 0 0 0 0 0 0 0 0 0 (-1) 0 0 0 0 0)), (z 2, aZ V 2 (fun _ => 0)), (z 1, aI V 3075 (fun _ => 0))] H ∧ va_D A [(z 0, .inr (10, mo z 0 0 0 0 0 0 0 0 0 0 (-1) 0 0 0 0 0)), (z 2, aZ V 2 (fun _ => 0)), (z 1, aI V 3075 (fun _ => 0))] ∧ va_S A s.heap H locs ∧ lv_has ls 3 [(2, .int (nI i_14)), (0, .ref (z 0)), (1, .int 1)]) (g := fun ls => F0 m 20 ls []) (fun i_14 H locs ls hi_i_14 hX ih_i_14 => ?_) 0 (Nat.le_of_ble_eq_true rfl) ⟨Nat.le_refl _, hP, hD, hS, lv_sub hl [0, 1, 2] rfl⟩
      obtain ⟨hlo_i_14, hP, hD, hS, hl⟩ := hX
      refine lv_iload_n hx hb dX10_image_20 rfl (lv_at hl 0 rfl) ?_
      refine lv_sipush (v := 1025) hx hb dX10_image_21 (by decide) ?_
      refine lv_icmp_ge (tgt := 53) hx hb dX10_image_24 (by decide) (fun c_15 => ?_) (fun c_15 => ?_)
      · have e_16 : i_14 = 1025 := by have q9 := (nI_leI (a := 1025) (b := i_14) (by omega) (by omega)).mp c_15; omega
        rw [e_16] at hl
        have hl : lv_has ls 3 [(2, .int 1025), (0, .ref (z 0)), (1, .int 1)] := hl
        refine lv_aload_n hx hb dX10_image_53 rfl (lv_at hl 1 rfl) ?_
        refine va_get (ci := 10) (v := .ref (z 2)) (C := RX10) (T := TX10) (N := 40) hx hb hg inX10 hown hK hP 0 rfl rfl 2 (by decide) (hg _ q_5_226) (fun _ h9 => h9) rfl dX10_image_54 ?_
        refine lv_iload_n hx hb dX10_image_57 rfl (lv_at hl 2 rfl) ?_
        refine lv_iconst (v := 1) hx hb dX10_image_58 (by decide) ?_
        refine va_zast hx hb hK hP hD hS 1 3 rfl rfl (vin (by decide +kernel)) dX10_image_59 (fun H locs hP hD hS => ?_)
        have hP : va_P V.1 vwCl [(z 0, .inr (10, mo z 0 0 0 0 0 0 0 0 0 0 (-1) 0 0 0 0 0)), (z 2, aZ V 2 (upd (fun _ => 0) 1 1)), (z 1, aI V 3075 (fun _ => 0))] H := hP
        have hD : va_D A [(z 0, .inr (10, mo z 0 0 0 0 0 0 0 0 0 0 (-1) 0 0 0 0 0)), (z 2, aZ V 2 (upd (fun _ => 0) 1 1)), (z 1, aI V 3075 (fun _ => 0))] := hD
        refine lv_iconst (v := 0) hx hb dX10_image_60 (by decide) ?_
        exact fiI hx hb hr hlk hK hP hD hS dX10_image_61 (Nat.le_of_ble_eq_true rfl) (Nat.le_of_ble_eq_true rfl) (Or.inr (Or.inr (Or.inr (⟨c_5, c_6, rfl, rfl, rfl⟩))))
      · have e_16 : i_14 < 1025 := by rcases Nat.lt_or_ge i_14 1025 with q9 | q9; exact q9; exact absurd (nI_le q9 (by omega)) c_15
        refine lv_aload_n hx hb dX10_image_27 rfl (lv_at hl 1 rfl) ?_
        refine va_get (ci := 10) (v := .ref (z 1)) (C := RX10) (T := TX10) (N := 40) hx hb hg inX10 hown hK hP 0 rfl rfl 1 (by decide) (hg _ q_5_225) (fun _ h9 => h9) rfl dX10_image_28 ?_
        refine lv_sipush (v := 1025) hx hb dX10_image_31 (by decide) ?_
        refine lv_iload_n hx hb dX10_image_34 rfl (lv_at hl 2 rfl) ?_
        refine lv_iconst (v := 1) hx hb dX10_image_35 (by decide) ?_
        refine lv_iadd hx hb dX10_image_36 ?_
        refine tpi (y := 2) (by decide +kernel) ?_
        refine lv_imul hx hb dX10_image_37 ?_
        refine tpi (y := 2050) (by decide +kernel) ?_
        refine lv_iload_n hx hb dX10_image_38 rfl (lv_at hl 0 rfl) ?_
        refine lv_iadd hx hb dX10_image_39 ?_
        refine tpi (y := nI (2050 + i_14)) (nI_add 2050 i_14) ?_
        refine lv_aload_n hx hb dX10_image_40 rfl (lv_at hl 1 rfl) ?_
        refine va_get (ci := 10) (v := .ref (z 1)) (C := RX10) (T := TX10) (N := 40) hx hb hg inX10 hown hK hP 0 rfl rfl 1 (by decide) (hg _ q_5_225) (fun _ h9 => h9) rfl dX10_image_41 ?_
        refine lv_iload_n hx hb dX10_image_44 rfl (lv_at hl 0 rfl) ?_
        refine va_iald hx hb hK hP 2 0 rfl rfl (vp_in_nI (by omega) (by decide)) dX10_image_45 ?_
        refine tpi (y := 0) rfl ?_
        refine va_iast hx hb hK hP hD hS 2 0 rfl rfl (vp_in_nI (by omega) (by decide)) dX10_image_46 (fun H locs hP hD hS => ?_)
        have hP : va_P V.1 vwCl [(z 0, .inr (10, mo z 0 0 0 0 0 0 0 0 0 0 (-1) 0 0 0 0 0)), (z 2, aZ V 2 (fun _ => 0)), (z 1, aI V 3075 (upd (fun _ => 0) (nI (2050 + i_14)).toNatClampNeg 0))] H := hP
        have hD : va_D A [(z 0, .inr (10, mo z 0 0 0 0 0 0 0 0 0 0 (-1) 0 0 0 0 0)), (z 2, aZ V 2 (fun _ => 0)), (z 1, aI V 3075 (upd (fun _ => 0) (nI (2050 + i_14)).toNatClampNeg 0))] := hD
        have hP : va_P V.1 vwCl [(z 0, .inr (10, mo z 0 0 0 0 0 0 0 0 0 0 (-1) 0 0 0 0 0)), (z 2, aZ V 2 (fun _ => 0)), (z 1, aI V 3075 (fun _ => 0))] H := by rw [upd0] at hP; exact hP
        have hD : va_D A [(z 0, .inr (10, mo z 0 0 0 0 0 0 0 0 0 0 (-1) 0 0 0 0 0)), (z 2, aZ V 2 (fun _ => 0)), (z 1, aI V 3075 (fun _ => 0))] := by rw [upd0] at hD; exact hD
        refine lv_iinc (v := nI (i_14 + 1)) (lv' := [(2, .int (nI (i_14 + 1))), (0, .ref (z 0)), (1, .int 1)]) hx hb dX10_image_47 hl (k := 0) rfl (nI_add i_14 1) (by decide) rfl (fun ls hl => ?_)
        refine lv_goto (tgt := 20) hx hb dX10_image_50 (by decide) ?_
        exact ih_i_14 e_16 _ _ _ ⟨(by omega), hP, hD, hS, lv_sub hl [0, 1, 2] rfl⟩
theorem dX9_isImage_0 : decode cX9_isImage 0 = .ok (.iload_n 0, 1) := by decide +kernel
theorem dX9_isImage_1 : decode cX9_isImage 1 = .ok (.ifCond .lt 12, 3) := by decide +kernel
theorem dX9_isImage_13 : decode cX9_isImage 13 = .ok (.iconst 0, 1) := by decide +kernel
theorem dX9_isImage_14 : decode cX9_isImage 14 = .ok (.ireturn, 1) := by decide +kernel
theorem dX9_isImage_4 : decode cX9_isImage 4 = .ok (.iload_n 0, 1) := by decide +kernel
theorem dX9_isImage_5 : decode cX9_isImage 5 = .ok (.iconst 2, 1) := by decide +kernel
theorem dX9_isImage_6 : decode cX9_isImage 6 = .ok (.if_icmp .ge 7, 3) := by decide +kernel
theorem dX9_isImage_9 : decode cX9_isImage 9 = .ok (.iconst 1, 1) := by decide +kernel
theorem dX9_isImage_10 : decode cX9_isImage 10 = .ok (.goto 4, 3) := by decide +kernel
set_option maxHeartbeats 4000000 in
set_option maxRecDepth 100000 in
theorem c_X9_isImage_0 (l : Launch) (V : GV) (p0 : Int32) : Ct l V yX9_isImage (.code yX9_isImage cX9_isImage 1 (some .boolean)) 1 [.int p0] [] 0 0 (QI V (fun (r : Int32) (w : va_W) => (p0 < 0 ∧ r = 0 ∧ w = []) ∨ ((¬ p0 < 0) ∧ 2 ≤ p0 ∧ r = 0 ∧ w = []) ∨ ((¬ p0 < 0) ∧ (¬ 2 ≤ p0) ∧ r = 1 ∧ w = []))) := by
  refine Ct.of (by decide) (Nat.le_of_ble_eq_true rfl) (fun p e s m below meth c A ls hx hb hr hml hown hlk hnm hg hP hK hD hE hA hS hl => ?_)
  have hl : lv_has ls 1 [(0, .int p0)] := hl
  refine lv_iload_n hx hb dX9_isImage_0 rfl (lv_at hl 0 rfl) ?_
  refine lv_if_lt (tgt := 13) hx hb dX9_isImage_1 (by decide) (fun c_1 => ?_) (fun c_1 => ?_)
  · refine lv_iconst (v := 0) hx hb dX9_isImage_13 (by decide) ?_
    exact fiZ rfl hx hb hr hlk hK hP hD hS dX9_isImage_14 (Nat.le_of_ble_eq_true rfl) (Nat.le_of_ble_eq_true rfl) (Or.inl ⟨c_1, rfl, rfl⟩)
  · refine lv_iload_n hx hb dX9_isImage_4 rfl (lv_at hl 0 rfl) ?_
    refine lv_iconst (v := 2) hx hb dX9_isImage_5 (by decide) ?_
    refine lv_icmp_ge (tgt := 13) hx hb dX9_isImage_6 (by decide) (fun c_2 => ?_) (fun c_2 => ?_)
    · refine lv_iconst (v := 0) hx hb dX9_isImage_13 (by decide) ?_
      exact fiZ rfl hx hb hr hlk hK hP hD hS dX9_isImage_14 (Nat.le_of_ble_eq_true rfl) (Nat.le_of_ble_eq_true rfl) (Or.inr (Or.inl ⟨c_1, c_2, rfl, rfl⟩))
    · refine lv_iconst (v := 1) hx hb dX9_isImage_9 (by decide) ?_
      refine lv_goto (tgt := 14) hx hb dX9_isImage_10 (by decide) ?_
      exact fiZ rfl hx hb hr hlk hK hP hD hS dX9_isImage_14 (Nat.le_of_ble_eq_true rfl) (Nat.le_of_ble_eq_true rfl) (Or.inr (Or.inr (⟨c_1, c_2, rfl, rfl⟩)))
theorem dX1_becomeLike_0 : decode cX1_becomeLike 0 = .ok (.aload_n 0, 1) := by decide +kernel
theorem dX1_becomeLike_1 : decode cX1_becomeLike 1 = .ok (.aload_n 1, 1) := by decide +kernel
theorem dX1_becomeLike_2 : decode cX1_becomeLike 2 = .ok (.getfield 33, 3) := by decide +kernel
theorem dX1_becomeLike_5 : decode cX1_becomeLike 5 = .ok (.putfield 33, 3) := by decide +kernel
theorem dX1_becomeLike_8 : decode cX1_becomeLike 8 = .ok (.aload_n 0, 1) := by decide +kernel
theorem dX1_becomeLike_9 : decode cX1_becomeLike 9 = .ok (.aload_n 1, 1) := by decide +kernel
theorem dX1_becomeLike_10 : decode cX1_becomeLike 10 = .ok (.getfield 37, 3) := by decide +kernel
theorem dX1_becomeLike_13 : decode cX1_becomeLike 13 = .ok (.putfield 37, 3) := by decide +kernel
theorem dX1_becomeLike_16 : decode cX1_becomeLike 16 = .ok (.aload_n 0, 1) := by decide +kernel
theorem dX1_becomeLike_17 : decode cX1_becomeLike 17 = .ok (.aload_n 1, 1) := by decide +kernel
theorem dX1_becomeLike_18 : decode cX1_becomeLike 18 = .ok (.getfield 40, 3) := by decide +kernel
theorem dX1_becomeLike_21 : decode cX1_becomeLike 21 = .ok (.putfield 40, 3) := by decide +kernel
theorem dX1_becomeLike_24 : decode cX1_becomeLike 24 = .ok (.aload_n 0, 1) := by decide +kernel
theorem dX1_becomeLike_25 : decode cX1_becomeLike 25 = .ok (.aload_n 1, 1) := by decide +kernel
theorem dX1_becomeLike_26 : decode cX1_becomeLike 26 = .ok (.getfield 43, 3) := by decide +kernel
theorem dX1_becomeLike_29 : decode cX1_becomeLike 29 = .ok (.putfield 43, 3) := by decide +kernel
theorem dX1_becomeLike_32 : decode cX1_becomeLike 32 = .ok (.aload_n 0, 1) := by decide +kernel
theorem dX1_becomeLike_33 : decode cX1_becomeLike 33 = .ok (.aload_n 1, 1) := by decide +kernel
theorem dX1_becomeLike_34 : decode cX1_becomeLike 34 = .ok (.getfield 46, 3) := by decide +kernel
theorem dX1_becomeLike_37 : decode cX1_becomeLike 37 = .ok (.putfield 46, 3) := by decide +kernel
theorem dX1_becomeLike_40 : decode cX1_becomeLike 40 = .ok (.aload_n 0, 1) := by decide +kernel
theorem dX1_becomeLike_41 : decode cX1_becomeLike 41 = .ok (.aload_n 1, 1) := by decide +kernel
theorem dX1_becomeLike_42 : decode cX1_becomeLike 42 = .ok (.getfield 49, 3) := by decide +kernel
theorem dX1_becomeLike_45 : decode cX1_becomeLike 45 = .ok (.putfield 49, 3) := by decide +kernel
theorem dX1_becomeLike_48 : decode cX1_becomeLike 48 = .ok (.aload_n 1, 1) := by decide +kernel
theorem dX1_becomeLike_49 : decode cX1_becomeLike 49 = .ok (.getfield 9, 3) := by decide +kernel
theorem dX1_becomeLike_52 : decode cX1_becomeLike 52 = .ok (.iconst 0, 1) := by decide +kernel
theorem dX1_becomeLike_53 : decode cX1_becomeLike 53 = .ok (.aload_n 0, 1) := by decide +kernel
theorem dX1_becomeLike_54 : decode cX1_becomeLike 54 = .ok (.getfield 9, 3) := by decide +kernel
theorem dX1_becomeLike_57 : decode cX1_becomeLike 57 = .ok (.iconst 0, 1) := by decide +kernel
theorem dX1_becomeLike_58 : decode cX1_becomeLike 58 = .ok (.iconst 4, 1) := by decide +kernel
theorem q_3_100 : Cond.methodLink "BeaconDelay$Coast" 67 arraycopyName ∈ gw := gw_3 (i := 100) (by decide +kernel) rfl
theorem q_3_102 : Cond.native arraycopyName ∈ gw := gw_3 (i := 102) (by decide +kernel) rfl
theorem q_3_101 : Cond.static arraycopyName ∈ gw := gw_3 (i := 101) (by decide +kernel) rfl
theorem q_1_16 : Cond.initialized "java/lang/System" ∈ gw := gw_1 (i := 16) (by decide +kernel) rfl
theorem dX1_becomeLike_59 : decode cX1_becomeLike 59 = .ok (.invokestatic 67, 3) := by decide +kernel
theorem dX1_becomeLike_62 : decode cX1_becomeLike 62 = .ok (.aload_n 1, 1) := by decide +kernel
theorem dX1_becomeLike_63 : decode cX1_becomeLike 63 = .ok (.getfield 15, 3) := by decide +kernel
theorem dX1_becomeLike_66 : decode cX1_becomeLike 66 = .ok (.iconst 0, 1) := by decide +kernel
theorem dX1_becomeLike_67 : decode cX1_becomeLike 67 = .ok (.aload_n 0, 1) := by decide +kernel
theorem dX1_becomeLike_68 : decode cX1_becomeLike 68 = .ok (.getfield 15, 3) := by decide +kernel
theorem dX1_becomeLike_71 : decode cX1_becomeLike 71 = .ok (.iconst 0, 1) := by decide +kernel
theorem dX1_becomeLike_72 : decode cX1_becomeLike 72 = .ok (.iconst 4, 1) := by decide +kernel
theorem dX1_becomeLike_73 : decode cX1_becomeLike 73 = .ok (.invokestatic 67, 3) := by decide +kernel
theorem dX1_becomeLike_76 : decode cX1_becomeLike 76 = .ok (.aload_n 1, 1) := by decide +kernel
theorem dX1_becomeLike_77 : decode cX1_becomeLike 77 = .ok (.getfield 18, 3) := by decide +kernel
theorem dX1_becomeLike_80 : decode cX1_becomeLike 80 = .ok (.iconst 0, 1) := by decide +kernel
theorem dX1_becomeLike_81 : decode cX1_becomeLike 81 = .ok (.aload_n 0, 1) := by decide +kernel
theorem dX1_becomeLike_82 : decode cX1_becomeLike 82 = .ok (.getfield 18, 3) := by decide +kernel
theorem dX1_becomeLike_85 : decode cX1_becomeLike 85 = .ok (.iconst 0, 1) := by decide +kernel
theorem dX1_becomeLike_86 : decode cX1_becomeLike 86 = .ok (.iconst 4, 1) := by decide +kernel
theorem dX1_becomeLike_87 : decode cX1_becomeLike 87 = .ok (.invokestatic 67, 3) := by decide +kernel
theorem dX1_becomeLike_90 : decode cX1_becomeLike 90 = .ok (.aload_n 1, 1) := by decide +kernel
theorem dX1_becomeLike_91 : decode cX1_becomeLike 91 = .ok (.getfield 21, 3) := by decide +kernel
theorem dX1_becomeLike_94 : decode cX1_becomeLike 94 = .ok (.iconst 0, 1) := by decide +kernel
theorem dX1_becomeLike_95 : decode cX1_becomeLike 95 = .ok (.aload_n 0, 1) := by decide +kernel
theorem dX1_becomeLike_96 : decode cX1_becomeLike 96 = .ok (.getfield 21, 3) := by decide +kernel
theorem dX1_becomeLike_99 : decode cX1_becomeLike 99 = .ok (.iconst 0, 1) := by decide +kernel
theorem dX1_becomeLike_100 : decode cX1_becomeLike 100 = .ok (.bipush 8, 2) := by decide +kernel
theorem dX1_becomeLike_102 : decode cX1_becomeLike 102 = .ok (.invokestatic 67, 3) := by decide +kernel
theorem dX1_becomeLike_105 : decode cX1_becomeLike 105 = .ok (.aload_n 1, 1) := by decide +kernel
theorem dX1_becomeLike_106 : decode cX1_becomeLike 106 = .ok (.getfield 24, 3) := by decide +kernel
theorem dX1_becomeLike_109 : decode cX1_becomeLike 109 = .ok (.iconst 0, 1) := by decide +kernel
theorem dX1_becomeLike_110 : decode cX1_becomeLike 110 = .ok (.aload_n 0, 1) := by decide +kernel
theorem dX1_becomeLike_111 : decode cX1_becomeLike 111 = .ok (.getfield 24, 3) := by decide +kernel
theorem dX1_becomeLike_114 : decode cX1_becomeLike 114 = .ok (.iconst 0, 1) := by decide +kernel
theorem dX1_becomeLike_115 : decode cX1_becomeLike 115 = .ok (.bipush 8, 2) := by decide +kernel
theorem dX1_becomeLike_117 : decode cX1_becomeLike 117 = .ok (.invokestatic 67, 3) := by decide +kernel
theorem dX1_becomeLike_120 : decode cX1_becomeLike 120 = .ok (.aload_n 1, 1) := by decide +kernel
theorem dX1_becomeLike_121 : decode cX1_becomeLike 121 = .ok (.getfield 27, 3) := by decide +kernel
theorem dX1_becomeLike_124 : decode cX1_becomeLike 124 = .ok (.iconst 0, 1) := by decide +kernel
theorem dX1_becomeLike_125 : decode cX1_becomeLike 125 = .ok (.aload_n 0, 1) := by decide +kernel
theorem dX1_becomeLike_126 : decode cX1_becomeLike 126 = .ok (.getfield 27, 3) := by decide +kernel
theorem dX1_becomeLike_129 : decode cX1_becomeLike 129 = .ok (.iconst 0, 1) := by decide +kernel
theorem dX1_becomeLike_130 : decode cX1_becomeLike 130 = .ok (.bipush 8, 2) := by decide +kernel
theorem dX1_becomeLike_132 : decode cX1_becomeLike 132 = .ok (.invokestatic 67, 3) := by decide +kernel
theorem dX1_becomeLike_135 : decode cX1_becomeLike 135 = .ok (.aload_n 1, 1) := by decide +kernel
theorem dX1_becomeLike_136 : decode cX1_becomeLike 136 = .ok (.getfield 30, 3) := by decide +kernel
theorem dX1_becomeLike_139 : decode cX1_becomeLike 139 = .ok (.iconst 0, 1) := by decide +kernel
theorem dX1_becomeLike_140 : decode cX1_becomeLike 140 = .ok (.aload_n 0, 1) := by decide +kernel
theorem dX1_becomeLike_141 : decode cX1_becomeLike 141 = .ok (.getfield 30, 3) := by decide +kernel
theorem dX1_becomeLike_144 : decode cX1_becomeLike 144 = .ok (.iconst 0, 1) := by decide +kernel
theorem dX1_becomeLike_145 : decode cX1_becomeLike 145 = .ok (.aload_n 1, 1) := by decide +kernel
theorem dX1_becomeLike_146 : decode cX1_becomeLike 146 = .ok (.getfield 52, 3) := by decide +kernel
theorem dX1_becomeLike_149 : decode cX1_becomeLike 149 = .ok (.invokestatic 67, 3) := by decide +kernel
theorem dX1_becomeLike_152 : decode cX1_becomeLike 152 = .ok (.aload_n 0, 1) := by decide +kernel
theorem dX1_becomeLike_153 : decode cX1_becomeLike 153 = .ok (.aload_n 1, 1) := by decide +kernel
theorem dX1_becomeLike_154 : decode cX1_becomeLike 154 = .ok (.getfield 52, 3) := by decide +kernel
theorem dX1_becomeLike_157 : decode cX1_becomeLike 157 = .ok (.putfield 52, 3) := by decide +kernel
theorem dX1_becomeLike_160 : decode cX1_becomeLike 160 = .ok (.aload_n 0, 1) := by decide +kernel
theorem dX1_becomeLike_161 : decode cX1_becomeLike 161 = .ok (.aload_n 1, 1) := by decide +kernel
theorem dX1_becomeLike_162 : decode cX1_becomeLike 162 = .ok (.getfield 55, 3) := by decide +kernel
theorem dX1_becomeLike_165 : decode cX1_becomeLike 165 = .ok (.putfield 55, 3) := by decide +kernel
theorem dX1_becomeLike_168 : decode cX1_becomeLike 168 = .ok (.aload_n 0, 1) := by decide +kernel
theorem dX1_becomeLike_169 : decode cX1_becomeLike 169 = .ok (.aload_n 1, 1) := by decide +kernel
theorem dX1_becomeLike_170 : decode cX1_becomeLike 170 = .ok (.getfield 58, 3) := by decide +kernel
theorem dX1_becomeLike_173 : decode cX1_becomeLike 173 = .ok (.putfield 58, 3) := by decide +kernel
theorem dX1_becomeLike_176 : decode cX1_becomeLike 176 = .ok (.aload_n 0, 1) := by decide +kernel
theorem dX1_becomeLike_177 : decode cX1_becomeLike 177 = .ok (.aload_n 1, 1) := by decide +kernel
theorem dX1_becomeLike_178 : decode cX1_becomeLike 178 = .ok (.getfield 61, 3) := by decide +kernel
theorem dX1_becomeLike_181 : decode cX1_becomeLike 181 = .ok (.putfield 61, 3) := by decide +kernel
theorem dX1_becomeLike_184 : decode cX1_becomeLike 184 = .ok (.aload_n 0, 1) := by decide +kernel
theorem dX1_becomeLike_185 : decode cX1_becomeLike 185 = .ok (.aload_n 1, 1) := by decide +kernel
theorem dX1_becomeLike_186 : decode cX1_becomeLike 186 = .ok (.getfield 64, 3) := by decide +kernel
theorem dX1_becomeLike_189 : decode cX1_becomeLike 189 = .ok (.putfield 64, 3) := by decide +kernel
theorem dX1_becomeLike_192 : decode cX1_becomeLike 192 = .ok (.return_, 1) := by decide +kernel
set_option maxHeartbeats 4000000 in
set_option maxRecDepth 100000 in
theorem c_X1_becomeLike_0 (l : Launch) (V : GV) (y : Nat → Nat) : Ct l V yX1_becomeLike (.code yX1_becomeLike cX1_becomeLike 2 none) 3 [.ref (y 42), .ref (y 2)] [(y 2, .inr (1, [.int 0, .int 0, .int 0, .int 0, .int 0, .int 0, .ref (y 3), .ref (y 4), .ref (y 5), .ref (y 6), .ref (y 7), .ref (y 8), .ref (y 9), .int 0, .int 0, .int 0, .int 0, .int 0])), (y 3, aI V 4 (fun _ => 0)), (y 4, aI V 4 (fun _ => 0)), (y 5, aI V 4 (fun _ => 0)), (y 6, aI V 8 (fun _ => 0)), (y 7, aI V 8 (fun _ => 0)), (y 8, aI V 8 (fun _ => 0)), (y 9, aI V 900 (fun _ => 0)), (y 42, .inr (1, [.int 0, .int 0, .int 0, .int 0, .int 0, .int 0, .ref (y 43), .ref (y 44), .ref (y 45), .ref (y 46), .ref (y 47), .ref (y 48), .ref (y 49), .int 0, .int 0, .int 0, .int 0, .int 0])), (y 43, aI V 4 (fun _ => 0)), (y 44, aI V 4 (fun _ => 0)), (y 45, aI V 4 (fun _ => 0)), (y 46, aI V 8 (fun _ => 0)), (y 47, aI V 8 (fun _ => 0)), (y 48, aI V 8 (fun _ => 0)), (y 49, aI V 900 (fun _ => 0))] 0 0 (QV V (fun (w : va_W) => (w = [(y 2, .inr (1, [.int 0, .int 0, .int 0, .int 0, .int 0, .int 0, .ref (y 3), .ref (y 4), .ref (y 5), .ref (y 6), .ref (y 7), .ref (y 8), .ref (y 9), .int 0, .int 0, .int 0, .int 0, .int 0])), (y 3, aI V 4 (fun _ => 0)), (y 4, aI V 4 (fun _ => 0)), (y 5, aI V 4 (fun _ => 0)), (y 6, aI V 8 (fun _ => 0)), (y 7, aI V 8 (fun _ => 0)), (y 8, aI V 8 (fun _ => 0)), (y 9, aI V 900 (fun _ => 0)), (y 42, .inr (1, [.int 0, .int 0, .int 0, .int 0, .int 0, .int 0, .ref (y 43), .ref (y 44), .ref (y 45), .ref (y 46), .ref (y 47), .ref (y 48), .ref (y 49), .int 0, .int 0, .int 0, .int 0, .int 0])), (y 43, aI V 4 (fun _ => 0)), (y 44, aI V 4 (fun _ => 0)), (y 45, aI V 4 (fun _ => 0)), (y 46, aI V 8 (fun _ => 0)), (y 47, aI V 8 (fun _ => 0)), (y 48, aI V 8 (fun _ => 0)), (y 49, aI V 900 (fun _ => 0))]))) := by
  refine Ct.of (by decide) (Nat.le_of_ble_eq_true rfl) (fun p e s m below meth c A ls hx hb hr hml hown hlk hnm hg hP hK hD hE hA hS hl => ?_)
  have hl : lv_has ls 2 [(0, .ref (y 42)), (1, .ref (y 2))] := hl
  refine lv_aload_n hx hb dX1_becomeLike_0 rfl (lv_at hl 0 rfl) ?_
  refine lv_aload_n hx hb dX1_becomeLike_1 rfl (lv_at hl 1 rfl) ?_
  refine va_get (ci := 1) (v := .int 0) (C := RX1) (T := TX1) (N := 18) hx hb hg inX1 hown hK hP 0 rfl rfl 0 (by decide) (hg _ q_1_35) (fun _ h9 => h9) rfl dX1_becomeLike_2 ?_
  refine va_put (ci := 1) (v := .int 0) (ty := .int) (C := RX1) (T := TX1) (N := 18) hx hb hg inX1 tyX1 tyX1_ok nmX1 hown hK hP hD hS 8 rfl rfl 0 (by decide) (hg _ q_1_35) (fun _ h9 => h9) rfl (by decide +kernel) rfl rfl (Nat.le_of_ble_eq_true rfl) dX1_becomeLike_5 (fun H locs hP hD hS => ?_)
  have hP : va_P V.1 vwCl [(y 2, .inr (1, [.int 0, .int 0, .int 0, .int 0, .int 0, .int 0, .ref (y 3), .ref (y 4), .ref (y 5), .ref (y 6), .ref (y 7), .ref (y 8), .ref (y 9), .int 0, .int 0, .int 0, .int 0, .int 0])), (y 3, aI V 4 (fun _ => 0)), (y 4, aI V 4 (fun _ => 0)), (y 5, aI V 4 (fun _ => 0)), (y 6, aI V 8 (fun _ => 0)), (y 7, aI V 8 (fun _ => 0)), (y 8, aI V 8 (fun _ => 0)), (y 9, aI V 900 (fun _ => 0)), (y 42, .inr (1, [.int 0, .int 0, .int 0, .int 0, .int 0, .int 0, .ref (y 43), .ref (y 44), .ref (y 45), .ref (y 46), .ref (y 47), .ref (y 48), .ref (y 49), .int 0, .int 0, .int 0, .int 0, .int 0])), (y 43, aI V 4 (fun _ => 0)), (y 44, aI V 4 (fun _ => 0)), (y 45, aI V 4 (fun _ => 0)), (y 46, aI V 8 (fun _ => 0)), (y 47, aI V 8 (fun _ => 0)), (y 48, aI V 8 (fun _ => 0)), (y 49, aI V 900 (fun _ => 0))] H := hP
  have hD : va_D A [(y 2, .inr (1, [.int 0, .int 0, .int 0, .int 0, .int 0, .int 0, .ref (y 3), .ref (y 4), .ref (y 5), .ref (y 6), .ref (y 7), .ref (y 8), .ref (y 9), .int 0, .int 0, .int 0, .int 0, .int 0])), (y 3, aI V 4 (fun _ => 0)), (y 4, aI V 4 (fun _ => 0)), (y 5, aI V 4 (fun _ => 0)), (y 6, aI V 8 (fun _ => 0)), (y 7, aI V 8 (fun _ => 0)), (y 8, aI V 8 (fun _ => 0)), (y 9, aI V 900 (fun _ => 0)), (y 42, .inr (1, [.int 0, .int 0, .int 0, .int 0, .int 0, .int 0, .ref (y 43), .ref (y 44), .ref (y 45), .ref (y 46), .ref (y 47), .ref (y 48), .ref (y 49), .int 0, .int 0, .int 0, .int 0, .int 0])), (y 43, aI V 4 (fun _ => 0)), (y 44, aI V 4 (fun _ => 0)), (y 45, aI V 4 (fun _ => 0)), (y 46, aI V 8 (fun _ => 0)), (y 47, aI V 8 (fun _ => 0)), (y 48, aI V 8 (fun _ => 0)), (y 49, aI V 900 (fun _ => 0))] := hD
  refine lv_aload_n hx hb dX1_becomeLike_8 rfl (lv_at hl 0 rfl) ?_
  refine lv_aload_n hx hb dX1_becomeLike_9 rfl (lv_at hl 1 rfl) ?_
  refine va_get (ci := 1) (v := .int 0) (C := RX1) (T := TX1) (N := 18) hx hb hg inX1 hown hK hP 0 rfl rfl 1 (by decide) (hg _ q_1_38) (fun _ h9 => h9) rfl dX1_becomeLike_10 ?_
  refine va_put (ci := 1) (v := .int 0) (ty := .int) (C := RX1) (T := TX1) (N := 18) hx hb hg inX1 tyX1 tyX1_ok nmX1 hown hK hP hD hS 8 rfl rfl 1 (by decide) (hg _ q_1_38) (fun _ h9 => h9) rfl (by decide +kernel) rfl rfl (Nat.le_of_ble_eq_true rfl) dX1_becomeLike_13 (fun H locs hP hD hS => ?_)
  have hP : va_P V.1 vwCl [(y 2, .inr (1, [.int 0, .int 0, .int 0, .int 0, .int 0, .int 0, .ref (y 3), .ref (y 4), .ref (y 5), .ref (y 6), .ref (y 7), .ref (y 8), .ref (y 9), .int 0, .int 0, .int 0, .int 0, .int 0])), (y 3, aI V 4 (fun _ => 0)), (y 4, aI V 4 (fun _ => 0)), (y 5, aI V 4 (fun _ => 0)), (y 6, aI V 8 (fun _ => 0)), (y 7, aI V 8 (fun _ => 0)), (y 8, aI V 8 (fun _ => 0)), (y 9, aI V 900 (fun _ => 0)), (y 42, .inr (1, [.int 0, .int 0, .int 0, .int 0, .int 0, .int 0, .ref (y 43), .ref (y 44), .ref (y 45), .ref (y 46), .ref (y 47), .ref (y 48), .ref (y 49), .int 0, .int 0, .int 0, .int 0, .int 0])), (y 43, aI V 4 (fun _ => 0)), (y 44, aI V 4 (fun _ => 0)), (y 45, aI V 4 (fun _ => 0)), (y 46, aI V 8 (fun _ => 0)), (y 47, aI V 8 (fun _ => 0)), (y 48, aI V 8 (fun _ => 0)), (y 49, aI V 900 (fun _ => 0))] H := hP
  have hD : va_D A [(y 2, .inr (1, [.int 0, .int 0, .int 0, .int 0, .int 0, .int 0, .ref (y 3), .ref (y 4), .ref (y 5), .ref (y 6), .ref (y 7), .ref (y 8), .ref (y 9), .int 0, .int 0, .int 0, .int 0, .int 0])), (y 3, aI V 4 (fun _ => 0)), (y 4, aI V 4 (fun _ => 0)), (y 5, aI V 4 (fun _ => 0)), (y 6, aI V 8 (fun _ => 0)), (y 7, aI V 8 (fun _ => 0)), (y 8, aI V 8 (fun _ => 0)), (y 9, aI V 900 (fun _ => 0)), (y 42, .inr (1, [.int 0, .int 0, .int 0, .int 0, .int 0, .int 0, .ref (y 43), .ref (y 44), .ref (y 45), .ref (y 46), .ref (y 47), .ref (y 48), .ref (y 49), .int 0, .int 0, .int 0, .int 0, .int 0])), (y 43, aI V 4 (fun _ => 0)), (y 44, aI V 4 (fun _ => 0)), (y 45, aI V 4 (fun _ => 0)), (y 46, aI V 8 (fun _ => 0)), (y 47, aI V 8 (fun _ => 0)), (y 48, aI V 8 (fun _ => 0)), (y 49, aI V 900 (fun _ => 0))] := hD
  refine lv_aload_n hx hb dX1_becomeLike_16 rfl (lv_at hl 0 rfl) ?_
  refine lv_aload_n hx hb dX1_becomeLike_17 rfl (lv_at hl 1 rfl) ?_
  refine va_get (ci := 1) (v := .int 0) (C := RX1) (T := TX1) (N := 18) hx hb hg inX1 hown hK hP 0 rfl rfl 2 (by decide) (hg _ q_1_42) (fun _ h9 => h9) rfl dX1_becomeLike_18 ?_
  refine va_put (ci := 1) (v := .int 0) (ty := .int) (C := RX1) (T := TX1) (N := 18) hx hb hg inX1 tyX1 tyX1_ok nmX1 hown hK hP hD hS 8 rfl rfl 2 (by decide) (hg _ q_1_42) (fun _ h9 => h9) rfl (by decide +kernel) rfl rfl (Nat.le_of_ble_eq_true rfl) dX1_becomeLike_21 (fun H locs hP hD hS => ?_)
  have hP : va_P V.1 vwCl [(y 2, .inr (1, [.int 0, .int 0, .int 0, .int 0, .int 0, .int 0, .ref (y 3), .ref (y 4), .ref (y 5), .ref (y 6), .ref (y 7), .ref (y 8), .ref (y 9), .int 0, .int 0, .int 0, .int 0, .int 0])), (y 3, aI V 4 (fun _ => 0)), (y 4, aI V 4 (fun _ => 0)), (y 5, aI V 4 (fun _ => 0)), (y 6, aI V 8 (fun _ => 0)), (y 7, aI V 8 (fun _ => 0)), (y 8, aI V 8 (fun _ => 0)), (y 9, aI V 900 (fun _ => 0)), (y 42, .inr (1, [.int 0, .int 0, .int 0, .int 0, .int 0, .int 0, .ref (y 43), .ref (y 44), .ref (y 45), .ref (y 46), .ref (y 47), .ref (y 48), .ref (y 49), .int 0, .int 0, .int 0, .int 0, .int 0])), (y 43, aI V 4 (fun _ => 0)), (y 44, aI V 4 (fun _ => 0)), (y 45, aI V 4 (fun _ => 0)), (y 46, aI V 8 (fun _ => 0)), (y 47, aI V 8 (fun _ => 0)), (y 48, aI V 8 (fun _ => 0)), (y 49, aI V 900 (fun _ => 0))] H := hP
  have hD : va_D A [(y 2, .inr (1, [.int 0, .int 0, .int 0, .int 0, .int 0, .int 0, .ref (y 3), .ref (y 4), .ref (y 5), .ref (y 6), .ref (y 7), .ref (y 8), .ref (y 9), .int 0, .int 0, .int 0, .int 0, .int 0])), (y 3, aI V 4 (fun _ => 0)), (y 4, aI V 4 (fun _ => 0)), (y 5, aI V 4 (fun _ => 0)), (y 6, aI V 8 (fun _ => 0)), (y 7, aI V 8 (fun _ => 0)), (y 8, aI V 8 (fun _ => 0)), (y 9, aI V 900 (fun _ => 0)), (y 42, .inr (1, [.int 0, .int 0, .int 0, .int 0, .int 0, .int 0, .ref (y 43), .ref (y 44), .ref (y 45), .ref (y 46), .ref (y 47), .ref (y 48), .ref (y 49), .int 0, .int 0, .int 0, .int 0, .int 0])), (y 43, aI V 4 (fun _ => 0)), (y 44, aI V 4 (fun _ => 0)), (y 45, aI V 4 (fun _ => 0)), (y 46, aI V 8 (fun _ => 0)), (y 47, aI V 8 (fun _ => 0)), (y 48, aI V 8 (fun _ => 0)), (y 49, aI V 900 (fun _ => 0))] := hD
  refine lv_aload_n hx hb dX1_becomeLike_24 rfl (lv_at hl 0 rfl) ?_
  refine lv_aload_n hx hb dX1_becomeLike_25 rfl (lv_at hl 1 rfl) ?_
  refine va_get (ci := 1) (v := .int 0) (C := RX1) (T := TX1) (N := 18) hx hb hg inX1 hown hK hP 0 rfl rfl 3 (by decide) (hg _ q_1_45) (fun _ h9 => h9) rfl dX1_becomeLike_26 ?_
  refine va_put (ci := 1) (v := .int 0) (ty := .int) (C := RX1) (T := TX1) (N := 18) hx hb hg inX1 tyX1 tyX1_ok nmX1 hown hK hP hD hS 8 rfl rfl 3 (by decide) (hg _ q_1_45) (fun _ h9 => h9) rfl (by decide +kernel) rfl rfl (Nat.le_of_ble_eq_true rfl) dX1_becomeLike_29 (fun H locs hP hD hS => ?_)
  have hP : va_P V.1 vwCl [(y 2, .inr (1, [.int 0, .int 0, .int 0, .int 0, .int 0, .int 0, .ref (y 3), .ref (y 4), .ref (y 5), .ref (y 6), .ref (y 7), .ref (y 8), .ref (y 9), .int 0, .int 0, .int 0, .int 0, .int 0])), (y 3, aI V 4 (fun _ => 0)), (y 4, aI V 4 (fun _ => 0)), (y 5, aI V 4 (fun _ => 0)), (y 6, aI V 8 (fun _ => 0)), (y 7, aI V 8 (fun _ => 0)), (y 8, aI V 8 (fun _ => 0)), (y 9, aI V 900 (fun _ => 0)), (y 42, .inr (1, [.int 0, .int 0, .int 0, .int 0, .int 0, .int 0, .ref (y 43), .ref (y 44), .ref (y 45), .ref (y 46), .ref (y 47), .ref (y 48), .ref (y 49), .int 0, .int 0, .int 0, .int 0, .int 0])), (y 43, aI V 4 (fun _ => 0)), (y 44, aI V 4 (fun _ => 0)), (y 45, aI V 4 (fun _ => 0)), (y 46, aI V 8 (fun _ => 0)), (y 47, aI V 8 (fun _ => 0)), (y 48, aI V 8 (fun _ => 0)), (y 49, aI V 900 (fun _ => 0))] H := hP
  have hD : va_D A [(y 2, .inr (1, [.int 0, .int 0, .int 0, .int 0, .int 0, .int 0, .ref (y 3), .ref (y 4), .ref (y 5), .ref (y 6), .ref (y 7), .ref (y 8), .ref (y 9), .int 0, .int 0, .int 0, .int 0, .int 0])), (y 3, aI V 4 (fun _ => 0)), (y 4, aI V 4 (fun _ => 0)), (y 5, aI V 4 (fun _ => 0)), (y 6, aI V 8 (fun _ => 0)), (y 7, aI V 8 (fun _ => 0)), (y 8, aI V 8 (fun _ => 0)), (y 9, aI V 900 (fun _ => 0)), (y 42, .inr (1, [.int 0, .int 0, .int 0, .int 0, .int 0, .int 0, .ref (y 43), .ref (y 44), .ref (y 45), .ref (y 46), .ref (y 47), .ref (y 48), .ref (y 49), .int 0, .int 0, .int 0, .int 0, .int 0])), (y 43, aI V 4 (fun _ => 0)), (y 44, aI V 4 (fun _ => 0)), (y 45, aI V 4 (fun _ => 0)), (y 46, aI V 8 (fun _ => 0)), (y 47, aI V 8 (fun _ => 0)), (y 48, aI V 8 (fun _ => 0)), (y 49, aI V 900 (fun _ => 0))] := hD
  refine lv_aload_n hx hb dX1_becomeLike_32 rfl (lv_at hl 0 rfl) ?_
  refine lv_aload_n hx hb dX1_becomeLike_33 rfl (lv_at hl 1 rfl) ?_
  refine va_get (ci := 1) (v := .int 0) (C := RX1) (T := TX1) (N := 18) hx hb hg inX1 hown hK hP 0 rfl rfl 4 (by decide) (hg _ q_1_48) (fun _ h9 => h9) rfl dX1_becomeLike_34 ?_
  refine va_put (ci := 1) (v := .int 0) (ty := .int) (C := RX1) (T := TX1) (N := 18) hx hb hg inX1 tyX1 tyX1_ok nmX1 hown hK hP hD hS 8 rfl rfl 4 (by decide) (hg _ q_1_48) (fun _ h9 => h9) rfl (by decide +kernel) rfl rfl (Nat.le_of_ble_eq_true rfl) dX1_becomeLike_37 (fun H locs hP hD hS => ?_)
  have hP : va_P V.1 vwCl [(y 2, .inr (1, [.int 0, .int 0, .int 0, .int 0, .int 0, .int 0, .ref (y 3), .ref (y 4), .ref (y 5), .ref (y 6), .ref (y 7), .ref (y 8), .ref (y 9), .int 0, .int 0, .int 0, .int 0, .int 0])), (y 3, aI V 4 (fun _ => 0)), (y 4, aI V 4 (fun _ => 0)), (y 5, aI V 4 (fun _ => 0)), (y 6, aI V 8 (fun _ => 0)), (y 7, aI V 8 (fun _ => 0)), (y 8, aI V 8 (fun _ => 0)), (y 9, aI V 900 (fun _ => 0)), (y 42, .inr (1, [.int 0, .int 0, .int 0, .int 0, .int 0, .int 0, .ref (y 43), .ref (y 44), .ref (y 45), .ref (y 46), .ref (y 47), .ref (y 48), .ref (y 49), .int 0, .int 0, .int 0, .int 0, .int 0])), (y 43, aI V 4 (fun _ => 0)), (y 44, aI V 4 (fun _ => 0)), (y 45, aI V 4 (fun _ => 0)), (y 46, aI V 8 (fun _ => 0)), (y 47, aI V 8 (fun _ => 0)), (y 48, aI V 8 (fun _ => 0)), (y 49, aI V 900 (fun _ => 0))] H := hP
  have hD : va_D A [(y 2, .inr (1, [.int 0, .int 0, .int 0, .int 0, .int 0, .int 0, .ref (y 3), .ref (y 4), .ref (y 5), .ref (y 6), .ref (y 7), .ref (y 8), .ref (y 9), .int 0, .int 0, .int 0, .int 0, .int 0])), (y 3, aI V 4 (fun _ => 0)), (y 4, aI V 4 (fun _ => 0)), (y 5, aI V 4 (fun _ => 0)), (y 6, aI V 8 (fun _ => 0)), (y 7, aI V 8 (fun _ => 0)), (y 8, aI V 8 (fun _ => 0)), (y 9, aI V 900 (fun _ => 0)), (y 42, .inr (1, [.int 0, .int 0, .int 0, .int 0, .int 0, .int 0, .ref (y 43), .ref (y 44), .ref (y 45), .ref (y 46), .ref (y 47), .ref (y 48), .ref (y 49), .int 0, .int 0, .int 0, .int 0, .int 0])), (y 43, aI V 4 (fun _ => 0)), (y 44, aI V 4 (fun _ => 0)), (y 45, aI V 4 (fun _ => 0)), (y 46, aI V 8 (fun _ => 0)), (y 47, aI V 8 (fun _ => 0)), (y 48, aI V 8 (fun _ => 0)), (y 49, aI V 900 (fun _ => 0))] := hD
  refine lv_aload_n hx hb dX1_becomeLike_40 rfl (lv_at hl 0 rfl) ?_
  refine lv_aload_n hx hb dX1_becomeLike_41 rfl (lv_at hl 1 rfl) ?_
  refine va_get (ci := 1) (v := .int 0) (C := RX1) (T := TX1) (N := 18) hx hb hg inX1 hown hK hP 0 rfl rfl 5 (by decide) (hg _ q_1_51) (fun _ h9 => h9) rfl dX1_becomeLike_42 ?_
  refine va_put (ci := 1) (v := .int 0) (ty := .int) (C := RX1) (T := TX1) (N := 18) hx hb hg inX1 tyX1 tyX1_ok nmX1 hown hK hP hD hS 8 rfl rfl 5 (by decide) (hg _ q_1_51) (fun _ h9 => h9) rfl (by decide +kernel) rfl rfl (Nat.le_of_ble_eq_true rfl) dX1_becomeLike_45 (fun H locs hP hD hS => ?_)
  have hP : va_P V.1 vwCl [(y 2, .inr (1, [.int 0, .int 0, .int 0, .int 0, .int 0, .int 0, .ref (y 3), .ref (y 4), .ref (y 5), .ref (y 6), .ref (y 7), .ref (y 8), .ref (y 9), .int 0, .int 0, .int 0, .int 0, .int 0])), (y 3, aI V 4 (fun _ => 0)), (y 4, aI V 4 (fun _ => 0)), (y 5, aI V 4 (fun _ => 0)), (y 6, aI V 8 (fun _ => 0)), (y 7, aI V 8 (fun _ => 0)), (y 8, aI V 8 (fun _ => 0)), (y 9, aI V 900 (fun _ => 0)), (y 42, .inr (1, [.int 0, .int 0, .int 0, .int 0, .int 0, .int 0, .ref (y 43), .ref (y 44), .ref (y 45), .ref (y 46), .ref (y 47), .ref (y 48), .ref (y 49), .int 0, .int 0, .int 0, .int 0, .int 0])), (y 43, aI V 4 (fun _ => 0)), (y 44, aI V 4 (fun _ => 0)), (y 45, aI V 4 (fun _ => 0)), (y 46, aI V 8 (fun _ => 0)), (y 47, aI V 8 (fun _ => 0)), (y 48, aI V 8 (fun _ => 0)), (y 49, aI V 900 (fun _ => 0))] H := hP
  have hD : va_D A [(y 2, .inr (1, [.int 0, .int 0, .int 0, .int 0, .int 0, .int 0, .ref (y 3), .ref (y 4), .ref (y 5), .ref (y 6), .ref (y 7), .ref (y 8), .ref (y 9), .int 0, .int 0, .int 0, .int 0, .int 0])), (y 3, aI V 4 (fun _ => 0)), (y 4, aI V 4 (fun _ => 0)), (y 5, aI V 4 (fun _ => 0)), (y 6, aI V 8 (fun _ => 0)), (y 7, aI V 8 (fun _ => 0)), (y 8, aI V 8 (fun _ => 0)), (y 9, aI V 900 (fun _ => 0)), (y 42, .inr (1, [.int 0, .int 0, .int 0, .int 0, .int 0, .int 0, .ref (y 43), .ref (y 44), .ref (y 45), .ref (y 46), .ref (y 47), .ref (y 48), .ref (y 49), .int 0, .int 0, .int 0, .int 0, .int 0])), (y 43, aI V 4 (fun _ => 0)), (y 44, aI V 4 (fun _ => 0)), (y 45, aI V 4 (fun _ => 0)), (y 46, aI V 8 (fun _ => 0)), (y 47, aI V 8 (fun _ => 0)), (y 48, aI V 8 (fun _ => 0)), (y 49, aI V 900 (fun _ => 0))] := hD
  refine lv_aload_n hx hb dX1_becomeLike_48 rfl (lv_at hl 1 rfl) ?_
  refine va_get (ci := 1) (v := .ref (y 3)) (C := RX1) (T := TX1) (N := 18) hx hb hg inX1 hown hK hP 0 rfl rfl 6 (by decide) (hg _ q_1_54) (fun _ h9 => h9) rfl dX1_becomeLike_49 ?_
  refine lv_iconst (v := 0) hx hb dX1_becomeLike_52 (by decide) ?_
  refine lv_aload_n hx hb dX1_becomeLike_53 rfl (lv_at hl 0 rfl) ?_
  refine va_get (ci := 1) (v := .ref (y 43)) (C := RX1) (T := TX1) (N := 18) hx hb hg inX1 hown hK hP 8 rfl rfl 6 (by decide) (hg _ q_1_54) (fun _ h9 => h9) rfl dX1_becomeLike_54 ?_
  refine lv_iconst (v := 0) hx hb dX1_becomeLike_57 (by decide) ?_
  refine lv_iconst (v := 4) hx hb dX1_becomeLike_58 (by decide) ?_
  refine va_copyi hx hb (hml.trans hl.1.symm) hown (hg _ q_3_100) (hg _ q_3_102) (hg _ q_3_101) (hg _ q_1_16) hK hP hD hS 1 9 0 0 rfl rfl rfl rfl rfl (by decide) (by decide) (by decide) (by decide) (by decide) (fun _ _ => rfl) (Nat.le_of_ble_eq_true rfl) (by decide +kernel) dX1_becomeLike_59 (fun H locs hP hD hS => ?_)
  have hP : va_P V.1 vwCl [(y 2, .inr (1, [.int 0, .int 0, .int 0, .int 0, .int 0, .int 0, .ref (y 3), .ref (y 4), .ref (y 5), .ref (y 6), .ref (y 7), .ref (y 8), .ref (y 9), .int 0, .int 0, .int 0, .int 0, .int 0])), (y 3, aI V 4 (fun _ => 0)), (y 4, aI V 4 (fun _ => 0)), (y 5, aI V 4 (fun _ => 0)), (y 6, aI V 8 (fun _ => 0)), (y 7, aI V 8 (fun _ => 0)), (y 8, aI V 8 (fun _ => 0)), (y 9, aI V 900 (fun _ => 0)), (y 42, .inr (1, [.int 0, .int 0, .int 0, .int 0, .int 0, .int 0, .ref (y 43), .ref (y 44), .ref (y 45), .ref (y 46), .ref (y 47), .ref (y 48), .ref (y 49), .int 0, .int 0, .int 0, .int 0, .int 0])), (y 43, aI V 4 (fun _ => 0)), (y 44, aI V 4 (fun _ => 0)), (y 45, aI V 4 (fun _ => 0)), (y 46, aI V 8 (fun _ => 0)), (y 47, aI V 8 (fun _ => 0)), (y 48, aI V 8 (fun _ => 0)), (y 49, aI V 900 (fun _ => 0))] H := by rw [cpy0] at hP; exact hP
  have hD : va_D A [(y 2, .inr (1, [.int 0, .int 0, .int 0, .int 0, .int 0, .int 0, .ref (y 3), .ref (y 4), .ref (y 5), .ref (y 6), .ref (y 7), .ref (y 8), .ref (y 9), .int 0, .int 0, .int 0, .int 0, .int 0])), (y 3, aI V 4 (fun _ => 0)), (y 4, aI V 4 (fun _ => 0)), (y 5, aI V 4 (fun _ => 0)), (y 6, aI V 8 (fun _ => 0)), (y 7, aI V 8 (fun _ => 0)), (y 8, aI V 8 (fun _ => 0)), (y 9, aI V 900 (fun _ => 0)), (y 42, .inr (1, [.int 0, .int 0, .int 0, .int 0, .int 0, .int 0, .ref (y 43), .ref (y 44), .ref (y 45), .ref (y 46), .ref (y 47), .ref (y 48), .ref (y 49), .int 0, .int 0, .int 0, .int 0, .int 0])), (y 43, aI V 4 (fun _ => 0)), (y 44, aI V 4 (fun _ => 0)), (y 45, aI V 4 (fun _ => 0)), (y 46, aI V 8 (fun _ => 0)), (y 47, aI V 8 (fun _ => 0)), (y 48, aI V 8 (fun _ => 0)), (y 49, aI V 900 (fun _ => 0))] := by rw [cpy0] at hD; exact hD
  refine lv_aload_n hx hb dX1_becomeLike_62 rfl (lv_at hl 1 rfl) ?_
  refine va_get (ci := 1) (v := .ref (y 4)) (C := RX1) (T := TX1) (N := 18) hx hb hg inX1 hown hK hP 0 rfl rfl 7 (by decide) (hg _ q_1_58) (fun _ h9 => h9) rfl dX1_becomeLike_63 ?_
  refine lv_iconst (v := 0) hx hb dX1_becomeLike_66 (by decide) ?_
  refine lv_aload_n hx hb dX1_becomeLike_67 rfl (lv_at hl 0 rfl) ?_
  refine va_get (ci := 1) (v := .ref (y 44)) (C := RX1) (T := TX1) (N := 18) hx hb hg inX1 hown hK hP 8 rfl rfl 7 (by decide) (hg _ q_1_58) (fun _ h9 => h9) rfl dX1_becomeLike_68 ?_
  refine lv_iconst (v := 0) hx hb dX1_becomeLike_71 (by decide) ?_
  refine lv_iconst (v := 4) hx hb dX1_becomeLike_72 (by decide) ?_
  refine va_copyi hx hb (hml.trans hl.1.symm) hown (hg _ q_3_100) (hg _ q_3_102) (hg _ q_3_101) (hg _ q_1_16) hK hP hD hS 2 10 0 0 rfl rfl rfl rfl rfl (by decide) (by decide) (by decide) (by decide) (by decide) (fun _ _ => rfl) (Nat.le_of_ble_eq_true rfl) (by decide +kernel) dX1_becomeLike_73 (fun H locs hP hD hS => ?_)
  have hP : va_P V.1 vwCl [(y 2, .inr (1, [.int 0, .int 0, .int 0, .int 0, .int 0, .int 0, .ref (y 3), .ref (y 4), .ref (y 5), .ref (y 6), .ref (y 7), .ref (y 8), .ref (y 9), .int 0, .int 0, .int 0, .int 0, .int 0])), (y 3, aI V 4 (fun _ => 0)), (y 4, aI V 4 (fun _ => 0)), (y 5, aI V 4 (fun _ => 0)), (y 6, aI V 8 (fun _ => 0)), (y 7, aI V 8 (fun _ => 0)), (y 8, aI V 8 (fun _ => 0)), (y 9, aI V 900 (fun _ => 0)), (y 42, .inr (1, [.int 0, .int 0, .int 0, .int 0, .int 0, .int 0, .ref (y 43), .ref (y 44), .ref (y 45), .ref (y 46), .ref (y 47), .ref (y 48), .ref (y 49), .int 0, .int 0, .int 0, .int 0, .int 0])), (y 43, aI V 4 (fun _ => 0)), (y 44, aI V 4 (fun _ => 0)), (y 45, aI V 4 (fun _ => 0)), (y 46, aI V 8 (fun _ => 0)), (y 47, aI V 8 (fun _ => 0)), (y 48, aI V 8 (fun _ => 0)), (y 49, aI V 900 (fun _ => 0))] H := by rw [cpy0] at hP; exact hP
  have hD : va_D A [(y 2, .inr (1, [.int 0, .int 0, .int 0, .int 0, .int 0, .int 0, .ref (y 3), .ref (y 4), .ref (y 5), .ref (y 6), .ref (y 7), .ref (y 8), .ref (y 9), .int 0, .int 0, .int 0, .int 0, .int 0])), (y 3, aI V 4 (fun _ => 0)), (y 4, aI V 4 (fun _ => 0)), (y 5, aI V 4 (fun _ => 0)), (y 6, aI V 8 (fun _ => 0)), (y 7, aI V 8 (fun _ => 0)), (y 8, aI V 8 (fun _ => 0)), (y 9, aI V 900 (fun _ => 0)), (y 42, .inr (1, [.int 0, .int 0, .int 0, .int 0, .int 0, .int 0, .ref (y 43), .ref (y 44), .ref (y 45), .ref (y 46), .ref (y 47), .ref (y 48), .ref (y 49), .int 0, .int 0, .int 0, .int 0, .int 0])), (y 43, aI V 4 (fun _ => 0)), (y 44, aI V 4 (fun _ => 0)), (y 45, aI V 4 (fun _ => 0)), (y 46, aI V 8 (fun _ => 0)), (y 47, aI V 8 (fun _ => 0)), (y 48, aI V 8 (fun _ => 0)), (y 49, aI V 900 (fun _ => 0))] := by rw [cpy0] at hD; exact hD
  refine lv_aload_n hx hb dX1_becomeLike_76 rfl (lv_at hl 1 rfl) ?_
  refine va_get (ci := 1) (v := .ref (y 5)) (C := RX1) (T := TX1) (N := 18) hx hb hg inX1 hown hK hP 0 rfl rfl 8 (by decide) (hg _ q_1_61) (fun _ h9 => h9) rfl dX1_becomeLike_77 ?_
  refine lv_iconst (v := 0) hx hb dX1_becomeLike_80 (by decide) ?_
  refine lv_aload_n hx hb dX1_becomeLike_81 rfl (lv_at hl 0 rfl) ?_
  refine va_get (ci := 1) (v := .ref (y 45)) (C := RX1) (T := TX1) (N := 18) hx hb hg inX1 hown hK hP 8 rfl rfl 8 (by decide) (hg _ q_1_61) (fun _ h9 => h9) rfl dX1_becomeLike_82 ?_
  refine lv_iconst (v := 0) hx hb dX1_becomeLike_85 (by decide) ?_
  refine lv_iconst (v := 4) hx hb dX1_becomeLike_86 (by decide) ?_
  refine va_copyi hx hb (hml.trans hl.1.symm) hown (hg _ q_3_100) (hg _ q_3_102) (hg _ q_3_101) (hg _ q_1_16) hK hP hD hS 3 11 0 0 rfl rfl rfl rfl rfl (by decide) (by decide) (by decide) (by decide) (by decide) (fun _ _ => rfl) (Nat.le_of_ble_eq_true rfl) (by decide +kernel) dX1_becomeLike_87 (fun H locs hP hD hS => ?_)
  have hP : va_P V.1 vwCl [(y 2, .inr (1, [.int 0, .int 0, .int 0, .int 0, .int 0, .int 0, .ref (y 3), .ref (y 4), .ref (y 5), .ref (y 6), .ref (y 7), .ref (y 8), .ref (y 9), .int 0, .int 0, .int 0, .int 0, .int 0])), (y 3, aI V 4 (fun _ => 0)), (y 4, aI V 4 (fun _ => 0)), (y 5, aI V 4 (fun _ => 0)), (y 6, aI V 8 (fun _ => 0)), (y 7, aI V 8 (fun _ => 0)), (y 8, aI V 8 (fun _ => 0)), (y 9, aI V 900 (fun _ => 0)), (y 42, .inr (1, [.int 0, .int 0, .int 0, .int 0, .int 0, .int 0, .ref (y 43), .ref (y 44), .ref (y 45), .ref (y 46), .ref (y 47), .ref (y 48), .ref (y 49), .int 0, .int 0, .int 0, .int 0, .int 0])), (y 43, aI V 4 (fun _ => 0)), (y 44, aI V 4 (fun _ => 0)), (y 45, aI V 4 (fun _ => 0)), (y 46, aI V 8 (fun _ => 0)), (y 47, aI V 8 (fun _ => 0)), (y 48, aI V 8 (fun _ => 0)), (y 49, aI V 900 (fun _ => 0))] H := by rw [cpy0] at hP; exact hP
  have hD : va_D A [(y 2, .inr (1, [.int 0, .int 0, .int 0, .int 0, .int 0, .int 0, .ref (y 3), .ref (y 4), .ref (y 5), .ref (y 6), .ref (y 7), .ref (y 8), .ref (y 9), .int 0, .int 0, .int 0, .int 0, .int 0])), (y 3, aI V 4 (fun _ => 0)), (y 4, aI V 4 (fun _ => 0)), (y 5, aI V 4 (fun _ => 0)), (y 6, aI V 8 (fun _ => 0)), (y 7, aI V 8 (fun _ => 0)), (y 8, aI V 8 (fun _ => 0)), (y 9, aI V 900 (fun _ => 0)), (y 42, .inr (1, [.int 0, .int 0, .int 0, .int 0, .int 0, .int 0, .ref (y 43), .ref (y 44), .ref (y 45), .ref (y 46), .ref (y 47), .ref (y 48), .ref (y 49), .int 0, .int 0, .int 0, .int 0, .int 0])), (y 43, aI V 4 (fun _ => 0)), (y 44, aI V 4 (fun _ => 0)), (y 45, aI V 4 (fun _ => 0)), (y 46, aI V 8 (fun _ => 0)), (y 47, aI V 8 (fun _ => 0)), (y 48, aI V 8 (fun _ => 0)), (y 49, aI V 900 (fun _ => 0))] := by rw [cpy0] at hD; exact hD
  refine lv_aload_n hx hb dX1_becomeLike_90 rfl (lv_at hl 1 rfl) ?_
  refine va_get (ci := 1) (v := .ref (y 6)) (C := RX1) (T := TX1) (N := 18) hx hb hg inX1 hown hK hP 0 rfl rfl 9 (by decide) (hg _ q_1_64) (fun _ h9 => h9) rfl dX1_becomeLike_91 ?_
  refine lv_iconst (v := 0) hx hb dX1_becomeLike_94 (by decide) ?_
  refine lv_aload_n hx hb dX1_becomeLike_95 rfl (lv_at hl 0 rfl) ?_
  refine va_get (ci := 1) (v := .ref (y 46)) (C := RX1) (T := TX1) (N := 18) hx hb hg inX1 hown hK hP 8 rfl rfl 9 (by decide) (hg _ q_1_64) (fun _ h9 => h9) rfl dX1_becomeLike_96 ?_
  refine lv_iconst (v := 0) hx hb dX1_becomeLike_99 (by decide) ?_
  refine lv_bipush (v := 8) hx hb dX1_becomeLike_100 (by decide) ?_
  refine va_copyi hx hb (hml.trans hl.1.symm) hown (hg _ q_3_100) (hg _ q_3_102) (hg _ q_3_101) (hg _ q_1_16) hK hP hD hS 4 12 0 0 rfl rfl rfl rfl rfl (by decide) (by decide) (by decide) (by decide) (by decide) (fun _ _ => rfl) (Nat.le_of_ble_eq_true rfl) (by decide +kernel) dX1_becomeLike_102 (fun H locs hP hD hS => ?_)
  have hP : va_P V.1 vwCl [(y 2, .inr (1, [.int 0, .int 0, .int 0, .int 0, .int 0, .int 0, .ref (y 3), .ref (y 4), .ref (y 5), .ref (y 6), .ref (y 7), .ref (y 8), .ref (y 9), .int 0, .int 0, .int 0, .int 0, .int 0])), (y 3, aI V 4 (fun _ => 0)), (y 4, aI V 4 (fun _ => 0)), (y 5, aI V 4 (fun _ => 0)), (y 6, aI V 8 (fun _ => 0)), (y 7, aI V 8 (fun _ => 0)), (y 8, aI V 8 (fun _ => 0)), (y 9, aI V 900 (fun _ => 0)), (y 42, .inr (1, [.int 0, .int 0, .int 0, .int 0, .int 0, .int 0, .ref (y 43), .ref (y 44), .ref (y 45), .ref (y 46), .ref (y 47), .ref (y 48), .ref (y 49), .int 0, .int 0, .int 0, .int 0, .int 0])), (y 43, aI V 4 (fun _ => 0)), (y 44, aI V 4 (fun _ => 0)), (y 45, aI V 4 (fun _ => 0)), (y 46, aI V 8 (fun _ => 0)), (y 47, aI V 8 (fun _ => 0)), (y 48, aI V 8 (fun _ => 0)), (y 49, aI V 900 (fun _ => 0))] H := by rw [cpy0] at hP; exact hP
  have hD : va_D A [(y 2, .inr (1, [.int 0, .int 0, .int 0, .int 0, .int 0, .int 0, .ref (y 3), .ref (y 4), .ref (y 5), .ref (y 6), .ref (y 7), .ref (y 8), .ref (y 9), .int 0, .int 0, .int 0, .int 0, .int 0])), (y 3, aI V 4 (fun _ => 0)), (y 4, aI V 4 (fun _ => 0)), (y 5, aI V 4 (fun _ => 0)), (y 6, aI V 8 (fun _ => 0)), (y 7, aI V 8 (fun _ => 0)), (y 8, aI V 8 (fun _ => 0)), (y 9, aI V 900 (fun _ => 0)), (y 42, .inr (1, [.int 0, .int 0, .int 0, .int 0, .int 0, .int 0, .ref (y 43), .ref (y 44), .ref (y 45), .ref (y 46), .ref (y 47), .ref (y 48), .ref (y 49), .int 0, .int 0, .int 0, .int 0, .int 0])), (y 43, aI V 4 (fun _ => 0)), (y 44, aI V 4 (fun _ => 0)), (y 45, aI V 4 (fun _ => 0)), (y 46, aI V 8 (fun _ => 0)), (y 47, aI V 8 (fun _ => 0)), (y 48, aI V 8 (fun _ => 0)), (y 49, aI V 900 (fun _ => 0))] := by rw [cpy0] at hD; exact hD
  refine lv_aload_n hx hb dX1_becomeLike_105 rfl (lv_at hl 1 rfl) ?_
  refine va_get (ci := 1) (v := .ref (y 7)) (C := RX1) (T := TX1) (N := 18) hx hb hg inX1 hown hK hP 0 rfl rfl 10 (by decide) (hg _ q_1_66) (fun _ h9 => h9) rfl dX1_becomeLike_106 ?_
  refine lv_iconst (v := 0) hx hb dX1_becomeLike_109 (by decide) ?_
  refine lv_aload_n hx hb dX1_becomeLike_110 rfl (lv_at hl 0 rfl) ?_
  refine va_get (ci := 1) (v := .ref (y 47)) (C := RX1) (T := TX1) (N := 18) hx hb hg inX1 hown hK hP 8 rfl rfl 10 (by decide) (hg _ q_1_66) (fun _ h9 => h9) rfl dX1_becomeLike_111 ?_
  refine lv_iconst (v := 0) hx hb dX1_becomeLike_114 (by decide) ?_
  refine lv_bipush (v := 8) hx hb dX1_becomeLike_115 (by decide) ?_
  refine va_copyi hx hb (hml.trans hl.1.symm) hown (hg _ q_3_100) (hg _ q_3_102) (hg _ q_3_101) (hg _ q_1_16) hK hP hD hS 5 13 0 0 rfl rfl rfl rfl rfl (by decide) (by decide) (by decide) (by decide) (by decide) (fun _ _ => rfl) (Nat.le_of_ble_eq_true rfl) (by decide +kernel) dX1_becomeLike_117 (fun H locs hP hD hS => ?_)
  have hP : va_P V.1 vwCl [(y 2, .inr (1, [.int 0, .int 0, .int 0, .int 0, .int 0, .int 0, .ref (y 3), .ref (y 4), .ref (y 5), .ref (y 6), .ref (y 7), .ref (y 8), .ref (y 9), .int 0, .int 0, .int 0, .int 0, .int 0])), (y 3, aI V 4 (fun _ => 0)), (y 4, aI V 4 (fun _ => 0)), (y 5, aI V 4 (fun _ => 0)), (y 6, aI V 8 (fun _ => 0)), (y 7, aI V 8 (fun _ => 0)), (y 8, aI V 8 (fun _ => 0)), (y 9, aI V 900 (fun _ => 0)), (y 42, .inr (1, [.int 0, .int 0, .int 0, .int 0, .int 0, .int 0, .ref (y 43), .ref (y 44), .ref (y 45), .ref (y 46), .ref (y 47), .ref (y 48), .ref (y 49), .int 0, .int 0, .int 0, .int 0, .int 0])), (y 43, aI V 4 (fun _ => 0)), (y 44, aI V 4 (fun _ => 0)), (y 45, aI V 4 (fun _ => 0)), (y 46, aI V 8 (fun _ => 0)), (y 47, aI V 8 (fun _ => 0)), (y 48, aI V 8 (fun _ => 0)), (y 49, aI V 900 (fun _ => 0))] H := by rw [cpy0] at hP; exact hP
  have hD : va_D A [(y 2, .inr (1, [.int 0, .int 0, .int 0, .int 0, .int 0, .int 0, .ref (y 3), .ref (y 4), .ref (y 5), .ref (y 6), .ref (y 7), .ref (y 8), .ref (y 9), .int 0, .int 0, .int 0, .int 0, .int 0])), (y 3, aI V 4 (fun _ => 0)), (y 4, aI V 4 (fun _ => 0)), (y 5, aI V 4 (fun _ => 0)), (y 6, aI V 8 (fun _ => 0)), (y 7, aI V 8 (fun _ => 0)), (y 8, aI V 8 (fun _ => 0)), (y 9, aI V 900 (fun _ => 0)), (y 42, .inr (1, [.int 0, .int 0, .int 0, .int 0, .int 0, .int 0, .ref (y 43), .ref (y 44), .ref (y 45), .ref (y 46), .ref (y 47), .ref (y 48), .ref (y 49), .int 0, .int 0, .int 0, .int 0, .int 0])), (y 43, aI V 4 (fun _ => 0)), (y 44, aI V 4 (fun _ => 0)), (y 45, aI V 4 (fun _ => 0)), (y 46, aI V 8 (fun _ => 0)), (y 47, aI V 8 (fun _ => 0)), (y 48, aI V 8 (fun _ => 0)), (y 49, aI V 900 (fun _ => 0))] := by rw [cpy0] at hD; exact hD
  refine lv_aload_n hx hb dX1_becomeLike_120 rfl (lv_at hl 1 rfl) ?_
  refine va_get (ci := 1) (v := .ref (y 8)) (C := RX1) (T := TX1) (N := 18) hx hb hg inX1 hown hK hP 0 rfl rfl 11 (by decide) (hg _ q_1_68) (fun _ h9 => h9) rfl dX1_becomeLike_121 ?_
  refine lv_iconst (v := 0) hx hb dX1_becomeLike_124 (by decide) ?_
  refine lv_aload_n hx hb dX1_becomeLike_125 rfl (lv_at hl 0 rfl) ?_
  refine va_get (ci := 1) (v := .ref (y 48)) (C := RX1) (T := TX1) (N := 18) hx hb hg inX1 hown hK hP 8 rfl rfl 11 (by decide) (hg _ q_1_68) (fun _ h9 => h9) rfl dX1_becomeLike_126 ?_
  refine lv_iconst (v := 0) hx hb dX1_becomeLike_129 (by decide) ?_
  refine lv_bipush (v := 8) hx hb dX1_becomeLike_130 (by decide) ?_
  refine va_copyi hx hb (hml.trans hl.1.symm) hown (hg _ q_3_100) (hg _ q_3_102) (hg _ q_3_101) (hg _ q_1_16) hK hP hD hS 6 14 0 0 rfl rfl rfl rfl rfl (by decide) (by decide) (by decide) (by decide) (by decide) (fun _ _ => rfl) (Nat.le_of_ble_eq_true rfl) (by decide +kernel) dX1_becomeLike_132 (fun H locs hP hD hS => ?_)
  have hP : va_P V.1 vwCl [(y 2, .inr (1, [.int 0, .int 0, .int 0, .int 0, .int 0, .int 0, .ref (y 3), .ref (y 4), .ref (y 5), .ref (y 6), .ref (y 7), .ref (y 8), .ref (y 9), .int 0, .int 0, .int 0, .int 0, .int 0])), (y 3, aI V 4 (fun _ => 0)), (y 4, aI V 4 (fun _ => 0)), (y 5, aI V 4 (fun _ => 0)), (y 6, aI V 8 (fun _ => 0)), (y 7, aI V 8 (fun _ => 0)), (y 8, aI V 8 (fun _ => 0)), (y 9, aI V 900 (fun _ => 0)), (y 42, .inr (1, [.int 0, .int 0, .int 0, .int 0, .int 0, .int 0, .ref (y 43), .ref (y 44), .ref (y 45), .ref (y 46), .ref (y 47), .ref (y 48), .ref (y 49), .int 0, .int 0, .int 0, .int 0, .int 0])), (y 43, aI V 4 (fun _ => 0)), (y 44, aI V 4 (fun _ => 0)), (y 45, aI V 4 (fun _ => 0)), (y 46, aI V 8 (fun _ => 0)), (y 47, aI V 8 (fun _ => 0)), (y 48, aI V 8 (fun _ => 0)), (y 49, aI V 900 (fun _ => 0))] H := by rw [cpy0] at hP; exact hP
  have hD : va_D A [(y 2, .inr (1, [.int 0, .int 0, .int 0, .int 0, .int 0, .int 0, .ref (y 3), .ref (y 4), .ref (y 5), .ref (y 6), .ref (y 7), .ref (y 8), .ref (y 9), .int 0, .int 0, .int 0, .int 0, .int 0])), (y 3, aI V 4 (fun _ => 0)), (y 4, aI V 4 (fun _ => 0)), (y 5, aI V 4 (fun _ => 0)), (y 6, aI V 8 (fun _ => 0)), (y 7, aI V 8 (fun _ => 0)), (y 8, aI V 8 (fun _ => 0)), (y 9, aI V 900 (fun _ => 0)), (y 42, .inr (1, [.int 0, .int 0, .int 0, .int 0, .int 0, .int 0, .ref (y 43), .ref (y 44), .ref (y 45), .ref (y 46), .ref (y 47), .ref (y 48), .ref (y 49), .int 0, .int 0, .int 0, .int 0, .int 0])), (y 43, aI V 4 (fun _ => 0)), (y 44, aI V 4 (fun _ => 0)), (y 45, aI V 4 (fun _ => 0)), (y 46, aI V 8 (fun _ => 0)), (y 47, aI V 8 (fun _ => 0)), (y 48, aI V 8 (fun _ => 0)), (y 49, aI V 900 (fun _ => 0))] := by rw [cpy0] at hD; exact hD
  refine lv_aload_n hx hb dX1_becomeLike_135 rfl (lv_at hl 1 rfl) ?_
  refine va_get (ci := 1) (v := .ref (y 9)) (C := RX1) (T := TX1) (N := 18) hx hb hg inX1 hown hK hP 0 rfl rfl 12 (by decide) (hg _ q_1_70) (fun _ h9 => h9) rfl dX1_becomeLike_136 ?_
  refine lv_iconst (v := 0) hx hb dX1_becomeLike_139 (by decide) ?_
  refine lv_aload_n hx hb dX1_becomeLike_140 rfl (lv_at hl 0 rfl) ?_
  refine va_get (ci := 1) (v := .ref (y 49)) (C := RX1) (T := TX1) (N := 18) hx hb hg inX1 hown hK hP 8 rfl rfl 12 (by decide) (hg _ q_1_70) (fun _ h9 => h9) rfl dX1_becomeLike_141 ?_
  refine lv_iconst (v := 0) hx hb dX1_becomeLike_144 (by decide) ?_
  refine lv_aload_n hx hb dX1_becomeLike_145 rfl (lv_at hl 1 rfl) ?_
  refine va_get (ci := 1) (v := .int 0) (C := RX1) (T := TX1) (N := 18) hx hb hg inX1 hown hK hP 0 rfl rfl 13 (by decide) (hg _ q_1_73) (fun _ h9 => h9) rfl dX1_becomeLike_146 ?_
  refine va_copyi hx hb (hml.trans hl.1.symm) hown (hg _ q_3_100) (hg _ q_3_102) (hg _ q_3_101) (hg _ q_1_16) hK hP hD hS 7 15 0 0 rfl rfl rfl rfl rfl (by decide) (by decide) (by decide) (by decide) (by decide) (fun _ _ => rfl) (Nat.le_of_ble_eq_true rfl) (by decide +kernel) dX1_becomeLike_149 (fun H locs hP hD hS => ?_)
  have hP : va_P V.1 vwCl [(y 2, .inr (1, [.int 0, .int 0, .int 0, .int 0, .int 0, .int 0, .ref (y 3), .ref (y 4), .ref (y 5), .ref (y 6), .ref (y 7), .ref (y 8), .ref (y 9), .int 0, .int 0, .int 0, .int 0, .int 0])), (y 3, aI V 4 (fun _ => 0)), (y 4, aI V 4 (fun _ => 0)), (y 5, aI V 4 (fun _ => 0)), (y 6, aI V 8 (fun _ => 0)), (y 7, aI V 8 (fun _ => 0)), (y 8, aI V 8 (fun _ => 0)), (y 9, aI V 900 (fun _ => 0)), (y 42, .inr (1, [.int 0, .int 0, .int 0, .int 0, .int 0, .int 0, .ref (y 43), .ref (y 44), .ref (y 45), .ref (y 46), .ref (y 47), .ref (y 48), .ref (y 49), .int 0, .int 0, .int 0, .int 0, .int 0])), (y 43, aI V 4 (fun _ => 0)), (y 44, aI V 4 (fun _ => 0)), (y 45, aI V 4 (fun _ => 0)), (y 46, aI V 8 (fun _ => 0)), (y 47, aI V 8 (fun _ => 0)), (y 48, aI V 8 (fun _ => 0)), (y 49, aI V 900 (fun _ => 0))] H := by rw [cpy0] at hP; exact hP
  have hD : va_D A [(y 2, .inr (1, [.int 0, .int 0, .int 0, .int 0, .int 0, .int 0, .ref (y 3), .ref (y 4), .ref (y 5), .ref (y 6), .ref (y 7), .ref (y 8), .ref (y 9), .int 0, .int 0, .int 0, .int 0, .int 0])), (y 3, aI V 4 (fun _ => 0)), (y 4, aI V 4 (fun _ => 0)), (y 5, aI V 4 (fun _ => 0)), (y 6, aI V 8 (fun _ => 0)), (y 7, aI V 8 (fun _ => 0)), (y 8, aI V 8 (fun _ => 0)), (y 9, aI V 900 (fun _ => 0)), (y 42, .inr (1, [.int 0, .int 0, .int 0, .int 0, .int 0, .int 0, .ref (y 43), .ref (y 44), .ref (y 45), .ref (y 46), .ref (y 47), .ref (y 48), .ref (y 49), .int 0, .int 0, .int 0, .int 0, .int 0])), (y 43, aI V 4 (fun _ => 0)), (y 44, aI V 4 (fun _ => 0)), (y 45, aI V 4 (fun _ => 0)), (y 46, aI V 8 (fun _ => 0)), (y 47, aI V 8 (fun _ => 0)), (y 48, aI V 8 (fun _ => 0)), (y 49, aI V 900 (fun _ => 0))] := by rw [cpy0] at hD; exact hD
  refine lv_aload_n hx hb dX1_becomeLike_152 rfl (lv_at hl 0 rfl) ?_
  refine lv_aload_n hx hb dX1_becomeLike_153 rfl (lv_at hl 1 rfl) ?_
  refine va_get (ci := 1) (v := .int 0) (C := RX1) (T := TX1) (N := 18) hx hb hg inX1 hown hK hP 0 rfl rfl 13 (by decide) (hg _ q_1_73) (fun _ h9 => h9) rfl dX1_becomeLike_154 ?_
  refine va_put (ci := 1) (v := .int 0) (ty := .int) (C := RX1) (T := TX1) (N := 18) hx hb hg inX1 tyX1 tyX1_ok nmX1 hown hK hP hD hS 8 rfl rfl 13 (by decide) (hg _ q_1_73) (fun _ h9 => h9) rfl (by decide +kernel) rfl rfl (Nat.le_of_ble_eq_true rfl) dX1_becomeLike_157 (fun H locs hP hD hS => ?_)
  have hP : va_P V.1 vwCl [(y 2, .inr (1, [.int 0, .int 0, .int 0, .int 0, .int 0, .int 0, .ref (y 3), .ref (y 4), .ref (y 5), .ref (y 6), .ref (y 7), .ref (y 8), .ref (y 9), .int 0, .int 0, .int 0, .int 0, .int 0])), (y 3, aI V 4 (fun _ => 0)), (y 4, aI V 4 (fun _ => 0)), (y 5, aI V 4 (fun _ => 0)), (y 6, aI V 8 (fun _ => 0)), (y 7, aI V 8 (fun _ => 0)), (y 8, aI V 8 (fun _ => 0)), (y 9, aI V 900 (fun _ => 0)), (y 42, .inr (1, [.int 0, .int 0, .int 0, .int 0, .int 0, .int 0, .ref (y 43), .ref (y 44), .ref (y 45), .ref (y 46), .ref (y 47), .ref (y 48), .ref (y 49), .int 0, .int 0, .int 0, .int 0, .int 0])), (y 43, aI V 4 (fun _ => 0)), (y 44, aI V 4 (fun _ => 0)), (y 45, aI V 4 (fun _ => 0)), (y 46, aI V 8 (fun _ => 0)), (y 47, aI V 8 (fun _ => 0)), (y 48, aI V 8 (fun _ => 0)), (y 49, aI V 900 (fun _ => 0))] H := hP
  have hD : va_D A [(y 2, .inr (1, [.int 0, .int 0, .int 0, .int 0, .int 0, .int 0, .ref (y 3), .ref (y 4), .ref (y 5), .ref (y 6), .ref (y 7), .ref (y 8), .ref (y 9), .int 0, .int 0, .int 0, .int 0, .int 0])), (y 3, aI V 4 (fun _ => 0)), (y 4, aI V 4 (fun _ => 0)), (y 5, aI V 4 (fun _ => 0)), (y 6, aI V 8 (fun _ => 0)), (y 7, aI V 8 (fun _ => 0)), (y 8, aI V 8 (fun _ => 0)), (y 9, aI V 900 (fun _ => 0)), (y 42, .inr (1, [.int 0, .int 0, .int 0, .int 0, .int 0, .int 0, .ref (y 43), .ref (y 44), .ref (y 45), .ref (y 46), .ref (y 47), .ref (y 48), .ref (y 49), .int 0, .int 0, .int 0, .int 0, .int 0])), (y 43, aI V 4 (fun _ => 0)), (y 44, aI V 4 (fun _ => 0)), (y 45, aI V 4 (fun _ => 0)), (y 46, aI V 8 (fun _ => 0)), (y 47, aI V 8 (fun _ => 0)), (y 48, aI V 8 (fun _ => 0)), (y 49, aI V 900 (fun _ => 0))] := hD
  refine lv_aload_n hx hb dX1_becomeLike_160 rfl (lv_at hl 0 rfl) ?_
  refine lv_aload_n hx hb dX1_becomeLike_161 rfl (lv_at hl 1 rfl) ?_
  refine va_get (ci := 1) (v := .int 0) (C := RX1) (T := TX1) (N := 18) hx hb hg inX1 hown hK hP 0 rfl rfl 14 (by decide) (hg _ q_1_75) (fun _ h9 => h9) rfl dX1_becomeLike_162 ?_
  refine va_put (ci := 1) (v := .int 0) (ty := .int) (C := RX1) (T := TX1) (N := 18) hx hb hg inX1 tyX1 tyX1_ok nmX1 hown hK hP hD hS 8 rfl rfl 14 (by decide) (hg _ q_1_75) (fun _ h9 => h9) rfl (by decide +kernel) rfl rfl (Nat.le_of_ble_eq_true rfl) dX1_becomeLike_165 (fun H locs hP hD hS => ?_)
  have hP : va_P V.1 vwCl [(y 2, .inr (1, [.int 0, .int 0, .int 0, .int 0, .int 0, .int 0, .ref (y 3), .ref (y 4), .ref (y 5), .ref (y 6), .ref (y 7), .ref (y 8), .ref (y 9), .int 0, .int 0, .int 0, .int 0, .int 0])), (y 3, aI V 4 (fun _ => 0)), (y 4, aI V 4 (fun _ => 0)), (y 5, aI V 4 (fun _ => 0)), (y 6, aI V 8 (fun _ => 0)), (y 7, aI V 8 (fun _ => 0)), (y 8, aI V 8 (fun _ => 0)), (y 9, aI V 900 (fun _ => 0)), (y 42, .inr (1, [.int 0, .int 0, .int 0, .int 0, .int 0, .int 0, .ref (y 43), .ref (y 44), .ref (y 45), .ref (y 46), .ref (y 47), .ref (y 48), .ref (y 49), .int 0, .int 0, .int 0, .int 0, .int 0])), (y 43, aI V 4 (fun _ => 0)), (y 44, aI V 4 (fun _ => 0)), (y 45, aI V 4 (fun _ => 0)), (y 46, aI V 8 (fun _ => 0)), (y 47, aI V 8 (fun _ => 0)), (y 48, aI V 8 (fun _ => 0)), (y 49, aI V 900 (fun _ => 0))] H := hP
  have hD : va_D A [(y 2, .inr (1, [.int 0, .int 0, .int 0, .int 0, .int 0, .int 0, .ref (y 3), .ref (y 4), .ref (y 5), .ref (y 6), .ref (y 7), .ref (y 8), .ref (y 9), .int 0, .int 0, .int 0, .int 0, .int 0])), (y 3, aI V 4 (fun _ => 0)), (y 4, aI V 4 (fun _ => 0)), (y 5, aI V 4 (fun _ => 0)), (y 6, aI V 8 (fun _ => 0)), (y 7, aI V 8 (fun _ => 0)), (y 8, aI V 8 (fun _ => 0)), (y 9, aI V 900 (fun _ => 0)), (y 42, .inr (1, [.int 0, .int 0, .int 0, .int 0, .int 0, .int 0, .ref (y 43), .ref (y 44), .ref (y 45), .ref (y 46), .ref (y 47), .ref (y 48), .ref (y 49), .int 0, .int 0, .int 0, .int 0, .int 0])), (y 43, aI V 4 (fun _ => 0)), (y 44, aI V 4 (fun _ => 0)), (y 45, aI V 4 (fun _ => 0)), (y 46, aI V 8 (fun _ => 0)), (y 47, aI V 8 (fun _ => 0)), (y 48, aI V 8 (fun _ => 0)), (y 49, aI V 900 (fun _ => 0))] := hD
  refine lv_aload_n hx hb dX1_becomeLike_168 rfl (lv_at hl 0 rfl) ?_
  refine lv_aload_n hx hb dX1_becomeLike_169 rfl (lv_at hl 1 rfl) ?_
  refine va_get (ci := 1) (v := .int 0) (C := RX1) (T := TX1) (N := 18) hx hb hg inX1 hown hK hP 0 rfl rfl 15 (by decide) (hg _ q_1_78) (fun _ h9 => h9) rfl dX1_becomeLike_170 ?_
  refine va_put (ci := 1) (v := .int 0) (ty := .int) (C := RX1) (T := TX1) (N := 18) hx hb hg inX1 tyX1 tyX1_ok nmX1 hown hK hP hD hS 8 rfl rfl 15 (by decide) (hg _ q_1_78) (fun _ h9 => h9) rfl (by decide +kernel) rfl rfl (Nat.le_of_ble_eq_true rfl) dX1_becomeLike_173 (fun H locs hP hD hS => ?_)
  have hP : va_P V.1 vwCl [(y 2, .inr (1, [.int 0, .int 0, .int 0, .int 0, .int 0, .int 0, .ref (y 3), .ref (y 4), .ref (y 5), .ref (y 6), .ref (y 7), .ref (y 8), .ref (y 9), .int 0, .int 0, .int 0, .int 0, .int 0])), (y 3, aI V 4 (fun _ => 0)), (y 4, aI V 4 (fun _ => 0)), (y 5, aI V 4 (fun _ => 0)), (y 6, aI V 8 (fun _ => 0)), (y 7, aI V 8 (fun _ => 0)), (y 8, aI V 8 (fun _ => 0)), (y 9, aI V 900 (fun _ => 0)), (y 42, .inr (1, [.int 0, .int 0, .int 0, .int 0, .int 0, .int 0, .ref (y 43), .ref (y 44), .ref (y 45), .ref (y 46), .ref (y 47), .ref (y 48), .ref (y 49), .int 0, .int 0, .int 0, .int 0, .int 0])), (y 43, aI V 4 (fun _ => 0)), (y 44, aI V 4 (fun _ => 0)), (y 45, aI V 4 (fun _ => 0)), (y 46, aI V 8 (fun _ => 0)), (y 47, aI V 8 (fun _ => 0)), (y 48, aI V 8 (fun _ => 0)), (y 49, aI V 900 (fun _ => 0))] H := hP
  have hD : va_D A [(y 2, .inr (1, [.int 0, .int 0, .int 0, .int 0, .int 0, .int 0, .ref (y 3), .ref (y 4), .ref (y 5), .ref (y 6), .ref (y 7), .ref (y 8), .ref (y 9), .int 0, .int 0, .int 0, .int 0, .int 0])), (y 3, aI V 4 (fun _ => 0)), (y 4, aI V 4 (fun _ => 0)), (y 5, aI V 4 (fun _ => 0)), (y 6, aI V 8 (fun _ => 0)), (y 7, aI V 8 (fun _ => 0)), (y 8, aI V 8 (fun _ => 0)), (y 9, aI V 900 (fun _ => 0)), (y 42, .inr (1, [.int 0, .int 0, .int 0, .int 0, .int 0, .int 0, .ref (y 43), .ref (y 44), .ref (y 45), .ref (y 46), .ref (y 47), .ref (y 48), .ref (y 49), .int 0, .int 0, .int 0, .int 0, .int 0])), (y 43, aI V 4 (fun _ => 0)), (y 44, aI V 4 (fun _ => 0)), (y 45, aI V 4 (fun _ => 0)), (y 46, aI V 8 (fun _ => 0)), (y 47, aI V 8 (fun _ => 0)), (y 48, aI V 8 (fun _ => 0)), (y 49, aI V 900 (fun _ => 0))] := hD
  refine lv_aload_n hx hb dX1_becomeLike_176 rfl (lv_at hl 0 rfl) ?_
  refine lv_aload_n hx hb dX1_becomeLike_177 rfl (lv_at hl 1 rfl) ?_
  refine va_get (ci := 1) (v := .int 0) (C := RX1) (T := TX1) (N := 18) hx hb hg inX1 hown hK hP 0 rfl rfl 16 (by decide) (hg _ q_1_81) (fun _ h9 => h9) rfl dX1_becomeLike_178 ?_
  refine va_put (ci := 1) (v := .int 0) (ty := .int) (C := RX1) (T := TX1) (N := 18) hx hb hg inX1 tyX1 tyX1_ok nmX1 hown hK hP hD hS 8 rfl rfl 16 (by decide) (hg _ q_1_81) (fun _ h9 => h9) rfl (by decide +kernel) rfl rfl (Nat.le_of_ble_eq_true rfl) dX1_becomeLike_181 (fun H locs hP hD hS => ?_)
  have hP : va_P V.1 vwCl [(y 2, .inr (1, [.int 0, .int 0, .int 0, .int 0, .int 0, .int 0, .ref (y 3), .ref (y 4), .ref (y 5), .ref (y 6), .ref (y 7), .ref (y 8), .ref (y 9), .int 0, .int 0, .int 0, .int 0, .int 0])), (y 3, aI V 4 (fun _ => 0)), (y 4, aI V 4 (fun _ => 0)), (y 5, aI V 4 (fun _ => 0)), (y 6, aI V 8 (fun _ => 0)), (y 7, aI V 8 (fun _ => 0)), (y 8, aI V 8 (fun _ => 0)), (y 9, aI V 900 (fun _ => 0)), (y 42, .inr (1, [.int 0, .int 0, .int 0, .int 0, .int 0, .int 0, .ref (y 43), .ref (y 44), .ref (y 45), .ref (y 46), .ref (y 47), .ref (y 48), .ref (y 49), .int 0, .int 0, .int 0, .int 0, .int 0])), (y 43, aI V 4 (fun _ => 0)), (y 44, aI V 4 (fun _ => 0)), (y 45, aI V 4 (fun _ => 0)), (y 46, aI V 8 (fun _ => 0)), (y 47, aI V 8 (fun _ => 0)), (y 48, aI V 8 (fun _ => 0)), (y 49, aI V 900 (fun _ => 0))] H := hP
  have hD : va_D A [(y 2, .inr (1, [.int 0, .int 0, .int 0, .int 0, .int 0, .int 0, .ref (y 3), .ref (y 4), .ref (y 5), .ref (y 6), .ref (y 7), .ref (y 8), .ref (y 9), .int 0, .int 0, .int 0, .int 0, .int 0])), (y 3, aI V 4 (fun _ => 0)), (y 4, aI V 4 (fun _ => 0)), (y 5, aI V 4 (fun _ => 0)), (y 6, aI V 8 (fun _ => 0)), (y 7, aI V 8 (fun _ => 0)), (y 8, aI V 8 (fun _ => 0)), (y 9, aI V 900 (fun _ => 0)), (y 42, .inr (1, [.int 0, .int 0, .int 0, .int 0, .int 0, .int 0, .ref (y 43), .ref (y 44), .ref (y 45), .ref (y 46), .ref (y 47), .ref (y 48), .ref (y 49), .int 0, .int 0, .int 0, .int 0, .int 0])), (y 43, aI V 4 (fun _ => 0)), (y 44, aI V 4 (fun _ => 0)), (y 45, aI V 4 (fun _ => 0)), (y 46, aI V 8 (fun _ => 0)), (y 47, aI V 8 (fun _ => 0)), (y 48, aI V 8 (fun _ => 0)), (y 49, aI V 900 (fun _ => 0))] := hD
  refine lv_aload_n hx hb dX1_becomeLike_184 rfl (lv_at hl 0 rfl) ?_
  refine lv_aload_n hx hb dX1_becomeLike_185 rfl (lv_at hl 1 rfl) ?_
  refine va_get (ci := 1) (v := .int 0) (C := RX1) (T := TX1) (N := 18) hx hb hg inX1 hown hK hP 0 rfl rfl 17 (by decide) (hg _ q_1_84) (fun _ h9 => h9) rfl dX1_becomeLike_186 ?_
  refine va_put (ci := 1) (v := .int 0) (ty := .int) (C := RX1) (T := TX1) (N := 18) hx hb hg inX1 tyX1 tyX1_ok nmX1 hown hK hP hD hS 8 rfl rfl 17 (by decide) (hg _ q_1_84) (fun _ h9 => h9) rfl (by decide +kernel) rfl rfl (Nat.le_of_ble_eq_true rfl) dX1_becomeLike_189 (fun H locs hP hD hS => ?_)
  have hP : va_P V.1 vwCl [(y 2, .inr (1, [.int 0, .int 0, .int 0, .int 0, .int 0, .int 0, .ref (y 3), .ref (y 4), .ref (y 5), .ref (y 6), .ref (y 7), .ref (y 8), .ref (y 9), .int 0, .int 0, .int 0, .int 0, .int 0])), (y 3, aI V 4 (fun _ => 0)), (y 4, aI V 4 (fun _ => 0)), (y 5, aI V 4 (fun _ => 0)), (y 6, aI V 8 (fun _ => 0)), (y 7, aI V 8 (fun _ => 0)), (y 8, aI V 8 (fun _ => 0)), (y 9, aI V 900 (fun _ => 0)), (y 42, .inr (1, [.int 0, .int 0, .int 0, .int 0, .int 0, .int 0, .ref (y 43), .ref (y 44), .ref (y 45), .ref (y 46), .ref (y 47), .ref (y 48), .ref (y 49), .int 0, .int 0, .int 0, .int 0, .int 0])), (y 43, aI V 4 (fun _ => 0)), (y 44, aI V 4 (fun _ => 0)), (y 45, aI V 4 (fun _ => 0)), (y 46, aI V 8 (fun _ => 0)), (y 47, aI V 8 (fun _ => 0)), (y 48, aI V 8 (fun _ => 0)), (y 49, aI V 900 (fun _ => 0))] H := hP
  have hD : va_D A [(y 2, .inr (1, [.int 0, .int 0, .int 0, .int 0, .int 0, .int 0, .ref (y 3), .ref (y 4), .ref (y 5), .ref (y 6), .ref (y 7), .ref (y 8), .ref (y 9), .int 0, .int 0, .int 0, .int 0, .int 0])), (y 3, aI V 4 (fun _ => 0)), (y 4, aI V 4 (fun _ => 0)), (y 5, aI V 4 (fun _ => 0)), (y 6, aI V 8 (fun _ => 0)), (y 7, aI V 8 (fun _ => 0)), (y 8, aI V 8 (fun _ => 0)), (y 9, aI V 900 (fun _ => 0)), (y 42, .inr (1, [.int 0, .int 0, .int 0, .int 0, .int 0, .int 0, .ref (y 43), .ref (y 44), .ref (y 45), .ref (y 46), .ref (y 47), .ref (y 48), .ref (y 49), .int 0, .int 0, .int 0, .int 0, .int 0])), (y 43, aI V 4 (fun _ => 0)), (y 44, aI V 4 (fun _ => 0)), (y 45, aI V 4 (fun _ => 0)), (y 46, aI V 8 (fun _ => 0)), (y 47, aI V 8 (fun _ => 0)), (y 48, aI V 8 (fun _ => 0)), (y 49, aI V 900 (fun _ => 0))] := hD
  exact fiV hx hb hr hlk hK hP hD hS dX1_becomeLike_192 (Nat.le_of_ble_eq_true rfl) (Nat.le_of_ble_eq_true rfl) (rfl)
