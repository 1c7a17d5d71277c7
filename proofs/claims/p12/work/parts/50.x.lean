theorem dX10_notes_0 : decode cX10_notes 0 = .ok (.aload_n 0, 1) := by decide +kernel
theorem dX10_notes_1 : decode cX10_notes 1 = .ok (.getfield 13, 3) := by decide +kernel
theorem dX10_notes_4 : decode cX10_notes 4 = .ok (.bipush 53, 2) := by decide +kernel
theorem dX10_notes_6 : decode cX10_notes 6 = .ok (.iaload, 1) := by decide +kernel
theorem dX10_notes_7 : decode cX10_notes 7 = .ok (.bipush 10, 2) := by decide +kernel
theorem dX10_notes_9 : decode cX10_notes 9 = .ok (.if_icmp .ne 46, 3) := by decide +kernel
theorem dX10_notes_55 : decode cX10_notes 55 = .ok (.iconst 0, 1) := by decide +kernel
theorem dX10_notes_56 : decode cX10_notes 56 = .ok (.istore_n 1, 1) := by decide +kernel
theorem dX10_notes_57 : decode cX10_notes 57 = .ok (.iload_n 1, 1) := by decide +kernel
theorem dX10_notes_58 : decode cX10_notes 58 = .ok (.bipush 7, 2) := by decide +kernel
theorem dX10_notes_60 : decode cX10_notes 60 = .ok (.if_icmp .ge 35, 3) := by decide +kernel
theorem dX10_notes_63 : decode cX10_notes 63 = .ok (.aload_n 0, 1) := by decide +kernel
theorem dX10_notes_64 : decode cX10_notes 64 = .ok (.getfield 13, 3) := by decide +kernel
theorem dX10_notes_67 : decode cX10_notes 67 = .ok (.bipush 54, 2) := by decide +kernel
theorem dX10_notes_69 : decode cX10_notes 69 = .ok (.bipush 7, 2) := by decide +kernel
theorem dX10_notes_71 : decode cX10_notes 71 = .ok (.aload_n 0, 1) := by decide +kernel
theorem dX10_notes_72 : decode cX10_notes 72 = .ok (.getfield 13, 3) := by decide +kernel
theorem dX10_notes_75 : decode cX10_notes 75 = .ok (.bipush 53, 2) := by decide +kernel
theorem dX10_notes_77 : decode cX10_notes 77 = .ok (.iaload, 1) := by decide +kernel
theorem dX10_notes_78 : decode cX10_notes 78 = .ok (.imul, 1) := by decide +kernel
theorem dX10_notes_79 : decode cX10_notes 79 = .ok (.iadd, 1) := by decide +kernel
theorem dX10_notes_80 : decode cX10_notes 80 = .ok (.iload_n 1, 1) := by decide +kernel
theorem dX10_notes_81 : decode cX10_notes 81 = .ok (.iadd, 1) := by decide +kernel
theorem dX10_notes_82 : decode cX10_notes 82 = .ok (.aload_n 0, 1) := by decide +kernel
theorem dX10_notes_83 : decode cX10_notes 83 = .ok (.getfield 36, 3) := by decide +kernel
theorem dX10_notes_86 : decode cX10_notes 86 = .ok (.iload_n 1, 1) := by decide +kernel
theorem dX10_notes_87 : decode cX10_notes 87 = .ok (.iaload, 1) := by decide +kernel
theorem dX10_notes_88 : decode cX10_notes 88 = .ok (.iastore, 1) := by decide +kernel
theorem dX10_notes_89 : decode cX10_notes 89 = .ok (.iinc 1 1, 3) := by decide +kernel
theorem dX10_notes_92 : decode cX10_notes 92 = .ok (.goto (-35), 3) := by decide +kernel
theorem dX10_notes_95 : decode cX10_notes 95 = .ok (.aload_n 0, 1) := by decide +kernel
theorem dX10_notes_96 : decode cX10_notes 96 = .ok (.getfield 13, 3) := by decide +kernel
theorem dX10_notes_99 : decode cX10_notes 99 = .ok (.bipush 53, 2) := by decide +kernel
theorem dX10_notes_101 : decode cX10_notes 101 = .ok (.dup2, 1) := by decide +kernel
theorem dX10_notes_102 : decode cX10_notes 102 = .ok (.iaload, 1) := by decide +kernel
theorem dX10_notes_103 : decode cX10_notes 103 = .ok (.iconst 1, 1) := by decide +kernel
theorem dX10_notes_104 : decode cX10_notes 104 = .ok (.iadd, 1) := by decide +kernel
theorem dX10_notes_105 : decode cX10_notes 105 = .ok (.iastore, 1) := by decide +kernel
theorem dX10_notes_106 : decode cX10_notes 106 = .ok (.return_, 1) := by decide +kernel
theorem dX10_notes_12 : decode cX10_notes 12 = .ok (.iconst 0, 1) := by decide +kernel
theorem dX10_notes_13 : decode cX10_notes 13 = .ok (.istore_n 1, 1) := by decide +kernel
theorem dX10_notes_14 : decode cX10_notes 14 = .ok (.iload_n 1, 1) := by decide +kernel
theorem dX10_notes_15 : decode cX10_notes 15 = .ok (.bipush 63, 2) := by decide +kernel
theorem dX10_notes_17 : decode cX10_notes 17 = .ok (.if_icmp .ge 27, 3) := by decide +kernel
theorem dX10_notes_44 : decode cX10_notes 44 = .ok (.aload_n 0, 1) := by decide +kernel
theorem dX10_notes_45 : decode cX10_notes 45 = .ok (.getfield 13, 3) := by decide +kernel
theorem dX10_notes_48 : decode cX10_notes 48 = .ok (.bipush 53, 2) := by decide +kernel
theorem dX10_notes_50 : decode cX10_notes 50 = .ok (.dup2, 1) := by decide +kernel
theorem dX10_notes_51 : decode cX10_notes 51 = .ok (.iaload, 1) := by decide +kernel
theorem dX10_notes_52 : decode cX10_notes 52 = .ok (.iconst 1, 1) := by decide +kernel
theorem dX10_notes_53 : decode cX10_notes 53 = .ok (.isub, 1) := by decide +kernel
theorem dX10_notes_54 : decode cX10_notes 54 = .ok (.iastore, 1) := by decide +kernel
theorem dX10_notes_20 : decode cX10_notes 20 = .ok (.aload_n 0, 1) := by decide +kernel
theorem dX10_notes_21 : decode cX10_notes 21 = .ok (.getfield 13, 3) := by decide +kernel
theorem dX10_notes_24 : decode cX10_notes 24 = .ok (.bipush 54, 2) := by decide +kernel
theorem dX10_notes_26 : decode cX10_notes 26 = .ok (.iload_n 1, 1) := by decide +kernel
theorem dX10_notes_27 : decode cX10_notes 27 = .ok (.iadd, 1) := by decide +kernel
theorem dX10_notes_28 : decode cX10_notes 28 = .ok (.aload_n 0, 1) := by decide +kernel
theorem dX10_notes_29 : decode cX10_notes 29 = .ok (.getfield 13, 3) := by decide +kernel
theorem dX10_notes_32 : decode cX10_notes 32 = .ok (.bipush 61, 2) := by decide +kernel
theorem dX10_notes_34 : decode cX10_notes 34 = .ok (.iload_n 1, 1) := by decide +kernel
theorem dX10_notes_35 : decode cX10_notes 35 = .ok (.iadd, 1) := by decide +kernel
theorem dX10_notes_36 : decode cX10_notes 36 = .ok (.iaload, 1) := by decide +kernel
theorem dX10_notes_37 : decode cX10_notes 37 = .ok (.iastore, 1) := by decide +kernel
theorem dX10_notes_38 : decode cX10_notes 38 = .ok (.iinc 1 1, 3) := by decide +kernel
theorem dX10_notes_41 : decode cX10_notes 41 = .ok (.goto (-27), 3) := by decide +kernel
set_option maxRecDepth 100000 in
noncomputable def B_k_X10_notes_0_1 (fz17 : Nat → Int32) (u_46 : Int32) (f_47 : Nat → Int32) : (Int32 × (Nat → Int32)) ⊕ ((Nat → Int32)) := if (63 : Int32) ≤ u_46 then (bnd (f_47 (53 : Int32).toNatClampNeg : Int32) fun (x_51 : Int32) => bnd (x_51 - (1 : Int32) : Int32) fun (x_53 : Int32) => bnd ((upd f_47 (53 : Int32).toNatClampNeg x_53) : Nat → Int32) fun (f_54 : Nat → Int32) => bnd ((7 : Int32) * x_53 : Int32) fun (x_57 : Int32) => bnd ((54 : Int32) + x_57 : Int32) fun (x_58 : Int32) => bnd (x_58 + (0 : Int32) : Int32) fun (x_59 : Int32) => bnd (fz17 (0 : Int32).toNatClampNeg : Int32) fun (x_60 : Int32) => bnd ((upd f_54 (x_59 : Int32).toNatClampNeg x_60) : Nat → Int32) fun (f_61 : Nat → Int32) => bnd (x_58 + (1 : Int32) : Int32) fun (x_64 : Int32) => bnd (fz17 (1 : Int32).toNatClampNeg : Int32) fun (x_65 : Int32) => bnd ((upd f_61 (x_64 : Int32).toNatClampNeg x_65) : Nat → Int32) fun (f_66 : Nat → Int32) => bnd (x_58 + (2 : Int32) : Int32) fun (x_69 : Int32) => bnd (fz17 (2 : Int32).toNatClampNeg : Int32) fun (x_70 : Int32) => bnd ((upd f_66 (x_69 : Int32).toNatClampNeg x_70) : Nat → Int32) fun (f_71 : Nat → Int32) => bnd (x_58 + (3 : Int32) : Int32) fun (x_74 : Int32) => bnd (fz17 (3 : Int32).toNatClampNeg : Int32) fun (x_75 : Int32) => bnd ((upd f_71 (x_74 : Int32).toNatClampNeg x_75) : Nat → Int32) fun (f_76 : Nat → Int32) => bnd (x_58 + (4 : Int32) : Int32) fun (x_79 : Int32) => bnd (fz17 (4 : Int32).toNatClampNeg : Int32) fun (x_80 : Int32) => bnd ((upd f_76 (x_79 : Int32).toNatClampNeg x_80) : Nat → Int32) fun (f_81 : Nat → Int32) => bnd (x_58 + (5 : Int32) : Int32) fun (x_84 : Int32) => bnd (fz17 (5 : Int32).toNatClampNeg : Int32) fun (x_85 : Int32) => bnd ((upd f_81 (x_84 : Int32).toNatClampNeg x_85) : Nat → Int32) fun (f_86 : Nat → Int32) => bnd (x_58 + (6 : Int32) : Int32) fun (x_89 : Int32) => bnd (fz17 (6 : Int32).toNatClampNeg : Int32) fun (x_90 : Int32) => bnd ((upd f_86 (x_89 : Int32).toNatClampNeg x_90) : Nat → Int32) fun (f_91 : Nat → Int32) => bnd (x_53 + (1 : Int32) : Int32) fun (x_94 : Int32) => bnd ((upd f_91 (53 : Int32).toNatClampNeg x_94) : Nat → Int32) fun (f_95 : Nat → Int32) => Sum.inr ((f_95))) else (bnd ((54 : Int32) + u_46 : Int32) fun (x_97 : Int32) => bnd ((61 : Int32) + u_46 : Int32) fun (x_98 : Int32) => bnd (f_47 (x_98 : Int32).toNatClampNeg : Int32) fun (x_99 : Int32) => bnd ((upd f_47 (x_97 : Int32).toNatClampNeg x_99) : Nat → Int32) fun (f_100 : Nat → Int32) => bnd (u_46 + 1 : Int32) fun (x_101 : Int32) => Sum.inl (x_101, f_100))
noncomputable def L_k_X10_notes_0_1 (fz17 : Nat → Int32) (q9 : Int32 × (Nat → Int32)) : (Int32 × (Nat → Int32)) ⊕ ((Nat → Int32)) := B_k_X10_notes_0_1 fz17 q9.1 q9.2
set_option maxRecDepth 100000 in
noncomputable def F_k_X10_notes_0 (fz17 : Nat → Int32) (fz1 : Nat → Int32) : (Nat → Int32) := bnd (fz1 (53 : Int32).toNatClampNeg : Int32) fun (x_1 : Int32) => if x_1 = (10 : Int32) then (W9 (L_k_X10_notes_0_1 fz17) (0, fz1)) else (bnd ((7 : Int32) * x_1 : Int32) fun (x_6 : Int32) => bnd ((54 : Int32) + x_6 : Int32) fun (x_7 : Int32) => bnd (x_7 + (0 : Int32) : Int32) fun (x_8 : Int32) => bnd (fz17 (0 : Int32).toNatClampNeg : Int32) fun (x_9 : Int32) => bnd ((upd fz1 (x_8 : Int32).toNatClampNeg x_9) : Nat → Int32) fun (f_10 : Nat → Int32) => bnd (x_7 + (1 : Int32) : Int32) fun (x_13 : Int32) => bnd (fz17 (1 : Int32).toNatClampNeg : Int32) fun (x_14 : Int32) => bnd ((upd f_10 (x_13 : Int32).toNatClampNeg x_14) : Nat → Int32) fun (f_15 : Nat → Int32) => bnd (x_7 + (2 : Int32) : Int32) fun (x_18 : Int32) => bnd (fz17 (2 : Int32).toNatClampNeg : Int32) fun (x_19 : Int32) => bnd ((upd f_15 (x_18 : Int32).toNatClampNeg x_19) : Nat → Int32) fun (f_20 : Nat → Int32) => bnd (x_7 + (3 : Int32) : Int32) fun (x_23 : Int32) => bnd (fz17 (3 : Int32).toNatClampNeg : Int32) fun (x_24 : Int32) => bnd ((upd f_20 (x_23 : Int32).toNatClampNeg x_24) : Nat → Int32) fun (f_25 : Nat → Int32) => bnd (x_7 + (4 : Int32) : Int32) fun (x_28 : Int32) => bnd (fz17 (4 : Int32).toNatClampNeg : Int32) fun (x_29 : Int32) => bnd ((upd f_25 (x_28 : Int32).toNatClampNeg x_29) : Nat → Int32) fun (f_30 : Nat → Int32) => bnd (x_7 + (5 : Int32) : Int32) fun (x_33 : Int32) => bnd (fz17 (5 : Int32).toNatClampNeg : Int32) fun (x_34 : Int32) => bnd ((upd f_30 (x_33 : Int32).toNatClampNeg x_34) : Nat → Int32) fun (f_35 : Nat → Int32) => bnd (x_7 + (6 : Int32) : Int32) fun (x_38 : Int32) => bnd (fz17 (6 : Int32).toNatClampNeg : Int32) fun (x_39 : Int32) => bnd ((upd f_35 (x_38 : Int32).toNatClampNeg x_39) : Nat → Int32) fun (f_40 : Nat → Int32) => bnd (x_1 + (1 : Int32) : Int32) fun (x_43 : Int32) => bnd ((upd f_40 (53 : Int32).toNatClampNeg x_43) : Nat → Int32) fun (f_44 : Nat → Int32) => (f_44))
set_option maxHeartbeats 4000000 in
set_option maxRecDepth 100000 in
theorem k_X10_notes_0 (l : Launch) (V : GV) (z : Nat → Nat) (fz17 : Nat → Int32) (pz0_0 : Int32) (pz0_5 : Int32) (pz0_6 : Int32) (pz0_7 : Int32) (pz0_8 : Int32) (pz0_9 : Int32) (pz0_10 : Int32) (pz0_11 : Int32) (pz0_12 : Int32) (pz0_13 : Int32) (pz0_14 : Int32) (pz0_18 : Int32) (pz0_19 : Int32) (pz0_22 : Int32) (pz0_23 : Int32) (pz0_29 : Int32) (fz1 : Nat → Int32) (tfz17 : ivT tS fz17) (bpz0_5 : iv 0 900 pz0_5) (bpz0_6 : iv 0 900 pz0_6) (bpz0_7 : iv 0 900 pz0_7) (bpz0_8 : iv 0 900 pz0_8) (bpz0_10 : iv 0 999 pz0_10) (bpz0_11 : iv 0 4 pz0_11) (bpz0_12 : iv 0 900 pz0_12) (bpz0_13 : iv 0 4 pz0_13) (bpz0_14 : iv (-1) 900 pz0_14) (bpz0_18 : iv 0 2 pz0_18) (bpz0_22 : iv 0 9999 pz0_22) (bpz0_29 : iv 0 10000 pz0_29) (tfz1 : ivT tA fz1) (hf0 : RW fz1) : Ct l V yX10_notes (.code yX10_notes cX10_notes 2 none) 1 [.ref (z 0)] [(z 17, aI V 7 fz17), (z 0, .inr (10, mo z pz0_0 pz0_5 pz0_6 pz0_7 pz0_8 pz0_9 pz0_10 pz0_11 pz0_12 pz0_13 pz0_14 pz0_18 pz0_19 pz0_22 pz0_23 pz0_29)), (z 1, aI V 3075 fz1)] 0 0 (QV V (fun (w : va_W) => ∃ (g0 : Nat → Int32), (ivT tA g0) ∧ (RW g0) ∧ g0 = (F_k_X10_notes_0 fz17 fz1) ∧ w = [(z 17, aI V 7 fz17), (z 0, .inr (10, mo z pz0_0 pz0_5 pz0_6 pz0_7 pz0_8 pz0_9 pz0_10 pz0_11 pz0_12 pz0_13 pz0_14 pz0_18 pz0_19 pz0_22 pz0_23 pz0_29)), (z 1, aI V 3075 g0)])) := by
  refine Ct.of (by decide) (Nat.le_of_ble_eq_true rfl) (fun p e s m below meth c A ls hx hb hr hml hown hlk hnm hg hP hK hD hE hA hS hl => ?_)
  have hl : lv_has ls 2 [(0, .ref (z 0))] := hl
  obtain ⟨T0, hT0⟩ : ∃ T9, T9 = F_k_X10_notes_0 fz17 fz1 := ⟨_, rfl⟩
  have hR := hT0.trans (F_k_X10_notes_0.eq_1 ..)
  refine lv_aload_n hx hb dX10_notes_0 rfl (lv_at hl 0 rfl) ?_
  refine va_get (ci := 10) (v := .ref (z 1)) (C := RX10) (T := TX10) (N := 40) hx hb hg inX10 hown hK hP 1 rfl rfl 1 (by decide) (hg _ q_5_225) (fun _ h9 => h9) rfl dX10_notes_1 ?_
  refine lv_bipush (v := 53) hx hb dX10_notes_4 (by decide) ?_
  refine va_iald hx hb hK hP 2 0 rfl rfl (vin (by decide +kernel)) dX10_notes_6 ?_
  refine lv_topi (fun x_1 ex_1 => ?_)
  have bx_1 : iv 0 10 x_1 := by rw [ex_1]; exact rdT (a := 53) (n := 1) tfz1 (iv_c (53 : Int32) (a := 53) (b := 53) (by decide)) (by decide) (by decide +kernel)
  replace hR := tb hR ex_1
  refine lv_bipush (v := 10) hx hb dX10_notes_7 (by decide) ?_
  refine lv_icmp_ne (tgt := 55) hx hb dX10_notes_9 (by decide) (fun c_2 => ?_) (fun c_2 => ?_)
  · replace hR := te hR c_2
    have b_3 : iv 0 9 x_1 := iv_n1 c_2 bx_1 (iv_c (10 : Int32) (a := 10) (b := 10) (by decide)) (by decide)
    refine lv_iconst (v := 0) hx hb dX10_notes_55 (by decide) ?_
    refine lv_istore_n (lv' := [(1, .int 0), (0, .ref (z 0))]) hx hb dX10_notes_56 rfl hl (by decide) rfl (fun ls hl => ?_)
    refine lv_iload_n hx hb dX10_notes_57 rfl (lv_at hl 0 rfl) ?_
    refine lv_bipush (v := 7) hx hb dX10_notes_58 (by decide) ?_
    refine lv_icmp_ge (tgt := 95) hx hb dX10_notes_60 (by decide) (fun c_5 => absurd c_5 (by decide)) (fun _ => ?_)
    refine lv_aload_n hx hb dX10_notes_63 rfl (lv_at hl 1 rfl) ?_
    refine va_get (ci := 10) (v := .ref (z 1)) (C := RX10) (T := TX10) (N := 40) hx hb hg inX10 hown hK hP 1 rfl rfl 1 (by decide) (hg _ q_5_225) (fun _ h9 => h9) rfl dX10_notes_64 ?_
    refine lv_bipush (v := 54) hx hb dX10_notes_67 (by decide) ?_
    refine lv_bipush (v := 7) hx hb dX10_notes_69 (by decide) ?_
    refine lv_aload_n hx hb dX10_notes_71 rfl (lv_at hl 1 rfl) ?_
    refine va_get (ci := 10) (v := .ref (z 1)) (C := RX10) (T := TX10) (N := 40) hx hb hg inX10 hown hK hP 1 rfl rfl 1 (by decide) (hg _ q_5_225) (fun _ h9 => h9) rfl dX10_notes_72 ?_
    refine lv_bipush (v := 53) hx hb dX10_notes_75 (by decide) ?_
    refine va_iald hx hb hK hP 2 0 rfl rfl (vin (by decide +kernel)) dX10_notes_77 ?_
    refine tpi (y := x_1) ex_1.symm ?_
    refine lv_imul hx hb dX10_notes_78 ?_
    refine lv_topi (fun x_6 ex_6 => ?_)
    have bx_6 : iv 0 63 x_6 := by rw [ex_6]; exact iv_cmul (iv_c (7 : Int32) (a := 7) (b := 7) (by decide)) b_3 (by decide)
    replace hR := tb hR ex_6
    refine lv_iadd hx hb dX10_notes_79 ?_
    refine lv_topi (fun x_7 ex_7 => ?_)
    have bx_7 : iv 54 117 x_7 := by rw [ex_7]; exact iv_add (iv_c (54 : Int32) (a := 54) (b := 54) (by decide)) bx_6 (by decide)
    replace hR := tb hR ex_7
    refine lv_iload_n hx hb dX10_notes_80 rfl (lv_at hl 0 rfl) ?_
    refine lv_iadd hx hb dX10_notes_81 ?_
    refine lv_topi (fun x_8 ex_8 => ?_)
    have bx_8 : iv 54 117 x_8 := by rw [ex_8]; exact iv_add bx_7 (iv_c (0 : Int32) (a := 0) (b := 0) (by decide)) (by decide)
    replace hR := tb hR ex_8
    refine lv_aload_n hx hb dX10_notes_82 rfl (lv_at hl 1 rfl) ?_
    refine va_get (ci := 10) (v := .ref (z 17)) (C := RX10) (T := TX10) (N := 40) hx hb hg inX10 hown hK hP 1 rfl rfl 17 (by decide) (hg _ q_6_1) (fun _ h9 => h9) rfl dX10_notes_83 ?_
    refine lv_iload_n hx hb dX10_notes_86 rfl (lv_at hl 0 rfl) ?_
    refine va_iald hx hb hK hP 0 0 rfl rfl (vin (by decide +kernel)) dX10_notes_87 ?_
    refine lv_topi (fun x_9 ex_9 => ?_)
    have bx_9 : iv 0 4 x_9 := by rw [ex_9]; exact rdT (a := 0) (n := 1) tfz17 (iv_c (0 : Int32) (a := 0) (b := 0) (by decide)) (by decide) (by decide +kernel)
    replace hR := tb hR ex_9
    refine va_iast hx hb hK hP hD hS 2 0 rfl rfl (iv_in bx_8 (by decide)) dX10_notes_88 (fun H locs hP hD hS => ?_)
    obtain ⟨f_10, ef_10, tf_10, hP, hD⟩ : ∃ f_10 : Nat → Int32, f_10 = (upd fz1 (x_8 : Int32).toNatClampNeg x_9) ∧ (ivT tA f_10) ∧ va_P V.1 vwCl [(z 17, aI V 7 fz17), (z 0, .inr (10, mo z pz0_0 pz0_5 pz0_6 pz0_7 pz0_8 pz0_9 pz0_10 pz0_11 pz0_12 pz0_13 pz0_14 pz0_18 pz0_19 pz0_22 pz0_23 pz0_29)), (z 1, aI V 3075 f_10)] H ∧ va_D A [(z 17, aI V 7 fz17), (z 0, .inr (10, mo z pz0_0 pz0_5 pz0_6 pz0_7 pz0_8 pz0_9 pz0_10 pz0_11 pz0_12 pz0_13 pz0_14 pz0_18 pz0_19 pz0_22 pz0_23 pz0_29)), (z 1, aI V 3075 f_10)] := ⟨_, rfl, upT (lo := 0) (hi := 4) (a := 54) (n := 64) tfz1 bx_8 (by decide) bx_9 (by decide +kernel), hP, hD⟩
    replace hR := tb hR ef_10
    refine lv_iinc (v := 1) (lv' := [(1, .int 1), (0, .ref (z 0))]) hx hb dX10_notes_89 hl (k := 0) rfl (by decide +kernel) (by decide) rfl (fun ls hl => ?_)
    refine lv_goto (tgt := 57) hx hb dX10_notes_92 (by decide) ?_
    refine lv_iload_n hx hb dX10_notes_57 rfl (lv_at hl 0 rfl) ?_
    refine lv_bipush (v := 7) hx hb dX10_notes_58 (by decide) ?_
    refine lv_icmp_ge (tgt := 95) hx hb dX10_notes_60 (by decide) (fun c_12 => absurd c_12 (by decide)) (fun _ => ?_)
    refine lv_aload_n hx hb dX10_notes_63 rfl (lv_at hl 1 rfl) ?_
    refine va_get (ci := 10) (v := .ref (z 1)) (C := RX10) (T := TX10) (N := 40) hx hb hg inX10 hown hK hP 1 rfl rfl 1 (by decide) (hg _ q_5_225) (fun _ h9 => h9) rfl dX10_notes_64 ?_
    refine lv_bipush (v := 54) hx hb dX10_notes_67 (by decide) ?_
    refine lv_bipush (v := 7) hx hb dX10_notes_69 (by decide) ?_
    refine lv_aload_n hx hb dX10_notes_71 rfl (lv_at hl 1 rfl) ?_
    refine va_get (ci := 10) (v := .ref (z 1)) (C := RX10) (T := TX10) (N := 40) hx hb hg inX10 hown hK hP 1 rfl rfl 1 (by decide) (hg _ q_5_225) (fun _ h9 => h9) rfl dX10_notes_72 ?_
    refine lv_bipush (v := 53) hx hb dX10_notes_75 (by decide) ?_
    refine va_iald hx hb hK hP 2 0 rfl rfl (vin (by decide +kernel)) dX10_notes_77 ?_
    refine tpi (y := x_1) ((show f_10 (53 : Int32).toNatClampNeg = fz1 (53 : Int32).toNatClampNeg from by rw [ef_10]; exact upd_ne (cl_ne (iv_c (53 : Int32) (a := 53) (b := 53) (by decide)) bx_8 (by decide))).trans ex_1.symm) ?_
    refine lv_imul hx hb dX10_notes_78 ?_
    refine tpi (y := x_6) ex_6.symm ?_
    refine lv_iadd hx hb dX10_notes_79 ?_
    refine tpi (y := x_7) ex_7.symm ?_
    refine lv_iload_n hx hb dX10_notes_80 rfl (lv_at hl 0 rfl) ?_
    refine lv_iadd hx hb dX10_notes_81 ?_
    refine lv_topi (fun x_13 ex_13 => ?_)
    have bx_13 : iv 55 118 x_13 := by rw [ex_13]; exact iv_add bx_7 (iv_c (1 : Int32) (a := 1) (b := 1) (by decide)) (by decide)
    replace hR := tb hR ex_13
    refine lv_aload_n hx hb dX10_notes_82 rfl (lv_at hl 1 rfl) ?_
    refine va_get (ci := 10) (v := .ref (z 17)) (C := RX10) (T := TX10) (N := 40) hx hb hg inX10 hown hK hP 1 rfl rfl 17 (by decide) (hg _ q_6_1) (fun _ h9 => h9) rfl dX10_notes_83 ?_
    refine lv_iload_n hx hb dX10_notes_86 rfl (lv_at hl 0 rfl) ?_
    refine va_iald hx hb hK hP 0 0 rfl rfl (vin (by decide +kernel)) dX10_notes_87 ?_
    refine lv_topi (fun x_14 ex_14 => ?_)
    have bx_14 : iv 0 4 x_14 := by rw [ex_14]; exact rdT (a := 1) (n := 1) tfz17 (iv_c (1 : Int32) (a := 1) (b := 1) (by decide)) (by decide) (by decide +kernel)
    replace hR := tb hR ex_14
    refine va_iast hx hb hK hP hD hS 2 0 rfl rfl (iv_in bx_13 (by decide)) dX10_notes_88 (fun H locs hP hD hS => ?_)
    obtain ⟨f_15, ef_15, tf_15, hP, hD⟩ : ∃ f_15 : Nat → Int32, f_15 = (upd f_10 (x_13 : Int32).toNatClampNeg x_14) ∧ (ivT tA f_15) ∧ va_P V.1 vwCl [(z 17, aI V 7 fz17), (z 0, .inr (10, mo z pz0_0 pz0_5 pz0_6 pz0_7 pz0_8 pz0_9 pz0_10 pz0_11 pz0_12 pz0_13 pz0_14 pz0_18 pz0_19 pz0_22 pz0_23 pz0_29)), (z 1, aI V 3075 f_15)] H ∧ va_D A [(z 17, aI V 7 fz17), (z 0, .inr (10, mo z pz0_0 pz0_5 pz0_6 pz0_7 pz0_8 pz0_9 pz0_10 pz0_11 pz0_12 pz0_13 pz0_14 pz0_18 pz0_19 pz0_22 pz0_23 pz0_29)), (z 1, aI V 3075 f_15)] := ⟨_, rfl, upT (lo := 0) (hi := 4) (a := 55) (n := 64) tf_10 bx_13 (by decide) bx_14 (by decide +kernel), hP, hD⟩
    replace hR := tb hR ef_15
    refine lv_iinc (v := 2) (lv' := [(1, .int 2), (0, .ref (z 0))]) hx hb dX10_notes_89 hl (k := 0) rfl (by decide +kernel) (by decide) rfl (fun ls hl => ?_)
    refine lv_goto (tgt := 57) hx hb dX10_notes_92 (by decide) ?_
    refine lv_iload_n hx hb dX10_notes_57 rfl (lv_at hl 0 rfl) ?_
    refine lv_bipush (v := 7) hx hb dX10_notes_58 (by decide) ?_
    refine lv_icmp_ge (tgt := 95) hx hb dX10_notes_60 (by decide) (fun c_17 => absurd c_17 (by decide)) (fun _ => ?_)
    refine lv_aload_n hx hb dX10_notes_63 rfl (lv_at hl 1 rfl) ?_
    refine va_get (ci := 10) (v := .ref (z 1)) (C := RX10) (T := TX10) (N := 40) hx hb hg inX10 hown hK hP 1 rfl rfl 1 (by decide) (hg _ q_5_225) (fun _ h9 => h9) rfl dX10_notes_64 ?_
    refine lv_bipush (v := 54) hx hb dX10_notes_67 (by decide) ?_
    refine lv_bipush (v := 7) hx hb dX10_notes_69 (by decide) ?_
    refine lv_aload_n hx hb dX10_notes_71 rfl (lv_at hl 1 rfl) ?_
    refine va_get (ci := 10) (v := .ref (z 1)) (C := RX10) (T := TX10) (N := 40) hx hb hg inX10 hown hK hP 1 rfl rfl 1 (by decide) (hg _ q_5_225) (fun _ h9 => h9) rfl dX10_notes_72 ?_
    refine lv_bipush (v := 53) hx hb dX10_notes_75 (by decide) ?_
    refine va_iald hx hb hK hP 2 0 rfl rfl (vin (by decide +kernel)) dX10_notes_77 ?_
    refine tpi (y := x_1) (((show f_15 (53 : Int32).toNatClampNeg = f_10 (53 : Int32).toNatClampNeg from by rw [ef_15]; exact upd_ne (cl_ne (iv_c (53 : Int32) (a := 53) (b := 53) (by decide)) bx_13 (by decide))).trans (show f_10 (53 : Int32).toNatClampNeg = fz1 (53 : Int32).toNatClampNeg from by rw [ef_10]; exact upd_ne (cl_ne (iv_c (53 : Int32) (a := 53) (b := 53) (by decide)) bx_8 (by decide)))).trans ex_1.symm) ?_
    refine lv_imul hx hb dX10_notes_78 ?_
    refine tpi (y := x_6) ex_6.symm ?_
    refine lv_iadd hx hb dX10_notes_79 ?_
    refine tpi (y := x_7) ex_7.symm ?_
    refine lv_iload_n hx hb dX10_notes_80 rfl (lv_at hl 0 rfl) ?_
    refine lv_iadd hx hb dX10_notes_81 ?_
    refine lv_topi (fun x_18 ex_18 => ?_)
    have bx_18 : iv 56 119 x_18 := by rw [ex_18]; exact iv_add bx_7 (iv_c (2 : Int32) (a := 2) (b := 2) (by decide)) (by decide)
    replace hR := tb hR ex_18
    refine lv_aload_n hx hb dX10_notes_82 rfl (lv_at hl 1 rfl) ?_
    refine va_get (ci := 10) (v := .ref (z 17)) (C := RX10) (T := TX10) (N := 40) hx hb hg inX10 hown hK hP 1 rfl rfl 17 (by decide) (hg _ q_6_1) (fun _ h9 => h9) rfl dX10_notes_83 ?_
    refine lv_iload_n hx hb dX10_notes_86 rfl (lv_at hl 0 rfl) ?_
    refine va_iald hx hb hK hP 0 0 rfl rfl (vin (by decide +kernel)) dX10_notes_87 ?_
    refine lv_topi (fun x_19 ex_19 => ?_)
    have bx_19 : iv 0 4 x_19 := by rw [ex_19]; exact rdT (a := 2) (n := 1) tfz17 (iv_c (2 : Int32) (a := 2) (b := 2) (by decide)) (by decide) (by decide +kernel)
    replace hR := tb hR ex_19
    refine va_iast hx hb hK hP hD hS 2 0 rfl rfl (iv_in bx_18 (by decide)) dX10_notes_88 (fun H locs hP hD hS => ?_)
    obtain ⟨f_20, ef_20, tf_20, hP, hD⟩ : ∃ f_20 : Nat → Int32, f_20 = (upd f_15 (x_18 : Int32).toNatClampNeg x_19) ∧ (ivT tA f_20) ∧ va_P V.1 vwCl [(z 17, aI V 7 fz17), (z 0, .inr (10, mo z pz0_0 pz0_5 pz0_6 pz0_7 pz0_8 pz0_9 pz0_10 pz0_11 pz0_12 pz0_13 pz0_14 pz0_18 pz0_19 pz0_22 pz0_23 pz0_29)), (z 1, aI V 3075 f_20)] H ∧ va_D A [(z 17, aI V 7 fz17), (z 0, .inr (10, mo z pz0_0 pz0_5 pz0_6 pz0_7 pz0_8 pz0_9 pz0_10 pz0_11 pz0_12 pz0_13 pz0_14 pz0_18 pz0_19 pz0_22 pz0_23 pz0_29)), (z 1, aI V 3075 f_20)] := ⟨_, rfl, upT (lo := 0) (hi := 4) (a := 56) (n := 64) tf_15 bx_18 (by decide) bx_19 (by decide +kernel), hP, hD⟩
    replace hR := tb hR ef_20
    refine lv_iinc (v := 3) (lv' := [(1, .int 3), (0, .ref (z 0))]) hx hb dX10_notes_89 hl (k := 0) rfl (by decide +kernel) (by decide) rfl (fun ls hl => ?_)
    refine lv_goto (tgt := 57) hx hb dX10_notes_92 (by decide) ?_
    refine lv_iload_n hx hb dX10_notes_57 rfl (lv_at hl 0 rfl) ?_
    refine lv_bipush (v := 7) hx hb dX10_notes_58 (by decide) ?_
    refine lv_icmp_ge (tgt := 95) hx hb dX10_notes_60 (by decide) (fun c_22 => absurd c_22 (by decide)) (fun _ => ?_)
    refine lv_aload_n hx hb dX10_notes_63 rfl (lv_at hl 1 rfl) ?_
    refine va_get (ci := 10) (v := .ref (z 1)) (C := RX10) (T := TX10) (N := 40) hx hb hg inX10 hown hK hP 1 rfl rfl 1 (by decide) (hg _ q_5_225) (fun _ h9 => h9) rfl dX10_notes_64 ?_
    refine lv_bipush (v := 54) hx hb dX10_notes_67 (by decide) ?_
    refine lv_bipush (v := 7) hx hb dX10_notes_69 (by decide) ?_
    refine lv_aload_n hx hb dX10_notes_71 rfl (lv_at hl 1 rfl) ?_
    refine va_get (ci := 10) (v := .ref (z 1)) (C := RX10) (T := TX10) (N := 40) hx hb hg inX10 hown hK hP 1 rfl rfl 1 (by decide) (hg _ q_5_225) (fun _ h9 => h9) rfl dX10_notes_72 ?_
    refine lv_bipush (v := 53) hx hb dX10_notes_75 (by decide) ?_
    refine va_iald hx hb hK hP 2 0 rfl rfl (vin (by decide +kernel)) dX10_notes_77 ?_
    refine tpi (y := x_1) ((((show f_20 (53 : Int32).toNatClampNeg = f_15 (53 : Int32).toNatClampNeg from by rw [ef_20]; exact upd_ne (cl_ne (iv_c (53 : Int32) (a := 53) (b := 53) (by decide)) bx_18 (by decide))).trans (show f_15 (53 : Int32).toNatClampNeg = f_10 (53 : Int32).toNatClampNeg from by rw [ef_15]; exact upd_ne (cl_ne (iv_c (53 : Int32) (a := 53) (b := 53) (by decide)) bx_13 (by decide)))).trans (show f_10 (53 : Int32).toNatClampNeg = fz1 (53 : Int32).toNatClampNeg from by rw [ef_10]; exact upd_ne (cl_ne (iv_c (53 : Int32) (a := 53) (b := 53) (by decide)) bx_8 (by decide)))).trans ex_1.symm) ?_
    refine lv_imul hx hb dX10_notes_78 ?_
    refine tpi (y := x_6) ex_6.symm ?_
    refine lv_iadd hx hb dX10_notes_79 ?_
    refine tpi (y := x_7) ex_7.symm ?_
    refine lv_iload_n hx hb dX10_notes_80 rfl (lv_at hl 0 rfl) ?_
    refine lv_iadd hx hb dX10_notes_81 ?_
    refine lv_topi (fun x_23 ex_23 => ?_)
    have bx_23 : iv 57 120 x_23 := by rw [ex_23]; exact iv_add bx_7 (iv_c (3 : Int32) (a := 3) (b := 3) (by decide)) (by decide)
    replace hR := tb hR ex_23
    refine lv_aload_n hx hb dX10_notes_82 rfl (lv_at hl 1 rfl) ?_
    refine va_get (ci := 10) (v := .ref (z 17)) (C := RX10) (T := TX10) (N := 40) hx hb hg inX10 hown hK hP 1 rfl rfl 17 (by decide) (hg _ q_6_1) (fun _ h9 => h9) rfl dX10_notes_83 ?_
    refine lv_iload_n hx hb dX10_notes_86 rfl (lv_at hl 0 rfl) ?_
    refine va_iald hx hb hK hP 0 0 rfl rfl (vin (by decide +kernel)) dX10_notes_87 ?_
    refine lv_topi (fun x_24 ex_24 => ?_)
    have bx_24 : iv 0 4 x_24 := by rw [ex_24]; exact rdT (a := 3) (n := 1) tfz17 (iv_c (3 : Int32) (a := 3) (b := 3) (by decide)) (by decide) (by decide +kernel)
    replace hR := tb hR ex_24
    refine va_iast hx hb hK hP hD hS 2 0 rfl rfl (iv_in bx_23 (by decide)) dX10_notes_88 (fun H locs hP hD hS => ?_)
    obtain ⟨f_25, ef_25, tf_25, hP, hD⟩ : ∃ f_25 : Nat → Int32, f_25 = (upd f_20 (x_23 : Int32).toNatClampNeg x_24) ∧ (ivT tA f_25) ∧ va_P V.1 vwCl [(z 17, aI V 7 fz17), (z 0, .inr (10, mo z pz0_0 pz0_5 pz0_6 pz0_7 pz0_8 pz0_9 pz0_10 pz0_11 pz0_12 pz0_13 pz0_14 pz0_18 pz0_19 pz0_22 pz0_23 pz0_29)), (z 1, aI V 3075 f_25)] H ∧ va_D A [(z 17, aI V 7 fz17), (z 0, .inr (10, mo z pz0_0 pz0_5 pz0_6 pz0_7 pz0_8 pz0_9 pz0_10 pz0_11 pz0_12 pz0_13 pz0_14 pz0_18 pz0_19 pz0_22 pz0_23 pz0_29)), (z 1, aI V 3075 f_25)] := ⟨_, rfl, upT (lo := 0) (hi := 4) (a := 57) (n := 64) tf_20 bx_23 (by decide) bx_24 (by decide +kernel), hP, hD⟩
    replace hR := tb hR ef_25
    refine lv_iinc (v := 4) (lv' := [(1, .int 4), (0, .ref (z 0))]) hx hb dX10_notes_89 hl (k := 0) rfl (by decide +kernel) (by decide) rfl (fun ls hl => ?_)
    refine lv_goto (tgt := 57) hx hb dX10_notes_92 (by decide) ?_
    refine lv_iload_n hx hb dX10_notes_57 rfl (lv_at hl 0 rfl) ?_
    refine lv_bipush (v := 7) hx hb dX10_notes_58 (by decide) ?_
    refine lv_icmp_ge (tgt := 95) hx hb dX10_notes_60 (by decide) (fun c_27 => absurd c_27 (by decide)) (fun _ => ?_)
    refine lv_aload_n hx hb dX10_notes_63 rfl (lv_at hl 1 rfl) ?_
    refine va_get (ci := 10) (v := .ref (z 1)) (C := RX10) (T := TX10) (N := 40) hx hb hg inX10 hown hK hP 1 rfl rfl 1 (by decide) (hg _ q_5_225) (fun _ h9 => h9) rfl dX10_notes_64 ?_
    refine lv_bipush (v := 54) hx hb dX10_notes_67 (by decide) ?_
    refine lv_bipush (v := 7) hx hb dX10_notes_69 (by decide) ?_
    refine lv_aload_n hx hb dX10_notes_71 rfl (lv_at hl 1 rfl) ?_
    refine va_get (ci := 10) (v := .ref (z 1)) (C := RX10) (T := TX10) (N := 40) hx hb hg inX10 hown hK hP 1 rfl rfl 1 (by decide) (hg _ q_5_225) (fun _ h9 => h9) rfl dX10_notes_72 ?_
    refine lv_bipush (v := 53) hx hb dX10_notes_75 (by decide) ?_
    refine va_iald hx hb hK hP 2 0 rfl rfl (vin (by decide +kernel)) dX10_notes_77 ?_
    refine tpi (y := x_1) (((((show f_25 (53 : Int32).toNatClampNeg = f_20 (53 : Int32).toNatClampNeg from by rw [ef_25]; exact upd_ne (cl_ne (iv_c (53 : Int32) (a := 53) (b := 53) (by decide)) bx_23 (by decide))).trans (show f_20 (53 : Int32).toNatClampNeg = f_15 (53 : Int32).toNatClampNeg from by rw [ef_20]; exact upd_ne (cl_ne (iv_c (53 : Int32) (a := 53) (b := 53) (by decide)) bx_18 (by decide)))).trans (show f_15 (53 : Int32).toNatClampNeg = f_10 (53 : Int32).toNatClampNeg from by rw [ef_15]; exact upd_ne (cl_ne (iv_c (53 : Int32) (a := 53) (b := 53) (by decide)) bx_13 (by decide)))).trans (show f_10 (53 : Int32).toNatClampNeg = fz1 (53 : Int32).toNatClampNeg from by rw [ef_10]; exact upd_ne (cl_ne (iv_c (53 : Int32) (a := 53) (b := 53) (by decide)) bx_8 (by decide)))).trans ex_1.symm) ?_
    refine lv_imul hx hb dX10_notes_78 ?_
    refine tpi (y := x_6) ex_6.symm ?_
    refine lv_iadd hx hb dX10_notes_79 ?_
    refine tpi (y := x_7) ex_7.symm ?_
    refine lv_iload_n hx hb dX10_notes_80 rfl (lv_at hl 0 rfl) ?_
    refine lv_iadd hx hb dX10_notes_81 ?_
    refine lv_topi (fun x_28 ex_28 => ?_)
    have bx_28 : iv 58 121 x_28 := by rw [ex_28]; exact iv_add bx_7 (iv_c (4 : Int32) (a := 4) (b := 4) (by decide)) (by decide)
    replace hR := tb hR ex_28
    refine lv_aload_n hx hb dX10_notes_82 rfl (lv_at hl 1 rfl) ?_
    refine va_get (ci := 10) (v := .ref (z 17)) (C := RX10) (T := TX10) (N := 40) hx hb hg inX10 hown hK hP 1 rfl rfl 17 (by decide) (hg _ q_6_1) (fun _ h9 => h9) rfl dX10_notes_83 ?_
    refine lv_iload_n hx hb dX10_notes_86 rfl (lv_at hl 0 rfl) ?_
    refine va_iald hx hb hK hP 0 0 rfl rfl (vin (by decide +kernel)) dX10_notes_87 ?_
    refine lv_topi (fun x_29 ex_29 => ?_)
    have bx_29 : iv 0 15 x_29 := by rw [ex_29]; exact rdT (a := 4) (n := 1) tfz17 (iv_c (4 : Int32) (a := 4) (b := 4) (by decide)) (by decide) (by decide +kernel)
    replace hR := tb hR ex_29
    refine va_iast hx hb hK hP hD hS 2 0 rfl rfl (iv_in bx_28 (by decide)) dX10_notes_88 (fun H locs hP hD hS => ?_)
    obtain ⟨f_30, ef_30, tf_30, hP, hD⟩ : ∃ f_30 : Nat → Int32, f_30 = (upd f_25 (x_28 : Int32).toNatClampNeg x_29) ∧ (ivT tA f_30) ∧ va_P V.1 vwCl [(z 17, aI V 7 fz17), (z 0, .inr (10, mo z pz0_0 pz0_5 pz0_6 pz0_7 pz0_8 pz0_9 pz0_10 pz0_11 pz0_12 pz0_13 pz0_14 pz0_18 pz0_19 pz0_22 pz0_23 pz0_29)), (z 1, aI V 3075 f_30)] H ∧ va_D A [(z 17, aI V 7 fz17), (z 0, .inr (10, mo z pz0_0 pz0_5 pz0_6 pz0_7 pz0_8 pz0_9 pz0_10 pz0_11 pz0_12 pz0_13 pz0_14 pz0_18 pz0_19 pz0_22 pz0_23 pz0_29)), (z 1, aI V 3075 f_30)] := ⟨_, rfl, (by have q_x_6 := toInt_mulC (k := 7) ex_6 b_3 (by decide) (by decide); have q_x_7 := toInt_add ex_7 (iv_c (54 : Int32) (a := 54) (b := 54) (by decide)) bx_6 (by decide); have k_x_7 : (54 : Int32).toInt = 54 := (by decide); have q_x_28 := toInt_add ex_28 bx_7 (iv_c (4 : Int32) (a := 4) (b := 4) (by decide)) (by decide); have k_x_28 : (4 : Int32).toInt = 4 := (by decide); exact upS (lo := 0) (hi := 15) (c := 58) (k := 7) (a := 0) (n := 10) tf_25 (show _ = 58 + 7 * (x_1 : Int32).toInt by omega) b_3 (by decide) bx_29 (by decide +kernel)), hP, hD⟩
    replace hR := tb hR ef_30
    refine lv_iinc (v := 5) (lv' := [(1, .int 5), (0, .ref (z 0))]) hx hb dX10_notes_89 hl (k := 0) rfl (by decide +kernel) (by decide) rfl (fun ls hl => ?_)
    refine lv_goto (tgt := 57) hx hb dX10_notes_92 (by decide) ?_
    refine lv_iload_n hx hb dX10_notes_57 rfl (lv_at hl 0 rfl) ?_
    refine lv_bipush (v := 7) hx hb dX10_notes_58 (by decide) ?_
    refine lv_icmp_ge (tgt := 95) hx hb dX10_notes_60 (by decide) (fun c_32 => absurd c_32 (by decide)) (fun _ => ?_)
    refine lv_aload_n hx hb dX10_notes_63 rfl (lv_at hl 1 rfl) ?_
    refine va_get (ci := 10) (v := .ref (z 1)) (C := RX10) (T := TX10) (N := 40) hx hb hg inX10 hown hK hP 1 rfl rfl 1 (by decide) (hg _ q_5_225) (fun _ h9 => h9) rfl dX10_notes_64 ?_
    refine lv_bipush (v := 54) hx hb dX10_notes_67 (by decide) ?_
    refine lv_bipush (v := 7) hx hb dX10_notes_69 (by decide) ?_
    refine lv_aload_n hx hb dX10_notes_71 rfl (lv_at hl 1 rfl) ?_
    refine va_get (ci := 10) (v := .ref (z 1)) (C := RX10) (T := TX10) (N := 40) hx hb hg inX10 hown hK hP 1 rfl rfl 1 (by decide) (hg _ q_5_225) (fun _ h9 => h9) rfl dX10_notes_72 ?_
    refine lv_bipush (v := 53) hx hb dX10_notes_75 (by decide) ?_
    refine va_iald hx hb hK hP 2 0 rfl rfl (vin (by decide +kernel)) dX10_notes_77 ?_
    refine tpi (y := x_1) ((((((show f_30 (53 : Int32).toNatClampNeg = f_25 (53 : Int32).toNatClampNeg from by rw [ef_30]; exact upd_ne (cl_ne (iv_c (53 : Int32) (a := 53) (b := 53) (by decide)) bx_28 (by decide))).trans (show f_25 (53 : Int32).toNatClampNeg = f_20 (53 : Int32).toNatClampNeg from by rw [ef_25]; exact upd_ne (cl_ne (iv_c (53 : Int32) (a := 53) (b := 53) (by decide)) bx_23 (by decide)))).trans (show f_20 (53 : Int32).toNatClampNeg = f_15 (53 : Int32).toNatClampNeg from by rw [ef_20]; exact upd_ne (cl_ne (iv_c (53 : Int32) (a := 53) (b := 53) (by decide)) bx_18 (by decide)))).trans (show f_15 (53 : Int32).toNatClampNeg = f_10 (53 : Int32).toNatClampNeg from by rw [ef_15]; exact upd_ne (cl_ne (iv_c (53 : Int32) (a := 53) (b := 53) (by decide)) bx_13 (by decide)))).trans (show f_10 (53 : Int32).toNatClampNeg = fz1 (53 : Int32).toNatClampNeg from by rw [ef_10]; exact upd_ne (cl_ne (iv_c (53 : Int32) (a := 53) (b := 53) (by decide)) bx_8 (by decide)))).trans ex_1.symm) ?_
    refine lv_imul hx hb dX10_notes_78 ?_
    refine tpi (y := x_6) ex_6.symm ?_
    refine lv_iadd hx hb dX10_notes_79 ?_
    refine tpi (y := x_7) ex_7.symm ?_
    refine lv_iload_n hx hb dX10_notes_80 rfl (lv_at hl 0 rfl) ?_
    refine lv_iadd hx hb dX10_notes_81 ?_
    refine lv_topi (fun x_33 ex_33 => ?_)
    have bx_33 : iv 59 122 x_33 := by rw [ex_33]; exact iv_add bx_7 (iv_c (5 : Int32) (a := 5) (b := 5) (by decide)) (by decide)
    replace hR := tb hR ex_33
    refine lv_aload_n hx hb dX10_notes_82 rfl (lv_at hl 1 rfl) ?_
    refine va_get (ci := 10) (v := .ref (z 17)) (C := RX10) (T := TX10) (N := 40) hx hb hg inX10 hown hK hP 1 rfl rfl 17 (by decide) (hg _ q_6_1) (fun _ h9 => h9) rfl dX10_notes_83 ?_
    refine lv_iload_n hx hb dX10_notes_86 rfl (lv_at hl 0 rfl) ?_
    refine va_iald hx hb hK hP 0 0 rfl rfl (vin (by decide +kernel)) dX10_notes_87 ?_
    refine lv_topi (fun x_34 ex_34 => ?_)
    have bx_34 : iv 0 9 x_34 := by rw [ex_34]; exact rdT (a := 5) (n := 1) tfz17 (iv_c (5 : Int32) (a := 5) (b := 5) (by decide)) (by decide) (by decide +kernel)
    replace hR := tb hR ex_34
    refine va_iast hx hb hK hP hD hS 2 0 rfl rfl (iv_in bx_33 (by decide)) dX10_notes_88 (fun H locs hP hD hS => ?_)
    obtain ⟨f_35, ef_35, tf_35, hP, hD⟩ : ∃ f_35 : Nat → Int32, f_35 = (upd f_30 (x_33 : Int32).toNatClampNeg x_34) ∧ (ivT tA f_35) ∧ va_P V.1 vwCl [(z 17, aI V 7 fz17), (z 0, .inr (10, mo z pz0_0 pz0_5 pz0_6 pz0_7 pz0_8 pz0_9 pz0_10 pz0_11 pz0_12 pz0_13 pz0_14 pz0_18 pz0_19 pz0_22 pz0_23 pz0_29)), (z 1, aI V 3075 f_35)] H ∧ va_D A [(z 17, aI V 7 fz17), (z 0, .inr (10, mo z pz0_0 pz0_5 pz0_6 pz0_7 pz0_8 pz0_9 pz0_10 pz0_11 pz0_12 pz0_13 pz0_14 pz0_18 pz0_19 pz0_22 pz0_23 pz0_29)), (z 1, aI V 3075 f_35)] := ⟨_, rfl, (by have q_x_6 := toInt_mulC (k := 7) ex_6 b_3 (by decide) (by decide); have q_x_7 := toInt_add ex_7 (iv_c (54 : Int32) (a := 54) (b := 54) (by decide)) bx_6 (by decide); have k_x_7 : (54 : Int32).toInt = 54 := (by decide); have q_x_33 := toInt_add ex_33 bx_7 (iv_c (5 : Int32) (a := 5) (b := 5) (by decide)) (by decide); have k_x_33 : (5 : Int32).toInt = 5 := (by decide); exact upS (lo := 0) (hi := 9) (c := 59) (k := 7) (a := 0) (n := 10) tf_30 (show _ = 59 + 7 * (x_1 : Int32).toInt by omega) b_3 (by decide) bx_34 (by decide +kernel)), hP, hD⟩
    replace hR := tb hR ef_35
    refine lv_iinc (v := 6) (lv' := [(1, .int 6), (0, .ref (z 0))]) hx hb dX10_notes_89 hl (k := 0) rfl (by decide +kernel) (by decide) rfl (fun ls hl => ?_)
    refine lv_goto (tgt := 57) hx hb dX10_notes_92 (by decide) ?_
    refine lv_iload_n hx hb dX10_notes_57 rfl (lv_at hl 0 rfl) ?_
    refine lv_bipush (v := 7) hx hb dX10_notes_58 (by decide) ?_
    refine lv_icmp_ge (tgt := 95) hx hb dX10_notes_60 (by decide) (fun c_37 => absurd c_37 (by decide)) (fun _ => ?_)
    refine lv_aload_n hx hb dX10_notes_63 rfl (lv_at hl 1 rfl) ?_
    refine va_get (ci := 10) (v := .ref (z 1)) (C := RX10) (T := TX10) (N := 40) hx hb hg inX10 hown hK hP 1 rfl rfl 1 (by decide) (hg _ q_5_225) (fun _ h9 => h9) rfl dX10_notes_64 ?_
    refine lv_bipush (v := 54) hx hb dX10_notes_67 (by decide) ?_
    refine lv_bipush (v := 7) hx hb dX10_notes_69 (by decide) ?_
    refine lv_aload_n hx hb dX10_notes_71 rfl (lv_at hl 1 rfl) ?_
    refine va_get (ci := 10) (v := .ref (z 1)) (C := RX10) (T := TX10) (N := 40) hx hb hg inX10 hown hK hP 1 rfl rfl 1 (by decide) (hg _ q_5_225) (fun _ h9 => h9) rfl dX10_notes_72 ?_
    refine lv_bipush (v := 53) hx hb dX10_notes_75 (by decide) ?_
    refine va_iald hx hb hK hP 2 0 rfl rfl (vin (by decide +kernel)) dX10_notes_77 ?_
    refine tpi (y := x_1) (((((((show f_35 (53 : Int32).toNatClampNeg = f_30 (53 : Int32).toNatClampNeg from by rw [ef_35]; exact upd_ne (cl_ne (iv_c (53 : Int32) (a := 53) (b := 53) (by decide)) bx_33 (by decide))).trans (show f_30 (53 : Int32).toNatClampNeg = f_25 (53 : Int32).toNatClampNeg from by rw [ef_30]; exact upd_ne (cl_ne (iv_c (53 : Int32) (a := 53) (b := 53) (by decide)) bx_28 (by decide)))).trans (show f_25 (53 : Int32).toNatClampNeg = f_20 (53 : Int32).toNatClampNeg from by rw [ef_25]; exact upd_ne (cl_ne (iv_c (53 : Int32) (a := 53) (b := 53) (by decide)) bx_23 (by decide)))).trans (show f_20 (53 : Int32).toNatClampNeg = f_15 (53 : Int32).toNatClampNeg from by rw [ef_20]; exact upd_ne (cl_ne (iv_c (53 : Int32) (a := 53) (b := 53) (by decide)) bx_18 (by decide)))).trans (show f_15 (53 : Int32).toNatClampNeg = f_10 (53 : Int32).toNatClampNeg from by rw [ef_15]; exact upd_ne (cl_ne (iv_c (53 : Int32) (a := 53) (b := 53) (by decide)) bx_13 (by decide)))).trans (show f_10 (53 : Int32).toNatClampNeg = fz1 (53 : Int32).toNatClampNeg from by rw [ef_10]; exact upd_ne (cl_ne (iv_c (53 : Int32) (a := 53) (b := 53) (by decide)) bx_8 (by decide)))).trans ex_1.symm) ?_
    refine lv_imul hx hb dX10_notes_78 ?_
    refine tpi (y := x_6) ex_6.symm ?_
    refine lv_iadd hx hb dX10_notes_79 ?_
    refine tpi (y := x_7) ex_7.symm ?_
    refine lv_iload_n hx hb dX10_notes_80 rfl (lv_at hl 0 rfl) ?_
    refine lv_iadd hx hb dX10_notes_81 ?_
    refine lv_topi (fun x_38 ex_38 => ?_)
    have bx_38 : iv 60 123 x_38 := by rw [ex_38]; exact iv_add bx_7 (iv_c (6 : Int32) (a := 6) (b := 6) (by decide)) (by decide)
    replace hR := tb hR ex_38
    refine lv_aload_n hx hb dX10_notes_82 rfl (lv_at hl 1 rfl) ?_
    refine va_get (ci := 10) (v := .ref (z 17)) (C := RX10) (T := TX10) (N := 40) hx hb hg inX10 hown hK hP 1 rfl rfl 17 (by decide) (hg _ q_6_1) (fun _ h9 => h9) rfl dX10_notes_83 ?_
    refine lv_iload_n hx hb dX10_notes_86 rfl (lv_at hl 0 rfl) ?_
    refine va_iald hx hb hK hP 0 0 rfl rfl (vin (by decide +kernel)) dX10_notes_87 ?_
    refine lv_topi (fun x_39 ex_39 => ?_)
    replace hR := tb hR ex_39
    refine va_iast hx hb hK hP hD hS 2 0 rfl rfl (iv_in bx_38 (by decide)) dX10_notes_88 (fun H locs hP hD hS => ?_)
    obtain ⟨f_40, ef_40, tf_40, hP, hD⟩ : ∃ f_40 : Nat → Int32, f_40 = (upd f_35 (x_38 : Int32).toNatClampNeg x_39) ∧ (ivT tA f_40) ∧ va_P V.1 vwCl [(z 17, aI V 7 fz17), (z 0, .inr (10, mo z pz0_0 pz0_5 pz0_6 pz0_7 pz0_8 pz0_9 pz0_10 pz0_11 pz0_12 pz0_13 pz0_14 pz0_18 pz0_19 pz0_22 pz0_23 pz0_29)), (z 1, aI V 3075 f_40)] H ∧ va_D A [(z 17, aI V 7 fz17), (z 0, .inr (10, mo z pz0_0 pz0_5 pz0_6 pz0_7 pz0_8 pz0_9 pz0_10 pz0_11 pz0_12 pz0_13 pz0_14 pz0_18 pz0_19 pz0_22 pz0_23 pz0_29)), (z 1, aI V 3075 f_40)] := ⟨_, rfl, (by have q_x_6 := toInt_mulC (k := 7) ex_6 b_3 (by decide) (by decide); have q_x_7 := toInt_add ex_7 (iv_c (54 : Int32) (a := 54) (b := 54) (by decide)) bx_6 (by decide); have k_x_7 : (54 : Int32).toInt = 54 := (by decide); have q_x_38 := toInt_add ex_38 bx_7 (iv_c (6 : Int32) (a := 6) (b := 6) (by decide)) (by decide); have k_x_38 : (6 : Int32).toInt = 6 := (by decide); exact upS (lo := (-2147483648)) (hi := 2147483647) (c := 60) (k := 7) (a := 0) (n := 10) tf_35 (show _ = 60 + 7 * (x_1 : Int32).toInt by omega) b_3 (by decide) (iv_top x_39) (by decide +kernel)), hP, hD⟩
    replace hR := tb hR ef_40
    refine lv_iinc (v := 7) (lv' := [(1, .int 7), (0, .ref (z 0))]) hx hb dX10_notes_89 hl (k := 0) rfl (by decide +kernel) (by decide) rfl (fun ls hl => ?_)
    refine lv_goto (tgt := 57) hx hb dX10_notes_92 (by decide) ?_
    refine lv_iload_n hx hb dX10_notes_57 rfl (lv_at hl 0 rfl) ?_
    refine lv_bipush (v := 7) hx hb dX10_notes_58 (by decide) ?_
    refine lv_icmp_ge (tgt := 95) hx hb dX10_notes_60 (by decide) (fun _ => ?_) (fun c_42 => absurd c_42 (by decide))
    refine lv_aload_n hx hb dX10_notes_95 rfl (lv_at hl 1 rfl) ?_
    refine va_get (ci := 10) (v := .ref (z 1)) (C := RX10) (T := TX10) (N := 40) hx hb hg inX10 hown hK hP 1 rfl rfl 1 (by decide) (hg _ q_5_225) (fun _ h9 => h9) rfl dX10_notes_96 ?_
    refine lv_bipush (v := 53) hx hb dX10_notes_99 (by decide) ?_
    refine lv_dup2_11 hx hb dX10_notes_101 rfl rfl ?_
    refine va_iald hx hb hK hP 2 0 rfl rfl (vin (by decide +kernel)) dX10_notes_102 ?_
    refine tpi (y := x_1) ((((((((show f_40 (53 : Int32).toNatClampNeg = f_35 (53 : Int32).toNatClampNeg from by rw [ef_40]; exact upd_ne (cl_ne (iv_c (53 : Int32) (a := 53) (b := 53) (by decide)) bx_38 (by decide))).trans (show f_35 (53 : Int32).toNatClampNeg = f_30 (53 : Int32).toNatClampNeg from by rw [ef_35]; exact upd_ne (cl_ne (iv_c (53 : Int32) (a := 53) (b := 53) (by decide)) bx_33 (by decide)))).trans (show f_30 (53 : Int32).toNatClampNeg = f_25 (53 : Int32).toNatClampNeg from by rw [ef_30]; exact upd_ne (cl_ne (iv_c (53 : Int32) (a := 53) (b := 53) (by decide)) bx_28 (by decide)))).trans (show f_25 (53 : Int32).toNatClampNeg = f_20 (53 : Int32).toNatClampNeg from by rw [ef_25]; exact upd_ne (cl_ne (iv_c (53 : Int32) (a := 53) (b := 53) (by decide)) bx_23 (by decide)))).trans (show f_20 (53 : Int32).toNatClampNeg = f_15 (53 : Int32).toNatClampNeg from by rw [ef_20]; exact upd_ne (cl_ne (iv_c (53 : Int32) (a := 53) (b := 53) (by decide)) bx_18 (by decide)))).trans (show f_15 (53 : Int32).toNatClampNeg = f_10 (53 : Int32).toNatClampNeg from by rw [ef_15]; exact upd_ne (cl_ne (iv_c (53 : Int32) (a := 53) (b := 53) (by decide)) bx_13 (by decide)))).trans (show f_10 (53 : Int32).toNatClampNeg = fz1 (53 : Int32).toNatClampNeg from by rw [ef_10]; exact upd_ne (cl_ne (iv_c (53 : Int32) (a := 53) (b := 53) (by decide)) bx_8 (by decide)))).trans ex_1.symm) ?_
    refine lv_iconst (v := 1) hx hb dX10_notes_103 (by decide) ?_
    refine lv_iadd hx hb dX10_notes_104 ?_
    refine lv_topi (fun x_43 ex_43 => ?_)
    have bx_43 : iv 1 10 x_43 := by rw [ex_43]; exact iv_add b_3 (iv_c (1 : Int32) (a := 1) (b := 1) (by decide)) (by decide)
    replace hR := tb hR ex_43
    refine va_iast hx hb hK hP hD hS 2 0 rfl rfl (vin (by decide +kernel)) dX10_notes_105 (fun H locs hP hD hS => ?_)
    obtain ⟨f_44, ef_44, tf_44, hP, hD⟩ : ∃ f_44 : Nat → Int32, f_44 = (upd f_40 (53 : Int32).toNatClampNeg x_43) ∧ (ivT tA f_44) ∧ va_P V.1 vwCl [(z 17, aI V 7 fz17), (z 0, .inr (10, mo z pz0_0 pz0_5 pz0_6 pz0_7 pz0_8 pz0_9 pz0_10 pz0_11 pz0_12 pz0_13 pz0_14 pz0_18 pz0_19 pz0_22 pz0_23 pz0_29)), (z 1, aI V 3075 f_44)] H ∧ va_D A [(z 17, aI V 7 fz17), (z 0, .inr (10, mo z pz0_0 pz0_5 pz0_6 pz0_7 pz0_8 pz0_9 pz0_10 pz0_11 pz0_12 pz0_13 pz0_14 pz0_18 pz0_19 pz0_22 pz0_23 pz0_29)), (z 1, aI V 3075 f_44)] := ⟨_, rfl, upT (lo := 0) (hi := 10) (a := 53) (n := 1) tf_40 (iv_c (53 : Int32) (a := 53) (b := 53) (by decide)) (by decide) (iv_w bx_43 (by decide)) (by decide +kernel), hP, hD⟩
    replace hR := tb hR ef_44
    exact fiV hx hb hr hlk hK hP hD hS dX10_notes_106 (Nat.le_of_ble_eq_true rfl) (Nat.le_of_ble_eq_true rfl) (⟨f_44, tf_44, (RW_up (RW_up (RW_up (RW_up (RW_up (RW_up (RW_up (RW_up hf0 bx_8 (by decide) ef_10) bx_13 (by decide) ef_15) bx_18 (by decide) ef_20) bx_23 (by decide) ef_25) bx_28 (by decide) ef_30) bx_33 (by decide) ef_35) bx_38 (by decide) ef_40) (iv_c (53 : Int32) (a := 53) (b := 53) (by decide)) (by decide) ef_44), (hR.symm.trans hT0), rfl⟩)
  · replace hR := ti hR c_2
    have b_45 : iv 10 10 x_1 := iv_q c_2 (iv_c (10 : Int32) (a := 10) (b := 10) (by decide))
    refine lv_iconst (v := 0) hx hb dX10_notes_12 (by decide) ?_
    refine lv_istore_n (lv' := [(1, .int 0), (0, .ref (z 0))]) hx hb dX10_notes_13 rfl hl (by decide) rfl (fun ls hl => ?_)
    refine loopF (X := fun (n_48 : Nat) (H : Heap) (locs : List Loc) (ls : Array Slot) => ∃ (u_46 : Int32) (f_47 : Nat → Int32), (iv 0 2147483647 u_46) ∧ (ivT tA f_47) ∧ (f_47 (53 : Int32).toNatClampNeg = 10) ∧ (RW f_47) ∧ T0 = W9 (L_k_X10_notes_0_1 fz17) (u_46, f_47) ∧ n_48 = (2147483647 - (u_46 : Int32).toInt).toNat ∧ va_P V.1 vwCl [(z 17, aI V 7 fz17), (z 0, .inr (10, mo z pz0_0 pz0_5 pz0_6 pz0_7 pz0_8 pz0_9 pz0_10 pz0_11 pz0_12 pz0_13 pz0_14 pz0_18 pz0_19 pz0_22 pz0_23 pz0_29)), (z 1, aI V 3075 f_47)] H ∧ va_D A [(z 17, aI V 7 fz17), (z 0, .inr (10, mo z pz0_0 pz0_5 pz0_6 pz0_7 pz0_8 pz0_9 pz0_10 pz0_11 pz0_12 pz0_13 pz0_14 pz0_18 pz0_19 pz0_22 pz0_23 pz0_29)), (z 1, aI V 3075 f_47)] ∧ va_S A s.heap H locs ∧ lv_has ls 2 [(1, .int u_46), (0, .ref (z 0))]) (g := fun ls => F0 m 14 ls []) (fun n_48 H locs ls hX ihn_48 => ?_) _ ⟨0, fz1, (iv_c (0 : Int32) (by decide)), tfz1, (ex_1.symm.trans c_2), hf0, hR, rfl, hP, hD, hS, lv_sub hl [0, 1] rfl⟩
    obtain ⟨u_46, f_47, bu_46, tf_47, inn_48_0, inn_48_1, hR, en_48, hP, hD, hS, hl⟩ := hX
    obtain ⟨Tn_48, hR, hAn_48⟩ := tw hR
    replace hR : Tn_48 = B_k_X10_notes_0_1 fz17 u_46 f_47 := hR
    replace hR := hR.trans (B_k_X10_notes_0_1.eq_1 ..)
    refine lv_iload_n hx hb dX10_notes_14 rfl (lv_at hl 0 rfl) ?_
    refine lv_bipush (v := 63) hx hb dX10_notes_15 (by decide) ?_
    refine lv_icmp_ge (tgt := 44) hx hb dX10_notes_17 (by decide) (fun c_49 => ?_) (fun c_49 => ?_)
    · replace hR := ti hR c_49
      have b_50 : iv 63 2147483647 u_46 := iv_e2 c_49 (iv_c (63 : Int32) (a := 63) (b := 63) (by decide)) bu_46 (by decide)
      refine lv_aload_n hx hb dX10_notes_44 rfl (lv_at hl 1 rfl) ?_
      refine va_get (ci := 10) (v := .ref (z 1)) (C := RX10) (T := TX10) (N := 40) hx hb hg inX10 hown hK hP 1 rfl rfl 1 (by decide) (hg _ q_5_225) (fun _ h9 => h9) rfl dX10_notes_45 ?_
      refine lv_bipush (v := 53) hx hb dX10_notes_48 (by decide) ?_
      refine lv_dup2_11 hx hb dX10_notes_50 rfl rfl ?_
      refine va_iald hx hb hK hP 2 0 rfl rfl (vin (by decide +kernel)) dX10_notes_51 ?_
      refine lv_topi (fun x_51 ex_51 => ?_)
      have bx_51 : iv 0 10 x_51 := by rw [ex_51]; exact rdT (a := 53) (n := 1) tf_47 (iv_c (53 : Int32) (a := 53) (b := 53) (by decide)) (by decide) (by decide +kernel)
      replace hR := tb hR ex_51
      have b_52 : iv 10 10 x_51 := by rw [ex_51, inn_48_0]; exact iv_c _ (by decide)
      refine lv_iconst (v := 1) hx hb dX10_notes_52 (by decide) ?_
      refine lv_isub hx hb dX10_notes_53 ?_
      refine lv_topi (fun x_53 ex_53 => ?_)
      have bx_53 : iv 9 9 x_53 := by rw [ex_53]; exact iv_sub b_52 (iv_c (1 : Int32) (a := 1) (b := 1) (by decide)) (by decide)
      replace hR := tb hR ex_53
      refine va_iast hx hb hK hP hD hS 2 0 rfl rfl (vin (by decide +kernel)) dX10_notes_54 (fun H locs hP hD hS => ?_)
      obtain ⟨f_54, ef_54, tf_54, hP, hD⟩ : ∃ f_54 : Nat → Int32, f_54 = (upd f_47 (53 : Int32).toNatClampNeg x_53) ∧ (ivT tA f_54) ∧ va_P V.1 vwCl [(z 17, aI V 7 fz17), (z 0, .inr (10, mo z pz0_0 pz0_5 pz0_6 pz0_7 pz0_8 pz0_9 pz0_10 pz0_11 pz0_12 pz0_13 pz0_14 pz0_18 pz0_19 pz0_22 pz0_23 pz0_29)), (z 1, aI V 3075 f_54)] H ∧ va_D A [(z 17, aI V 7 fz17), (z 0, .inr (10, mo z pz0_0 pz0_5 pz0_6 pz0_7 pz0_8 pz0_9 pz0_10 pz0_11 pz0_12 pz0_13 pz0_14 pz0_18 pz0_19 pz0_22 pz0_23 pz0_29)), (z 1, aI V 3075 f_54)] := ⟨_, rfl, upT (lo := 0) (hi := 10) (a := 53) (n := 1) tf_47 (iv_c (53 : Int32) (a := 53) (b := 53) (by decide)) (by decide) (iv_w bx_53 (by decide)) (by decide +kernel), hP, hD⟩
      replace hR := tb hR ef_54
      refine lv_iconst (v := 0) hx hb dX10_notes_55 (by decide) ?_
      refine lv_istore_n (lv' := [(1, .int 0), (0, .ref (z 0))]) hx hb dX10_notes_56 rfl hl (by decide) rfl (fun ls hl => ?_)
      refine lv_iload_n hx hb dX10_notes_57 rfl (lv_at hl 0 rfl) ?_
      refine lv_bipush (v := 7) hx hb dX10_notes_58 (by decide) ?_
      refine lv_icmp_ge (tgt := 95) hx hb dX10_notes_60 (by decide) (fun c_56 => absurd c_56 (by decide)) (fun _ => ?_)
      refine lv_aload_n hx hb dX10_notes_63 rfl (lv_at hl 1 rfl) ?_
      refine va_get (ci := 10) (v := .ref (z 1)) (C := RX10) (T := TX10) (N := 40) hx hb hg inX10 hown hK hP 1 rfl rfl 1 (by decide) (hg _ q_5_225) (fun _ h9 => h9) rfl dX10_notes_64 ?_
      refine lv_bipush (v := 54) hx hb dX10_notes_67 (by decide) ?_
      refine lv_bipush (v := 7) hx hb dX10_notes_69 (by decide) ?_
      refine lv_aload_n hx hb dX10_notes_71 rfl (lv_at hl 1 rfl) ?_
      refine va_get (ci := 10) (v := .ref (z 1)) (C := RX10) (T := TX10) (N := 40) hx hb hg inX10 hown hK hP 1 rfl rfl 1 (by decide) (hg _ q_5_225) (fun _ h9 => h9) rfl dX10_notes_72 ?_
      refine lv_bipush (v := 53) hx hb dX10_notes_75 (by decide) ?_
      refine va_iald hx hb hK hP 2 0 rfl rfl (vin (by decide +kernel)) dX10_notes_77 ?_
      refine tpi (y := x_53) (show f_54 (53 : Int32).toNatClampNeg = x_53 from by rw [ef_54]; exact upd_at) ?_
      refine lv_imul hx hb dX10_notes_78 ?_
      refine lv_topi (fun x_57 ex_57 => ?_)
      have bx_57 : iv 63 63 x_57 := by rw [ex_57]; exact iv_cmul (iv_c (7 : Int32) (a := 7) (b := 7) (by decide)) bx_53 (by decide)
      replace hR := tb hR ex_57
      refine lv_iadd hx hb dX10_notes_79 ?_
      refine lv_topi (fun x_58 ex_58 => ?_)
      have bx_58 : iv 117 117 x_58 := by rw [ex_58]; exact iv_add (iv_c (54 : Int32) (a := 54) (b := 54) (by decide)) bx_57 (by decide)
      replace hR := tb hR ex_58
      refine lv_iload_n hx hb dX10_notes_80 rfl (lv_at hl 0 rfl) ?_
      refine lv_iadd hx hb dX10_notes_81 ?_
      refine lv_topi (fun x_59 ex_59 => ?_)
      have bx_59 : iv 117 117 x_59 := by rw [ex_59]; exact iv_add bx_58 (iv_c (0 : Int32) (a := 0) (b := 0) (by decide)) (by decide)
      replace hR := tb hR ex_59
      refine lv_aload_n hx hb dX10_notes_82 rfl (lv_at hl 1 rfl) ?_
      refine va_get (ci := 10) (v := .ref (z 17)) (C := RX10) (T := TX10) (N := 40) hx hb hg inX10 hown hK hP 1 rfl rfl 17 (by decide) (hg _ q_6_1) (fun _ h9 => h9) rfl dX10_notes_83 ?_
      refine lv_iload_n hx hb dX10_notes_86 rfl (lv_at hl 0 rfl) ?_
      refine va_iald hx hb hK hP 0 0 rfl rfl (vin (by decide +kernel)) dX10_notes_87 ?_
      refine lv_topi (fun x_60 ex_60 => ?_)
      have bx_60 : iv 0 4 x_60 := by rw [ex_60]; exact rdT (a := 0) (n := 1) tfz17 (iv_c (0 : Int32) (a := 0) (b := 0) (by decide)) (by decide) (by decide +kernel)
      replace hR := tb hR ex_60
      refine va_iast hx hb hK hP hD hS 2 0 rfl rfl (iv_in bx_59 (by decide)) dX10_notes_88 (fun H locs hP hD hS => ?_)
      obtain ⟨f_61, ef_61, tf_61, hP, hD⟩ : ∃ f_61 : Nat → Int32, f_61 = (upd f_54 (x_59 : Int32).toNatClampNeg x_60) ∧ (ivT tA f_61) ∧ va_P V.1 vwCl [(z 17, aI V 7 fz17), (z 0, .inr (10, mo z pz0_0 pz0_5 pz0_6 pz0_7 pz0_8 pz0_9 pz0_10 pz0_11 pz0_12 pz0_13 pz0_14 pz0_18 pz0_19 pz0_22 pz0_23 pz0_29)), (z 1, aI V 3075 f_61)] H ∧ va_D A [(z 17, aI V 7 fz17), (z 0, .inr (10, mo z pz0_0 pz0_5 pz0_6 pz0_7 pz0_8 pz0_9 pz0_10 pz0_11 pz0_12 pz0_13 pz0_14 pz0_18 pz0_19 pz0_22 pz0_23 pz0_29)), (z 1, aI V 3075 f_61)] := ⟨_, rfl, upT (lo := 0) (hi := 4) (a := 117) (n := 1) tf_54 bx_59 (by decide) bx_60 (by decide +kernel), hP, hD⟩
      replace hR := tb hR ef_61
      refine lv_iinc (v := 1) (lv' := [(1, .int 1), (0, .ref (z 0))]) hx hb dX10_notes_89 hl (k := 0) rfl (by decide +kernel) (by decide) rfl (fun ls hl => ?_)
      refine lv_goto (tgt := 57) hx hb dX10_notes_92 (by decide) ?_
      refine lv_iload_n hx hb dX10_notes_57 rfl (lv_at hl 0 rfl) ?_
      refine lv_bipush (v := 7) hx hb dX10_notes_58 (by decide) ?_
      refine lv_icmp_ge (tgt := 95) hx hb dX10_notes_60 (by decide) (fun c_63 => absurd c_63 (by decide)) (fun _ => ?_)
      refine lv_aload_n hx hb dX10_notes_63 rfl (lv_at hl 1 rfl) ?_
      refine va_get (ci := 10) (v := .ref (z 1)) (C := RX10) (T := TX10) (N := 40) hx hb hg inX10 hown hK hP 1 rfl rfl 1 (by decide) (hg _ q_5_225) (fun _ h9 => h9) rfl dX10_notes_64 ?_
      refine lv_bipush (v := 54) hx hb dX10_notes_67 (by decide) ?_
      refine lv_bipush (v := 7) hx hb dX10_notes_69 (by decide) ?_
      refine lv_aload_n hx hb dX10_notes_71 rfl (lv_at hl 1 rfl) ?_
      refine va_get (ci := 10) (v := .ref (z 1)) (C := RX10) (T := TX10) (N := 40) hx hb hg inX10 hown hK hP 1 rfl rfl 1 (by decide) (hg _ q_5_225) (fun _ h9 => h9) rfl dX10_notes_72 ?_
      refine lv_bipush (v := 53) hx hb dX10_notes_75 (by decide) ?_
      refine va_iald hx hb hK hP 2 0 rfl rfl (vin (by decide +kernel)) dX10_notes_77 ?_
      refine tpi (y := x_53) ((show f_61 (53 : Int32).toNatClampNeg = f_54 (53 : Int32).toNatClampNeg from by rw [ef_61]; exact upd_ne (cl_ne (iv_c (53 : Int32) (a := 53) (b := 53) (by decide)) bx_59 (by decide))).trans (show f_54 (53 : Int32).toNatClampNeg = x_53 from by rw [ef_54]; exact upd_at)) ?_
      refine lv_imul hx hb dX10_notes_78 ?_
      refine tpi (y := x_57) ex_57.symm ?_
      refine lv_iadd hx hb dX10_notes_79 ?_
      refine tpi (y := x_58) ex_58.symm ?_
      refine lv_iload_n hx hb dX10_notes_80 rfl (lv_at hl 0 rfl) ?_
      refine lv_iadd hx hb dX10_notes_81 ?_
      refine lv_topi (fun x_64 ex_64 => ?_)
      have bx_64 : iv 118 118 x_64 := by rw [ex_64]; exact iv_add bx_58 (iv_c (1 : Int32) (a := 1) (b := 1) (by decide)) (by decide)
      replace hR := tb hR ex_64
      refine lv_aload_n hx hb dX10_notes_82 rfl (lv_at hl 1 rfl) ?_
      refine va_get (ci := 10) (v := .ref (z 17)) (C := RX10) (T := TX10) (N := 40) hx hb hg inX10 hown hK hP 1 rfl rfl 17 (by decide) (hg _ q_6_1) (fun _ h9 => h9) rfl dX10_notes_83 ?_
      refine lv_iload_n hx hb dX10_notes_86 rfl (lv_at hl 0 rfl) ?_
      refine va_iald hx hb hK hP 0 0 rfl rfl (vin (by decide +kernel)) dX10_notes_87 ?_
      refine lv_topi (fun x_65 ex_65 => ?_)
      have bx_65 : iv 0 4 x_65 := by rw [ex_65]; exact rdT (a := 1) (n := 1) tfz17 (iv_c (1 : Int32) (a := 1) (b := 1) (by decide)) (by decide) (by decide +kernel)
      replace hR := tb hR ex_65
      refine va_iast hx hb hK hP hD hS 2 0 rfl rfl (iv_in bx_64 (by decide)) dX10_notes_88 (fun H locs hP hD hS => ?_)
      obtain ⟨f_66, ef_66, tf_66, hP, hD⟩ : ∃ f_66 : Nat → Int32, f_66 = (upd f_61 (x_64 : Int32).toNatClampNeg x_65) ∧ (ivT tA f_66) ∧ va_P V.1 vwCl [(z 17, aI V 7 fz17), (z 0, .inr (10, mo z pz0_0 pz0_5 pz0_6 pz0_7 pz0_8 pz0_9 pz0_10 pz0_11 pz0_12 pz0_13 pz0_14 pz0_18 pz0_19 pz0_22 pz0_23 pz0_29)), (z 1, aI V 3075 f_66)] H ∧ va_D A [(z 17, aI V 7 fz17), (z 0, .inr (10, mo z pz0_0 pz0_5 pz0_6 pz0_7 pz0_8 pz0_9 pz0_10 pz0_11 pz0_12 pz0_13 pz0_14 pz0_18 pz0_19 pz0_22 pz0_23 pz0_29)), (z 1, aI V 3075 f_66)] := ⟨_, rfl, upT (lo := 0) (hi := 4) (a := 118) (n := 1) tf_61 bx_64 (by decide) bx_65 (by decide +kernel), hP, hD⟩
      replace hR := tb hR ef_66
      refine lv_iinc (v := 2) (lv' := [(1, .int 2), (0, .ref (z 0))]) hx hb dX10_notes_89 hl (k := 0) rfl (by decide +kernel) (by decide) rfl (fun ls hl => ?_)
      refine lv_goto (tgt := 57) hx hb dX10_notes_92 (by decide) ?_
      refine lv_iload_n hx hb dX10_notes_57 rfl (lv_at hl 0 rfl) ?_
      refine lv_bipush (v := 7) hx hb dX10_notes_58 (by decide) ?_
      refine lv_icmp_ge (tgt := 95) hx hb dX10_notes_60 (by decide) (fun c_68 => absurd c_68 (by decide)) (fun _ => ?_)
      refine lv_aload_n hx hb dX10_notes_63 rfl (lv_at hl 1 rfl) ?_
      refine va_get (ci := 10) (v := .ref (z 1)) (C := RX10) (T := TX10) (N := 40) hx hb hg inX10 hown hK hP 1 rfl rfl 1 (by decide) (hg _ q_5_225) (fun _ h9 => h9) rfl dX10_notes_64 ?_
      refine lv_bipush (v := 54) hx hb dX10_notes_67 (by decide) ?_
      refine lv_bipush (v := 7) hx hb dX10_notes_69 (by decide) ?_
      refine lv_aload_n hx hb dX10_notes_71 rfl (lv_at hl 1 rfl) ?_
      refine va_get (ci := 10) (v := .ref (z 1)) (C := RX10) (T := TX10) (N := 40) hx hb hg inX10 hown hK hP 1 rfl rfl 1 (by decide) (hg _ q_5_225) (fun _ h9 => h9) rfl dX10_notes_72 ?_
      refine lv_bipush (v := 53) hx hb dX10_notes_75 (by decide) ?_
      refine va_iald hx hb hK hP 2 0 rfl rfl (vin (by decide +kernel)) dX10_notes_77 ?_
      refine tpi (y := x_53) (((show f_66 (53 : Int32).toNatClampNeg = f_61 (53 : Int32).toNatClampNeg from by rw [ef_66]; exact upd_ne (cl_ne (iv_c (53 : Int32) (a := 53) (b := 53) (by decide)) bx_64 (by decide))).trans (show f_61 (53 : Int32).toNatClampNeg = f_54 (53 : Int32).toNatClampNeg from by rw [ef_61]; exact upd_ne (cl_ne (iv_c (53 : Int32) (a := 53) (b := 53) (by decide)) bx_59 (by decide)))).trans (show f_54 (53 : Int32).toNatClampNeg = x_53 from by rw [ef_54]; exact upd_at)) ?_
      refine lv_imul hx hb dX10_notes_78 ?_
      refine tpi (y := x_57) ex_57.symm ?_
      refine lv_iadd hx hb dX10_notes_79 ?_
      refine tpi (y := x_58) ex_58.symm ?_
      refine lv_iload_n hx hb dX10_notes_80 rfl (lv_at hl 0 rfl) ?_
      refine lv_iadd hx hb dX10_notes_81 ?_
      refine lv_topi (fun x_69 ex_69 => ?_)
      have bx_69 : iv 119 119 x_69 := by rw [ex_69]; exact iv_add bx_58 (iv_c (2 : Int32) (a := 2) (b := 2) (by decide)) (by decide)
      replace hR := tb hR ex_69
      refine lv_aload_n hx hb dX10_notes_82 rfl (lv_at hl 1 rfl) ?_
      refine va_get (ci := 10) (v := .ref (z 17)) (C := RX10) (T := TX10) (N := 40) hx hb hg inX10 hown hK hP 1 rfl rfl 17 (by decide) (hg _ q_6_1) (fun _ h9 => h9) rfl dX10_notes_83 ?_
      refine lv_iload_n hx hb dX10_notes_86 rfl (lv_at hl 0 rfl) ?_
      refine va_iald hx hb hK hP 0 0 rfl rfl (vin (by decide +kernel)) dX10_notes_87 ?_
      refine lv_topi (fun x_70 ex_70 => ?_)
      have bx_70 : iv 0 4 x_70 := by rw [ex_70]; exact rdT (a := 2) (n := 1) tfz17 (iv_c (2 : Int32) (a := 2) (b := 2) (by decide)) (by decide) (by decide +kernel)
      replace hR := tb hR ex_70
      refine va_iast hx hb hK hP hD hS 2 0 rfl rfl (iv_in bx_69 (by decide)) dX10_notes_88 (fun H locs hP hD hS => ?_)
      obtain ⟨f_71, ef_71, tf_71, hP, hD⟩ : ∃ f_71 : Nat → Int32, f_71 = (upd f_66 (x_69 : Int32).toNatClampNeg x_70) ∧ (ivT tA f_71) ∧ va_P V.1 vwCl [(z 17, aI V 7 fz17), (z 0, .inr (10, mo z pz0_0 pz0_5 pz0_6 pz0_7 pz0_8 pz0_9 pz0_10 pz0_11 pz0_12 pz0_13 pz0_14 pz0_18 pz0_19 pz0_22 pz0_23 pz0_29)), (z 1, aI V 3075 f_71)] H ∧ va_D A [(z 17, aI V 7 fz17), (z 0, .inr (10, mo z pz0_0 pz0_5 pz0_6 pz0_7 pz0_8 pz0_9 pz0_10 pz0_11 pz0_12 pz0_13 pz0_14 pz0_18 pz0_19 pz0_22 pz0_23 pz0_29)), (z 1, aI V 3075 f_71)] := ⟨_, rfl, upT (lo := 0) (hi := 4) (a := 119) (n := 1) tf_66 bx_69 (by decide) bx_70 (by decide +kernel), hP, hD⟩
      replace hR := tb hR ef_71
      refine lv_iinc (v := 3) (lv' := [(1, .int 3), (0, .ref (z 0))]) hx hb dX10_notes_89 hl (k := 0) rfl (by decide +kernel) (by decide) rfl (fun ls hl => ?_)
      refine lv_goto (tgt := 57) hx hb dX10_notes_92 (by decide) ?_
      refine lv_iload_n hx hb dX10_notes_57 rfl (lv_at hl 0 rfl) ?_
      refine lv_bipush (v := 7) hx hb dX10_notes_58 (by decide) ?_
      refine lv_icmp_ge (tgt := 95) hx hb dX10_notes_60 (by decide) (fun c_73 => absurd c_73 (by decide)) (fun _ => ?_)
      refine lv_aload_n hx hb dX10_notes_63 rfl (lv_at hl 1 rfl) ?_
      refine va_get (ci := 10) (v := .ref (z 1)) (C := RX10) (T := TX10) (N := 40) hx hb hg inX10 hown hK hP 1 rfl rfl 1 (by decide) (hg _ q_5_225) (fun _ h9 => h9) rfl dX10_notes_64 ?_
      refine lv_bipush (v := 54) hx hb dX10_notes_67 (by decide) ?_
      refine lv_bipush (v := 7) hx hb dX10_notes_69 (by decide) ?_
      refine lv_aload_n hx hb dX10_notes_71 rfl (lv_at hl 1 rfl) ?_
      refine va_get (ci := 10) (v := .ref (z 1)) (C := RX10) (T := TX10) (N := 40) hx hb hg inX10 hown hK hP 1 rfl rfl 1 (by decide) (hg _ q_5_225) (fun _ h9 => h9) rfl dX10_notes_72 ?_
      refine lv_bipush (v := 53) hx hb dX10_notes_75 (by decide) ?_
      refine va_iald hx hb hK hP 2 0 rfl rfl (vin (by decide +kernel)) dX10_notes_77 ?_
      refine tpi (y := x_53) ((((show f_71 (53 : Int32).toNatClampNeg = f_66 (53 : Int32).toNatClampNeg from by rw [ef_71]; exact upd_ne (cl_ne (iv_c (53 : Int32) (a := 53) (b := 53) (by decide)) bx_69 (by decide))).trans (show f_66 (53 : Int32).toNatClampNeg = f_61 (53 : Int32).toNatClampNeg from by rw [ef_66]; exact upd_ne (cl_ne (iv_c (53 : Int32) (a := 53) (b := 53) (by decide)) bx_64 (by decide)))).trans (show f_61 (53 : Int32).toNatClampNeg = f_54 (53 : Int32).toNatClampNeg from by rw [ef_61]; exact upd_ne (cl_ne (iv_c (53 : Int32) (a := 53) (b := 53) (by decide)) bx_59 (by decide)))).trans (show f_54 (53 : Int32).toNatClampNeg = x_53 from by rw [ef_54]; exact upd_at)) ?_
      refine lv_imul hx hb dX10_notes_78 ?_
      refine tpi (y := x_57) ex_57.symm ?_
      refine lv_iadd hx hb dX10_notes_79 ?_
      refine tpi (y := x_58) ex_58.symm ?_
      refine lv_iload_n hx hb dX10_notes_80 rfl (lv_at hl 0 rfl) ?_
      refine lv_iadd hx hb dX10_notes_81 ?_
      refine lv_topi (fun x_74 ex_74 => ?_)
      have bx_74 : iv 120 120 x_74 := by rw [ex_74]; exact iv_add bx_58 (iv_c (3 : Int32) (a := 3) (b := 3) (by decide)) (by decide)
      replace hR := tb hR ex_74
      refine lv_aload_n hx hb dX10_notes_82 rfl (lv_at hl 1 rfl) ?_
      refine va_get (ci := 10) (v := .ref (z 17)) (C := RX10) (T := TX10) (N := 40) hx hb hg inX10 hown hK hP 1 rfl rfl 17 (by decide) (hg _ q_6_1) (fun _ h9 => h9) rfl dX10_notes_83 ?_
      refine lv_iload_n hx hb dX10_notes_86 rfl (lv_at hl 0 rfl) ?_
      refine va_iald hx hb hK hP 0 0 rfl rfl (vin (by decide +kernel)) dX10_notes_87 ?_
      refine lv_topi (fun x_75 ex_75 => ?_)
      have bx_75 : iv 0 4 x_75 := by rw [ex_75]; exact rdT (a := 3) (n := 1) tfz17 (iv_c (3 : Int32) (a := 3) (b := 3) (by decide)) (by decide) (by decide +kernel)
      replace hR := tb hR ex_75
      refine va_iast hx hb hK hP hD hS 2 0 rfl rfl (iv_in bx_74 (by decide)) dX10_notes_88 (fun H locs hP hD hS => ?_)
      obtain ⟨f_76, ef_76, tf_76, hP, hD⟩ : ∃ f_76 : Nat → Int32, f_76 = (upd f_71 (x_74 : Int32).toNatClampNeg x_75) ∧ (ivT tA f_76) ∧ va_P V.1 vwCl [(z 17, aI V 7 fz17), (z 0, .inr (10, mo z pz0_0 pz0_5 pz0_6 pz0_7 pz0_8 pz0_9 pz0_10 pz0_11 pz0_12 pz0_13 pz0_14 pz0_18 pz0_19 pz0_22 pz0_23 pz0_29)), (z 1, aI V 3075 f_76)] H ∧ va_D A [(z 17, aI V 7 fz17), (z 0, .inr (10, mo z pz0_0 pz0_5 pz0_6 pz0_7 pz0_8 pz0_9 pz0_10 pz0_11 pz0_12 pz0_13 pz0_14 pz0_18 pz0_19 pz0_22 pz0_23 pz0_29)), (z 1, aI V 3075 f_76)] := ⟨_, rfl, upT (lo := 0) (hi := 4) (a := 120) (n := 1) tf_71 bx_74 (by decide) bx_75 (by decide +kernel), hP, hD⟩
      replace hR := tb hR ef_76
      refine lv_iinc (v := 4) (lv' := [(1, .int 4), (0, .ref (z 0))]) hx hb dX10_notes_89 hl (k := 0) rfl (by decide +kernel) (by decide) rfl (fun ls hl => ?_)
      refine lv_goto (tgt := 57) hx hb dX10_notes_92 (by decide) ?_
      refine lv_iload_n hx hb dX10_notes_57 rfl (lv_at hl 0 rfl) ?_
      refine lv_bipush (v := 7) hx hb dX10_notes_58 (by decide) ?_
      refine lv_icmp_ge (tgt := 95) hx hb dX10_notes_60 (by decide) (fun c_78 => absurd c_78 (by decide)) (fun _ => ?_)
      refine lv_aload_n hx hb dX10_notes_63 rfl (lv_at hl 1 rfl) ?_
      refine va_get (ci := 10) (v := .ref (z 1)) (C := RX10) (T := TX10) (N := 40) hx hb hg inX10 hown hK hP 1 rfl rfl 1 (by decide) (hg _ q_5_225) (fun _ h9 => h9) rfl dX10_notes_64 ?_
      refine lv_bipush (v := 54) hx hb dX10_notes_67 (by decide) ?_
      refine lv_bipush (v := 7) hx hb dX10_notes_69 (by decide) ?_
      refine lv_aload_n hx hb dX10_notes_71 rfl (lv_at hl 1 rfl) ?_
      refine va_get (ci := 10) (v := .ref (z 1)) (C := RX10) (T := TX10) (N := 40) hx hb hg inX10 hown hK hP 1 rfl rfl 1 (by decide) (hg _ q_5_225) (fun _ h9 => h9) rfl dX10_notes_72 ?_
      refine lv_bipush (v := 53) hx hb dX10_notes_75 (by decide) ?_
      refine va_iald hx hb hK hP 2 0 rfl rfl (vin (by decide +kernel)) dX10_notes_77 ?_
      refine tpi (y := x_53) (((((show f_76 (53 : Int32).toNatClampNeg = f_71 (53 : Int32).toNatClampNeg from by rw [ef_76]; exact upd_ne (cl_ne (iv_c (53 : Int32) (a := 53) (b := 53) (by decide)) bx_74 (by decide))).trans (show f_71 (53 : Int32).toNatClampNeg = f_66 (53 : Int32).toNatClampNeg from by rw [ef_71]; exact upd_ne (cl_ne (iv_c (53 : Int32) (a := 53) (b := 53) (by decide)) bx_69 (by decide)))).trans (show f_66 (53 : Int32).toNatClampNeg = f_61 (53 : Int32).toNatClampNeg from by rw [ef_66]; exact upd_ne (cl_ne (iv_c (53 : Int32) (a := 53) (b := 53) (by decide)) bx_64 (by decide)))).trans (show f_61 (53 : Int32).toNatClampNeg = f_54 (53 : Int32).toNatClampNeg from by rw [ef_61]; exact upd_ne (cl_ne (iv_c (53 : Int32) (a := 53) (b := 53) (by decide)) bx_59 (by decide)))).trans (show f_54 (53 : Int32).toNatClampNeg = x_53 from by rw [ef_54]; exact upd_at)) ?_
      refine lv_imul hx hb dX10_notes_78 ?_
      refine tpi (y := x_57) ex_57.symm ?_
      refine lv_iadd hx hb dX10_notes_79 ?_
      refine tpi (y := x_58) ex_58.symm ?_
      refine lv_iload_n hx hb dX10_notes_80 rfl (lv_at hl 0 rfl) ?_
      refine lv_iadd hx hb dX10_notes_81 ?_
      refine lv_topi (fun x_79 ex_79 => ?_)
      have bx_79 : iv 121 121 x_79 := by rw [ex_79]; exact iv_add bx_58 (iv_c (4 : Int32) (a := 4) (b := 4) (by decide)) (by decide)
      replace hR := tb hR ex_79
      refine lv_aload_n hx hb dX10_notes_82 rfl (lv_at hl 1 rfl) ?_
      refine va_get (ci := 10) (v := .ref (z 17)) (C := RX10) (T := TX10) (N := 40) hx hb hg inX10 hown hK hP 1 rfl rfl 17 (by decide) (hg _ q_6_1) (fun _ h9 => h9) rfl dX10_notes_83 ?_
      refine lv_iload_n hx hb dX10_notes_86 rfl (lv_at hl 0 rfl) ?_
      refine va_iald hx hb hK hP 0 0 rfl rfl (vin (by decide +kernel)) dX10_notes_87 ?_
      refine lv_topi (fun x_80 ex_80 => ?_)
      have bx_80 : iv 0 15 x_80 := by rw [ex_80]; exact rdT (a := 4) (n := 1) tfz17 (iv_c (4 : Int32) (a := 4) (b := 4) (by decide)) (by decide) (by decide +kernel)
      replace hR := tb hR ex_80
      refine va_iast hx hb hK hP hD hS 2 0 rfl rfl (iv_in bx_79 (by decide)) dX10_notes_88 (fun H locs hP hD hS => ?_)
      obtain ⟨f_81, ef_81, tf_81, hP, hD⟩ : ∃ f_81 : Nat → Int32, f_81 = (upd f_76 (x_79 : Int32).toNatClampNeg x_80) ∧ (ivT tA f_81) ∧ va_P V.1 vwCl [(z 17, aI V 7 fz17), (z 0, .inr (10, mo z pz0_0 pz0_5 pz0_6 pz0_7 pz0_8 pz0_9 pz0_10 pz0_11 pz0_12 pz0_13 pz0_14 pz0_18 pz0_19 pz0_22 pz0_23 pz0_29)), (z 1, aI V 3075 f_81)] H ∧ va_D A [(z 17, aI V 7 fz17), (z 0, .inr (10, mo z pz0_0 pz0_5 pz0_6 pz0_7 pz0_8 pz0_9 pz0_10 pz0_11 pz0_12 pz0_13 pz0_14 pz0_18 pz0_19 pz0_22 pz0_23 pz0_29)), (z 1, aI V 3075 f_81)] := ⟨_, rfl, upT (lo := 0) (hi := 15) (a := 121) (n := 1) tf_76 bx_79 (by decide) bx_80 (by decide +kernel), hP, hD⟩
      replace hR := tb hR ef_81
      refine lv_iinc (v := 5) (lv' := [(1, .int 5), (0, .ref (z 0))]) hx hb dX10_notes_89 hl (k := 0) rfl (by decide +kernel) (by decide) rfl (fun ls hl => ?_)
      refine lv_goto (tgt := 57) hx hb dX10_notes_92 (by decide) ?_
      refine lv_iload_n hx hb dX10_notes_57 rfl (lv_at hl 0 rfl) ?_
      refine lv_bipush (v := 7) hx hb dX10_notes_58 (by decide) ?_
      refine lv_icmp_ge (tgt := 95) hx hb dX10_notes_60 (by decide) (fun c_83 => absurd c_83 (by decide)) (fun _ => ?_)
      refine lv_aload_n hx hb dX10_notes_63 rfl (lv_at hl 1 rfl) ?_
      refine va_get (ci := 10) (v := .ref (z 1)) (C := RX10) (T := TX10) (N := 40) hx hb hg inX10 hown hK hP 1 rfl rfl 1 (by decide) (hg _ q_5_225) (fun _ h9 => h9) rfl dX10_notes_64 ?_
      refine lv_bipush (v := 54) hx hb dX10_notes_67 (by decide) ?_
      refine lv_bipush (v := 7) hx hb dX10_notes_69 (by decide) ?_
      refine lv_aload_n hx hb dX10_notes_71 rfl (lv_at hl 1 rfl) ?_
      refine va_get (ci := 10) (v := .ref (z 1)) (C := RX10) (T := TX10) (N := 40) hx hb hg inX10 hown hK hP 1 rfl rfl 1 (by decide) (hg _ q_5_225) (fun _ h9 => h9) rfl dX10_notes_72 ?_
      refine lv_bipush (v := 53) hx hb dX10_notes_75 (by decide) ?_
      refine va_iald hx hb hK hP 2 0 rfl rfl (vin (by decide +kernel)) dX10_notes_77 ?_
      refine tpi (y := x_53) ((((((show f_81 (53 : Int32).toNatClampNeg = f_76 (53 : Int32).toNatClampNeg from by rw [ef_81]; exact upd_ne (cl_ne (iv_c (53 : Int32) (a := 53) (b := 53) (by decide)) bx_79 (by decide))).trans (show f_76 (53 : Int32).toNatClampNeg = f_71 (53 : Int32).toNatClampNeg from by rw [ef_76]; exact upd_ne (cl_ne (iv_c (53 : Int32) (a := 53) (b := 53) (by decide)) bx_74 (by decide)))).trans (show f_71 (53 : Int32).toNatClampNeg = f_66 (53 : Int32).toNatClampNeg from by rw [ef_71]; exact upd_ne (cl_ne (iv_c (53 : Int32) (a := 53) (b := 53) (by decide)) bx_69 (by decide)))).trans (show f_66 (53 : Int32).toNatClampNeg = f_61 (53 : Int32).toNatClampNeg from by rw [ef_66]; exact upd_ne (cl_ne (iv_c (53 : Int32) (a := 53) (b := 53) (by decide)) bx_64 (by decide)))).trans (show f_61 (53 : Int32).toNatClampNeg = f_54 (53 : Int32).toNatClampNeg from by rw [ef_61]; exact upd_ne (cl_ne (iv_c (53 : Int32) (a := 53) (b := 53) (by decide)) bx_59 (by decide)))).trans (show f_54 (53 : Int32).toNatClampNeg = x_53 from by rw [ef_54]; exact upd_at)) ?_
      refine lv_imul hx hb dX10_notes_78 ?_
      refine tpi (y := x_57) ex_57.symm ?_
      refine lv_iadd hx hb dX10_notes_79 ?_
      refine tpi (y := x_58) ex_58.symm ?_
      refine lv_iload_n hx hb dX10_notes_80 rfl (lv_at hl 0 rfl) ?_
      refine lv_iadd hx hb dX10_notes_81 ?_
      refine lv_topi (fun x_84 ex_84 => ?_)
      have bx_84 : iv 122 122 x_84 := by rw [ex_84]; exact iv_add bx_58 (iv_c (5 : Int32) (a := 5) (b := 5) (by decide)) (by decide)
      replace hR := tb hR ex_84
      refine lv_aload_n hx hb dX10_notes_82 rfl (lv_at hl 1 rfl) ?_
      refine va_get (ci := 10) (v := .ref (z 17)) (C := RX10) (T := TX10) (N := 40) hx hb hg inX10 hown hK hP 1 rfl rfl 17 (by decide) (hg _ q_6_1) (fun _ h9 => h9) rfl dX10_notes_83 ?_
      refine lv_iload_n hx hb dX10_notes_86 rfl (lv_at hl 0 rfl) ?_
      refine va_iald hx hb hK hP 0 0 rfl rfl (vin (by decide +kernel)) dX10_notes_87 ?_
      refine lv_topi (fun x_85 ex_85 => ?_)
      have bx_85 : iv 0 9 x_85 := by rw [ex_85]; exact rdT (a := 5) (n := 1) tfz17 (iv_c (5 : Int32) (a := 5) (b := 5) (by decide)) (by decide) (by decide +kernel)
      replace hR := tb hR ex_85
      refine va_iast hx hb hK hP hD hS 2 0 rfl rfl (iv_in bx_84 (by decide)) dX10_notes_88 (fun H locs hP hD hS => ?_)
      obtain ⟨f_86, ef_86, tf_86, hP, hD⟩ : ∃ f_86 : Nat → Int32, f_86 = (upd f_81 (x_84 : Int32).toNatClampNeg x_85) ∧ (ivT tA f_86) ∧ va_P V.1 vwCl [(z 17, aI V 7 fz17), (z 0, .inr (10, mo z pz0_0 pz0_5 pz0_6 pz0_7 pz0_8 pz0_9 pz0_10 pz0_11 pz0_12 pz0_13 pz0_14 pz0_18 pz0_19 pz0_22 pz0_23 pz0_29)), (z 1, aI V 3075 f_86)] H ∧ va_D A [(z 17, aI V 7 fz17), (z 0, .inr (10, mo z pz0_0 pz0_5 pz0_6 pz0_7 pz0_8 pz0_9 pz0_10 pz0_11 pz0_12 pz0_13 pz0_14 pz0_18 pz0_19 pz0_22 pz0_23 pz0_29)), (z 1, aI V 3075 f_86)] := ⟨_, rfl, upT (lo := 0) (hi := 9) (a := 122) (n := 1) tf_81 bx_84 (by decide) bx_85 (by decide +kernel), hP, hD⟩
      replace hR := tb hR ef_86
      refine lv_iinc (v := 6) (lv' := [(1, .int 6), (0, .ref (z 0))]) hx hb dX10_notes_89 hl (k := 0) rfl (by decide +kernel) (by decide) rfl (fun ls hl => ?_)
      refine lv_goto (tgt := 57) hx hb dX10_notes_92 (by decide) ?_
      refine lv_iload_n hx hb dX10_notes_57 rfl (lv_at hl 0 rfl) ?_
      refine lv_bipush (v := 7) hx hb dX10_notes_58 (by decide) ?_
      refine lv_icmp_ge (tgt := 95) hx hb dX10_notes_60 (by decide) (fun c_88 => absurd c_88 (by decide)) (fun _ => ?_)
      refine lv_aload_n hx hb dX10_notes_63 rfl (lv_at hl 1 rfl) ?_
      refine va_get (ci := 10) (v := .ref (z 1)) (C := RX10) (T := TX10) (N := 40) hx hb hg inX10 hown hK hP 1 rfl rfl 1 (by decide) (hg _ q_5_225) (fun _ h9 => h9) rfl dX10_notes_64 ?_
      refine lv_bipush (v := 54) hx hb dX10_notes_67 (by decide) ?_
      refine lv_bipush (v := 7) hx hb dX10_notes_69 (by decide) ?_
      refine lv_aload_n hx hb dX10_notes_71 rfl (lv_at hl 1 rfl) ?_
      refine va_get (ci := 10) (v := .ref (z 1)) (C := RX10) (T := TX10) (N := 40) hx hb hg inX10 hown hK hP 1 rfl rfl 1 (by decide) (hg _ q_5_225) (fun _ h9 => h9) rfl dX10_notes_72 ?_
      refine lv_bipush (v := 53) hx hb dX10_notes_75 (by decide) ?_
      refine va_iald hx hb hK hP 2 0 rfl rfl (vin (by decide +kernel)) dX10_notes_77 ?_
      refine tpi (y := x_53) (((((((show f_86 (53 : Int32).toNatClampNeg = f_81 (53 : Int32).toNatClampNeg from by rw [ef_86]; exact upd_ne (cl_ne (iv_c (53 : Int32) (a := 53) (b := 53) (by decide)) bx_84 (by decide))).trans (show f_81 (53 : Int32).toNatClampNeg = f_76 (53 : Int32).toNatClampNeg from by rw [ef_81]; exact upd_ne (cl_ne (iv_c (53 : Int32) (a := 53) (b := 53) (by decide)) bx_79 (by decide)))).trans (show f_76 (53 : Int32).toNatClampNeg = f_71 (53 : Int32).toNatClampNeg from by rw [ef_76]; exact upd_ne (cl_ne (iv_c (53 : Int32) (a := 53) (b := 53) (by decide)) bx_74 (by decide)))).trans (show f_71 (53 : Int32).toNatClampNeg = f_66 (53 : Int32).toNatClampNeg from by rw [ef_71]; exact upd_ne (cl_ne (iv_c (53 : Int32) (a := 53) (b := 53) (by decide)) bx_69 (by decide)))).trans (show f_66 (53 : Int32).toNatClampNeg = f_61 (53 : Int32).toNatClampNeg from by rw [ef_66]; exact upd_ne (cl_ne (iv_c (53 : Int32) (a := 53) (b := 53) (by decide)) bx_64 (by decide)))).trans (show f_61 (53 : Int32).toNatClampNeg = f_54 (53 : Int32).toNatClampNeg from by rw [ef_61]; exact upd_ne (cl_ne (iv_c (53 : Int32) (a := 53) (b := 53) (by decide)) bx_59 (by decide)))).trans (show f_54 (53 : Int32).toNatClampNeg = x_53 from by rw [ef_54]; exact upd_at)) ?_
      refine lv_imul hx hb dX10_notes_78 ?_
      refine tpi (y := x_57) ex_57.symm ?_
      refine lv_iadd hx hb dX10_notes_79 ?_
      refine tpi (y := x_58) ex_58.symm ?_
      refine lv_iload_n hx hb dX10_notes_80 rfl (lv_at hl 0 rfl) ?_
      refine lv_iadd hx hb dX10_notes_81 ?_
      refine lv_topi (fun x_89 ex_89 => ?_)
      have bx_89 : iv 123 123 x_89 := by rw [ex_89]; exact iv_add bx_58 (iv_c (6 : Int32) (a := 6) (b := 6) (by decide)) (by decide)
      replace hR := tb hR ex_89
      refine lv_aload_n hx hb dX10_notes_82 rfl (lv_at hl 1 rfl) ?_
      refine va_get (ci := 10) (v := .ref (z 17)) (C := RX10) (T := TX10) (N := 40) hx hb hg inX10 hown hK hP 1 rfl rfl 17 (by decide) (hg _ q_6_1) (fun _ h9 => h9) rfl dX10_notes_83 ?_
      refine lv_iload_n hx hb dX10_notes_86 rfl (lv_at hl 0 rfl) ?_
      refine va_iald hx hb hK hP 0 0 rfl rfl (vin (by decide +kernel)) dX10_notes_87 ?_
      refine lv_topi (fun x_90 ex_90 => ?_)
      replace hR := tb hR ex_90
      refine va_iast hx hb hK hP hD hS 2 0 rfl rfl (iv_in bx_89 (by decide)) dX10_notes_88 (fun H locs hP hD hS => ?_)
      obtain ⟨f_91, ef_91, tf_91, hP, hD⟩ : ∃ f_91 : Nat → Int32, f_91 = (upd f_86 (x_89 : Int32).toNatClampNeg x_90) ∧ (ivT tA f_91) ∧ va_P V.1 vwCl [(z 17, aI V 7 fz17), (z 0, .inr (10, mo z pz0_0 pz0_5 pz0_6 pz0_7 pz0_8 pz0_9 pz0_10 pz0_11 pz0_12 pz0_13 pz0_14 pz0_18 pz0_19 pz0_22 pz0_23 pz0_29)), (z 1, aI V 3075 f_91)] H ∧ va_D A [(z 17, aI V 7 fz17), (z 0, .inr (10, mo z pz0_0 pz0_5 pz0_6 pz0_7 pz0_8 pz0_9 pz0_10 pz0_11 pz0_12 pz0_13 pz0_14 pz0_18 pz0_19 pz0_22 pz0_23 pz0_29)), (z 1, aI V 3075 f_91)] := ⟨_, rfl, upT (lo := (-2147483648)) (hi := 2147483647) (a := 123) (n := 1) tf_86 bx_89 (by decide) (iv_top x_90) (by decide +kernel), hP, hD⟩
      replace hR := tb hR ef_91
      refine lv_iinc (v := 7) (lv' := [(1, .int 7), (0, .ref (z 0))]) hx hb dX10_notes_89 hl (k := 0) rfl (by decide +kernel) (by decide) rfl (fun ls hl => ?_)
      refine lv_goto (tgt := 57) hx hb dX10_notes_92 (by decide) ?_
      refine lv_iload_n hx hb dX10_notes_57 rfl (lv_at hl 0 rfl) ?_
      refine lv_bipush (v := 7) hx hb dX10_notes_58 (by decide) ?_
      refine lv_icmp_ge (tgt := 95) hx hb dX10_notes_60 (by decide) (fun _ => ?_) (fun c_93 => absurd c_93 (by decide))
      refine lv_aload_n hx hb dX10_notes_95 rfl (lv_at hl 1 rfl) ?_
      refine va_get (ci := 10) (v := .ref (z 1)) (C := RX10) (T := TX10) (N := 40) hx hb hg inX10 hown hK hP 1 rfl rfl 1 (by decide) (hg _ q_5_225) (fun _ h9 => h9) rfl dX10_notes_96 ?_
      refine lv_bipush (v := 53) hx hb dX10_notes_99 (by decide) ?_
      refine lv_dup2_11 hx hb dX10_notes_101 rfl rfl ?_
      refine va_iald hx hb hK hP 2 0 rfl rfl (vin (by decide +kernel)) dX10_notes_102 ?_
      refine tpi (y := x_53) ((((((((show f_91 (53 : Int32).toNatClampNeg = f_86 (53 : Int32).toNatClampNeg from by rw [ef_91]; exact upd_ne (cl_ne (iv_c (53 : Int32) (a := 53) (b := 53) (by decide)) bx_89 (by decide))).trans (show f_86 (53 : Int32).toNatClampNeg = f_81 (53 : Int32).toNatClampNeg from by rw [ef_86]; exact upd_ne (cl_ne (iv_c (53 : Int32) (a := 53) (b := 53) (by decide)) bx_84 (by decide)))).trans (show f_81 (53 : Int32).toNatClampNeg = f_76 (53 : Int32).toNatClampNeg from by rw [ef_81]; exact upd_ne (cl_ne (iv_c (53 : Int32) (a := 53) (b := 53) (by decide)) bx_79 (by decide)))).trans (show f_76 (53 : Int32).toNatClampNeg = f_71 (53 : Int32).toNatClampNeg from by rw [ef_76]; exact upd_ne (cl_ne (iv_c (53 : Int32) (a := 53) (b := 53) (by decide)) bx_74 (by decide)))).trans (show f_71 (53 : Int32).toNatClampNeg = f_66 (53 : Int32).toNatClampNeg from by rw [ef_71]; exact upd_ne (cl_ne (iv_c (53 : Int32) (a := 53) (b := 53) (by decide)) bx_69 (by decide)))).trans (show f_66 (53 : Int32).toNatClampNeg = f_61 (53 : Int32).toNatClampNeg from by rw [ef_66]; exact upd_ne (cl_ne (iv_c (53 : Int32) (a := 53) (b := 53) (by decide)) bx_64 (by decide)))).trans (show f_61 (53 : Int32).toNatClampNeg = f_54 (53 : Int32).toNatClampNeg from by rw [ef_61]; exact upd_ne (cl_ne (iv_c (53 : Int32) (a := 53) (b := 53) (by decide)) bx_59 (by decide)))).trans (show f_54 (53 : Int32).toNatClampNeg = x_53 from by rw [ef_54]; exact upd_at)) ?_
      refine lv_iconst (v := 1) hx hb dX10_notes_103 (by decide) ?_
      refine lv_iadd hx hb dX10_notes_104 ?_
      refine lv_topi (fun x_94 ex_94 => ?_)
      have bx_94 : iv 10 10 x_94 := by rw [ex_94]; exact iv_add bx_53 (iv_c (1 : Int32) (a := 1) (b := 1) (by decide)) (by decide)
      replace hR := tb hR ex_94
      refine va_iast hx hb hK hP hD hS 2 0 rfl rfl (vin (by decide +kernel)) dX10_notes_105 (fun H locs hP hD hS => ?_)
      obtain ⟨f_95, ef_95, tf_95, hP, hD⟩ : ∃ f_95 : Nat → Int32, f_95 = (upd f_91 (53 : Int32).toNatClampNeg x_94) ∧ (ivT tA f_95) ∧ va_P V.1 vwCl [(z 17, aI V 7 fz17), (z 0, .inr (10, mo z pz0_0 pz0_5 pz0_6 pz0_7 pz0_8 pz0_9 pz0_10 pz0_11 pz0_12 pz0_13 pz0_14 pz0_18 pz0_19 pz0_22 pz0_23 pz0_29)), (z 1, aI V 3075 f_95)] H ∧ va_D A [(z 17, aI V 7 fz17), (z 0, .inr (10, mo z pz0_0 pz0_5 pz0_6 pz0_7 pz0_8 pz0_9 pz0_10 pz0_11 pz0_12 pz0_13 pz0_14 pz0_18 pz0_19 pz0_22 pz0_23 pz0_29)), (z 1, aI V 3075 f_95)] := ⟨_, rfl, upT (lo := 0) (hi := 10) (a := 53) (n := 1) tf_91 (iv_c (53 : Int32) (a := 53) (b := 53) (by decide)) (by decide) (iv_w bx_94 (by decide)) (by decide +kernel), hP, hD⟩
      replace hR := tb hR ef_95
      exact fiV hx hb hr hlk hK hP hD hS dX10_notes_106 (Nat.le_of_ble_eq_true rfl) (Nat.le_of_ble_eq_true rfl) (⟨f_95, tf_95, (RW_up (RW_up (RW_up (RW_up (RW_up (RW_up (RW_up (RW_up (RW_up inn_48_1 (iv_c (53 : Int32) (a := 53) (b := 53) (by decide)) (by decide) ef_54) bx_59 (by decide) ef_61) bx_64 (by decide) ef_66) bx_69 (by decide) ef_71) bx_74 (by decide) ef_76) bx_79 (by decide) ef_81) bx_84 (by decide) ef_86) bx_89 (by decide) ef_91) (iv_c (53 : Int32) (a := 53) (b := 53) (by decide)) (by decide) ef_95), ((tx hAn_48 hR).symm.trans hT0), rfl⟩)
    · replace hR := te hR c_49
      have b_96 : iv 0 62 u_46 := iv_l1 (Int32.not_le.mp c_49) bu_46 (iv_c (63 : Int32) (a := 63) (b := 63) (by decide)) (by decide)
      refine lv_aload_n hx hb dX10_notes_20 rfl (lv_at hl 1 rfl) ?_
      refine va_get (ci := 10) (v := .ref (z 1)) (C := RX10) (T := TX10) (N := 40) hx hb hg inX10 hown hK hP 1 rfl rfl 1 (by decide) (hg _ q_5_225) (fun _ h9 => h9) rfl dX10_notes_21 ?_
      refine lv_bipush (v := 54) hx hb dX10_notes_24 (by decide) ?_
      refine lv_iload_n hx hb dX10_notes_26 rfl (lv_at hl 0 rfl) ?_
      refine lv_iadd hx hb dX10_notes_27 ?_
      refine lv_topi (fun x_97 ex_97 => ?_)
      have bx_97 : iv 54 116 x_97 := by rw [ex_97]; exact iv_add (iv_c (54 : Int32) (a := 54) (b := 54) (by decide)) b_96 (by decide)
      replace hR := tb hR ex_97
      refine lv_aload_n hx hb dX10_notes_28 rfl (lv_at hl 1 rfl) ?_
      refine va_get (ci := 10) (v := .ref (z 1)) (C := RX10) (T := TX10) (N := 40) hx hb hg inX10 hown hK hP 1 rfl rfl 1 (by decide) (hg _ q_5_225) (fun _ h9 => h9) rfl dX10_notes_29 ?_
      refine lv_bipush (v := 61) hx hb dX10_notes_32 (by decide) ?_
      refine lv_iload_n hx hb dX10_notes_34 rfl (lv_at hl 0 rfl) ?_
      refine lv_iadd hx hb dX10_notes_35 ?_
      refine lv_topi (fun x_98 ex_98 => ?_)
      have bx_98 : iv 61 123 x_98 := by rw [ex_98]; exact iv_add (iv_c (61 : Int32) (a := 61) (b := 61) (by decide)) b_96 (by decide)
      replace hR := tb hR ex_98
      refine va_iald hx hb hK hP 2 0 rfl rfl (iv_in bx_98 (by decide)) dX10_notes_36 ?_
      refine lv_topi (fun x_99 ex_99 => ?_)
      replace hR := tb hR ex_99
      refine va_iast hx hb hK hP hD hS 2 0 rfl rfl (iv_in bx_97 (by decide)) dX10_notes_37 (fun H locs hP hD hS => ?_)
      obtain ⟨f_100, ef_100, tf_100, hP, hD⟩ : ∃ f_100 : Nat → Int32, f_100 = (upd f_47 (x_97 : Int32).toNatClampNeg x_99) ∧ (ivT tA f_100) ∧ va_P V.1 vwCl [(z 17, aI V 7 fz17), (z 0, .inr (10, mo z pz0_0 pz0_5 pz0_6 pz0_7 pz0_8 pz0_9 pz0_10 pz0_11 pz0_12 pz0_13 pz0_14 pz0_18 pz0_19 pz0_22 pz0_23 pz0_29)), (z 1, aI V 3075 f_100)] H ∧ va_D A [(z 17, aI V 7 fz17), (z 0, .inr (10, mo z pz0_0 pz0_5 pz0_6 pz0_7 pz0_8 pz0_9 pz0_10 pz0_11 pz0_12 pz0_13 pz0_14 pz0_18 pz0_19 pz0_22 pz0_23 pz0_29)), (z 1, aI V 3075 f_100)] := ⟨_, rfl, (by have q_x_97 := toInt_add ex_97 (iv_c (54 : Int32) (a := 54) (b := 54) (by decide)) b_96 (by decide); have k_x_97 : (54 : Int32).toInt = 54 := (by decide); have q_x_98 := toInt_add ex_98 (iv_c (61 : Int32) (a := 61) (b := 61) (by decide)) b_96 (by decide); have k_x_98 : (61 : Int32).toInt = 61 := (by decide); exact tA_sh tf_47 (show _ = 54 + (u_46 : Int32).toInt by omega) (show _ = 61 + (u_46 : Int32).toInt by omega) b_96 (by decide) ex_99), hP, hD⟩
      replace hR := tb hR ef_100
      obtain ⟨x_101, ex_101⟩ : ∃ z9 : Int32, z9 = u_46 + 1 := ⟨_, rfl⟩
      have bx_101 : iv 1 63 x_101 := by rw [ex_101]; exact iv_add b_96 (iv_c (1 : Int32) (a := 1) (b := 1) (by decide)) (by decide)
      replace hR := tb hR ex_101
      refine lv_iinc (v := x_101) (lv' := [(1, .int x_101), (0, .ref (z 0))]) hx hb dX10_notes_38 hl (k := 0) rfl (by rw [ex_101]; rfl) (by decide) rfl (fun ls hl => ?_)
      refine lv_goto (tgt := 14) hx hb dX10_notes_41 (by decide) ?_
      exact ihn_48 _ _ _ _ (by rw [en_48, ex_101]; exact mu_up b_96 (by decide)) ⟨x_101, f_100, (iv_w bx_101 (by decide)), tf_100, (by rw [ef_100]; exact (upd_ne (cl_ne (iv_c (53 : Int32) (a := 53) (b := 53) (by decide)) bx_97 (by decide))).trans inn_48_0), (RW_up inn_48_1 bx_97 (by decide) ef_100), (tbk hAn_48 hR), rfl, hP, hD, hS, lv_sub hl [0, 1] rfl⟩
theorem dX10_night_0 : decode cX10_night 0 = .ok (.aload_n 0, 1) := by decide +kernel
theorem dX10_night_1 : decode cX10_night 1 = .ok (.iconst 0, 1) := by decide +kernel
theorem dX10_night_2 : decode cX10_night 2 = .ok (.putfield 1, 3) := by decide +kernel
theorem dX10_night_5 : decode cX10_night 5 = .ok (.aload_n 0, 1) := by decide +kernel
theorem dX10_night_6 : decode cX10_night 6 = .ok (.iload_n 1, 1) := by decide +kernel
theorem dX10_night_7 : decode cX10_night 7 = .ok (.i2l, 1) := by decide +kernel
theorem dX10_night_8 : decode cX10_night 8 = .ok (.invokevirtual 266, 3) := by decide +kernel
theorem dX10_night_11 : decode cX10_night 11 = .ok (.ifCond .ne 6, 3) := by decide +kernel
theorem dX10_night_17 : decode cX10_night 17 = .ok (.aload_n 0, 1) := by decide +kernel
theorem q_7_63 : Cond.code yX10_stores prog_12_method_56_code 2 none ∈ gw := gw_7 (i := 63) (rfl) rfl
theorem q_7_62 : Cond.instanceMethod yX10_stores ∈ gw := gw_7 (i := 62) (by decide +kernel) rfl
theorem q_s_87 : Cond.selects "BeaconDelayModel" yX10_stores yX10_stores ∈ gw := gw_s (i := 87) (by decide +kernel) rfl
theorem mt_X10_stores : MtV yX10_stores cX10_stores 2 none 0 := ⟨⟨q_7_63, q_1_9, by decide +kernel, by decide +kernel, by decide +kernel⟩, q_7_62, q_s_87⟩
theorem q_7_60 : Cond.methodLink "BeaconDelayModel" 278 yX10_stores ∈ gw := gw_7 (i := 60) (by decide +kernel) rfl
theorem dX10_night_18 : decode cX10_night 18 = .ok (.invokevirtual 278, 3) := by decide +kernel
theorem dX10_night_21 : decode cX10_night 21 = .ok (.aload_n 0, 1) := by decide +kernel
theorem dX10_night_22 : decode cX10_night 22 = .ok (.iload_n 1, 1) := by decide +kernel
theorem q_7_67 : Cond.code yX10_goesNight prog_12_method_59_code 2 none ∈ gw := gw_7 (i := 67) (rfl) rfl
theorem q_7_66 : Cond.instanceMethod yX10_goesNight ∈ gw := gw_7 (i := 66) (by decide +kernel) rfl
theorem q_s_88 : Cond.selects "BeaconDelayModel" yX10_goesNight yX10_goesNight ∈ gw := gw_s (i := 88) (by decide +kernel) rfl
theorem mt_X10_goesNight : MtV yX10_goesNight cX10_goesNight 2 none 1 := ⟨⟨q_7_67, q_1_9, by decide +kernel, by decide +kernel, by decide +kernel⟩, q_7_66, q_s_88⟩
theorem q_7_64 : Cond.methodLink "BeaconDelayModel" 281 yX10_goesNight ∈ gw := gw_7 (i := 64) (by decide +kernel) rfl
theorem dX10_night_23 : decode cX10_night 23 = .ok (.invokevirtual 281, 3) := by decide +kernel
theorem dX10_night_26 : decode cX10_night 26 = .ok (.aload_n 0, 1) := by decide +kernel
theorem q_7_75 : Cond.code yX10_notes prog_12_method_58_code 2 none ∈ gw := gw_7 (i := 75) (rfl) rfl
theorem q_7_74 : Cond.instanceMethod yX10_notes ∈ gw := gw_7 (i := 74) (by decide +kernel) rfl
theorem q_s_90 : Cond.selects "BeaconDelayModel" yX10_notes yX10_notes ∈ gw := gw_s (i := 90) (by decide +kernel) rfl
theorem mt_X10_notes : MtV yX10_notes cX10_notes 2 none 0 := ⟨⟨q_7_75, q_1_9, by decide +kernel, by decide +kernel, by decide +kernel⟩, q_7_74, q_s_90⟩
theorem q_7_72 : Cond.methodLink "BeaconDelayModel" 284 yX10_notes ∈ gw := gw_7 (i := 72) (by decide +kernel) rfl
theorem dX10_night_27 : decode cX10_night 27 = .ok (.invokevirtual 284, 3) := by decide +kernel
theorem dX10_night_30 : decode cX10_night 30 = .ok (.aload_n 0, 1) := by decide +kernel
theorem dX10_night_31 : decode cX10_night 31 = .ok (.getfield 13, 3) := by decide +kernel
theorem dX10_night_34 : decode cX10_night 34 = .ok (.bipush 50, 2) := by decide +kernel
theorem dX10_night_36 : decode cX10_night 36 = .ok (.iaload, 1) := by decide +kernel
theorem dX10_night_37 : decode cX10_night 37 = .ok (.ireturn, 1) := by decide +kernel
theorem dX10_night_14 : decode cX10_night 14 = .ok (.bipush (-11), 2) := by decide +kernel
theorem dX10_night_16 : decode cX10_night 16 = .ok (.ireturn, 1) := by decide +kernel
set_option maxRecDepth 100000 in
noncomputable def F_k_X10_night_0 (a1 : Int32) (fz1 : Nat → Int32) (fz15 : Nat → Int32) (fz16 : Nat → Int32) (fz17 : Nat → Int32) : Int32 × Int32 × (Nat → Int32) × (Nat → Int32) × (Nat → Int32) × (Nat → Int32) := bnd (a1.toInt64 : Int64) fun (j_1 : Int64) => bnd (F_k_X10_isNight_0 j_1 fz1 : Int32) fun (r_2 : Int32) => if r_2 = (0 : Int32) then ((((-11) : Int32), (0 : Int32), fz1, fz15, fz16, fz17)) else (bnd (F_k_X10_stores_0 fz17 fz1 : Nat → Int32) fun (f_10 : Nat → Int32) => bnd (F_k_X10_goesNight_0 a1 fz15 fz16 fz1 : (Nat → Int32) × (Nat → Int32) × (Nat → Int32)) fun (q_20 : (Nat → Int32) × (Nat → Int32) × (Nat → Int32)) => bnd (q_20.1 : Nat → Int32) fun (f_13 : Nat → Int32) => bnd (q_20.2.1 : Nat → Int32) fun (f_14 : Nat → Int32) => bnd (q_20.2.2 : Nat → Int32) fun (f_15 : Nat → Int32) => bnd (F_k_X10_notes_0 f_10 f_15 : Nat → Int32) fun (f_21 : Nat → Int32) => bnd (f_21 (50 : Int32).toNatClampNeg : Int32) fun (x_25 : Int32) => (x_25, (0 : Int32), f_21, f_13, f_14, f_10))
set_option maxHeartbeats 4000000 in
set_option maxRecDepth 100000 in
theorem k_X10_night_0 (l : Launch) (V : GV) (z : Nat → Nat) (a1 : Int32) (pz0_0 : Int32) (pz0_5 : Int32) (pz0_6 : Int32) (pz0_7 : Int32) (pz0_8 : Int32) (pz0_9 : Int32) (pz0_10 : Int32) (pz0_11 : Int32) (pz0_12 : Int32) (pz0_13 : Int32) (pz0_14 : Int32) (pz0_18 : Int32) (pz0_19 : Int32) (pz0_22 : Int32) (pz0_23 : Int32) (pz0_29 : Int32) (fz1 : Nat → Int32) (fz15 : Nat → Int32) (fz16 : Nat → Int32) (fz17 : Nat → Int32) (bpz0_5 : iv 0 900 pz0_5) (bpz0_6 : iv 0 900 pz0_6) (bpz0_7 : iv 0 900 pz0_7) (bpz0_8 : iv 0 900 pz0_8) (bpz0_10 : iv 0 999 pz0_10) (bpz0_11 : iv 0 4 pz0_11) (bpz0_12 : iv 0 900 pz0_12) (bpz0_13 : iv 0 4 pz0_13) (bpz0_14 : iv (-1) 900 pz0_14) (bpz0_18 : iv 0 2 pz0_18) (bpz0_22 : iv 0 9999 pz0_22) (bpz0_29 : iv 0 10000 pz0_29) (tfz1 : ivT tA fz1) (tfz16 : ivT tW fz16) (tfz17 : ivT tS fz17) (hf0 : RW fz1) : Ct l V yX10_night (.code yX10_night cX10_night 2 (some .int)) 6 [.ref (z 0), .int a1] [(z 0, .inr (10, mo z pz0_0 pz0_5 pz0_6 pz0_7 pz0_8 pz0_9 pz0_10 pz0_11 pz0_12 pz0_13 pz0_14 pz0_18 pz0_19 pz0_22 pz0_23 pz0_29)), (z 1, aI V 3075 fz1), (z 15, aI V 900 fz15), (z 16, aI V 6 fz16), (z 17, aI V 7 fz17)] 0 0 (QI V (fun (r : Int32) (w : va_W) => ∃ (v0 : Int32) (g1 : Nat → Int32) (g2 : Nat → Int32) (g3 : Nat → Int32) (g4 : Nat → Int32), (ivT tA g1) ∧ (ivT tW g3) ∧ (ivT tS g4) ∧ iv (-11) 15 r ∧ (RW g1) ∧ r = (F_k_X10_night_0 a1 fz1 fz15 fz16 fz17).1 ∧ v0 = (F_k_X10_night_0 a1 fz1 fz15 fz16 fz17).2.1 ∧ g1 = (F_k_X10_night_0 a1 fz1 fz15 fz16 fz17).2.2.1 ∧ g2 = (F_k_X10_night_0 a1 fz1 fz15 fz16 fz17).2.2.2.1 ∧ g3 = (F_k_X10_night_0 a1 fz1 fz15 fz16 fz17).2.2.2.2.1 ∧ g4 = (F_k_X10_night_0 a1 fz1 fz15 fz16 fz17).2.2.2.2.2 ∧ w = [(z 0, .inr (10, mo z v0 pz0_5 pz0_6 pz0_7 pz0_8 pz0_9 pz0_10 pz0_11 pz0_12 pz0_13 pz0_14 pz0_18 pz0_19 pz0_22 pz0_23 pz0_29)), (z 1, aI V 3075 g1), (z 15, aI V 900 g2), (z 16, aI V 6 g3), (z 17, aI V 7 g4)])) := by
  refine Ct.of (by decide) (Nat.le_of_ble_eq_true rfl) (fun p e s m below meth c A ls hx hb hr hml hown hlk hnm hg hP hK hD hE hA hS hl => ?_)
  have hl : lv_has ls 2 [(0, .ref (z 0)), (1, .int a1)] := hl
  obtain ⟨T0, hT0⟩ : ∃ T9, T9 = F_k_X10_night_0 a1 fz1 fz15 fz16 fz17 := ⟨_, rfl⟩
  have hR := hT0.trans (F_k_X10_night_0.eq_1 ..)
  refine lv_aload_n hx hb dX10_night_0 rfl (lv_at hl 0 rfl) ?_
  refine lv_iconst (v := 0) hx hb dX10_night_1 (by decide) ?_
  refine va_put (ci := 10) (v := .int 0) (ty := .int) (C := RX10) (T := TX10) (N := 40) hx hb hg inX10 tyX10 tyX10_ok nmX10 hown hK hP hD hS 0 rfl rfl 0 (by decide) (hg _ q_5_224) (fun _ h9 => h9) rfl (by decide +kernel) rfl rfl (Nat.le_of_ble_eq_true rfl) dX10_night_2 (fun H locs hP hD hS => ?_)
  have hP : va_P V.1 vwCl [(z 0, .inr (10, mo z 0 pz0_5 pz0_6 pz0_7 pz0_8 pz0_9 pz0_10 pz0_11 pz0_12 pz0_13 pz0_14 pz0_18 pz0_19 pz0_22 pz0_23 pz0_29)), (z 1, aI V 3075 fz1), (z 15, aI V 900 fz15), (z 16, aI V 6 fz16), (z 17, aI V 7 fz17)] H := hP
  have hD := cpD hP hD
  refine lv_aload_n hx hb dX10_night_5 rfl (lv_at hl 0 rfl) ?_
  refine lv_iload_n hx hb dX10_night_6 rfl (lv_at hl 1 rfl) ?_
  refine lv_i2l hx hb dX10_night_7 rfl ?_
  refine lv_topl (fun j_1 ej_1 => ?_)
  replace hR := tb hR ej_1
  refine jnI (wr := [(z 15, aI V 900 fz15), (z 16, aI V 6 fz16), (z 17, aI V 7 fz17)]) (rnV (rest := []) ⟨hx, hb, hml, hown, hg⟩ (k_X10_isNight_0 l V z j_1 0 pz0_5 pz0_6 pz0_7 pz0_8 pz0_9 pz0_10 pz0_11 pz0_12 pz0_13 pz0_14 pz0_18 pz0_19 pz0_22 pz0_23 pz0_29 fz1 bpz0_5 bpz0_6 bpz0_7 bpz0_8 bpz0_10 bpz0_11 bpz0_12 bpz0_13 bpz0_14 bpz0_18 bpz0_22 bpz0_29 tfz1) mt_X10_isNight q_7_7 ⟨Nat.le_of_ble_eq_true rfl, Nat.le_of_ble_eq_true rfl⟩ hK hP hD hS hA hE [0, 1] rfl rfl 0 rfl rfl rfl rfl hl.1 rfl (Nat.le_of_ble_eq_true rfl) dX10_night_8 ⟨Nat.le_of_ble_eq_true rfl, Nat.le_of_ble_eq_true rfl⟩) hP hD hS hA [0, 1] [2, 3, 4] rfl rfl rfl (by decide) (fun r_2 w H locs hw hP hD hS => ?_)
  obtain ⟨br_2, g_3, et_4, rfl⟩ := hw
  replace hR := tb hR et_4
  have hP : va_P V.1 vwCl [(z 15, aI V 900 fz15), (z 16, aI V 6 fz16), (z 17, aI V 7 fz17), (z 0, .inr (10, mo z 0 pz0_5 pz0_6 pz0_7 pz0_8 pz0_9 pz0_10 pz0_11 pz0_12 pz0_13 pz0_14 pz0_18 pz0_19 pz0_22 pz0_23 pz0_29)), (z 1, aI V 3075 fz1)] H := hP
  have hD := cpD hP hD
  refine lv_if_ne (tgt := 17) hx hb dX10_night_11 (by decide) (fun c_6 => ?_) (fun c_6 => ?_)
  · replace hR := te hR c_6
    have b_7 : iv 1 1 r_2 := iv_n0 c_6 br_2 (iv_c (0 : Int32) (a := 0) (b := 0) (by decide)) (by decide)
    have b_8 : ivL 0 3 j_1 := ivL_cap (g_3 (iv_eqp b_7 (iv_c (1 : Int32) (by decide)))) (ivL_top j_1) (by decide)
    have b_9 : iv 0 3 a1 := iv_cap (ivL_i ej_1 b_8) (iv_top a1) (by decide)
    refine lv_aload_n hx hb dX10_night_17 rfl (lv_at hl 0 rfl) ?_
    refine jnV (wr := [(z 15, aI V 900 fz15), (z 16, aI V 6 fz16)]) (rnV (rest := []) ⟨hx, hb, hml, hown, hg⟩ (k_X10_stores_0 l V z fz17 0 pz0_5 pz0_6 pz0_7 pz0_8 pz0_9 pz0_10 pz0_11 pz0_12 pz0_13 pz0_14 pz0_18 pz0_19 pz0_22 pz0_23 pz0_29 fz1 tfz17 bpz0_5 bpz0_6 bpz0_7 bpz0_8 bpz0_10 bpz0_11 bpz0_12 bpz0_13 bpz0_14 bpz0_18 bpz0_22 bpz0_29 tfz1) mt_X10_stores q_7_60 ⟨Nat.le_of_ble_eq_true rfl, Nat.le_of_ble_eq_true rfl⟩ hK hP hD hS hA hE [2, 3, 4] rfl rfl 3 rfl rfl rfl rfl hl.1 rfl (Nat.le_of_ble_eq_true rfl) dX10_night_18 ⟨Nat.le_of_ble_eq_true rfl, Nat.le_of_ble_eq_true rfl⟩) hP hD hS hA [2, 3, 4] [0, 1] rfl rfl rfl (by decide) (fun  w H locs hw hP hD hS => ?_)
    obtain ⟨f_10, tf_10, et_11, rfl⟩ := hw
    replace hR := tb hR et_11
    have hP : va_P V.1 vwCl [(z 15, aI V 900 fz15), (z 16, aI V 6 fz16), (z 17, aI V 7 f_10), (z 0, .inr (10, mo z 0 pz0_5 pz0_6 pz0_7 pz0_8 pz0_9 pz0_10 pz0_11 pz0_12 pz0_13 pz0_14 pz0_18 pz0_19 pz0_22 pz0_23 pz0_29)), (z 1, aI V 3075 fz1)] H := hP
    have hD := cpD hP hD
    refine lv_aload_n hx hb dX10_night_21 rfl (lv_at hl 0 rfl) ?_
    refine lv_iload_n hx hb dX10_night_22 rfl (lv_at hl 1 rfl) ?_
    refine jnV (wr := [(z 17, aI V 7 f_10)]) (rnV (rest := []) ⟨hx, hb, hml, hown, hg⟩ (k_X10_goesNight_0 l V z a1 fz15 fz16 0 pz0_5 pz0_6 pz0_7 pz0_8 pz0_9 pz0_10 pz0_11 pz0_12 pz0_13 pz0_14 pz0_18 pz0_19 pz0_22 pz0_23 pz0_29 fz1 b_9 tfz16 bpz0_5 bpz0_6 bpz0_7 bpz0_8 bpz0_10 bpz0_11 bpz0_12 bpz0_13 bpz0_14 bpz0_18 bpz0_22 bpz0_29 tfz1 hf0) mt_X10_goesNight q_7_64 ⟨Nat.le_of_ble_eq_true rfl, Nat.le_of_ble_eq_true rfl⟩ hK hP hD hS hA hE [0, 1, 3, 4] rfl rfl 3 rfl rfl rfl rfl hl.1 rfl (Nat.le_of_ble_eq_true rfl) dX10_night_23 ⟨Nat.le_of_ble_eq_true rfl, Nat.le_of_ble_eq_true rfl⟩) hP hD hS hA [0, 1, 3, 4] [2] rfl rfl rfl (by decide) (fun  w H locs hw hP hD hS => ?_)
    obtain ⟨f_13, f_14, f_15, tf_14, tf_15, g_16, et_17, et_18, et_19, rfl⟩ := hw
    replace hR := tb0 hR
    replace hR := tb hR et_17
    replace hR := tb hR et_18
    replace hR := tb hR et_19
    have hP : va_P V.1 vwCl [(z 17, aI V 7 f_10), (z 15, aI V 900 f_13), (z 16, aI V 6 f_14), (z 0, .inr (10, mo z 0 pz0_5 pz0_6 pz0_7 pz0_8 pz0_9 pz0_10 pz0_11 pz0_12 pz0_13 pz0_14 pz0_18 pz0_19 pz0_22 pz0_23 pz0_29)), (z 1, aI V 3075 f_15)] H := hP
    have hD := cpD hP hD
    refine lv_aload_n hx hb dX10_night_26 rfl (lv_at hl 0 rfl) ?_
    refine jnV (wr := [(z 15, aI V 900 f_13), (z 16, aI V 6 f_14)]) (rnV (rest := []) ⟨hx, hb, hml, hown, hg⟩ (k_X10_notes_0 l V z f_10 0 pz0_5 pz0_6 pz0_7 pz0_8 pz0_9 pz0_10 pz0_11 pz0_12 pz0_13 pz0_14 pz0_18 pz0_19 pz0_22 pz0_23 pz0_29 f_15 tf_10 bpz0_5 bpz0_6 bpz0_7 bpz0_8 bpz0_10 bpz0_11 bpz0_12 bpz0_13 bpz0_14 bpz0_18 bpz0_22 bpz0_29 tf_15 g_16) mt_X10_notes q_7_72 ⟨Nat.le_of_ble_eq_true rfl, Nat.le_of_ble_eq_true rfl⟩ hK hP hD hS hA hE [0, 3, 4] rfl rfl 3 rfl rfl rfl rfl hl.1 rfl (Nat.le_of_ble_eq_true rfl) dX10_night_27 ⟨Nat.le_of_ble_eq_true rfl, Nat.le_of_ble_eq_true rfl⟩) hP hD hS hA [0, 3, 4] [1, 2] rfl rfl rfl (by decide) (fun  w H locs hw hP hD hS => ?_)
    obtain ⟨f_21, tf_21, g_22, et_23, rfl⟩ := hw
    replace hR := tb hR et_23
    have hP : va_P V.1 vwCl [(z 15, aI V 900 f_13), (z 16, aI V 6 f_14), (z 17, aI V 7 f_10), (z 0, .inr (10, mo z 0 pz0_5 pz0_6 pz0_7 pz0_8 pz0_9 pz0_10 pz0_11 pz0_12 pz0_13 pz0_14 pz0_18 pz0_19 pz0_22 pz0_23 pz0_29)), (z 1, aI V 3075 f_21)] H := hP
    have hD := cpD hP hD
    refine lv_aload_n hx hb dX10_night_30 rfl (lv_at hl 0 rfl) ?_
    refine va_get (ci := 10) (v := .ref (z 1)) (C := RX10) (T := TX10) (N := 40) hx hb hg inX10 hown hK hP 3 rfl rfl 1 (by decide) (hg _ q_5_225) (fun _ h9 => h9) rfl dX10_night_31 ?_
    refine lv_bipush (v := 50) hx hb dX10_night_34 (by decide) ?_
    refine va_iald hx hb hK hP 4 0 rfl rfl (vin (by decide +kernel)) dX10_night_36 ?_
    refine lv_topi (fun x_25 ex_25 => ?_)
    have bx_25 : iv 0 15 x_25 := by rw [ex_25]; exact rdT (a := 50) (n := 1) tf_21 (iv_c (50 : Int32) (a := 50) (b := 50) (by decide)) (by decide) (by decide +kernel)
    replace hR := tb hR ex_25
    have hP := subP (ws' := [(z 0, .inr (10, mo z 0 pz0_5 pz0_6 pz0_7 pz0_8 pz0_9 pz0_10 pz0_11 pz0_12 pz0_13 pz0_14 pz0_18 pz0_19 pz0_22 pz0_23 pz0_29)), (z 1, aI V 3075 f_21), (z 15, aI V 900 f_13), (z 16, aI V 6 f_14), (z 17, aI V 7 f_10)]) hP [3, 4, 0, 1, 2] rfl
    have hD := subD hP hD [3, 4, 0, 1, 2] rfl rfl
    exact fiI hx hb hr hlk hK hP hD hS dX10_night_37 (Nat.le_of_ble_eq_true rfl) (Nat.le_of_ble_eq_true rfl) (⟨0, f_21, f_13, f_14, f_10, tf_21, tf_14, tf_10, (iv_w bx_25 (by decide)), g_22, (congrArg Prod.fst (hR.symm.trans hT0)), (congrArg Prod.fst (congrArg Prod.snd (hR.symm.trans hT0))), (congrArg Prod.fst (congrArg Prod.snd (congrArg Prod.snd (hR.symm.trans hT0)))), (congrArg Prod.fst (congrArg Prod.snd (congrArg Prod.snd (congrArg Prod.snd (hR.symm.trans hT0))))), (congrArg Prod.fst (congrArg Prod.snd (congrArg Prod.snd (congrArg Prod.snd (congrArg Prod.snd (hR.symm.trans hT0)))))), (congrArg Prod.snd (congrArg Prod.snd (congrArg Prod.snd (congrArg Prod.snd (congrArg Prod.snd (hR.symm.trans hT0)))))), rfl⟩)
  · replace hR := ti hR c_6
    have b_26 : iv 0 0 r_2 := iv_q c_6 (iv_c (0 : Int32) (a := 0) (b := 0) (by decide))
    refine lv_bipush (v := (-11)) hx hb dX10_night_14 (by decide) ?_
    have hP := subP (ws' := [(z 0, .inr (10, mo z 0 pz0_5 pz0_6 pz0_7 pz0_8 pz0_9 pz0_10 pz0_11 pz0_12 pz0_13 pz0_14 pz0_18 pz0_19 pz0_22 pz0_23 pz0_29)), (z 1, aI V 3075 fz1), (z 15, aI V 900 fz15), (z 16, aI V 6 fz16), (z 17, aI V 7 fz17)]) hP [3, 4, 0, 1, 2] rfl
    have hD := subD hP hD [3, 4, 0, 1, 2] rfl rfl
    exact fiI hx hb hr hlk hK hP hD hS dX10_night_16 (Nat.le_of_ble_eq_true rfl) (Nat.le_of_ble_eq_true rfl) (⟨0, fz1, fz15, fz16, fz17, tfz1, tfz16, tfz17, (iv_c ((-11) : Int32) (by decide)), hf0, (congrArg Prod.fst (hR.symm.trans hT0)), (congrArg Prod.fst (congrArg Prod.snd (hR.symm.trans hT0))), (congrArg Prod.fst (congrArg Prod.snd (congrArg Prod.snd (hR.symm.trans hT0)))), (congrArg Prod.fst (congrArg Prod.snd (congrArg Prod.snd (congrArg Prod.snd (hR.symm.trans hT0))))), (congrArg Prod.fst (congrArg Prod.snd (congrArg Prod.snd (congrArg Prod.snd (congrArg Prod.snd (hR.symm.trans hT0)))))), (congrArg Prod.snd (congrArg Prod.snd (congrArg Prod.snd (congrArg Prod.snd (congrArg Prod.snd (hR.symm.trans hT0)))))), rfl⟩)
theorem dX10_nights_0 : decode cX10_nights 0 = .ok (.aload_n 0, 1) := by decide +kernel
theorem dX10_nights_1 : decode cX10_nights 1 = .ok (.iconst 0, 1) := by decide +kernel
theorem dX10_nights_2 : decode cX10_nights 2 = .ok (.putfield 1, 3) := by decide +kernel
theorem dX10_nights_5 : decode cX10_nights 5 = .ok (.iload_n 1, 1) := by decide +kernel
theorem dX10_nights_6 : decode cX10_nights 6 = .ok (.i2l, 1) := by decide +kernel
theorem dX10_nights_7 : decode cX10_nights 7 = .ok (.lconst 1, 1) := by decide +kernel
theorem q_7_80 : Cond.constantLong "BeaconDelayModel" 287 (99 : Int64) ∈ gw := gw_7 (i := 80) (by decide +kernel) rfl
theorem dX10_nights_8 : decode cX10_nights 8 = .ok (.ldc2_w 287, 3) := by decide +kernel
theorem dX10_nights_11 : decode cX10_nights 11 = .ok (.invokestatic 159, 3) := by decide +kernel
theorem dX10_nights_14 : decode cX10_nights 14 = .ok (.ifCond .ne 6, 3) := by decide +kernel
theorem dX10_nights_20 : decode cX10_nights 20 = .ok (.aload_n 0, 1) := by decide +kernel
theorem dX10_nights_21 : decode cX10_nights 21 = .ok (.invokevirtual 278, 3) := by decide +kernel
theorem dX10_nights_24 : decode cX10_nights 24 = .ok (.iconst 0, 1) := by decide +kernel
theorem dX10_nights_25 : decode cX10_nights 25 = .ok (.istore_n 2, 1) := by decide +kernel
theorem dX10_nights_26 : decode cX10_nights 26 = .ok (.iload_n 2, 1) := by decide +kernel
theorem dX10_nights_27 : decode cX10_nights 27 = .ok (.iload_n 1, 1) := by decide +kernel
theorem dX10_nights_28 : decode cX10_nights 28 = .ok (.if_icmp .ge 14, 3) := by decide +kernel
theorem dX10_nights_42 : decode cX10_nights 42 = .ok (.aload_n 0, 1) := by decide +kernel
theorem dX10_nights_43 : decode cX10_nights 43 = .ok (.invokevirtual 284, 3) := by decide +kernel
theorem dX10_nights_46 : decode cX10_nights 46 = .ok (.aload_n 0, 1) := by decide +kernel
theorem dX10_nights_47 : decode cX10_nights 47 = .ok (.getfield 13, 3) := by decide +kernel
theorem dX10_nights_50 : decode cX10_nights 50 = .ok (.bipush 50, 2) := by decide +kernel
theorem dX10_nights_52 : decode cX10_nights 52 = .ok (.iaload, 1) := by decide +kernel
theorem dX10_nights_53 : decode cX10_nights 53 = .ok (.ireturn, 1) := by decide +kernel
theorem dX10_nights_31 : decode cX10_nights 31 = .ok (.aload_n 0, 1) := by decide +kernel
theorem dX10_nights_32 : decode cX10_nights 32 = .ok (.iconst 0, 1) := by decide +kernel
theorem dX10_nights_33 : decode cX10_nights 33 = .ok (.invokevirtual 281, 3) := by decide +kernel
theorem dX10_nights_36 : decode cX10_nights 36 = .ok (.iinc 2 1, 3) := by decide +kernel
theorem dX10_nights_39 : decode cX10_nights 39 = .ok (.goto (-13), 3) := by decide +kernel
theorem dX10_nights_17 : decode cX10_nights 17 = .ok (.bipush (-3), 2) := by decide +kernel
theorem dX10_nights_19 : decode cX10_nights 19 = .ok (.ireturn, 1) := by decide +kernel
set_option maxRecDepth 100000 in
noncomputable def B_k_X10_nights_0_1 (a1 : Int32) (f_16 : Nat → Int32) (u_19 : Int32) (f_20 : Nat → Int32) (f_21 : Nat → Int32) (f_22 : Nat → Int32) : (Int32 × (Nat → Int32) × (Nat → Int32) × (Nat → Int32)) ⊕ (Int32 × Int32 × (Nat → Int32) × (Nat → Int32) × (Nat → Int32) × (Nat → Int32)) := if a1 ≤ u_19 then (bnd (F_k_X10_notes_0 f_16 f_22 : Nat → Int32) fun (f_26 : Nat → Int32) => bnd (f_26 (50 : Int32).toNatClampNeg : Int32) fun (x_30 : Int32) => Sum.inr ((x_30, (0 : Int32), f_26, f_20, f_21, f_16))) else (bnd (F_k_X10_goesNight_0 (0 : Int32) f_20 f_21 f_22 : (Nat → Int32) × (Nat → Int32) × (Nat → Int32)) fun (q_39 : (Nat → Int32) × (Nat → Int32) × (Nat → Int32)) => bnd (q_39.1 : Nat → Int32) fun (f_32 : Nat → Int32) => bnd (q_39.2.1 : Nat → Int32) fun (f_33 : Nat → Int32) => bnd (q_39.2.2 : Nat → Int32) fun (f_34 : Nat → Int32) => bnd (u_19 + 1 : Int32) fun (x_40 : Int32) => Sum.inl (x_40, f_32, f_33, f_34))
noncomputable def L_k_X10_nights_0_1 (a1 : Int32) (f_16 : Nat → Int32) (q9 : Int32 × (Nat → Int32) × (Nat → Int32) × (Nat → Int32)) : (Int32 × (Nat → Int32) × (Nat → Int32) × (Nat → Int32)) ⊕ (Int32 × Int32 × (Nat → Int32) × (Nat → Int32) × (Nat → Int32) × (Nat → Int32)) := B_k_X10_nights_0_1 a1 f_16 q9.1 q9.2.1 q9.2.2.1 q9.2.2.2
set_option maxRecDepth 100000 in
noncomputable def F_k_X10_nights_0 (a1 : Int32) (fz1 : Nat → Int32) (fz15 : Nat → Int32) (fz16 : Nat → Int32) (fz17 : Nat → Int32) : Int32 × Int32 × (Nat → Int32) × (Nat → Int32) × (Nat → Int32) × (Nat → Int32) := bnd (a1.toInt64 : Int64) fun (j_1 : Int64) => bnd (F_k_X10_within_0 j_1 (1 : Int64) (99 : Int64) : Int32) fun (r_2 : Int32) => if r_2 = (0 : Int32) then ((((-3) : Int32), (0 : Int32), fz1, fz15, fz16, fz17)) else (bnd (F_k_X10_stores_0 fz17 fz1 : Nat → Int32) fun (f_16 : Nat → Int32) => W9 (L_k_X10_nights_0_1 a1 f_16) (0, fz15, fz16, fz1))
set_option maxHeartbeats 4000000 in
set_option maxRecDepth 100000 in
theorem k_X10_nights_0 (l : Launch) (V : GV) (z : Nat → Nat) (a1 : Int32) (pz0_0 : Int32) (pz0_5 : Int32) (pz0_6 : Int32) (pz0_7 : Int32) (pz0_8 : Int32) (pz0_9 : Int32) (pz0_10 : Int32) (pz0_11 : Int32) (pz0_12 : Int32) (pz0_13 : Int32) (pz0_14 : Int32) (pz0_18 : Int32) (pz0_19 : Int32) (pz0_22 : Int32) (pz0_23 : Int32) (pz0_29 : Int32) (fz1 : Nat → Int32) (fz15 : Nat → Int32) (fz16 : Nat → Int32) (fz17 : Nat → Int32) (bpz0_5 : iv 0 900 pz0_5) (bpz0_6 : iv 0 900 pz0_6) (bpz0_7 : iv 0 900 pz0_7) (bpz0_8 : iv 0 900 pz0_8) (bpz0_10 : iv 0 999 pz0_10) (bpz0_11 : iv 0 4 pz0_11) (bpz0_12 : iv 0 900 pz0_12) (bpz0_13 : iv 0 4 pz0_13) (bpz0_14 : iv (-1) 900 pz0_14) (bpz0_18 : iv 0 2 pz0_18) (bpz0_22 : iv 0 9999 pz0_22) (bpz0_29 : iv 0 10000 pz0_29) (tfz1 : ivT tA fz1) (tfz16 : ivT tW fz16) (tfz17 : ivT tS fz17) (hf0 : RW fz1) : Ct l V yX10_nights (.code yX10_nights cX10_nights 3 (some .int)) 6 [.ref (z 0), .int a1] [(z 0, .inr (10, mo z pz0_0 pz0_5 pz0_6 pz0_7 pz0_8 pz0_9 pz0_10 pz0_11 pz0_12 pz0_13 pz0_14 pz0_18 pz0_19 pz0_22 pz0_23 pz0_29)), (z 1, aI V 3075 fz1), (z 15, aI V 900 fz15), (z 16, aI V 6 fz16), (z 17, aI V 7 fz17)] 0 0 (QI V (fun (r : Int32) (w : va_W) => ∃ (v0 : Int32) (g1 : Nat → Int32) (g2 : Nat → Int32) (g3 : Nat → Int32) (g4 : Nat → Int32), (ivT tA g1) ∧ (ivT tW g3) ∧ (ivT tS g4) ∧ iv (-3) 15 r ∧ (RW g1) ∧ r = (F_k_X10_nights_0 a1 fz1 fz15 fz16 fz17).1 ∧ v0 = (F_k_X10_nights_0 a1 fz1 fz15 fz16 fz17).2.1 ∧ g1 = (F_k_X10_nights_0 a1 fz1 fz15 fz16 fz17).2.2.1 ∧ g2 = (F_k_X10_nights_0 a1 fz1 fz15 fz16 fz17).2.2.2.1 ∧ g3 = (F_k_X10_nights_0 a1 fz1 fz15 fz16 fz17).2.2.2.2.1 ∧ g4 = (F_k_X10_nights_0 a1 fz1 fz15 fz16 fz17).2.2.2.2.2 ∧ w = [(z 0, .inr (10, mo z v0 pz0_5 pz0_6 pz0_7 pz0_8 pz0_9 pz0_10 pz0_11 pz0_12 pz0_13 pz0_14 pz0_18 pz0_19 pz0_22 pz0_23 pz0_29)), (z 1, aI V 3075 g1), (z 15, aI V 900 g2), (z 16, aI V 6 g3), (z 17, aI V 7 g4)])) := by
  refine Ct.of (by decide) (Nat.le_of_ble_eq_true rfl) (fun p e s m below meth c A ls hx hb hr hml hown hlk hnm hg hP hK hD hE hA hS hl => ?_)
  have hl : lv_has ls 3 [(0, .ref (z 0)), (1, .int a1)] := hl
  obtain ⟨T0, hT0⟩ : ∃ T9, T9 = F_k_X10_nights_0 a1 fz1 fz15 fz16 fz17 := ⟨_, rfl⟩
  have hR := hT0.trans (F_k_X10_nights_0.eq_1 ..)
  refine lv_aload_n hx hb dX10_nights_0 rfl (lv_at hl 0 rfl) ?_
  refine lv_iconst (v := 0) hx hb dX10_nights_1 (by decide) ?_
  refine va_put (ci := 10) (v := .int 0) (ty := .int) (C := RX10) (T := TX10) (N := 40) hx hb hg inX10 tyX10 tyX10_ok nmX10 hown hK hP hD hS 0 rfl rfl 0 (by decide) (hg _ q_5_224) (fun _ h9 => h9) rfl (by decide +kernel) rfl rfl (Nat.le_of_ble_eq_true rfl) dX10_nights_2 (fun H locs hP hD hS => ?_)
  have hP : va_P V.1 vwCl [(z 0, .inr (10, mo z 0 pz0_5 pz0_6 pz0_7 pz0_8 pz0_9 pz0_10 pz0_11 pz0_12 pz0_13 pz0_14 pz0_18 pz0_19 pz0_22 pz0_23 pz0_29)), (z 1, aI V 3075 fz1), (z 15, aI V 900 fz15), (z 16, aI V 6 fz16), (z 17, aI V 7 fz17)] H := hP
  have hD := cpD hP hD
  refine lv_iload_n hx hb dX10_nights_5 rfl (lv_at hl 1 rfl) ?_
  refine lv_i2l hx hb dX10_nights_6 rfl ?_
  refine lv_topl (fun j_1 ej_1 => ?_)
  replace hR := tb hR ej_1
  refine lv_lconst (v := 1) hx hb dX10_nights_7 (by decide) ?_
  refine lv_ldc2 (v := 99) hx hb hown (hg _ q_7_80) dX10_nights_8 ?_
  refine jnI (wr := [(z 0, .inr (10, mo z 0 pz0_5 pz0_6 pz0_7 pz0_8 pz0_9 pz0_10 pz0_11 pz0_12 pz0_13 pz0_14 pz0_18 pz0_19 pz0_22 pz0_23 pz0_29)), (z 1, aI V 3075 fz1), (z 15, aI V 900 fz15), (z 16, aI V 6 fz16), (z 17, aI V 7 fz17)]) (rnS (rest := []) ⟨hx, hb, hml, hown, hg⟩ (k_X10_within_0 l V j_1 1 99) mt_X10_within q_6_114 ⟨Nat.le_of_ble_eq_true rfl, Nat.le_of_ble_eq_true rfl⟩ hK hP hD hS hA hE [] rfl rfl rfl hl.1 rfl (Nat.le_of_ble_eq_true rfl) dX10_nights_11 ⟨Nat.le_of_ble_eq_true rfl, Nat.le_of_ble_eq_true rfl⟩) hP hD hS hA [] [0, 1, 2, 3, 4] rfl rfl rfl (by decide) (fun r_2 w H locs hw hP hD hS => ?_)
  obtain ⟨br_2, g_3, g_4, g_5, et_6, rfl⟩ := hw
  replace hR := tb hR et_6
  have hP : va_P V.1 vwCl [(z 0, .inr (10, mo z 0 pz0_5 pz0_6 pz0_7 pz0_8 pz0_9 pz0_10 pz0_11 pz0_12 pz0_13 pz0_14 pz0_18 pz0_19 pz0_22 pz0_23 pz0_29)), (z 1, aI V 3075 fz1), (z 15, aI V 900 fz15), (z 16, aI V 6 fz16), (z 17, aI V 7 fz17)] H := hP
  have hD := cpD hP hD
  refine lv_if_ne (tgt := 20) hx hb dX10_nights_14 (by decide) (fun c_8 => ?_) (fun c_8 => ?_)
  · replace hR := te hR c_8
    have b_9 : iv 1 1 r_2 := iv_n0 c_8 br_2 (iv_c (0 : Int32) (a := 0) (b := 0) (by decide)) (by decide)
    have c_10 : (1 : Int64) ≤ j_1 := (g_4 (iv_eqp b_9 (iv_c (1 : Int32) (by decide))))
    have b_11 : ivL 1 9223372036854775807 j_1 := ivL_e2 c_10 (ivL_c (1 : Int64) (a := 1) (b := 1) (by decide)) (ivL_top j_1) (by decide)
    have b_12 : iv 1 2147483647 a1 := iv_cap (ivL_i ej_1 b_11) (iv_top a1) (by decide)
    have c_13 : j_1 ≤ 99 := (g_5 (iv_eqp b_9 (iv_c (1 : Int32) (by decide))))
    have b_14 : ivL 1 99 j_1 := ivL_e1 c_13 b_11 (ivL_c (99 : Int64) (a := 99) (b := 99) (by decide)) (by decide)
    have b_15 : iv 1 99 a1 := iv_cap (ivL_i ej_1 b_14) b_12 (by decide)
    refine lv_aload_n hx hb dX10_nights_20 rfl (lv_at hl 0 rfl) ?_
    refine jnV (wr := [(z 15, aI V 900 fz15), (z 16, aI V 6 fz16)]) (rnV (rest := []) ⟨hx, hb, hml, hown, hg⟩ (k_X10_stores_0 l V z fz17 0 pz0_5 pz0_6 pz0_7 pz0_8 pz0_9 pz0_10 pz0_11 pz0_12 pz0_13 pz0_14 pz0_18 pz0_19 pz0_22 pz0_23 pz0_29 fz1 tfz17 bpz0_5 bpz0_6 bpz0_7 bpz0_8 bpz0_10 bpz0_11 bpz0_12 bpz0_13 bpz0_14 bpz0_18 bpz0_22 bpz0_29 tfz1) mt_X10_stores q_7_60 ⟨Nat.le_of_ble_eq_true rfl, Nat.le_of_ble_eq_true rfl⟩ hK hP hD hS hA hE [4, 0, 1] rfl rfl 0 rfl rfl rfl rfl hl.1 rfl (Nat.le_of_ble_eq_true rfl) dX10_nights_21 ⟨Nat.le_of_ble_eq_true rfl, Nat.le_of_ble_eq_true rfl⟩) hP hD hS hA [4, 0, 1] [2, 3] rfl rfl rfl (by decide) (fun  w H locs hw hP hD hS => ?_)
    obtain ⟨f_16, tf_16, et_17, rfl⟩ := hw
    replace hR := tb hR et_17
    have hP : va_P V.1 vwCl [(z 15, aI V 900 fz15), (z 16, aI V 6 fz16), (z 17, aI V 7 f_16), (z 0, .inr (10, mo z 0 pz0_5 pz0_6 pz0_7 pz0_8 pz0_9 pz0_10 pz0_11 pz0_12 pz0_13 pz0_14 pz0_18 pz0_19 pz0_22 pz0_23 pz0_29)), (z 1, aI V 3075 fz1)] H := hP
    have hD := cpD hP hD
    refine lv_iconst (v := 0) hx hb dX10_nights_24 (by decide) ?_
    refine lv_istore_n (lv' := [(2, .int 0), (0, .ref (z 0)), (1, .int a1)]) hx hb dX10_nights_25 rfl hl (by decide) rfl (fun ls hl => ?_)
    refine loopF (X := fun (n_23 : Nat) (H : Heap) (locs : List Loc) (ls : Array Slot) => ∃ (u_19 : Int32) (f_20 : Nat → Int32) (f_21 : Nat → Int32) (f_22 : Nat → Int32), (iv 0 2147483647 u_19) ∧ (ivT tW f_21) ∧ (ivT tA f_22) ∧ (RW f_22) ∧ T0 = W9 (L_k_X10_nights_0_1 a1 f_16) (u_19, f_20, f_21, f_22) ∧ n_23 = (2147483647 - (u_19 : Int32).toInt).toNat ∧ va_P V.1 vwCl [(z 15, aI V 900 f_20), (z 16, aI V 6 f_21), (z 17, aI V 7 f_16), (z 0, .inr (10, mo z 0 pz0_5 pz0_6 pz0_7 pz0_8 pz0_9 pz0_10 pz0_11 pz0_12 pz0_13 pz0_14 pz0_18 pz0_19 pz0_22 pz0_23 pz0_29)), (z 1, aI V 3075 f_22)] H ∧ va_D A [(z 15, aI V 900 f_20), (z 16, aI V 6 f_21), (z 17, aI V 7 f_16), (z 0, .inr (10, mo z 0 pz0_5 pz0_6 pz0_7 pz0_8 pz0_9 pz0_10 pz0_11 pz0_12 pz0_13 pz0_14 pz0_18 pz0_19 pz0_22 pz0_23 pz0_29)), (z 1, aI V 3075 f_22)] ∧ va_S A s.heap H locs ∧ lv_has ls 3 [(2, .int u_19), (0, .ref (z 0)), (1, .int a1)]) (g := fun ls => F0 m 26 ls []) (fun n_23 H locs ls hX ihn_23 => ?_) _ ⟨0, fz15, fz16, fz1, (iv_c (0 : Int32) (by decide)), tfz16, tfz1, hf0, hR, rfl, hP, hD, hS, lv_sub hl [0, 1, 2] rfl⟩
    obtain ⟨u_19, f_20, f_21, f_22, bu_19, tf_21, tf_22, inn_23_0, hR, en_23, hP, hD, hS, hl⟩ := hX
    obtain ⟨Tn_23, hR, hAn_23⟩ := tw hR
    replace hR : Tn_23 = B_k_X10_nights_0_1 a1 f_16 u_19 f_20 f_21 f_22 := hR
    replace hR := hR.trans (B_k_X10_nights_0_1.eq_1 ..)
    refine lv_iload_n hx hb dX10_nights_26 rfl (lv_at hl 0 rfl) ?_
    refine lv_iload_n hx hb dX10_nights_27 rfl (lv_at hl 2 rfl) ?_
    refine lv_icmp_ge (tgt := 42) hx hb dX10_nights_28 (by decide) (fun c_24 => ?_) (fun c_24 => ?_)
    · replace hR := ti hR c_24
      have b_25 : iv 1 2147483647 u_19 := iv_e2 c_24 b_15 bu_19 (by decide)
      refine lv_aload_n hx hb dX10_nights_42 rfl (lv_at hl 1 rfl) ?_
      refine jnV (wr := [(z 15, aI V 900 f_20), (z 16, aI V 6 f_21)]) (rnV (rest := []) ⟨hx, hb, hml, hown, hg⟩ (k_X10_notes_0 l V z f_16 0 pz0_5 pz0_6 pz0_7 pz0_8 pz0_9 pz0_10 pz0_11 pz0_12 pz0_13 pz0_14 pz0_18 pz0_19 pz0_22 pz0_23 pz0_29 f_22 tf_16 bpz0_5 bpz0_6 bpz0_7 bpz0_8 bpz0_10 bpz0_11 bpz0_12 bpz0_13 bpz0_14 bpz0_18 bpz0_22 bpz0_29 tf_22 inn_23_0) mt_X10_notes q_7_72 ⟨Nat.le_of_ble_eq_true rfl, Nat.le_of_ble_eq_true rfl⟩ hK hP hD hS hA hE [2, 3, 4] rfl rfl 3 rfl rfl rfl rfl hl.1 rfl (Nat.le_of_ble_eq_true rfl) dX10_nights_43 ⟨Nat.le_of_ble_eq_true rfl, Nat.le_of_ble_eq_true rfl⟩) hP hD hS hA [2, 3, 4] [0, 1] rfl rfl rfl (by decide) (fun  w H locs hw hP hD hS => ?_)
      obtain ⟨f_26, tf_26, g_27, et_28, rfl⟩ := hw
      replace hR := tb hR et_28
      have hP : va_P V.1 vwCl [(z 15, aI V 900 f_20), (z 16, aI V 6 f_21), (z 17, aI V 7 f_16), (z 0, .inr (10, mo z 0 pz0_5 pz0_6 pz0_7 pz0_8 pz0_9 pz0_10 pz0_11 pz0_12 pz0_13 pz0_14 pz0_18 pz0_19 pz0_22 pz0_23 pz0_29)), (z 1, aI V 3075 f_26)] H := hP
      have hD := cpD hP hD
      refine lv_aload_n hx hb dX10_nights_46 rfl (lv_at hl 1 rfl) ?_
      refine va_get (ci := 10) (v := .ref (z 1)) (C := RX10) (T := TX10) (N := 40) hx hb hg inX10 hown hK hP 3 rfl rfl 1 (by decide) (hg _ q_5_225) (fun _ h9 => h9) rfl dX10_nights_47 ?_
      refine lv_bipush (v := 50) hx hb dX10_nights_50 (by decide) ?_
      refine va_iald hx hb hK hP 4 0 rfl rfl (vin (by decide +kernel)) dX10_nights_52 ?_
      refine lv_topi (fun x_30 ex_30 => ?_)
      have bx_30 : iv 0 15 x_30 := by rw [ex_30]; exact rdT (a := 50) (n := 1) tf_26 (iv_c (50 : Int32) (a := 50) (b := 50) (by decide)) (by decide) (by decide +kernel)
      replace hR := tb hR ex_30
      have hP := subP (ws' := [(z 0, .inr (10, mo z 0 pz0_5 pz0_6 pz0_7 pz0_8 pz0_9 pz0_10 pz0_11 pz0_12 pz0_13 pz0_14 pz0_18 pz0_19 pz0_22 pz0_23 pz0_29)), (z 1, aI V 3075 f_26), (z 15, aI V 900 f_20), (z 16, aI V 6 f_21), (z 17, aI V 7 f_16)]) hP [3, 4, 0, 1, 2] rfl
      have hD := subD hP hD [3, 4, 0, 1, 2] rfl rfl
      exact fiI hx hb hr hlk hK hP hD hS dX10_nights_53 (Nat.le_of_ble_eq_true rfl) (Nat.le_of_ble_eq_true rfl) (⟨0, f_26, f_20, f_21, f_16, tf_26, tf_21, tf_16, (iv_w bx_30 (by decide)), g_27, (congrArg Prod.fst ((tx hAn_23 hR).symm.trans hT0)), (congrArg Prod.fst (congrArg Prod.snd ((tx hAn_23 hR).symm.trans hT0))), (congrArg Prod.fst (congrArg Prod.snd (congrArg Prod.snd ((tx hAn_23 hR).symm.trans hT0)))), (congrArg Prod.fst (congrArg Prod.snd (congrArg Prod.snd (congrArg Prod.snd ((tx hAn_23 hR).symm.trans hT0))))), (congrArg Prod.fst (congrArg Prod.snd (congrArg Prod.snd (congrArg Prod.snd (congrArg Prod.snd ((tx hAn_23 hR).symm.trans hT0)))))), (congrArg Prod.snd (congrArg Prod.snd (congrArg Prod.snd (congrArg Prod.snd (congrArg Prod.snd ((tx hAn_23 hR).symm.trans hT0)))))), rfl⟩)
    · replace hR := te hR c_24
      have b_31 : iv 0 98 u_19 := iv_l1 (Int32.not_le.mp c_24) bu_19 b_15 (by decide)
      refine lv_aload_n hx hb dX10_nights_31 rfl (lv_at hl 1 rfl) ?_
      refine lv_iconst (v := 0) hx hb dX10_nights_32 (by decide) ?_
      refine jnV (wr := [(z 17, aI V 7 f_16)]) (rnV (rest := []) ⟨hx, hb, hml, hown, hg⟩ (k_X10_goesNight_0 l V z 0 f_20 f_21 0 pz0_5 pz0_6 pz0_7 pz0_8 pz0_9 pz0_10 pz0_11 pz0_12 pz0_13 pz0_14 pz0_18 pz0_19 pz0_22 pz0_23 pz0_29 f_22 (iv_c (0 : Int32) (by decide)) tf_21 bpz0_5 bpz0_6 bpz0_7 bpz0_8 bpz0_10 bpz0_11 bpz0_12 bpz0_13 bpz0_14 bpz0_18 bpz0_22 bpz0_29 tf_22 inn_23_0) mt_X10_goesNight q_7_64 ⟨Nat.le_of_ble_eq_true rfl, Nat.le_of_ble_eq_true rfl⟩ hK hP hD hS hA hE [0, 1, 3, 4] rfl rfl 3 rfl rfl rfl rfl hl.1 rfl (Nat.le_of_ble_eq_true rfl) dX10_nights_33 ⟨Nat.le_of_ble_eq_true rfl, Nat.le_of_ble_eq_true rfl⟩) hP hD hS hA [0, 1, 3, 4] [2] rfl rfl rfl (by decide) (fun  w H locs hw hP hD hS => ?_)
      obtain ⟨f_32, f_33, f_34, tf_33, tf_34, g_35, et_36, et_37, et_38, rfl⟩ := hw
      replace hR := tb0 hR
      replace hR := tb hR et_36
      replace hR := tb hR et_37
      replace hR := tb hR et_38
      have hP : va_P V.1 vwCl [(z 17, aI V 7 f_16), (z 15, aI V 900 f_32), (z 16, aI V 6 f_33), (z 0, .inr (10, mo z 0 pz0_5 pz0_6 pz0_7 pz0_8 pz0_9 pz0_10 pz0_11 pz0_12 pz0_13 pz0_14 pz0_18 pz0_19 pz0_22 pz0_23 pz0_29)), (z 1, aI V 3075 f_34)] H := hP
      have hD := cpD hP hD
      obtain ⟨x_40, ex_40⟩ : ∃ z9 : Int32, z9 = u_19 + 1 := ⟨_, rfl⟩
      have bx_40 : iv 1 99 x_40 := by rw [ex_40]; exact iv_add b_31 (iv_c (1 : Int32) (a := 1) (b := 1) (by decide)) (by decide)
      replace hR := tb hR ex_40
      refine lv_iinc (v := x_40) (lv' := [(2, .int x_40), (0, .ref (z 0)), (1, .int a1)]) hx hb dX10_nights_36 hl (k := 0) rfl (by rw [ex_40]; rfl) (by decide) rfl (fun ls hl => ?_)
      refine lv_goto (tgt := 26) hx hb dX10_nights_39 (by decide) ?_
      have hP := subP (ws' := [(z 15, aI V 900 f_32), (z 16, aI V 6 f_33), (z 17, aI V 7 f_16), (z 0, .inr (10, mo z 0 pz0_5 pz0_6 pz0_7 pz0_8 pz0_9 pz0_10 pz0_11 pz0_12 pz0_13 pz0_14 pz0_18 pz0_19 pz0_22 pz0_23 pz0_29)), (z 1, aI V 3075 f_34)]) hP [1, 2, 0, 3, 4] rfl
      have hD := subD hP hD [1, 2, 0, 3, 4] rfl rfl
      exact ihn_23 _ _ _ _ (by rw [en_23, ex_40]; exact mu_up b_31 (by decide)) ⟨x_40, f_32, f_33, f_34, (iv_w bx_40 (by decide)), tf_33, tf_34, g_35, (tbk hAn_23 hR), rfl, hP, hD, hS, lv_sub hl [0, 1, 2] rfl⟩
  · replace hR := ti hR c_8
    have b_41 : iv 0 0 r_2 := iv_q c_8 (iv_c (0 : Int32) (a := 0) (b := 0) (by decide))
    refine lv_bipush (v := (-3)) hx hb dX10_nights_17 (by decide) ?_
    exact fiI hx hb hr hlk hK hP hD hS dX10_nights_19 (Nat.le_of_ble_eq_true rfl) (Nat.le_of_ble_eq_true rfl) (⟨0, fz1, fz15, fz16, fz17, tfz1, tfz16, tfz17, (iv_c ((-3) : Int32) (by decide)), hf0, (congrArg Prod.fst (hR.symm.trans hT0)), (congrArg Prod.fst (congrArg Prod.snd (hR.symm.trans hT0))), (congrArg Prod.fst (congrArg Prod.snd (congrArg Prod.snd (hR.symm.trans hT0)))), (congrArg Prod.fst (congrArg Prod.snd (congrArg Prod.snd (congrArg Prod.snd (hR.symm.trans hT0))))), (congrArg Prod.fst (congrArg Prod.snd (congrArg Prod.snd (congrArg Prod.snd (congrArg Prod.snd (hR.symm.trans hT0)))))), (congrArg Prod.snd (congrArg Prod.snd (congrArg Prod.snd (congrArg Prod.snd (congrArg Prod.snd (hR.symm.trans hT0)))))), rfl⟩)
theorem dX10_whySteal_0 : decode cX10_whySteal 0 = .ok (.aload_n 0, 1) := by decide +kernel
theorem dX10_whySteal_1 : decode cX10_whySteal 1 = .ok (.lload_n 1, 1) := by decide +kernel
theorem dX10_whySteal_2 : decode cX10_whySteal 2 = .ok (.invokevirtual 262, 3) := by decide +kernel
theorem dX10_whySteal_5 : decode cX10_whySteal 5 = .ok (.ifCond .ne 7, 3) := by decide +kernel
theorem dX10_whySteal_12 : decode cX10_whySteal 12 = .ok (.aload_n 0, 1) := by decide +kernel
theorem dX10_whySteal_13 : decode cX10_whySteal 13 = .ok (.getfield 13, 3) := by decide +kernel
theorem dX10_whySteal_16 : decode cX10_whySteal 16 = .ok (.bipush 46, 2) := by decide +kernel
theorem dX10_whySteal_18 : decode cX10_whySteal 18 = .ok (.lload_n 1, 1) := by decide +kernel
theorem dX10_whySteal_19 : decode cX10_whySteal 19 = .ok (.l2i, 1) := by decide +kernel
theorem dX10_whySteal_20 : decode cX10_whySteal 20 = .ok (.iadd, 1) := by decide +kernel
theorem dX10_whySteal_21 : decode cX10_whySteal 21 = .ok (.iaload, 1) := by decide +kernel
theorem dX10_whySteal_22 : decode cX10_whySteal 22 = .ok (.ifCond .ne 7, 3) := by decide +kernel
theorem dX10_whySteal_29 : decode cX10_whySteal 29 = .ok (.iconst 0, 1) := by decide +kernel
theorem dX10_whySteal_30 : decode cX10_whySteal 30 = .ok (.ireturn, 1) := by decide +kernel
theorem dX10_whySteal_25 : decode cX10_whySteal 25 = .ok (.iconst 2, 1) := by decide +kernel
theorem dX10_whySteal_26 : decode cX10_whySteal 26 = .ok (.goto 4, 3) := by decide +kernel
theorem dX10_whySteal_8 : decode cX10_whySteal 8 = .ok (.iconst 1, 1) := by decide +kernel
theorem dX10_whySteal_9 : decode cX10_whySteal 9 = .ok (.goto 21, 3) := by decide +kernel
set_option maxRecDepth 100000 in
noncomputable def F_k_X10_whySteal_0 (k1 : Int64) (fz1 : Nat → Int32) : Int32 := bnd (F_k_X10_isHill_0 k1 fz1 : Int32) fun (r_1 : Int32) => if r_1 = (0 : Int32) then (((1 : Int32))) else (bnd (k1.toInt32 : Int32) fun (x_8 : Int32) => bnd ((46 : Int32) + x_8 : Int32) fun (x_9 : Int32) => bnd (fz1 (x_9 : Int32).toNatClampNeg : Int32) fun (x_10 : Int32) => if x_10 = (0 : Int32) then (((2 : Int32))) else (((0 : Int32))))
set_option maxHeartbeats 4000000 in
set_option maxRecDepth 100000 in
theorem k_X10_whySteal_0 (l : Launch) (V : GV) (z : Nat → Nat) (k1 : Int64) (pz0_0 : Int32) (pz0_5 : Int32) (pz0_6 : Int32) (pz0_7 : Int32) (pz0_8 : Int32) (pz0_9 : Int32) (pz0_10 : Int32) (pz0_11 : Int32) (pz0_12 : Int32) (pz0_13 : Int32) (pz0_14 : Int32) (pz0_18 : Int32) (pz0_19 : Int32) (pz0_22 : Int32) (pz0_23 : Int32) (pz0_29 : Int32) (fz1 : Nat → Int32) (bpz0_5 : iv 0 900 pz0_5) (bpz0_6 : iv 0 900 pz0_6) (bpz0_7 : iv 0 900 pz0_7) (bpz0_8 : iv 0 900 pz0_8) (bpz0_10 : iv 0 999 pz0_10) (bpz0_11 : iv 0 4 pz0_11) (bpz0_12 : iv 0 900 pz0_12) (bpz0_13 : iv 0 4 pz0_13) (bpz0_14 : iv (-1) 900 pz0_14) (bpz0_18 : iv 0 2 pz0_18) (bpz0_22 : iv 0 9999 pz0_22) (bpz0_29 : iv 0 10000 pz0_29) (tfz1 : ivT tA fz1) : Ct l V yX10_whySteal (.code yX10_whySteal cX10_whySteal 3 (some .int)) 3 [.ref (z 0), .long k1] [(z 0, .inr (10, mo z pz0_0 pz0_5 pz0_6 pz0_7 pz0_8 pz0_9 pz0_10 pz0_11 pz0_12 pz0_13 pz0_14 pz0_18 pz0_19 pz0_22 pz0_23 pz0_29)), (z 1, aI V 3075 fz1)] 0 0 (QI V (fun (r : Int32) (w : va_W) => iv 0 2 r ∧ (r = 0 → SP fz1 (k1 : Int64).toInt) ∧ (r = 0 → ivL 0 3 k1) ∧ r = (F_k_X10_whySteal_0 k1 fz1) ∧ w = [(z 0, .inr (10, mo z pz0_0 pz0_5 pz0_6 pz0_7 pz0_8 pz0_9 pz0_10 pz0_11 pz0_12 pz0_13 pz0_14 pz0_18 pz0_19 pz0_22 pz0_23 pz0_29)), (z 1, aI V 3075 fz1)])) := by
  refine Ct.of (by decide) (Nat.le_of_ble_eq_true rfl) (fun p e s m below meth c A ls hx hb hr hml hown hlk hnm hg hP hK hD hE hA hS hl => ?_)
  have hl : lv_has ls 3 [(0, .ref (z 0)), (1, .long k1)] := hl
  obtain ⟨T0, hT0⟩ : ∃ T9, T9 = F_k_X10_whySteal_0 k1 fz1 := ⟨_, rfl⟩
  have hR := hT0.trans (F_k_X10_whySteal_0.eq_1 ..)
  refine lv_aload_n hx hb dX10_whySteal_0 rfl (lv_at hl 0 rfl) ?_
  refine lv_lload_n hx hb dX10_whySteal_1 rfl (lv_at hl 1 rfl) ?_
  refine jnI (wr := []) (rnV (rest := []) ⟨hx, hb, hml, hown, hg⟩ (k_X10_isHill_0 l V z k1 pz0_0 pz0_5 pz0_6 pz0_7 pz0_8 pz0_9 pz0_10 pz0_11 pz0_12 pz0_13 pz0_14 pz0_18 pz0_19 pz0_22 pz0_23 pz0_29 fz1 bpz0_5 bpz0_6 bpz0_7 bpz0_8 bpz0_10 bpz0_11 bpz0_12 bpz0_13 bpz0_14 bpz0_18 bpz0_22 bpz0_29 tfz1) mt_X10_isHill q_6_235 ⟨Nat.le_of_ble_eq_true rfl, Nat.le_of_ble_eq_true rfl⟩ hK hP hD hS hA hE [0, 1] rfl rfl 0 rfl rfl rfl rfl hl.1 rfl (Nat.le_of_ble_eq_true rfl) dX10_whySteal_2 ⟨Nat.le_of_ble_eq_true rfl, Nat.le_of_ble_eq_true rfl⟩) hP hD hS hA [0, 1] [] rfl rfl rfl (by decide) (fun r_1 w H locs hw hP hD hS => ?_)
  obtain ⟨br_1, g_2, et_3, rfl⟩ := hw
  replace hR := tb hR et_3
  have hP : va_P V.1 vwCl [(z 0, .inr (10, mo z pz0_0 pz0_5 pz0_6 pz0_7 pz0_8 pz0_9 pz0_10 pz0_11 pz0_12 pz0_13 pz0_14 pz0_18 pz0_19 pz0_22 pz0_23 pz0_29)), (z 1, aI V 3075 fz1)] H := hP
  have hD := cpD hP hD
  refine lv_if_ne (tgt := 12) hx hb dX10_whySteal_5 (by decide) (fun c_5 => ?_) (fun c_5 => ?_)
  · replace hR := te hR c_5
    have b_6 : iv 1 1 r_1 := iv_n0 c_5 br_1 (iv_c (0 : Int32) (a := 0) (b := 0) (by decide)) (by decide)
    have b_7 : ivL 0 3 k1 := ivL_cap (g_2 (iv_eqp b_6 (iv_c (1 : Int32) (by decide)))) (ivL_top k1) (by decide)
    refine lv_aload_n hx hb dX10_whySteal_12 rfl (lv_at hl 0 rfl) ?_
    refine va_get (ci := 10) (v := .ref (z 1)) (C := RX10) (T := TX10) (N := 40) hx hb hg inX10 hown hK hP 0 rfl rfl 1 (by decide) (hg _ q_5_225) (fun _ h9 => h9) rfl dX10_whySteal_13 ?_
    refine lv_bipush (v := 46) hx hb dX10_whySteal_16 (by decide) ?_
    refine lv_lload_n hx hb dX10_whySteal_18 rfl (lv_at hl 1 rfl) ?_
    refine lv_l2i hx hb dX10_whySteal_19 rfl ?_
    refine lv_topi (fun x_8 ex_8 => ?_)
    have bx_8 : iv 0 3 x_8 := by rw [ex_8]; exact iv_ofL b_7 (by decide)
    replace hR := tb hR ex_8
    refine lv_iadd hx hb dX10_whySteal_20 ?_
    refine lv_topi (fun x_9 ex_9 => ?_)
    have bx_9 : iv 46 49 x_9 := by rw [ex_9]; exact iv_add (iv_c (46 : Int32) (a := 46) (b := 46) (by decide)) bx_8 (by decide)
    replace hR := tb hR ex_9
    refine va_iald hx hb hK hP 1 0 rfl rfl (iv_in bx_9 (by decide)) dX10_whySteal_21 ?_
    refine lv_topi (fun x_10 ex_10 => ?_)
    have bx_10 : iv 0 4 x_10 := by rw [ex_10]; exact rdT (a := 46) (n := 4) tfz1 bx_9 (by decide) (by decide +kernel)
    replace hR := tb hR ex_10
    refine lv_if_ne (tgt := 29) hx hb dX10_whySteal_22 (by decide) (fun c_11 => ?_) (fun c_11 => ?_)
    · replace hR := te hR c_11
      have b_12 : iv 1 4 x_10 := iv_n0 c_11 bx_10 (iv_c (0 : Int32) (a := 0) (b := 0) (by decide)) (by decide)
      refine lv_iconst (v := 0) hx hb dX10_whySteal_29 (by decide) ?_
      exact fiI hx hb hr hlk hK hP hD hS dX10_whySteal_30 (Nat.le_of_ble_eq_true rfl) (Nat.le_of_ble_eq_true rfl) (⟨(iv_c (0 : Int32) (by decide)), (fun _ => SP_o b_7 (by decide) ex_8 ex_9 ex_10 bx_10 c_11), (fun _ => b_7), (hR.symm.trans hT0), rfl⟩)
    · replace hR := ti hR c_11
      have b_13 : iv 0 0 x_10 := iv_q c_11 (iv_c (0 : Int32) (a := 0) (b := 0) (by decide))
      refine lv_iconst (v := 2) hx hb dX10_whySteal_25 (by decide) ?_
      refine lv_goto (tgt := 30) hx hb dX10_whySteal_26 (by decide) ?_
      exact fiI hx hb hr hlk hK hP hD hS dX10_whySteal_30 (Nat.le_of_ble_eq_true rfl) (Nat.le_of_ble_eq_true rfl) (⟨(iv_c (2 : Int32) (by decide)), (fun q9 => absurd q9 (by decide)), (fun q9 => absurd q9 (by decide)), (hR.symm.trans hT0), rfl⟩)
  · replace hR := ti hR c_5
    have b_14 : iv 0 0 r_1 := iv_q c_5 (iv_c (0 : Int32) (a := 0) (b := 0) (by decide))
    refine lv_iconst (v := 1) hx hb dX10_whySteal_8 (by decide) ?_
    refine lv_goto (tgt := 30) hx hb dX10_whySteal_9 (by decide) ?_
    exact fiI hx hb hr hlk hK hP hD hS dX10_whySteal_30 (Nat.le_of_ble_eq_true rfl) (Nat.le_of_ble_eq_true rfl) (⟨(iv_c (1 : Int32) (by decide)), (fun q9 => absurd q9 (by decide)), (fun q9 => absurd q9 (by decide)), (hR.symm.trans hT0), rfl⟩)
theorem dX10_steals_0 : decode cX10_steals 0 = .ok (.aload_n 0, 1) := by decide +kernel
theorem dX10_steals_1 : decode cX10_steals 1 = .ok (.getfield 13, 3) := by decide +kernel
theorem dX10_steals_4 : decode cX10_steals 4 = .ok (.bipush 46, 2) := by decide +kernel
theorem dX10_steals_6 : decode cX10_steals 6 = .ok (.iload_n 1, 1) := by decide +kernel
theorem dX10_steals_7 : decode cX10_steals 7 = .ok (.iadd, 1) := by decide +kernel
theorem dX10_steals_8 : decode cX10_steals 8 = .ok (.dup2, 1) := by decide +kernel
theorem dX10_steals_9 : decode cX10_steals 9 = .ok (.iaload, 1) := by decide +kernel
theorem dX10_steals_10 : decode cX10_steals 10 = .ok (.iconst 1, 1) := by decide +kernel
theorem dX10_steals_11 : decode cX10_steals 11 = .ok (.isub, 1) := by decide +kernel
theorem dX10_steals_12 : decode cX10_steals 12 = .ok (.iastore, 1) := by decide +kernel
theorem dX10_steals_13 : decode cX10_steals 13 = .ok (.aload_n 0, 1) := by decide +kernel
theorem dX10_steals_14 : decode cX10_steals 14 = .ok (.getfield 13, 3) := by decide +kernel
theorem dX10_steals_17 : decode cX10_steals 17 = .ok (.bipush 50, 2) := by decide +kernel
theorem dX10_steals_19 : decode cX10_steals 19 = .ok (.dup2, 1) := by decide +kernel
theorem dX10_steals_20 : decode cX10_steals 20 = .ok (.iaload, 1) := by decide +kernel
theorem dX10_steals_21 : decode cX10_steals 21 = .ok (.iconst 1, 1) := by decide +kernel
theorem dX10_steals_22 : decode cX10_steals 22 = .ok (.iload_n 1, 1) := by decide +kernel
theorem dX10_steals_23 : decode cX10_steals 23 = .ok (.ishl, 1) := by decide +kernel
theorem dX10_steals_24 : decode cX10_steals 24 = .ok (.ior, 1) := by decide +kernel
theorem dX10_steals_25 : decode cX10_steals 25 = .ok (.iastore, 1) := by decide +kernel
theorem dX10_steals_26 : decode cX10_steals 26 = .ok (.return_, 1) := by decide +kernel
set_option maxRecDepth 100000 in
noncomputable def F_k_X10_steals_0 (a1 : Int32) (fz1 : Nat → Int32) : (Nat → Int32) := bnd ((46 : Int32) + a1 : Int32) fun (x_1 : Int32) => bnd (fz1 (x_1 : Int32).toNatClampNeg : Int32) fun (x_2 : Int32) => bnd (x_2 - (1 : Int32) : Int32) fun (x_4 : Int32) => bnd ((upd fz1 (x_1 : Int32).toNatClampNeg x_4) : Nat → Int32) fun (f_5 : Nat → Int32) => bnd (fz1 (50 : Int32).toNatClampNeg : Int32) fun (x_6 : Int32) => bnd ((1 : Int32) <<< (a1 &&& 31) : Int32) fun (x_7 : Int32) => bnd (x_6 ||| x_7 : Int32) fun (x_8 : Int32) => bnd ((upd f_5 (50 : Int32).toNatClampNeg x_8) : Nat → Int32) fun (f_9 : Nat → Int32) => (f_9)
set_option maxHeartbeats 4000000 in
set_option maxRecDepth 100000 in
theorem k_X10_steals_0 (l : Launch) (V : GV) (z : Nat → Nat) (a1 : Int32) (pz0_0 : Int32) (pz0_5 : Int32) (pz0_6 : Int32) (pz0_7 : Int32) (pz0_8 : Int32) (pz0_9 : Int32) (pz0_10 : Int32) (pz0_11 : Int32) (pz0_12 : Int32) (pz0_13 : Int32) (pz0_14 : Int32) (pz0_18 : Int32) (pz0_19 : Int32) (pz0_22 : Int32) (pz0_23 : Int32) (pz0_29 : Int32) (fz1 : Nat → Int32) (ba1 : iv 0 3 a1) (bpz0_5 : iv 0 900 pz0_5) (bpz0_6 : iv 0 900 pz0_6) (bpz0_7 : iv 0 900 pz0_7) (bpz0_8 : iv 0 900 pz0_8) (bpz0_10 : iv 0 999 pz0_10) (bpz0_11 : iv 0 4 pz0_11) (bpz0_12 : iv 0 900 pz0_12) (bpz0_13 : iv 0 4 pz0_13) (bpz0_14 : iv (-1) 900 pz0_14) (bpz0_18 : iv 0 2 pz0_18) (bpz0_22 : iv 0 9999 pz0_22) (bpz0_29 : iv 0 10000 pz0_29) (tfz1 : ivT tA fz1) (hf0 : RW fz1) (hf1 : SP fz1 (a1 : Int32).toInt) : Ct l V yX10_steals (.code yX10_steals cX10_steals 2 none) 1 [.ref (z 0), .int a1] [(z 0, .inr (10, mo z pz0_0 pz0_5 pz0_6 pz0_7 pz0_8 pz0_9 pz0_10 pz0_11 pz0_12 pz0_13 pz0_14 pz0_18 pz0_19 pz0_22 pz0_23 pz0_29)), (z 1, aI V 3075 fz1)] 0 0 (QV V (fun (w : va_W) => ∃ (g0 : Nat → Int32), (ivT tA g0) ∧ (RW g0) ∧ g0 = (F_k_X10_steals_0 a1 fz1) ∧ w = [(z 0, .inr (10, mo z pz0_0 pz0_5 pz0_6 pz0_7 pz0_8 pz0_9 pz0_10 pz0_11 pz0_12 pz0_13 pz0_14 pz0_18 pz0_19 pz0_22 pz0_23 pz0_29)), (z 1, aI V 3075 g0)])) := by
  refine Ct.of (by decide) (Nat.le_of_ble_eq_true rfl) (fun p e s m below meth c A ls hx hb hr hml hown hlk hnm hg hP hK hD hE hA hS hl => ?_)
  have hl : lv_has ls 2 [(0, .ref (z 0)), (1, .int a1)] := hl
  obtain ⟨T0, hT0⟩ : ∃ T9, T9 = F_k_X10_steals_0 a1 fz1 := ⟨_, rfl⟩
  have hR := hT0.trans (F_k_X10_steals_0.eq_1 ..)
  refine lv_aload_n hx hb dX10_steals_0 rfl (lv_at hl 0 rfl) ?_
  refine va_get (ci := 10) (v := .ref (z 1)) (C := RX10) (T := TX10) (N := 40) hx hb hg inX10 hown hK hP 0 rfl rfl 1 (by decide) (hg _ q_5_225) (fun _ h9 => h9) rfl dX10_steals_1 ?_
  refine lv_bipush (v := 46) hx hb dX10_steals_4 (by decide) ?_
  refine lv_iload_n hx hb dX10_steals_6 rfl (lv_at hl 1 rfl) ?_
  refine lv_iadd hx hb dX10_steals_7 ?_
  refine lv_topi (fun x_1 ex_1 => ?_)
  have bx_1 : iv 46 49 x_1 := by rw [ex_1]; exact iv_add (iv_c (46 : Int32) (a := 46) (b := 46) (by decide)) ba1 (by decide)
  replace hR := tb hR ex_1
  refine lv_dup2_11 hx hb dX10_steals_8 rfl rfl ?_
  refine va_iald hx hb hK hP 1 0 rfl rfl (iv_in bx_1 (by decide)) dX10_steals_9 ?_
  refine lv_topi (fun x_2 ex_2 => ?_)
  have bx_2 : iv 0 4 x_2 := by rw [ex_2]; exact rdT (a := 46) (n := 4) tfz1 bx_1 (by decide) (by decide +kernel)
  replace hR := tb hR ex_2
  have b_3 : iv 1 4 x_2 := SP_i hf1 ex_1 ba1 (by decide) ex_2 bx_2
  refine lv_iconst (v := 1) hx hb dX10_steals_10 (by decide) ?_
  refine lv_isub hx hb dX10_steals_11 ?_
  refine lv_topi (fun x_4 ex_4 => ?_)
  have bx_4 : iv 0 3 x_4 := by rw [ex_4]; exact iv_sub b_3 (iv_c (1 : Int32) (a := 1) (b := 1) (by decide)) (by decide)
  replace hR := tb hR ex_4
  refine va_iast hx hb hK hP hD hS 1 0 rfl rfl (iv_in bx_1 (by decide)) dX10_steals_12 (fun H locs hP hD hS => ?_)
  obtain ⟨f_5, ef_5, tf_5, hP, hD⟩ : ∃ f_5 : Nat → Int32, f_5 = (upd fz1 (x_1 : Int32).toNatClampNeg x_4) ∧ (ivT tA f_5) ∧ va_P V.1 vwCl [(z 0, .inr (10, mo z pz0_0 pz0_5 pz0_6 pz0_7 pz0_8 pz0_9 pz0_10 pz0_11 pz0_12 pz0_13 pz0_14 pz0_18 pz0_19 pz0_22 pz0_23 pz0_29)), (z 1, aI V 3075 f_5)] H ∧ va_D A [(z 0, .inr (10, mo z pz0_0 pz0_5 pz0_6 pz0_7 pz0_8 pz0_9 pz0_10 pz0_11 pz0_12 pz0_13 pz0_14 pz0_18 pz0_19 pz0_22 pz0_23 pz0_29)), (z 1, aI V 3075 f_5)] := ⟨_, rfl, upT (lo := 0) (hi := 4) (a := 46) (n := 4) tfz1 bx_1 (by decide) (iv_w bx_4 (by decide)) (by decide +kernel), hP, hD⟩
  replace hR := tb hR ef_5
  refine lv_aload_n hx hb dX10_steals_13 rfl (lv_at hl 0 rfl) ?_
  refine va_get (ci := 10) (v := .ref (z 1)) (C := RX10) (T := TX10) (N := 40) hx hb hg inX10 hown hK hP 0 rfl rfl 1 (by decide) (hg _ q_5_225) (fun _ h9 => h9) rfl dX10_steals_14 ?_
  refine lv_bipush (v := 50) hx hb dX10_steals_17 (by decide) ?_
  refine lv_dup2_11 hx hb dX10_steals_19 rfl rfl ?_
  refine va_iald hx hb hK hP 1 0 rfl rfl (vin (by decide +kernel)) dX10_steals_20 ?_
  refine tpi (y := fz1 (50 : Int32).toNatClampNeg) (show f_5 (50 : Int32).toNatClampNeg = fz1 (50 : Int32).toNatClampNeg from by rw [ef_5]; exact upd_ne (cl_ne (iv_c (50 : Int32) (a := 50) (b := 50) (by decide)) bx_1 (by decide))) ?_
  refine lv_topi (fun x_6 ex_6 => ?_)
  have bx_6 : iv 0 15 x_6 := by rw [ex_6]; exact rdT (a := 50) (n := 1) tfz1 (iv_c (50 : Int32) (a := 50) (b := 50) (by decide)) (by decide) (by decide +kernel)
  replace hR := tb hR ex_6
  refine lv_iconst (v := 1) hx hb dX10_steals_21 (by decide) ?_
  refine lv_iload_n hx hb dX10_steals_22 rfl (lv_at hl 1 rfl) ?_
  refine lv_ishl hx hb dX10_steals_23 ?_
  refine lv_topi (fun x_7 ex_7 => ?_)
  have bx_7 : iv 1 8 x_7 := by rw [ex_7]; exact iv_shl1 ba1 (by decide)
  replace hR := tb hR ex_7
  refine lv_ior hx hb dX10_steals_24 ?_
  refine lv_topi (fun x_8 ex_8 => ?_)
  have bx_8 : iv 0 15 x_8 := by rw [ex_8]; exact iv_or15 bx_6 bx_7 (by decide)
  replace hR := tb hR ex_8
  refine va_iast hx hb hK hP hD hS 1 0 rfl rfl (vin (by decide +kernel)) dX10_steals_25 (fun H locs hP hD hS => ?_)
  obtain ⟨f_9, ef_9, tf_9, hP, hD⟩ : ∃ f_9 : Nat → Int32, f_9 = (upd f_5 (50 : Int32).toNatClampNeg x_8) ∧ (ivT tA f_9) ∧ va_P V.1 vwCl [(z 0, .inr (10, mo z pz0_0 pz0_5 pz0_6 pz0_7 pz0_8 pz0_9 pz0_10 pz0_11 pz0_12 pz0_13 pz0_14 pz0_18 pz0_19 pz0_22 pz0_23 pz0_29)), (z 1, aI V 3075 f_9)] H ∧ va_D A [(z 0, .inr (10, mo z pz0_0 pz0_5 pz0_6 pz0_7 pz0_8 pz0_9 pz0_10 pz0_11 pz0_12 pz0_13 pz0_14 pz0_18 pz0_19 pz0_22 pz0_23 pz0_29)), (z 1, aI V 3075 f_9)] := ⟨_, rfl, upT (lo := 0) (hi := 15) (a := 50) (n := 1) tf_5 (iv_c (50 : Int32) (a := 50) (b := 50) (by decide)) (by decide) bx_8 (by decide +kernel), hP, hD⟩
  replace hR := tb hR ef_9
  exact fiV hx hb hr hlk hK hP hD hS dX10_steals_26 (Nat.le_of_ble_eq_true rfl) (Nat.le_of_ble_eq_true rfl) (⟨f_9, tf_9, (RW_up (RW_up hf0 bx_1 (by decide) ef_5) (iv_c (50 : Int32) (a := 50) (b := 50) (by decide)) (by decide) ef_9), (hR.symm.trans hT0), rfl⟩)
theorem dX10_steal_0 : decode cX10_steal 0 = .ok (.aload_n 0, 1) := by decide +kernel
theorem dX10_steal_1 : decode cX10_steal 1 = .ok (.iconst 0, 1) := by decide +kernel
theorem dX10_steal_2 : decode cX10_steal 2 = .ok (.putfield 1, 3) := by decide +kernel
theorem dX10_steal_5 : decode cX10_steal 5 = .ok (.aload_n 0, 1) := by decide +kernel
theorem dX10_steal_6 : decode cX10_steal 6 = .ok (.iload_n 1, 1) := by decide +kernel
theorem dX10_steal_7 : decode cX10_steal 7 = .ok (.i2l, 1) := by decide +kernel
theorem q_7_88 : Cond.code yX10_whySteal prog_12_method_62_code 3 (some FieldType.int) ∈ gw := gw_7 (i := 88) (rfl) rfl
theorem q_7_87 : Cond.instanceMethod yX10_whySteal ∈ gw := gw_7 (i := 87) (by decide +kernel) rfl
theorem q_s_91 : Cond.selects "BeaconDelayModel" yX10_whySteal yX10_whySteal ∈ gw := gw_s (i := 91) (by decide +kernel) rfl
theorem mt_X10_whySteal : MtV yX10_whySteal cX10_whySteal 3 (some .int) 1 := ⟨⟨q_7_88, q_1_9, by decide +kernel, by decide +kernel, by decide +kernel⟩, q_7_87, q_s_91⟩
theorem q_7_85 : Cond.methodLink "BeaconDelayModel" 289 yX10_whySteal ∈ gw := gw_7 (i := 85) (by decide +kernel) rfl
theorem dX10_steal_8 : decode cX10_steal 8 = .ok (.invokevirtual 289, 3) := by decide +kernel
theorem dX10_steal_11 : decode cX10_steal 11 = .ok (.istore_n 2, 1) := by decide +kernel
theorem dX10_steal_12 : decode cX10_steal 12 = .ok (.iload_n 2, 1) := by decide +kernel
theorem dX10_steal_13 : decode cX10_steal 13 = .ok (.ifCond .eq 8, 3) := by decide +kernel
theorem dX10_steal_21 : decode cX10_steal 21 = .ok (.aload_n 0, 1) := by decide +kernel
theorem dX10_steal_22 : decode cX10_steal 22 = .ok (.invokevirtual 278, 3) := by decide +kernel
theorem dX10_steal_25 : decode cX10_steal 25 = .ok (.aload_n 0, 1) := by decide +kernel
theorem dX10_steal_26 : decode cX10_steal 26 = .ok (.iload_n 1, 1) := by decide +kernel
theorem q_7_92 : Cond.code yX10_steals prog_12_method_63_code 2 none ∈ gw := gw_7 (i := 92) (rfl) rfl
theorem q_7_91 : Cond.instanceMethod yX10_steals ∈ gw := gw_7 (i := 91) (by decide +kernel) rfl
theorem q_s_92 : Cond.selects "BeaconDelayModel" yX10_steals yX10_steals ∈ gw := gw_s (i := 92) (by decide +kernel) rfl
theorem mt_X10_steals : MtV yX10_steals cX10_steals 2 none 1 := ⟨⟨q_7_92, q_1_9, by decide +kernel, by decide +kernel, by decide +kernel⟩, q_7_91, q_s_92⟩
theorem q_7_89 : Cond.methodLink "BeaconDelayModel" 293 yX10_steals ∈ gw := gw_7 (i := 89) (by decide +kernel) rfl
theorem dX10_steal_27 : decode cX10_steal 27 = .ok (.invokevirtual 293, 3) := by decide +kernel
theorem dX10_steal_30 : decode cX10_steal 30 = .ok (.aload_n 0, 1) := by decide +kernel
theorem dX10_steal_31 : decode cX10_steal 31 = .ok (.invokevirtual 284, 3) := by decide +kernel
theorem dX10_steal_34 : decode cX10_steal 34 = .ok (.aload_n 0, 1) := by decide +kernel
theorem dX10_steal_35 : decode cX10_steal 35 = .ok (.getfield 13, 3) := by decide +kernel
theorem dX10_steal_38 : decode cX10_steal 38 = .ok (.bipush 46, 2) := by decide +kernel
theorem dX10_steal_40 : decode cX10_steal 40 = .ok (.iload_n 1, 1) := by decide +kernel
theorem dX10_steal_41 : decode cX10_steal 41 = .ok (.iadd, 1) := by decide +kernel
theorem dX10_steal_42 : decode cX10_steal 42 = .ok (.iaload, 1) := by decide +kernel
theorem dX10_steal_43 : decode cX10_steal 43 = .ok (.ireturn, 1) := by decide +kernel
theorem dX10_steal_16 : decode cX10_steal 16 = .ok (.bipush (-10), 2) := by decide +kernel
theorem dX10_steal_18 : decode cX10_steal 18 = .ok (.iload_n 2, 1) := by decide +kernel
theorem dX10_steal_19 : decode cX10_steal 19 = .ok (.isub, 1) := by decide +kernel
theorem dX10_steal_20 : decode cX10_steal 20 = .ok (.ireturn, 1) := by decide +kernel
set_option maxRecDepth 100000 in
noncomputable def F_k_X10_steal_0 (a1 : Int32) (fz1 : Nat → Int32) (fz17 : Nat → Int32) : Int32 × Int32 × (Nat → Int32) × (Nat → Int32) := bnd (a1.toInt64 : Int64) fun (j_1 : Int64) => bnd (F_k_X10_whySteal_0 j_1 fz1 : Int32) fun (r_2 : Int32) => if r_2 = (0 : Int32) then (bnd (F_k_X10_stores_0 fz17 fz1 : Nat → Int32) fun (f_11 : Nat → Int32) => bnd (F_k_X10_steals_0 a1 fz1 : Nat → Int32) fun (f_14 : Nat → Int32) => bnd (F_k_X10_notes_0 f_11 f_14 : Nat → Int32) fun (f_18 : Nat → Int32) => bnd ((46 : Int32) + a1 : Int32) fun (x_22 : Int32) => bnd (f_18 (x_22 : Int32).toNatClampNeg : Int32) fun (x_23 : Int32) => (x_23, (0 : Int32), f_18, f_11)) else (bnd (((-10) : Int32) - r_2 : Int32) fun (x_25 : Int32) => (x_25, (0 : Int32), fz1, fz17))
set_option maxHeartbeats 4000000 in
set_option maxRecDepth 100000 in
theorem k_X10_steal_0 (l : Launch) (V : GV) (z : Nat → Nat) (a1 : Int32) (pz0_0 : Int32) (pz0_5 : Int32) (pz0_6 : Int32) (pz0_7 : Int32) (pz0_8 : Int32) (pz0_9 : Int32) (pz0_10 : Int32) (pz0_11 : Int32) (pz0_12 : Int32) (pz0_13 : Int32) (pz0_14 : Int32) (pz0_18 : Int32) (pz0_19 : Int32) (pz0_22 : Int32) (pz0_23 : Int32) (pz0_29 : Int32) (fz1 : Nat → Int32) (fz17 : Nat → Int32) (bpz0_5 : iv 0 900 pz0_5) (bpz0_6 : iv 0 900 pz0_6) (bpz0_7 : iv 0 900 pz0_7) (bpz0_8 : iv 0 900 pz0_8) (bpz0_10 : iv 0 999 pz0_10) (bpz0_11 : iv 0 4 pz0_11) (bpz0_12 : iv 0 900 pz0_12) (bpz0_13 : iv 0 4 pz0_13) (bpz0_14 : iv (-1) 900 pz0_14) (bpz0_18 : iv 0 2 pz0_18) (bpz0_22 : iv 0 9999 pz0_22) (bpz0_29 : iv 0 10000 pz0_29) (tfz1 : ivT tA fz1) (tfz17 : ivT tS fz17) (hf0 : RW fz1) : Ct l V yX10_steal (.code yX10_steal cX10_steal 3 (some .int)) 4 [.ref (z 0), .int a1] [(z 0, .inr (10, mo z pz0_0 pz0_5 pz0_6 pz0_7 pz0_8 pz0_9 pz0_10 pz0_11 pz0_12 pz0_13 pz0_14 pz0_18 pz0_19 pz0_22 pz0_23 pz0_29)), (z 1, aI V 3075 fz1), (z 17, aI V 7 fz17)] 0 0 (QI V (fun (r : Int32) (w : va_W) => ∃ (v0 : Int32) (g1 : Nat → Int32) (g2 : Nat → Int32), (ivT tA g1) ∧ (ivT tS g2) ∧ iv (-12) 4 r ∧ (RW g1) ∧ r = (F_k_X10_steal_0 a1 fz1 fz17).1 ∧ v0 = (F_k_X10_steal_0 a1 fz1 fz17).2.1 ∧ g1 = (F_k_X10_steal_0 a1 fz1 fz17).2.2.1 ∧ g2 = (F_k_X10_steal_0 a1 fz1 fz17).2.2.2 ∧ w = [(z 0, .inr (10, mo z v0 pz0_5 pz0_6 pz0_7 pz0_8 pz0_9 pz0_10 pz0_11 pz0_12 pz0_13 pz0_14 pz0_18 pz0_19 pz0_22 pz0_23 pz0_29)), (z 1, aI V 3075 g1), (z 17, aI V 7 g2)])) := by
  refine Ct.of (by decide) (Nat.le_of_ble_eq_true rfl) (fun p e s m below meth c A ls hx hb hr hml hown hlk hnm hg hP hK hD hE hA hS hl => ?_)
  have hl : lv_has ls 3 [(0, .ref (z 0)), (1, .int a1)] := hl
  obtain ⟨T0, hT0⟩ : ∃ T9, T9 = F_k_X10_steal_0 a1 fz1 fz17 := ⟨_, rfl⟩
  have hR := hT0.trans (F_k_X10_steal_0.eq_1 ..)
  refine lv_aload_n hx hb dX10_steal_0 rfl (lv_at hl 0 rfl) ?_
  refine lv_iconst (v := 0) hx hb dX10_steal_1 (by decide) ?_
  refine va_put (ci := 10) (v := .int 0) (ty := .int) (C := RX10) (T := TX10) (N := 40) hx hb hg inX10 tyX10 tyX10_ok nmX10 hown hK hP hD hS 0 rfl rfl 0 (by decide) (hg _ q_5_224) (fun _ h9 => h9) rfl (by decide +kernel) rfl rfl (Nat.le_of_ble_eq_true rfl) dX10_steal_2 (fun H locs hP hD hS => ?_)
  have hP : va_P V.1 vwCl [(z 0, .inr (10, mo z 0 pz0_5 pz0_6 pz0_7 pz0_8 pz0_9 pz0_10 pz0_11 pz0_12 pz0_13 pz0_14 pz0_18 pz0_19 pz0_22 pz0_23 pz0_29)), (z 1, aI V 3075 fz1), (z 17, aI V 7 fz17)] H := hP
  have hD := cpD hP hD
  refine lv_aload_n hx hb dX10_steal_5 rfl (lv_at hl 0 rfl) ?_
  refine lv_iload_n hx hb dX10_steal_6 rfl (lv_at hl 1 rfl) ?_
  refine lv_i2l hx hb dX10_steal_7 rfl ?_
  refine lv_topl (fun j_1 ej_1 => ?_)
  replace hR := tb hR ej_1
  refine jnI (wr := [(z 17, aI V 7 fz17)]) (rnV (rest := []) ⟨hx, hb, hml, hown, hg⟩ (k_X10_whySteal_0 l V z j_1 0 pz0_5 pz0_6 pz0_7 pz0_8 pz0_9 pz0_10 pz0_11 pz0_12 pz0_13 pz0_14 pz0_18 pz0_19 pz0_22 pz0_23 pz0_29 fz1 bpz0_5 bpz0_6 bpz0_7 bpz0_8 bpz0_10 bpz0_11 bpz0_12 bpz0_13 bpz0_14 bpz0_18 bpz0_22 bpz0_29 tfz1) mt_X10_whySteal q_7_85 ⟨Nat.le_of_ble_eq_true rfl, Nat.le_of_ble_eq_true rfl⟩ hK hP hD hS hA hE [0, 1] rfl rfl 0 rfl rfl rfl rfl hl.1 rfl (Nat.le_of_ble_eq_true rfl) dX10_steal_8 ⟨Nat.le_of_ble_eq_true rfl, Nat.le_of_ble_eq_true rfl⟩) hP hD hS hA [0, 1] [2] rfl rfl rfl (by decide) (fun r_2 w H locs hw hP hD hS => ?_)
  obtain ⟨br_2, g_3, g_4, et_5, rfl⟩ := hw
  replace hR := tb hR et_5
  have hP : va_P V.1 vwCl [(z 17, aI V 7 fz17), (z 0, .inr (10, mo z 0 pz0_5 pz0_6 pz0_7 pz0_8 pz0_9 pz0_10 pz0_11 pz0_12 pz0_13 pz0_14 pz0_18 pz0_19 pz0_22 pz0_23 pz0_29)), (z 1, aI V 3075 fz1)] H := hP
  have hD := cpD hP hD
  refine lv_istore_n (lv' := [(2, .int r_2), (0, .ref (z 0)), (1, .int a1)]) hx hb dX10_steal_11 rfl hl (by decide) rfl (fun ls hl => ?_)
  refine lv_iload_n hx hb dX10_steal_12 rfl (lv_at hl 0 rfl) ?_
  refine lv_if_eq (tgt := 21) hx hb dX10_steal_13 (by decide) (fun c_7 => ?_) (fun c_7 => ?_)
  · replace hR := ti hR c_7
    have b_8 : iv 0 0 r_2 := iv_q c_7 (iv_c (0 : Int32) (a := 0) (b := 0) (by decide))
    have b_9 : ivL 0 3 j_1 := ivL_cap (g_4 (iv_eqp b_8 (iv_c (0 : Int32) (by decide)))) (ivL_top j_1) (by decide)
    have b_10 : iv 0 3 a1 := iv_cap (ivL_i ej_1 b_9) (iv_top a1) (by decide)
    refine lv_aload_n hx hb dX10_steal_21 rfl (lv_at hl 1 rfl) ?_
    refine jnV (wr := []) (rnV (rest := []) ⟨hx, hb, hml, hown, hg⟩ (k_X10_stores_0 l V z fz17 0 pz0_5 pz0_6 pz0_7 pz0_8 pz0_9 pz0_10 pz0_11 pz0_12 pz0_13 pz0_14 pz0_18 pz0_19 pz0_22 pz0_23 pz0_29 fz1 tfz17 bpz0_5 bpz0_6 bpz0_7 bpz0_8 bpz0_10 bpz0_11 bpz0_12 bpz0_13 bpz0_14 bpz0_18 bpz0_22 bpz0_29 tfz1) mt_X10_stores q_7_60 ⟨Nat.le_of_ble_eq_true rfl, Nat.le_of_ble_eq_true rfl⟩ hK hP hD hS hA hE [0, 1, 2] rfl rfl 1 rfl rfl rfl rfl hl.1 rfl (Nat.le_of_ble_eq_true rfl) dX10_steal_22 ⟨Nat.le_of_ble_eq_true rfl, Nat.le_of_ble_eq_true rfl⟩) hP hD hS hA [0, 1, 2] [] rfl rfl rfl (by decide) (fun  w H locs hw hP hD hS => ?_)
    obtain ⟨f_11, tf_11, et_12, rfl⟩ := hw
    replace hR := tb hR et_12
    have hP : va_P V.1 vwCl [(z 17, aI V 7 f_11), (z 0, .inr (10, mo z 0 pz0_5 pz0_6 pz0_7 pz0_8 pz0_9 pz0_10 pz0_11 pz0_12 pz0_13 pz0_14 pz0_18 pz0_19 pz0_22 pz0_23 pz0_29)), (z 1, aI V 3075 fz1)] H := hP
    have hD := cpD hP hD
    refine lv_aload_n hx hb dX10_steal_25 rfl (lv_at hl 1 rfl) ?_
    refine lv_iload_n hx hb dX10_steal_26 rfl (lv_at hl 2 rfl) ?_
    refine jnV (wr := [(z 17, aI V 7 f_11)]) (rnV (rest := []) ⟨hx, hb, hml, hown, hg⟩ (k_X10_steals_0 l V z a1 0 pz0_5 pz0_6 pz0_7 pz0_8 pz0_9 pz0_10 pz0_11 pz0_12 pz0_13 pz0_14 pz0_18 pz0_19 pz0_22 pz0_23 pz0_29 fz1 b_10 bpz0_5 bpz0_6 bpz0_7 bpz0_8 bpz0_10 bpz0_11 bpz0_12 bpz0_13 bpz0_14 bpz0_18 bpz0_22 bpz0_29 tfz1 hf0 (by have q9 := (g_3 (iv_eqp b_8 (iv_c (0 : Int32) (by decide)))); rw [ej_1, toI64] at q9; exact q9)) mt_X10_steals q_7_89 ⟨Nat.le_of_ble_eq_true rfl, Nat.le_of_ble_eq_true rfl⟩ hK hP hD hS hA hE [1, 2] rfl rfl 1 rfl rfl rfl rfl hl.1 rfl (Nat.le_of_ble_eq_true rfl) dX10_steal_27 ⟨Nat.le_of_ble_eq_true rfl, Nat.le_of_ble_eq_true rfl⟩) hP hD hS hA [1, 2] [0] rfl rfl rfl (by decide) (fun  w H locs hw hP hD hS => ?_)
    obtain ⟨f_14, tf_14, g_15, et_16, rfl⟩ := hw
    replace hR := tb hR et_16
    have hP : va_P V.1 vwCl [(z 17, aI V 7 f_11), (z 0, .inr (10, mo z 0 pz0_5 pz0_6 pz0_7 pz0_8 pz0_9 pz0_10 pz0_11 pz0_12 pz0_13 pz0_14 pz0_18 pz0_19 pz0_22 pz0_23 pz0_29)), (z 1, aI V 3075 f_14)] H := hP
    have hD := cpD hP hD
    refine lv_aload_n hx hb dX10_steal_30 rfl (lv_at hl 1 rfl) ?_
    refine jnV (wr := []) (rnV (rest := []) ⟨hx, hb, hml, hown, hg⟩ (k_X10_notes_0 l V z f_11 0 pz0_5 pz0_6 pz0_7 pz0_8 pz0_9 pz0_10 pz0_11 pz0_12 pz0_13 pz0_14 pz0_18 pz0_19 pz0_22 pz0_23 pz0_29 f_14 tf_11 bpz0_5 bpz0_6 bpz0_7 bpz0_8 bpz0_10 bpz0_11 bpz0_12 bpz0_13 bpz0_14 bpz0_18 bpz0_22 bpz0_29 tf_14 g_15) mt_X10_notes q_7_72 ⟨Nat.le_of_ble_eq_true rfl, Nat.le_of_ble_eq_true rfl⟩ hK hP hD hS hA hE [0, 1, 2] rfl rfl 1 rfl rfl rfl rfl hl.1 rfl (Nat.le_of_ble_eq_true rfl) dX10_steal_31 ⟨Nat.le_of_ble_eq_true rfl, Nat.le_of_ble_eq_true rfl⟩) hP hD hS hA [0, 1, 2] [] rfl rfl rfl (by decide) (fun  w H locs hw hP hD hS => ?_)
    obtain ⟨f_18, tf_18, g_19, et_20, rfl⟩ := hw
    replace hR := tb hR et_20
    have hP : va_P V.1 vwCl [(z 17, aI V 7 f_11), (z 0, .inr (10, mo z 0 pz0_5 pz0_6 pz0_7 pz0_8 pz0_9 pz0_10 pz0_11 pz0_12 pz0_13 pz0_14 pz0_18 pz0_19 pz0_22 pz0_23 pz0_29)), (z 1, aI V 3075 f_18)] H := hP
    have hD := cpD hP hD
    refine lv_aload_n hx hb dX10_steal_34 rfl (lv_at hl 1 rfl) ?_
    refine va_get (ci := 10) (v := .ref (z 1)) (C := RX10) (T := TX10) (N := 40) hx hb hg inX10 hown hK hP 1 rfl rfl 1 (by decide) (hg _ q_5_225) (fun _ h9 => h9) rfl dX10_steal_35 ?_
    refine lv_bipush (v := 46) hx hb dX10_steal_38 (by decide) ?_
    refine lv_iload_n hx hb dX10_steal_40 rfl (lv_at hl 2 rfl) ?_
    refine lv_iadd hx hb dX10_steal_41 ?_
    refine lv_topi (fun x_22 ex_22 => ?_)
    have bx_22 : iv 46 49 x_22 := by rw [ex_22]; exact iv_add (iv_c (46 : Int32) (a := 46) (b := 46) (by decide)) b_10 (by decide)
    replace hR := tb hR ex_22
    refine va_iald hx hb hK hP 2 0 rfl rfl (iv_in bx_22 (by decide)) dX10_steal_42 ?_
    refine lv_topi (fun x_23 ex_23 => ?_)
    have bx_23 : iv 0 4 x_23 := by rw [ex_23]; exact rdT (a := 46) (n := 4) tf_18 bx_22 (by decide) (by decide +kernel)
    replace hR := tb hR ex_23
    have hP := subP (ws' := [(z 0, .inr (10, mo z 0 pz0_5 pz0_6 pz0_7 pz0_8 pz0_9 pz0_10 pz0_11 pz0_12 pz0_13 pz0_14 pz0_18 pz0_19 pz0_22 pz0_23 pz0_29)), (z 1, aI V 3075 f_18), (z 17, aI V 7 f_11)]) hP [1, 2, 0] rfl
    have hD := subD hP hD [1, 2, 0] rfl rfl
    exact fiI hx hb hr hlk hK hP hD hS dX10_steal_43 (Nat.le_of_ble_eq_true rfl) (Nat.le_of_ble_eq_true rfl) (⟨0, f_18, f_11, tf_18, tf_11, (iv_w bx_23 (by decide)), g_19, (congrArg Prod.fst (hR.symm.trans hT0)), (congrArg Prod.fst (congrArg Prod.snd (hR.symm.trans hT0))), (congrArg Prod.fst (congrArg Prod.snd (congrArg Prod.snd (hR.symm.trans hT0)))), (congrArg Prod.snd (congrArg Prod.snd (congrArg Prod.snd (hR.symm.trans hT0)))), rfl⟩)
  · replace hR := te hR c_7
    have b_24 : iv 1 2 r_2 := iv_n0 c_7 br_2 (iv_c (0 : Int32) (a := 0) (b := 0) (by decide)) (by decide)
    refine lv_bipush (v := (-10)) hx hb dX10_steal_16 (by decide) ?_
    refine lv_iload_n hx hb dX10_steal_18 rfl (lv_at hl 0 rfl) ?_
    refine lv_isub hx hb dX10_steal_19 ?_
    refine lv_topi (fun x_25 ex_25 => ?_)
    have bx_25 : iv (-12) (-11) x_25 := by rw [ex_25]; exact iv_sub (iv_c ((-10) : Int32) (a := (-10)) (b := (-10)) (by decide)) b_24 (by decide)
    replace hR := tb hR ex_25
    have hP := subP (ws' := [(z 0, .inr (10, mo z 0 pz0_5 pz0_6 pz0_7 pz0_8 pz0_9 pz0_10 pz0_11 pz0_12 pz0_13 pz0_14 pz0_18 pz0_19 pz0_22 pz0_23 pz0_29)), (z 1, aI V 3075 fz1), (z 17, aI V 7 fz17)]) hP [1, 2, 0] rfl
    have hD := subD hP hD [1, 2, 0] rfl rfl
    exact fiI hx hb hr hlk hK hP hD hS dX10_steal_20 (Nat.le_of_ble_eq_true rfl) (Nat.le_of_ble_eq_true rfl) (⟨0, fz1, fz17, tfz1, tfz17, (iv_w bx_25 (by decide)), hf0, (congrArg Prod.fst (hR.symm.trans hT0)), (congrArg Prod.fst (congrArg Prod.snd (hR.symm.trans hT0))), (congrArg Prod.fst (congrArg Prod.snd (congrArg Prod.snd (hR.symm.trans hT0)))), (congrArg Prod.snd (congrArg Prod.snd (congrArg Prod.snd (hR.symm.trans hT0)))), rfl⟩)
theorem dX10_weather_0 : decode cX10_weather 0 = .ok (.aload_n 0, 1) := by decide +kernel
theorem dX10_weather_1 : decode cX10_weather 1 = .ok (.iconst 0, 1) := by decide +kernel
theorem dX10_weather_2 : decode cX10_weather 2 = .ok (.putfield 1, 3) := by decide +kernel
theorem dX10_weather_5 : decode cX10_weather 5 = .ok (.iload_n 1, 1) := by decide +kernel
theorem dX10_weather_6 : decode cX10_weather 6 = .ok (.i2l, 1) := by decide +kernel
theorem dX10_weather_7 : decode cX10_weather 7 = .ok (.lconst 0, 1) := by decide +kernel
theorem q_7_97 : Cond.constantLong "BeaconDelayModel" 296 (9 : Int64) ∈ gw := gw_7 (i := 97) (by decide +kernel) rfl
theorem dX10_weather_8 : decode cX10_weather 8 = .ok (.ldc2_w 296, 3) := by decide +kernel
theorem dX10_weather_11 : decode cX10_weather 11 = .ok (.invokestatic 159, 3) := by decide +kernel
theorem dX10_weather_14 : decode cX10_weather 14 = .ok (.ifCond .ne 6, 3) := by decide +kernel
theorem dX10_weather_20 : decode cX10_weather 20 = .ok (.aload_n 0, 1) := by decide +kernel
theorem dX10_weather_21 : decode cX10_weather 21 = .ok (.invokevirtual 278, 3) := by decide +kernel
theorem dX10_weather_24 : decode cX10_weather 24 = .ok (.aload_n 0, 1) := by decide +kernel
theorem dX10_weather_25 : decode cX10_weather 25 = .ok (.getfield 13, 3) := by decide +kernel
theorem dX10_weather_28 : decode cX10_weather 28 = .ok (.bipush 51, 2) := by decide +kernel
theorem dX10_weather_30 : decode cX10_weather 30 = .ok (.iload_n 1, 1) := by decide +kernel
theorem dX10_weather_31 : decode cX10_weather 31 = .ok (.iastore, 1) := by decide +kernel
theorem dX10_weather_32 : decode cX10_weather 32 = .ok (.aload_n 0, 1) := by decide +kernel
theorem dX10_weather_33 : decode cX10_weather 33 = .ok (.invokevirtual 284, 3) := by decide +kernel
theorem dX10_weather_36 : decode cX10_weather 36 = .ok (.aload_n 0, 1) := by decide +kernel
theorem dX10_weather_37 : decode cX10_weather 37 = .ok (.getfield 36, 3) := by decide +kernel
theorem dX10_weather_40 : decode cX10_weather 40 = .ok (.iconst 5, 1) := by decide +kernel
theorem dX10_weather_41 : decode cX10_weather 41 = .ok (.iaload, 1) := by decide +kernel
theorem dX10_weather_42 : decode cX10_weather 42 = .ok (.ireturn, 1) := by decide +kernel
theorem dX10_weather_17 : decode cX10_weather 17 = .ok (.bipush (-11), 2) := by decide +kernel
theorem dX10_weather_19 : decode cX10_weather 19 = .ok (.ireturn, 1) := by decide +kernel
set_option maxRecDepth 100000 in
noncomputable def F_k_X10_weather_0 (a1 : Int32) (fz1 : Nat → Int32) (fz17 : Nat → Int32) : Int32 × Int32 × (Nat → Int32) × (Nat → Int32) := bnd (a1.toInt64 : Int64) fun (j_1 : Int64) => bnd (F_k_X10_within_0 j_1 (0 : Int64) (9 : Int64) : Int32) fun (r_2 : Int32) => if r_2 = (0 : Int32) then ((((-11) : Int32), (0 : Int32), fz1, fz17)) else (bnd (F_k_X10_stores_0 fz17 fz1 : Nat → Int32) fun (f_16 : Nat → Int32) => bnd ((upd fz1 (51 : Int32).toNatClampNeg a1) : Nat → Int32) fun (f_19 : Nat → Int32) => bnd (F_k_X10_notes_0 f_16 f_19 : Nat → Int32) fun (f_20 : Nat → Int32) => bnd (f_16 (5 : Int32).toNatClampNeg : Int32) fun (x_24 : Int32) => (x_24, (0 : Int32), f_20, f_16))
set_option maxHeartbeats 4000000 in
set_option maxRecDepth 100000 in
theorem k_X10_weather_0 (l : Launch) (V : GV) (z : Nat → Nat) (a1 : Int32) (pz0_0 : Int32) (pz0_5 : Int32) (pz0_6 : Int32) (pz0_7 : Int32) (pz0_8 : Int32) (pz0_9 : Int32) (pz0_10 : Int32) (pz0_11 : Int32) (pz0_12 : Int32) (pz0_13 : Int32) (pz0_14 : Int32) (pz0_18 : Int32) (pz0_19 : Int32) (pz0_22 : Int32) (pz0_23 : Int32) (pz0_29 : Int32) (fz1 : Nat → Int32) (fz17 : Nat → Int32) (bpz0_5 : iv 0 900 pz0_5) (bpz0_6 : iv 0 900 pz0_6) (bpz0_7 : iv 0 900 pz0_7) (bpz0_8 : iv 0 900 pz0_8) (bpz0_10 : iv 0 999 pz0_10) (bpz0_11 : iv 0 4 pz0_11) (bpz0_12 : iv 0 900 pz0_12) (bpz0_13 : iv 0 4 pz0_13) (bpz0_14 : iv (-1) 900 pz0_14) (bpz0_18 : iv 0 2 pz0_18) (bpz0_22 : iv 0 9999 pz0_22) (bpz0_29 : iv 0 10000 pz0_29) (tfz1 : ivT tA fz1) (tfz17 : ivT tS fz17) (hf0 : RW fz1) : Ct l V yX10_weather (.code yX10_weather cX10_weather 2 (some .int)) 2 [.ref (z 0), .int a1] [(z 0, .inr (10, mo z pz0_0 pz0_5 pz0_6 pz0_7 pz0_8 pz0_9 pz0_10 pz0_11 pz0_12 pz0_13 pz0_14 pz0_18 pz0_19 pz0_22 pz0_23 pz0_29)), (z 1, aI V 3075 fz1), (z 17, aI V 7 fz17)] 0 0 (QI V (fun (r : Int32) (w : va_W) => ∃ (v0 : Int32) (g1 : Nat → Int32) (g2 : Nat → Int32), (ivT tA g1) ∧ (ivT tS g2) ∧ iv (-11) 9 r ∧ (RW g1) ∧ r = (F_k_X10_weather_0 a1 fz1 fz17).1 ∧ v0 = (F_k_X10_weather_0 a1 fz1 fz17).2.1 ∧ g1 = (F_k_X10_weather_0 a1 fz1 fz17).2.2.1 ∧ g2 = (F_k_X10_weather_0 a1 fz1 fz17).2.2.2 ∧ w = [(z 0, .inr (10, mo z v0 pz0_5 pz0_6 pz0_7 pz0_8 pz0_9 pz0_10 pz0_11 pz0_12 pz0_13 pz0_14 pz0_18 pz0_19 pz0_22 pz0_23 pz0_29)), (z 1, aI V 3075 g1), (z 17, aI V 7 g2)])) := by
  refine Ct.of (by decide) (Nat.le_of_ble_eq_true rfl) (fun p e s m below meth c A ls hx hb hr hml hown hlk hnm hg hP hK hD hE hA hS hl => ?_)
  have hl : lv_has ls 2 [(0, .ref (z 0)), (1, .int a1)] := hl
  obtain ⟨T0, hT0⟩ : ∃ T9, T9 = F_k_X10_weather_0 a1 fz1 fz17 := ⟨_, rfl⟩
  have hR := hT0.trans (F_k_X10_weather_0.eq_1 ..)
  refine lv_aload_n hx hb dX10_weather_0 rfl (lv_at hl 0 rfl) ?_
  refine lv_iconst (v := 0) hx hb dX10_weather_1 (by decide) ?_
  refine va_put (ci := 10) (v := .int 0) (ty := .int) (C := RX10) (T := TX10) (N := 40) hx hb hg inX10 tyX10 tyX10_ok nmX10 hown hK hP hD hS 0 rfl rfl 0 (by decide) (hg _ q_5_224) (fun _ h9 => h9) rfl (by decide +kernel) rfl rfl (Nat.le_of_ble_eq_true rfl) dX10_weather_2 (fun H locs hP hD hS => ?_)
  have hP : va_P V.1 vwCl [(z 0, .inr (10, mo z 0 pz0_5 pz0_6 pz0_7 pz0_8 pz0_9 pz0_10 pz0_11 pz0_12 pz0_13 pz0_14 pz0_18 pz0_19 pz0_22 pz0_23 pz0_29)), (z 1, aI V 3075 fz1), (z 17, aI V 7 fz17)] H := hP
  have hD := cpD hP hD
  refine lv_iload_n hx hb dX10_weather_5 rfl (lv_at hl 1 rfl) ?_
  refine lv_i2l hx hb dX10_weather_6 rfl ?_
  refine lv_topl (fun j_1 ej_1 => ?_)
  replace hR := tb hR ej_1
  refine lv_lconst (v := 0) hx hb dX10_weather_7 (by decide) ?_
  refine lv_ldc2 (v := 9) hx hb hown (hg _ q_7_97) dX10_weather_8 ?_
  refine jnI (wr := [(z 0, .inr (10, mo z 0 pz0_5 pz0_6 pz0_7 pz0_8 pz0_9 pz0_10 pz0_11 pz0_12 pz0_13 pz0_14 pz0_18 pz0_19 pz0_22 pz0_23 pz0_29)), (z 1, aI V 3075 fz1), (z 17, aI V 7 fz17)]) (rnS (rest := []) ⟨hx, hb, hml, hown, hg⟩ (k_X10_within_0 l V j_1 0 9) mt_X10_within q_6_114 ⟨Nat.le_of_ble_eq_true rfl, Nat.le_of_ble_eq_true rfl⟩ hK hP hD hS hA hE [] rfl rfl rfl hl.1 rfl (Nat.le_of_ble_eq_true rfl) dX10_weather_11 ⟨Nat.le_of_ble_eq_true rfl, Nat.le_of_ble_eq_true rfl⟩) hP hD hS hA [] [0, 1, 2] rfl rfl rfl (by decide) (fun r_2 w H locs hw hP hD hS => ?_)
  obtain ⟨br_2, g_3, g_4, g_5, et_6, rfl⟩ := hw
  replace hR := tb hR et_6
  have hP : va_P V.1 vwCl [(z 0, .inr (10, mo z 0 pz0_5 pz0_6 pz0_7 pz0_8 pz0_9 pz0_10 pz0_11 pz0_12 pz0_13 pz0_14 pz0_18 pz0_19 pz0_22 pz0_23 pz0_29)), (z 1, aI V 3075 fz1), (z 17, aI V 7 fz17)] H := hP
  have hD := cpD hP hD
  refine lv_if_ne (tgt := 20) hx hb dX10_weather_14 (by decide) (fun c_8 => ?_) (fun c_8 => ?_)
  · replace hR := te hR c_8
    have b_9 : iv 1 1 r_2 := iv_n0 c_8 br_2 (iv_c (0 : Int32) (a := 0) (b := 0) (by decide)) (by decide)
    have c_10 : (0 : Int64) ≤ j_1 := (g_4 (iv_eqp b_9 (iv_c (1 : Int32) (by decide))))
    have b_11 : ivL 0 9223372036854775807 j_1 := ivL_e2 c_10 (ivL_c (0 : Int64) (a := 0) (b := 0) (by decide)) (ivL_top j_1) (by decide)
    have b_12 : iv 0 2147483647 a1 := iv_cap (ivL_i ej_1 b_11) (iv_top a1) (by decide)
    have c_13 : j_1 ≤ 9 := (g_5 (iv_eqp b_9 (iv_c (1 : Int32) (by decide))))
    have b_14 : ivL 0 9 j_1 := ivL_e1 c_13 b_11 (ivL_c (9 : Int64) (a := 9) (b := 9) (by decide)) (by decide)
    have b_15 : iv 0 9 a1 := iv_cap (ivL_i ej_1 b_14) b_12 (by decide)
    refine lv_aload_n hx hb dX10_weather_20 rfl (lv_at hl 0 rfl) ?_
    refine jnV (wr := []) (rnV (rest := []) ⟨hx, hb, hml, hown, hg⟩ (k_X10_stores_0 l V z fz17 0 pz0_5 pz0_6 pz0_7 pz0_8 pz0_9 pz0_10 pz0_11 pz0_12 pz0_13 pz0_14 pz0_18 pz0_19 pz0_22 pz0_23 pz0_29 fz1 tfz17 bpz0_5 bpz0_6 bpz0_7 bpz0_8 bpz0_10 bpz0_11 bpz0_12 bpz0_13 bpz0_14 bpz0_18 bpz0_22 bpz0_29 tfz1) mt_X10_stores q_7_60 ⟨Nat.le_of_ble_eq_true rfl, Nat.le_of_ble_eq_true rfl⟩ hK hP hD hS hA hE [2, 0, 1] rfl rfl 0 rfl rfl rfl rfl hl.1 rfl (Nat.le_of_ble_eq_true rfl) dX10_weather_21 ⟨Nat.le_of_ble_eq_true rfl, Nat.le_of_ble_eq_true rfl⟩) hP hD hS hA [2, 0, 1] [] rfl rfl rfl (by decide) (fun  w H locs hw hP hD hS => ?_)
    obtain ⟨f_16, tf_16, et_17, rfl⟩ := hw
    replace hR := tb hR et_17
    have hP : va_P V.1 vwCl [(z 17, aI V 7 f_16), (z 0, .inr (10, mo z 0 pz0_5 pz0_6 pz0_7 pz0_8 pz0_9 pz0_10 pz0_11 pz0_12 pz0_13 pz0_14 pz0_18 pz0_19 pz0_22 pz0_23 pz0_29)), (z 1, aI V 3075 fz1)] H := hP
    have hD := cpD hP hD
    refine lv_aload_n hx hb dX10_weather_24 rfl (lv_at hl 0 rfl) ?_
    refine va_get (ci := 10) (v := .ref (z 1)) (C := RX10) (T := TX10) (N := 40) hx hb hg inX10 hown hK hP 1 rfl rfl 1 (by decide) (hg _ q_5_225) (fun _ h9 => h9) rfl dX10_weather_25 ?_
    refine lv_bipush (v := 51) hx hb dX10_weather_28 (by decide) ?_
    refine lv_iload_n hx hb dX10_weather_30 rfl (lv_at hl 1 rfl) ?_
    refine va_iast hx hb hK hP hD hS 2 0 rfl rfl (vin (by decide +kernel)) dX10_weather_31 (fun H locs hP hD hS => ?_)
    obtain ⟨f_19, ef_19, tf_19, hP, hD⟩ : ∃ f_19 : Nat → Int32, f_19 = (upd fz1 (51 : Int32).toNatClampNeg a1) ∧ (ivT tA f_19) ∧ va_P V.1 vwCl [(z 17, aI V 7 f_16), (z 0, .inr (10, mo z 0 pz0_5 pz0_6 pz0_7 pz0_8 pz0_9 pz0_10 pz0_11 pz0_12 pz0_13 pz0_14 pz0_18 pz0_19 pz0_22 pz0_23 pz0_29)), (z 1, aI V 3075 f_19)] H ∧ va_D A [(z 17, aI V 7 f_16), (z 0, .inr (10, mo z 0 pz0_5 pz0_6 pz0_7 pz0_8 pz0_9 pz0_10 pz0_11 pz0_12 pz0_13 pz0_14 pz0_18 pz0_19 pz0_22 pz0_23 pz0_29)), (z 1, aI V 3075 f_19)] := ⟨_, rfl, upT (lo := 0) (hi := 9) (a := 51) (n := 1) tfz1 (iv_c (51 : Int32) (a := 51) (b := 51) (by decide)) (by decide) b_15 (by decide +kernel), hP, hD⟩
    replace hR := tb hR ef_19
    refine lv_aload_n hx hb dX10_weather_32 rfl (lv_at hl 0 rfl) ?_
    refine jnV (wr := []) (rnV (rest := []) ⟨hx, hb, hml, hown, hg⟩ (k_X10_notes_0 l V z f_16 0 pz0_5 pz0_6 pz0_7 pz0_8 pz0_9 pz0_10 pz0_11 pz0_12 pz0_13 pz0_14 pz0_18 pz0_19 pz0_22 pz0_23 pz0_29 f_19 tf_16 bpz0_5 bpz0_6 bpz0_7 bpz0_8 bpz0_10 bpz0_11 bpz0_12 bpz0_13 bpz0_14 bpz0_18 bpz0_22 bpz0_29 tf_19 (RW_up hf0 (iv_c (51 : Int32) (a := 51) (b := 51) (by decide)) (by decide) ef_19)) mt_X10_notes q_7_72 ⟨Nat.le_of_ble_eq_true rfl, Nat.le_of_ble_eq_true rfl⟩ hK hP hD hS hA hE [0, 1, 2] rfl rfl 1 rfl rfl rfl rfl hl.1 rfl (Nat.le_of_ble_eq_true rfl) dX10_weather_33 ⟨Nat.le_of_ble_eq_true rfl, Nat.le_of_ble_eq_true rfl⟩) hP hD hS hA [0, 1, 2] [] rfl rfl rfl (by decide) (fun  w H locs hw hP hD hS => ?_)
    obtain ⟨f_20, tf_20, g_21, et_22, rfl⟩ := hw
    replace hR := tb hR et_22
    have hP : va_P V.1 vwCl [(z 17, aI V 7 f_16), (z 0, .inr (10, mo z 0 pz0_5 pz0_6 pz0_7 pz0_8 pz0_9 pz0_10 pz0_11 pz0_12 pz0_13 pz0_14 pz0_18 pz0_19 pz0_22 pz0_23 pz0_29)), (z 1, aI V 3075 f_20)] H := hP
    have hD := cpD hP hD
    refine lv_aload_n hx hb dX10_weather_36 rfl (lv_at hl 0 rfl) ?_
    refine va_get (ci := 10) (v := .ref (z 17)) (C := RX10) (T := TX10) (N := 40) hx hb hg inX10 hown hK hP 1 rfl rfl 17 (by decide) (hg _ q_6_1) (fun _ h9 => h9) rfl dX10_weather_37 ?_
    refine lv_iconst (v := 5) hx hb dX10_weather_40 (by decide) ?_
    refine va_iald hx hb hK hP 0 0 rfl rfl (vin (by decide +kernel)) dX10_weather_41 ?_
    refine lv_topi (fun x_24 ex_24 => ?_)
    have bx_24 : iv 0 9 x_24 := by rw [ex_24]; exact rdT (a := 5) (n := 1) tf_16 (iv_c (5 : Int32) (a := 5) (b := 5) (by decide)) (by decide) (by decide +kernel)
    replace hR := tb hR ex_24
    have hP := subP (ws' := [(z 0, .inr (10, mo z 0 pz0_5 pz0_6 pz0_7 pz0_8 pz0_9 pz0_10 pz0_11 pz0_12 pz0_13 pz0_14 pz0_18 pz0_19 pz0_22 pz0_23 pz0_29)), (z 1, aI V 3075 f_20), (z 17, aI V 7 f_16)]) hP [1, 2, 0] rfl
    have hD := subD hP hD [1, 2, 0] rfl rfl
    exact fiI hx hb hr hlk hK hP hD hS dX10_weather_42 (Nat.le_of_ble_eq_true rfl) (Nat.le_of_ble_eq_true rfl) (⟨0, f_20, f_16, tf_20, tf_16, (iv_w bx_24 (by decide)), g_21, (congrArg Prod.fst (hR.symm.trans hT0)), (congrArg Prod.fst (congrArg Prod.snd (hR.symm.trans hT0))), (congrArg Prod.fst (congrArg Prod.snd (congrArg Prod.snd (hR.symm.trans hT0)))), (congrArg Prod.snd (congrArg Prod.snd (congrArg Prod.snd (hR.symm.trans hT0)))), rfl⟩)
  · replace hR := ti hR c_8
    have b_25 : iv 0 0 r_2 := iv_q c_8 (iv_c (0 : Int32) (a := 0) (b := 0) (by decide))
    refine lv_bipush (v := (-11)) hx hb dX10_weather_17 (by decide) ?_
    exact fiI hx hb hr hlk hK hP hD hS dX10_weather_19 (Nat.le_of_ble_eq_true rfl) (Nat.le_of_ble_eq_true rfl) (⟨0, fz1, fz17, tfz1, tfz17, (iv_c ((-11) : Int32) (by decide)), hf0, (congrArg Prod.fst (hR.symm.trans hT0)), (congrArg Prod.fst (congrArg Prod.snd (hR.symm.trans hT0))), (congrArg Prod.fst (congrArg Prod.snd (congrArg Prod.snd (hR.symm.trans hT0)))), (congrArg Prod.snd (congrArg Prod.snd (congrArg Prod.snd (hR.symm.trans hT0)))), rfl⟩)
theorem dX10_undo_0 : decode cX10_undo 0 = .ok (.aload_n 0, 1) := by decide +kernel
theorem dX10_undo_1 : decode cX10_undo 1 = .ok (.iconst 0, 1) := by decide +kernel
theorem dX10_undo_2 : decode cX10_undo 2 = .ok (.putfield 1, 3) := by decide +kernel
theorem dX10_undo_5 : decode cX10_undo 5 = .ok (.iload_n 1, 1) := by decide +kernel
theorem dX10_undo_6 : decode cX10_undo 6 = .ok (.i2l, 1) := by decide +kernel
theorem dX10_undo_7 : decode cX10_undo 7 = .ok (.lconst 1, 1) := by decide +kernel
theorem q_7_102 : Cond.constantLong "BeaconDelayModel" 298 (10 : Int64) ∈ gw := gw_7 (i := 102) (by decide +kernel) rfl
theorem dX10_undo_8 : decode cX10_undo 8 = .ok (.ldc2_w 298, 3) := by decide +kernel
theorem dX10_undo_11 : decode cX10_undo 11 = .ok (.invokestatic 159, 3) := by decide +kernel
theorem dX10_undo_14 : decode cX10_undo 14 = .ok (.ifCond .eq 14, 3) := by decide +kernel
theorem dX10_undo_28 : decode cX10_undo 28 = .ok (.bipush (-3), 2) := by decide +kernel
theorem dX10_undo_30 : decode cX10_undo 30 = .ok (.ireturn, 1) := by decide +kernel
theorem dX10_undo_17 : decode cX10_undo 17 = .ok (.iload_n 1, 1) := by decide +kernel
theorem dX10_undo_18 : decode cX10_undo 18 = .ok (.aload_n 0, 1) := by decide +kernel
theorem dX10_undo_19 : decode cX10_undo 19 = .ok (.getfield 13, 3) := by decide +kernel
theorem dX10_undo_22 : decode cX10_undo 22 = .ok (.bipush 53, 2) := by decide +kernel
theorem dX10_undo_24 : decode cX10_undo 24 = .ok (.iaload, 1) := by decide +kernel
theorem dX10_undo_25 : decode cX10_undo 25 = .ok (.if_icmp .le 6, 3) := by decide +kernel
theorem dX10_undo_31 : decode cX10_undo 31 = .ok (.aload_n 0, 1) := by decide +kernel
theorem dX10_undo_32 : decode cX10_undo 32 = .ok (.getfield 13, 3) := by decide +kernel
theorem dX10_undo_35 : decode cX10_undo 35 = .ok (.bipush 53, 2) := by decide +kernel
theorem dX10_undo_37 : decode cX10_undo 37 = .ok (.dup2, 1) := by decide +kernel
theorem dX10_undo_38 : decode cX10_undo 38 = .ok (.iaload, 1) := by decide +kernel
theorem dX10_undo_39 : decode cX10_undo 39 = .ok (.iload_n 1, 1) := by decide +kernel
theorem dX10_undo_40 : decode cX10_undo 40 = .ok (.isub, 1) := by decide +kernel
theorem dX10_undo_41 : decode cX10_undo 41 = .ok (.iastore, 1) := by decide +kernel
theorem dX10_undo_42 : decode cX10_undo 42 = .ok (.iconst 0, 1) := by decide +kernel
theorem dX10_undo_43 : decode cX10_undo 43 = .ok (.istore_n 2, 1) := by decide +kernel
theorem dX10_undo_44 : decode cX10_undo 44 = .ok (.iload_n 2, 1) := by decide +kernel
theorem dX10_undo_45 : decode cX10_undo 45 = .ok (.bipush 7, 2) := by decide +kernel
theorem dX10_undo_47 : decode cX10_undo 47 = .ok (.if_icmp .ge 38, 3) := by decide +kernel
theorem dX10_undo_50 : decode cX10_undo 50 = .ok (.aload_n 0, 1) := by decide +kernel
theorem dX10_undo_51 : decode cX10_undo 51 = .ok (.getfield 13, 3) := by decide +kernel
theorem dX10_undo_54 : decode cX10_undo 54 = .ok (.bipush 46, 2) := by decide +kernel
theorem dX10_undo_56 : decode cX10_undo 56 = .ok (.iload_n 2, 1) := by decide +kernel
theorem dX10_undo_57 : decode cX10_undo 57 = .ok (.iadd, 1) := by decide +kernel
theorem dX10_undo_58 : decode cX10_undo 58 = .ok (.aload_n 0, 1) := by decide +kernel
theorem dX10_undo_59 : decode cX10_undo 59 = .ok (.getfield 13, 3) := by decide +kernel
theorem dX10_undo_62 : decode cX10_undo 62 = .ok (.bipush 54, 2) := by decide +kernel
theorem dX10_undo_64 : decode cX10_undo 64 = .ok (.bipush 7, 2) := by decide +kernel
theorem dX10_undo_66 : decode cX10_undo 66 = .ok (.aload_n 0, 1) := by decide +kernel
theorem dX10_undo_67 : decode cX10_undo 67 = .ok (.getfield 13, 3) := by decide +kernel
theorem dX10_undo_70 : decode cX10_undo 70 = .ok (.bipush 53, 2) := by decide +kernel
theorem dX10_undo_72 : decode cX10_undo 72 = .ok (.iaload, 1) := by decide +kernel
theorem dX10_undo_73 : decode cX10_undo 73 = .ok (.imul, 1) := by decide +kernel
theorem dX10_undo_74 : decode cX10_undo 74 = .ok (.iadd, 1) := by decide +kernel
theorem dX10_undo_75 : decode cX10_undo 75 = .ok (.iload_n 2, 1) := by decide +kernel
theorem dX10_undo_76 : decode cX10_undo 76 = .ok (.iadd, 1) := by decide +kernel
theorem dX10_undo_77 : decode cX10_undo 77 = .ok (.iaload, 1) := by decide +kernel
theorem dX10_undo_78 : decode cX10_undo 78 = .ok (.iastore, 1) := by decide +kernel
theorem dX10_undo_79 : decode cX10_undo 79 = .ok (.iinc 2 1, 3) := by decide +kernel
theorem dX10_undo_82 : decode cX10_undo 82 = .ok (.goto (-38), 3) := by decide +kernel
theorem dX10_undo_85 : decode cX10_undo 85 = .ok (.aload_n 0, 1) := by decide +kernel
theorem dX10_undo_86 : decode cX10_undo 86 = .ok (.getfield 13, 3) := by decide +kernel
theorem dX10_undo_89 : decode cX10_undo 89 = .ok (.bipush 53, 2) := by decide +kernel
theorem dX10_undo_91 : decode cX10_undo 91 = .ok (.iaload, 1) := by decide +kernel
theorem dX10_undo_92 : decode cX10_undo 92 = .ok (.ireturn, 1) := by decide +kernel
set_option maxRecDepth 100000 in
noncomputable def F_k_X10_undo_0 (a1 : Int32) (fz1 : Nat → Int32) : Int32 × Int32 × (Nat → Int32) := bnd (a1.toInt64 : Int64) fun (j_1 : Int64) => bnd (F_k_X10_within_0 j_1 (1 : Int64) (10 : Int64) : Int32) fun (r_2 : Int32) => if r_2 = (0 : Int32) then ((((-3) : Int32), (0 : Int32), fz1)) else (bnd (fz1 (53 : Int32).toNatClampNeg : Int32) fun (x_17 : Int32) => if a1 ≤ x_17 then (bnd (x_17 - a1 : Int32) fun (x_20 : Int32) => bnd ((upd fz1 (53 : Int32).toNatClampNeg x_20) : Nat → Int32) fun (f_21 : Nat → Int32) => bnd ((7 : Int32) * x_20 : Int32) fun (x_24 : Int32) => bnd ((54 : Int32) + x_24 : Int32) fun (x_25 : Int32) => bnd (x_25 + (0 : Int32) : Int32) fun (x_26 : Int32) => bnd (fz1 (x_26 : Int32).toNatClampNeg : Int32) fun (x_27 : Int32) => bnd ((upd f_21 (46 : Int32).toNatClampNeg x_27) : Nat → Int32) fun (f_28 : Nat → Int32) => bnd (x_25 + (1 : Int32) : Int32) fun (x_31 : Int32) => bnd (fz1 (x_31 : Int32).toNatClampNeg : Int32) fun (x_32 : Int32) => bnd ((upd f_28 (47 : Int32).toNatClampNeg x_32) : Nat → Int32) fun (f_33 : Nat → Int32) => bnd (x_25 + (2 : Int32) : Int32) fun (x_36 : Int32) => bnd (fz1 (x_36 : Int32).toNatClampNeg : Int32) fun (x_37 : Int32) => bnd ((upd f_33 (48 : Int32).toNatClampNeg x_37) : Nat → Int32) fun (f_38 : Nat → Int32) => bnd (x_25 + (3 : Int32) : Int32) fun (x_41 : Int32) => bnd (fz1 (x_41 : Int32).toNatClampNeg : Int32) fun (x_42 : Int32) => bnd ((upd f_38 (49 : Int32).toNatClampNeg x_42) : Nat → Int32) fun (f_43 : Nat → Int32) => bnd (x_25 + (4 : Int32) : Int32) fun (x_46 : Int32) => bnd (fz1 (x_46 : Int32).toNatClampNeg : Int32) fun (x_47 : Int32) => bnd ((upd f_43 (50 : Int32).toNatClampNeg x_47) : Nat → Int32) fun (f_48 : Nat → Int32) => bnd (x_25 + (5 : Int32) : Int32) fun (x_51 : Int32) => bnd (fz1 (x_51 : Int32).toNatClampNeg : Int32) fun (x_52 : Int32) => bnd ((upd f_48 (51 : Int32).toNatClampNeg x_52) : Nat → Int32) fun (f_53 : Nat → Int32) => bnd (x_25 + (6 : Int32) : Int32) fun (x_56 : Int32) => bnd (fz1 (x_56 : Int32).toNatClampNeg : Int32) fun (x_57 : Int32) => bnd ((upd f_53 (52 : Int32).toNatClampNeg x_57) : Nat → Int32) fun (f_58 : Nat → Int32) => (x_20, (0 : Int32), f_58)) else ((((-3) : Int32), (0 : Int32), fz1)))
set_option maxHeartbeats 4000000 in
set_option maxRecDepth 100000 in
theorem k_X10_undo_0 (l : Launch) (V : GV) (z : Nat → Nat) (a1 : Int32) (pz0_0 : Int32) (pz0_5 : Int32) (pz0_6 : Int32) (pz0_7 : Int32) (pz0_8 : Int32) (pz0_9 : Int32) (pz0_10 : Int32) (pz0_11 : Int32) (pz0_12 : Int32) (pz0_13 : Int32) (pz0_14 : Int32) (pz0_18 : Int32) (pz0_19 : Int32) (pz0_22 : Int32) (pz0_23 : Int32) (pz0_29 : Int32) (fz1 : Nat → Int32) (bpz0_5 : iv 0 900 pz0_5) (bpz0_6 : iv 0 900 pz0_6) (bpz0_7 : iv 0 900 pz0_7) (bpz0_8 : iv 0 900 pz0_8) (bpz0_10 : iv 0 999 pz0_10) (bpz0_11 : iv 0 4 pz0_11) (bpz0_12 : iv 0 900 pz0_12) (bpz0_13 : iv 0 4 pz0_13) (bpz0_14 : iv (-1) 900 pz0_14) (bpz0_18 : iv 0 2 pz0_18) (bpz0_22 : iv 0 9999 pz0_22) (bpz0_29 : iv 0 10000 pz0_29) (tfz1 : ivT tA fz1) (hf0 : RW fz1) : Ct l V yX10_undo (.code yX10_undo cX10_undo 3 (some .int)) 2 [.ref (z 0), .int a1] [(z 0, .inr (10, mo z pz0_0 pz0_5 pz0_6 pz0_7 pz0_8 pz0_9 pz0_10 pz0_11 pz0_12 pz0_13 pz0_14 pz0_18 pz0_19 pz0_22 pz0_23 pz0_29)), (z 1, aI V 3075 fz1)] 0 0 (QI V (fun (r : Int32) (w : va_W) => ∃ (v0 : Int32) (g1 : Nat → Int32), (ivT tA g1) ∧ iv (-3) 9 r ∧ (RW g1) ∧ r = (F_k_X10_undo_0 a1 fz1).1 ∧ v0 = (F_k_X10_undo_0 a1 fz1).2.1 ∧ g1 = (F_k_X10_undo_0 a1 fz1).2.2 ∧ w = [(z 0, .inr (10, mo z v0 pz0_5 pz0_6 pz0_7 pz0_8 pz0_9 pz0_10 pz0_11 pz0_12 pz0_13 pz0_14 pz0_18 pz0_19 pz0_22 pz0_23 pz0_29)), (z 1, aI V 3075 g1)])) := by
  refine Ct.of (by decide) (Nat.le_of_ble_eq_true rfl) (fun p e s m below meth c A ls hx hb hr hml hown hlk hnm hg hP hK hD hE hA hS hl => ?_)
  have hl : lv_has ls 3 [(0, .ref (z 0)), (1, .int a1)] := hl
  obtain ⟨T0, hT0⟩ : ∃ T9, T9 = F_k_X10_undo_0 a1 fz1 := ⟨_, rfl⟩
  have hR := hT0.trans (F_k_X10_undo_0.eq_1 ..)
  refine lv_aload_n hx hb dX10_undo_0 rfl (lv_at hl 0 rfl) ?_
  refine lv_iconst (v := 0) hx hb dX10_undo_1 (by decide) ?_
  refine va_put (ci := 10) (v := .int 0) (ty := .int) (C := RX10) (T := TX10) (N := 40) hx hb hg inX10 tyX10 tyX10_ok nmX10 hown hK hP hD hS 0 rfl rfl 0 (by decide) (hg _ q_5_224) (fun _ h9 => h9) rfl (by decide +kernel) rfl rfl (Nat.le_of_ble_eq_true rfl) dX10_undo_2 (fun H locs hP hD hS => ?_)
  have hP : va_P V.1 vwCl [(z 0, .inr (10, mo z 0 pz0_5 pz0_6 pz0_7 pz0_8 pz0_9 pz0_10 pz0_11 pz0_12 pz0_13 pz0_14 pz0_18 pz0_19 pz0_22 pz0_23 pz0_29)), (z 1, aI V 3075 fz1)] H := hP
  have hD := cpD hP hD
  refine lv_iload_n hx hb dX10_undo_5 rfl (lv_at hl 1 rfl) ?_
  refine lv_i2l hx hb dX10_undo_6 rfl ?_
  refine lv_topl (fun j_1 ej_1 => ?_)
  replace hR := tb hR ej_1
  refine lv_lconst (v := 1) hx hb dX10_undo_7 (by decide) ?_
  refine lv_ldc2 (v := 10) hx hb hown (hg _ q_7_102) dX10_undo_8 ?_
  refine jnI (wr := [(z 0, .inr (10, mo z 0 pz0_5 pz0_6 pz0_7 pz0_8 pz0_9 pz0_10 pz0_11 pz0_12 pz0_13 pz0_14 pz0_18 pz0_19 pz0_22 pz0_23 pz0_29)), (z 1, aI V 3075 fz1)]) (rnS (rest := []) ⟨hx, hb, hml, hown, hg⟩ (k_X10_within_0 l V j_1 1 10) mt_X10_within q_6_114 ⟨Nat.le_of_ble_eq_true rfl, Nat.le_of_ble_eq_true rfl⟩ hK hP hD hS hA hE [] rfl rfl rfl hl.1 rfl (Nat.le_of_ble_eq_true rfl) dX10_undo_11 ⟨Nat.le_of_ble_eq_true rfl, Nat.le_of_ble_eq_true rfl⟩) hP hD hS hA [] [0, 1] rfl rfl rfl (by decide) (fun r_2 w H locs hw hP hD hS => ?_)
  obtain ⟨br_2, g_3, g_4, g_5, et_6, rfl⟩ := hw
  replace hR := tb hR et_6
  have hP : va_P V.1 vwCl [(z 0, .inr (10, mo z 0 pz0_5 pz0_6 pz0_7 pz0_8 pz0_9 pz0_10 pz0_11 pz0_12 pz0_13 pz0_14 pz0_18 pz0_19 pz0_22 pz0_23 pz0_29)), (z 1, aI V 3075 fz1)] H := hP
  have hD := cpD hP hD
  refine lv_if_eq (tgt := 28) hx hb dX10_undo_14 (by decide) (fun c_8 => ?_) (fun c_8 => ?_)
  · replace hR := ti hR c_8
    have b_9 : iv 0 0 r_2 := iv_q c_8 (iv_c (0 : Int32) (a := 0) (b := 0) (by decide))
    refine lv_bipush (v := (-3)) hx hb dX10_undo_28 (by decide) ?_
    exact fiI hx hb hr hlk hK hP hD hS dX10_undo_30 (Nat.le_of_ble_eq_true rfl) (Nat.le_of_ble_eq_true rfl) (⟨0, fz1, tfz1, (iv_c ((-3) : Int32) (by decide)), hf0, (congrArg Prod.fst (hR.symm.trans hT0)), (congrArg Prod.fst (congrArg Prod.snd (hR.symm.trans hT0))), (congrArg Prod.snd (congrArg Prod.snd (hR.symm.trans hT0))), rfl⟩)
  · replace hR := te hR c_8
    have b_10 : iv 1 1 r_2 := iv_n0 c_8 br_2 (iv_c (0 : Int32) (a := 0) (b := 0) (by decide)) (by decide)
    have c_11 : (1 : Int64) ≤ j_1 := (g_4 (iv_eqp b_10 (iv_c (1 : Int32) (by decide))))
    have b_12 : ivL 1 9223372036854775807 j_1 := ivL_e2 c_11 (ivL_c (1 : Int64) (a := 1) (b := 1) (by decide)) (ivL_top j_1) (by decide)
    have b_13 : iv 1 2147483647 a1 := iv_cap (ivL_i ej_1 b_12) (iv_top a1) (by decide)
    have c_14 : j_1 ≤ 10 := (g_5 (iv_eqp b_10 (iv_c (1 : Int32) (by decide))))
    have b_15 : ivL 1 10 j_1 := ivL_e1 c_14 b_12 (ivL_c (10 : Int64) (a := 10) (b := 10) (by decide)) (by decide)
    have b_16 : iv 1 10 a1 := iv_cap (ivL_i ej_1 b_15) b_13 (by decide)
    refine lv_iload_n hx hb dX10_undo_17 rfl (lv_at hl 1 rfl) ?_
    refine lv_aload_n hx hb dX10_undo_18 rfl (lv_at hl 0 rfl) ?_
    refine va_get (ci := 10) (v := .ref (z 1)) (C := RX10) (T := TX10) (N := 40) hx hb hg inX10 hown hK hP 0 rfl rfl 1 (by decide) (hg _ q_5_225) (fun _ h9 => h9) rfl dX10_undo_19 ?_
    refine lv_bipush (v := 53) hx hb dX10_undo_22 (by decide) ?_
    refine va_iald hx hb hK hP 1 0 rfl rfl (vin (by decide +kernel)) dX10_undo_24 ?_
    refine lv_topi (fun x_17 ex_17 => ?_)
    have bx_17 : iv 0 10 x_17 := by rw [ex_17]; exact rdT (a := 53) (n := 1) tfz1 (iv_c (53 : Int32) (a := 53) (b := 53) (by decide)) (by decide) (by decide +kernel)
    replace hR := tb hR ex_17
    refine lv_icmp_le (tgt := 31) hx hb dX10_undo_25 (by decide) (fun c_18 => ?_) (fun c_18 => ?_)
    · replace hR := ti hR c_18
      have b_19 : iv 1 10 x_17 := iv_e2 c_18 b_16 bx_17 (by decide)
      refine lv_aload_n hx hb dX10_undo_31 rfl (lv_at hl 0 rfl) ?_
      refine va_get (ci := 10) (v := .ref (z 1)) (C := RX10) (T := TX10) (N := 40) hx hb hg inX10 hown hK hP 0 rfl rfl 1 (by decide) (hg _ q_5_225) (fun _ h9 => h9) rfl dX10_undo_32 ?_
      refine lv_bipush (v := 53) hx hb dX10_undo_35 (by decide) ?_
      refine lv_dup2_11 hx hb dX10_undo_37 rfl rfl ?_
      refine va_iald hx hb hK hP 1 0 rfl rfl (vin (by decide +kernel)) dX10_undo_38 ?_
      refine tpi (y := x_17) ex_17.symm ?_
      refine lv_iload_n hx hb dX10_undo_39 rfl (lv_at hl 1 rfl) ?_
      refine lv_isub hx hb dX10_undo_40 ?_
      refine lv_topi (fun x_20 ex_20 => ?_)
      have bx_20 : iv 0 9 x_20 := by rw [ex_20]; exact iv_subl c_18 b_19 b_16 (by decide)
      replace hR := tb hR ex_20
      refine va_iast hx hb hK hP hD hS 1 0 rfl rfl (vin (by decide +kernel)) dX10_undo_41 (fun H locs hP hD hS => ?_)
      obtain ⟨f_21, ef_21, tf_21, hP, hD⟩ : ∃ f_21 : Nat → Int32, f_21 = (upd fz1 (53 : Int32).toNatClampNeg x_20) ∧ (ivT tA f_21) ∧ va_P V.1 vwCl [(z 0, .inr (10, mo z 0 pz0_5 pz0_6 pz0_7 pz0_8 pz0_9 pz0_10 pz0_11 pz0_12 pz0_13 pz0_14 pz0_18 pz0_19 pz0_22 pz0_23 pz0_29)), (z 1, aI V 3075 f_21)] H ∧ va_D A [(z 0, .inr (10, mo z 0 pz0_5 pz0_6 pz0_7 pz0_8 pz0_9 pz0_10 pz0_11 pz0_12 pz0_13 pz0_14 pz0_18 pz0_19 pz0_22 pz0_23 pz0_29)), (z 1, aI V 3075 f_21)] := ⟨_, rfl, upT (lo := 0) (hi := 10) (a := 53) (n := 1) tfz1 (iv_c (53 : Int32) (a := 53) (b := 53) (by decide)) (by decide) (iv_w bx_20 (by decide)) (by decide +kernel), hP, hD⟩
      replace hR := tb hR ef_21
      refine lv_iconst (v := 0) hx hb dX10_undo_42 (by decide) ?_
      refine lv_istore_n (lv' := [(2, .int 0), (0, .ref (z 0)), (1, .int a1)]) hx hb dX10_undo_43 rfl hl (by decide) rfl (fun ls hl => ?_)
      refine lv_iload_n hx hb dX10_undo_44 rfl (lv_at hl 0 rfl) ?_
      refine lv_bipush (v := 7) hx hb dX10_undo_45 (by decide) ?_
      refine lv_icmp_ge (tgt := 85) hx hb dX10_undo_47 (by decide) (fun c_23 => absurd c_23 (by decide)) (fun _ => ?_)
      refine lv_aload_n hx hb dX10_undo_50 rfl (lv_at hl 1 rfl) ?_
      refine va_get (ci := 10) (v := .ref (z 1)) (C := RX10) (T := TX10) (N := 40) hx hb hg inX10 hown hK hP 0 rfl rfl 1 (by decide) (hg _ q_5_225) (fun _ h9 => h9) rfl dX10_undo_51 ?_
      refine lv_bipush (v := 46) hx hb dX10_undo_54 (by decide) ?_
      refine lv_iload_n hx hb dX10_undo_56 rfl (lv_at hl 0 rfl) ?_
      refine lv_iadd hx hb dX10_undo_57 ?_
      refine tpi (y := 46) (by decide +kernel) ?_
      refine lv_aload_n hx hb dX10_undo_58 rfl (lv_at hl 1 rfl) ?_
      refine va_get (ci := 10) (v := .ref (z 1)) (C := RX10) (T := TX10) (N := 40) hx hb hg inX10 hown hK hP 0 rfl rfl 1 (by decide) (hg _ q_5_225) (fun _ h9 => h9) rfl dX10_undo_59 ?_
      refine lv_bipush (v := 54) hx hb dX10_undo_62 (by decide) ?_
      refine lv_bipush (v := 7) hx hb dX10_undo_64 (by decide) ?_
      refine lv_aload_n hx hb dX10_undo_66 rfl (lv_at hl 1 rfl) ?_
      refine va_get (ci := 10) (v := .ref (z 1)) (C := RX10) (T := TX10) (N := 40) hx hb hg inX10 hown hK hP 0 rfl rfl 1 (by decide) (hg _ q_5_225) (fun _ h9 => h9) rfl dX10_undo_67 ?_
      refine lv_bipush (v := 53) hx hb dX10_undo_70 (by decide) ?_
      refine va_iald hx hb hK hP 1 0 rfl rfl (vin (by decide +kernel)) dX10_undo_72 ?_
      refine tpi (y := x_20) (show f_21 (53 : Int32).toNatClampNeg = x_20 from by rw [ef_21]; exact upd_at) ?_
      refine lv_imul hx hb dX10_undo_73 ?_
      refine lv_topi (fun x_24 ex_24 => ?_)
      have bx_24 : iv 0 63 x_24 := by rw [ex_24]; exact iv_cmul (iv_c (7 : Int32) (a := 7) (b := 7) (by decide)) bx_20 (by decide)
      replace hR := tb hR ex_24
      refine lv_iadd hx hb dX10_undo_74 ?_
      refine lv_topi (fun x_25 ex_25 => ?_)
      have bx_25 : iv 54 117 x_25 := by rw [ex_25]; exact iv_add (iv_c (54 : Int32) (a := 54) (b := 54) (by decide)) bx_24 (by decide)
      replace hR := tb hR ex_25
      refine lv_iload_n hx hb dX10_undo_75 rfl (lv_at hl 0 rfl) ?_
      refine lv_iadd hx hb dX10_undo_76 ?_
      refine lv_topi (fun x_26 ex_26 => ?_)
      have bx_26 : iv 54 117 x_26 := by rw [ex_26]; exact iv_add bx_25 (iv_c (0 : Int32) (a := 0) (b := 0) (by decide)) (by decide)
      replace hR := tb hR ex_26
      refine va_iald hx hb hK hP 1 0 rfl rfl (iv_in bx_26 (by decide)) dX10_undo_77 ?_
      refine tpi (y := fz1 (x_26 : Int32).toNatClampNeg) (show f_21 (x_26 : Int32).toNatClampNeg = fz1 (x_26 : Int32).toNatClampNeg from by rw [ef_21]; exact upd_ne (cl_ne bx_26 (iv_c (53 : Int32) (a := 53) (b := 53) (by decide)) (by decide))) ?_
      refine lv_topi (fun x_27 ex_27 => ?_)
      have bx_27 : iv 0 4 x_27 := by rw [ex_27]; exact (by have q_x_24 := toInt_mulC (k := 7) ex_24 bx_20 (by decide) (by decide); have q_x_25 := toInt_add ex_25 (iv_c (54 : Int32) (a := 54) (b := 54) (by decide)) bx_24 (by decide); have k_x_25 : (54 : Int32).toInt = 54 := (by decide); have q_x_26 := toInt_add ex_26 bx_25 (iv_c (0 : Int32) (a := 0) (b := 0) (by decide)) (by decide); have k_x_26 : (0 : Int32).toInt = 0 := (by decide); exact rdS (c := 54) (k := 7) (a := 0) (n := 10) tfz1 (show _ = 54 + 7 * (x_20 : Int32).toInt by omega) bx_20 (by decide) (by decide +kernel))
      replace hR := tb hR ex_27
      refine va_iast hx hb hK hP hD hS 1 0 rfl rfl (vin (by decide +kernel)) dX10_undo_78 (fun H locs hP hD hS => ?_)
      obtain ⟨f_28, ef_28, tf_28, hP, hD⟩ : ∃ f_28 : Nat → Int32, f_28 = (upd f_21 (46 : Int32).toNatClampNeg x_27) ∧ (ivT tA f_28) ∧ va_P V.1 vwCl [(z 0, .inr (10, mo z 0 pz0_5 pz0_6 pz0_7 pz0_8 pz0_9 pz0_10 pz0_11 pz0_12 pz0_13 pz0_14 pz0_18 pz0_19 pz0_22 pz0_23 pz0_29)), (z 1, aI V 3075 f_28)] H ∧ va_D A [(z 0, .inr (10, mo z 0 pz0_5 pz0_6 pz0_7 pz0_8 pz0_9 pz0_10 pz0_11 pz0_12 pz0_13 pz0_14 pz0_18 pz0_19 pz0_22 pz0_23 pz0_29)), (z 1, aI V 3075 f_28)] := ⟨_, rfl, upT (lo := 0) (hi := 4) (a := 46) (n := 1) tf_21 (iv_c (46 : Int32) (a := 46) (b := 46) (by decide)) (by decide) bx_27 (by decide +kernel), hP, hD⟩
      replace hR := tb hR ef_28
      refine lv_iinc (v := 1) (lv' := [(2, .int 1), (0, .ref (z 0)), (1, .int a1)]) hx hb dX10_undo_79 hl (k := 0) rfl (by decide +kernel) (by decide) rfl (fun ls hl => ?_)
      refine lv_goto (tgt := 44) hx hb dX10_undo_82 (by decide) ?_
      refine lv_iload_n hx hb dX10_undo_44 rfl (lv_at hl 0 rfl) ?_
      refine lv_bipush (v := 7) hx hb dX10_undo_45 (by decide) ?_
      refine lv_icmp_ge (tgt := 85) hx hb dX10_undo_47 (by decide) (fun c_30 => absurd c_30 (by decide)) (fun _ => ?_)
      refine lv_aload_n hx hb dX10_undo_50 rfl (lv_at hl 1 rfl) ?_
      refine va_get (ci := 10) (v := .ref (z 1)) (C := RX10) (T := TX10) (N := 40) hx hb hg inX10 hown hK hP 0 rfl rfl 1 (by decide) (hg _ q_5_225) (fun _ h9 => h9) rfl dX10_undo_51 ?_
      refine lv_bipush (v := 46) hx hb dX10_undo_54 (by decide) ?_
      refine lv_iload_n hx hb dX10_undo_56 rfl (lv_at hl 0 rfl) ?_
      refine lv_iadd hx hb dX10_undo_57 ?_
      refine tpi (y := 47) (by decide +kernel) ?_
      refine lv_aload_n hx hb dX10_undo_58 rfl (lv_at hl 1 rfl) ?_
      refine va_get (ci := 10) (v := .ref (z 1)) (C := RX10) (T := TX10) (N := 40) hx hb hg inX10 hown hK hP 0 rfl rfl 1 (by decide) (hg _ q_5_225) (fun _ h9 => h9) rfl dX10_undo_59 ?_
      refine lv_bipush (v := 54) hx hb dX10_undo_62 (by decide) ?_
      refine lv_bipush (v := 7) hx hb dX10_undo_64 (by decide) ?_
      refine lv_aload_n hx hb dX10_undo_66 rfl (lv_at hl 1 rfl) ?_
      refine va_get (ci := 10) (v := .ref (z 1)) (C := RX10) (T := TX10) (N := 40) hx hb hg inX10 hown hK hP 0 rfl rfl 1 (by decide) (hg _ q_5_225) (fun _ h9 => h9) rfl dX10_undo_67 ?_
      refine lv_bipush (v := 53) hx hb dX10_undo_70 (by decide) ?_
      refine va_iald hx hb hK hP 1 0 rfl rfl (vin (by decide +kernel)) dX10_undo_72 ?_
      refine tpi (y := x_20) ((show f_28 (53 : Int32).toNatClampNeg = f_21 (53 : Int32).toNatClampNeg from by rw [ef_28]; exact upd_ne (cl_ne (iv_c (53 : Int32) (a := 53) (b := 53) (by decide)) (iv_c (46 : Int32) (a := 46) (b := 46) (by decide)) (by decide))).trans (show f_21 (53 : Int32).toNatClampNeg = x_20 from by rw [ef_21]; exact upd_at)) ?_
      refine lv_imul hx hb dX10_undo_73 ?_
      refine tpi (y := x_24) ex_24.symm ?_
      refine lv_iadd hx hb dX10_undo_74 ?_
      refine tpi (y := x_25) ex_25.symm ?_
      refine lv_iload_n hx hb dX10_undo_75 rfl (lv_at hl 0 rfl) ?_
      refine lv_iadd hx hb dX10_undo_76 ?_
      refine lv_topi (fun x_31 ex_31 => ?_)
      have bx_31 : iv 55 118 x_31 := by rw [ex_31]; exact iv_add bx_25 (iv_c (1 : Int32) (a := 1) (b := 1) (by decide)) (by decide)
      replace hR := tb hR ex_31
      refine va_iald hx hb hK hP 1 0 rfl rfl (iv_in bx_31 (by decide)) dX10_undo_77 ?_
      refine tpi (y := fz1 (x_31 : Int32).toNatClampNeg) ((show f_28 (x_31 : Int32).toNatClampNeg = f_21 (x_31 : Int32).toNatClampNeg from by rw [ef_28]; exact upd_ne (cl_ne bx_31 (iv_c (46 : Int32) (a := 46) (b := 46) (by decide)) (by decide))).trans (show f_21 (x_31 : Int32).toNatClampNeg = fz1 (x_31 : Int32).toNatClampNeg from by rw [ef_21]; exact upd_ne (cl_ne bx_31 (iv_c (53 : Int32) (a := 53) (b := 53) (by decide)) (by decide)))) ?_
      refine lv_topi (fun x_32 ex_32 => ?_)
      have bx_32 : iv 0 4 x_32 := by rw [ex_32]; exact (by have q_x_24 := toInt_mulC (k := 7) ex_24 bx_20 (by decide) (by decide); have q_x_25 := toInt_add ex_25 (iv_c (54 : Int32) (a := 54) (b := 54) (by decide)) bx_24 (by decide); have k_x_25 : (54 : Int32).toInt = 54 := (by decide); have q_x_31 := toInt_add ex_31 bx_25 (iv_c (1 : Int32) (a := 1) (b := 1) (by decide)) (by decide); have k_x_31 : (1 : Int32).toInt = 1 := (by decide); exact rdS (c := 55) (k := 7) (a := 0) (n := 10) tfz1 (show _ = 55 + 7 * (x_20 : Int32).toInt by omega) bx_20 (by decide) (by decide +kernel))
      replace hR := tb hR ex_32
      refine va_iast hx hb hK hP hD hS 1 0 rfl rfl (vin (by decide +kernel)) dX10_undo_78 (fun H locs hP hD hS => ?_)
      obtain ⟨f_33, ef_33, tf_33, hP, hD⟩ : ∃ f_33 : Nat → Int32, f_33 = (upd f_28 (47 : Int32).toNatClampNeg x_32) ∧ (ivT tA f_33) ∧ va_P V.1 vwCl [(z 0, .inr (10, mo z 0 pz0_5 pz0_6 pz0_7 pz0_8 pz0_9 pz0_10 pz0_11 pz0_12 pz0_13 pz0_14 pz0_18 pz0_19 pz0_22 pz0_23 pz0_29)), (z 1, aI V 3075 f_33)] H ∧ va_D A [(z 0, .inr (10, mo z 0 pz0_5 pz0_6 pz0_7 pz0_8 pz0_9 pz0_10 pz0_11 pz0_12 pz0_13 pz0_14 pz0_18 pz0_19 pz0_22 pz0_23 pz0_29)), (z 1, aI V 3075 f_33)] := ⟨_, rfl, upT (lo := 0) (hi := 4) (a := 47) (n := 1) tf_28 (iv_c (47 : Int32) (a := 47) (b := 47) (by decide)) (by decide) bx_32 (by decide +kernel), hP, hD⟩
      replace hR := tb hR ef_33
      refine lv_iinc (v := 2) (lv' := [(2, .int 2), (0, .ref (z 0)), (1, .int a1)]) hx hb dX10_undo_79 hl (k := 0) rfl (by decide +kernel) (by decide) rfl (fun ls hl => ?_)
      refine lv_goto (tgt := 44) hx hb dX10_undo_82 (by decide) ?_
      refine lv_iload_n hx hb dX10_undo_44 rfl (lv_at hl 0 rfl) ?_
      refine lv_bipush (v := 7) hx hb dX10_undo_45 (by decide) ?_
      refine lv_icmp_ge (tgt := 85) hx hb dX10_undo_47 (by decide) (fun c_35 => absurd c_35 (by decide)) (fun _ => ?_)
      refine lv_aload_n hx hb dX10_undo_50 rfl (lv_at hl 1 rfl) ?_
      refine va_get (ci := 10) (v := .ref (z 1)) (C := RX10) (T := TX10) (N := 40) hx hb hg inX10 hown hK hP 0 rfl rfl 1 (by decide) (hg _ q_5_225) (fun _ h9 => h9) rfl dX10_undo_51 ?_
      refine lv_bipush (v := 46) hx hb dX10_undo_54 (by decide) ?_
      refine lv_iload_n hx hb dX10_undo_56 rfl (lv_at hl 0 rfl) ?_
      refine lv_iadd hx hb dX10_undo_57 ?_
      refine tpi (y := 48) (by decide +kernel) ?_
      refine lv_aload_n hx hb dX10_undo_58 rfl (lv_at hl 1 rfl) ?_
      refine va_get (ci := 10) (v := .ref (z 1)) (C := RX10) (T := TX10) (N := 40) hx hb hg inX10 hown hK hP 0 rfl rfl 1 (by decide) (hg _ q_5_225) (fun _ h9 => h9) rfl dX10_undo_59 ?_
      refine lv_bipush (v := 54) hx hb dX10_undo_62 (by decide) ?_
      refine lv_bipush (v := 7) hx hb dX10_undo_64 (by decide) ?_
      refine lv_aload_n hx hb dX10_undo_66 rfl (lv_at hl 1 rfl) ?_
      refine va_get (ci := 10) (v := .ref (z 1)) (C := RX10) (T := TX10) (N := 40) hx hb hg inX10 hown hK hP 0 rfl rfl 1 (by decide) (hg _ q_5_225) (fun _ h9 => h9) rfl dX10_undo_67 ?_
      refine lv_bipush (v := 53) hx hb dX10_undo_70 (by decide) ?_
      refine va_iald hx hb hK hP 1 0 rfl rfl (vin (by decide +kernel)) dX10_undo_72 ?_
      refine tpi (y := x_20) (((show f_33 (53 : Int32).toNatClampNeg = f_28 (53 : Int32).toNatClampNeg from by rw [ef_33]; exact upd_ne (cl_ne (iv_c (53 : Int32) (a := 53) (b := 53) (by decide)) (iv_c (47 : Int32) (a := 47) (b := 47) (by decide)) (by decide))).trans (show f_28 (53 : Int32).toNatClampNeg = f_21 (53 : Int32).toNatClampNeg from by rw [ef_28]; exact upd_ne (cl_ne (iv_c (53 : Int32) (a := 53) (b := 53) (by decide)) (iv_c (46 : Int32) (a := 46) (b := 46) (by decide)) (by decide)))).trans (show f_21 (53 : Int32).toNatClampNeg = x_20 from by rw [ef_21]; exact upd_at)) ?_
      refine lv_imul hx hb dX10_undo_73 ?_
      refine tpi (y := x_24) ex_24.symm ?_
      refine lv_iadd hx hb dX10_undo_74 ?_
      refine tpi (y := x_25) ex_25.symm ?_
      refine lv_iload_n hx hb dX10_undo_75 rfl (lv_at hl 0 rfl) ?_
      refine lv_iadd hx hb dX10_undo_76 ?_
      refine lv_topi (fun x_36 ex_36 => ?_)
      have bx_36 : iv 56 119 x_36 := by rw [ex_36]; exact iv_add bx_25 (iv_c (2 : Int32) (a := 2) (b := 2) (by decide)) (by decide)
      replace hR := tb hR ex_36
      refine va_iald hx hb hK hP 1 0 rfl rfl (iv_in bx_36 (by decide)) dX10_undo_77 ?_
      refine tpi (y := fz1 (x_36 : Int32).toNatClampNeg) (((show f_33 (x_36 : Int32).toNatClampNeg = f_28 (x_36 : Int32).toNatClampNeg from by rw [ef_33]; exact upd_ne (cl_ne bx_36 (iv_c (47 : Int32) (a := 47) (b := 47) (by decide)) (by decide))).trans (show f_28 (x_36 : Int32).toNatClampNeg = f_21 (x_36 : Int32).toNatClampNeg from by rw [ef_28]; exact upd_ne (cl_ne bx_36 (iv_c (46 : Int32) (a := 46) (b := 46) (by decide)) (by decide)))).trans (show f_21 (x_36 : Int32).toNatClampNeg = fz1 (x_36 : Int32).toNatClampNeg from by rw [ef_21]; exact upd_ne (cl_ne bx_36 (iv_c (53 : Int32) (a := 53) (b := 53) (by decide)) (by decide)))) ?_
      refine lv_topi (fun x_37 ex_37 => ?_)
      have bx_37 : iv 0 4 x_37 := by rw [ex_37]; exact (by have q_x_24 := toInt_mulC (k := 7) ex_24 bx_20 (by decide) (by decide); have q_x_25 := toInt_add ex_25 (iv_c (54 : Int32) (a := 54) (b := 54) (by decide)) bx_24 (by decide); have k_x_25 : (54 : Int32).toInt = 54 := (by decide); have q_x_36 := toInt_add ex_36 bx_25 (iv_c (2 : Int32) (a := 2) (b := 2) (by decide)) (by decide); have k_x_36 : (2 : Int32).toInt = 2 := (by decide); exact rdS (c := 56) (k := 7) (a := 0) (n := 10) tfz1 (show _ = 56 + 7 * (x_20 : Int32).toInt by omega) bx_20 (by decide) (by decide +kernel))
      replace hR := tb hR ex_37
      refine va_iast hx hb hK hP hD hS 1 0 rfl rfl (vin (by decide +kernel)) dX10_undo_78 (fun H locs hP hD hS => ?_)
      obtain ⟨f_38, ef_38, tf_38, hP, hD⟩ : ∃ f_38 : Nat → Int32, f_38 = (upd f_33 (48 : Int32).toNatClampNeg x_37) ∧ (ivT tA f_38) ∧ va_P V.1 vwCl [(z 0, .inr (10, mo z 0 pz0_5 pz0_6 pz0_7 pz0_8 pz0_9 pz0_10 pz0_11 pz0_12 pz0_13 pz0_14 pz0_18 pz0_19 pz0_22 pz0_23 pz0_29)), (z 1, aI V 3075 f_38)] H ∧ va_D A [(z 0, .inr (10, mo z 0 pz0_5 pz0_6 pz0_7 pz0_8 pz0_9 pz0_10 pz0_11 pz0_12 pz0_13 pz0_14 pz0_18 pz0_19 pz0_22 pz0_23 pz0_29)), (z 1, aI V 3075 f_38)] := ⟨_, rfl, upT (lo := 0) (hi := 4) (a := 48) (n := 1) tf_33 (iv_c (48 : Int32) (a := 48) (b := 48) (by decide)) (by decide) bx_37 (by decide +kernel), hP, hD⟩
      replace hR := tb hR ef_38
      refine lv_iinc (v := 3) (lv' := [(2, .int 3), (0, .ref (z 0)), (1, .int a1)]) hx hb dX10_undo_79 hl (k := 0) rfl (by decide +kernel) (by decide) rfl (fun ls hl => ?_)
      refine lv_goto (tgt := 44) hx hb dX10_undo_82 (by decide) ?_
      refine lv_iload_n hx hb dX10_undo_44 rfl (lv_at hl 0 rfl) ?_
      refine lv_bipush (v := 7) hx hb dX10_undo_45 (by decide) ?_
      refine lv_icmp_ge (tgt := 85) hx hb dX10_undo_47 (by decide) (fun c_40 => absurd c_40 (by decide)) (fun _ => ?_)
      refine lv_aload_n hx hb dX10_undo_50 rfl (lv_at hl 1 rfl) ?_
      refine va_get (ci := 10) (v := .ref (z 1)) (C := RX10) (T := TX10) (N := 40) hx hb hg inX10 hown hK hP 0 rfl rfl 1 (by decide) (hg _ q_5_225) (fun _ h9 => h9) rfl dX10_undo_51 ?_
      refine lv_bipush (v := 46) hx hb dX10_undo_54 (by decide) ?_
      refine lv_iload_n hx hb dX10_undo_56 rfl (lv_at hl 0 rfl) ?_
      refine lv_iadd hx hb dX10_undo_57 ?_
      refine tpi (y := 49) (by decide +kernel) ?_
      refine lv_aload_n hx hb dX10_undo_58 rfl (lv_at hl 1 rfl) ?_
      refine va_get (ci := 10) (v := .ref (z 1)) (C := RX10) (T := TX10) (N := 40) hx hb hg inX10 hown hK hP 0 rfl rfl 1 (by decide) (hg _ q_5_225) (fun _ h9 => h9) rfl dX10_undo_59 ?_
      refine lv_bipush (v := 54) hx hb dX10_undo_62 (by decide) ?_
      refine lv_bipush (v := 7) hx hb dX10_undo_64 (by decide) ?_
      refine lv_aload_n hx hb dX10_undo_66 rfl (lv_at hl 1 rfl) ?_
      refine va_get (ci := 10) (v := .ref (z 1)) (C := RX10) (T := TX10) (N := 40) hx hb hg inX10 hown hK hP 0 rfl rfl 1 (by decide) (hg _ q_5_225) (fun _ h9 => h9) rfl dX10_undo_67 ?_
      refine lv_bipush (v := 53) hx hb dX10_undo_70 (by decide) ?_
      refine va_iald hx hb hK hP 1 0 rfl rfl (vin (by decide +kernel)) dX10_undo_72 ?_
      refine tpi (y := x_20) ((((show f_38 (53 : Int32).toNatClampNeg = f_33 (53 : Int32).toNatClampNeg from by rw [ef_38]; exact upd_ne (cl_ne (iv_c (53 : Int32) (a := 53) (b := 53) (by decide)) (iv_c (48 : Int32) (a := 48) (b := 48) (by decide)) (by decide))).trans (show f_33 (53 : Int32).toNatClampNeg = f_28 (53 : Int32).toNatClampNeg from by rw [ef_33]; exact upd_ne (cl_ne (iv_c (53 : Int32) (a := 53) (b := 53) (by decide)) (iv_c (47 : Int32) (a := 47) (b := 47) (by decide)) (by decide)))).trans (show f_28 (53 : Int32).toNatClampNeg = f_21 (53 : Int32).toNatClampNeg from by rw [ef_28]; exact upd_ne (cl_ne (iv_c (53 : Int32) (a := 53) (b := 53) (by decide)) (iv_c (46 : Int32) (a := 46) (b := 46) (by decide)) (by decide)))).trans (show f_21 (53 : Int32).toNatClampNeg = x_20 from by rw [ef_21]; exact upd_at)) ?_
      refine lv_imul hx hb dX10_undo_73 ?_
      refine tpi (y := x_24) ex_24.symm ?_
      refine lv_iadd hx hb dX10_undo_74 ?_
      refine tpi (y := x_25) ex_25.symm ?_
      refine lv_iload_n hx hb dX10_undo_75 rfl (lv_at hl 0 rfl) ?_
      refine lv_iadd hx hb dX10_undo_76 ?_
      refine lv_topi (fun x_41 ex_41 => ?_)
      have bx_41 : iv 57 120 x_41 := by rw [ex_41]; exact iv_add bx_25 (iv_c (3 : Int32) (a := 3) (b := 3) (by decide)) (by decide)
      replace hR := tb hR ex_41
      refine va_iald hx hb hK hP 1 0 rfl rfl (iv_in bx_41 (by decide)) dX10_undo_77 ?_
      refine tpi (y := fz1 (x_41 : Int32).toNatClampNeg) ((((show f_38 (x_41 : Int32).toNatClampNeg = f_33 (x_41 : Int32).toNatClampNeg from by rw [ef_38]; exact upd_ne (cl_ne bx_41 (iv_c (48 : Int32) (a := 48) (b := 48) (by decide)) (by decide))).trans (show f_33 (x_41 : Int32).toNatClampNeg = f_28 (x_41 : Int32).toNatClampNeg from by rw [ef_33]; exact upd_ne (cl_ne bx_41 (iv_c (47 : Int32) (a := 47) (b := 47) (by decide)) (by decide)))).trans (show f_28 (x_41 : Int32).toNatClampNeg = f_21 (x_41 : Int32).toNatClampNeg from by rw [ef_28]; exact upd_ne (cl_ne bx_41 (iv_c (46 : Int32) (a := 46) (b := 46) (by decide)) (by decide)))).trans (show f_21 (x_41 : Int32).toNatClampNeg = fz1 (x_41 : Int32).toNatClampNeg from by rw [ef_21]; exact upd_ne (cl_ne bx_41 (iv_c (53 : Int32) (a := 53) (b := 53) (by decide)) (by decide)))) ?_
      refine lv_topi (fun x_42 ex_42 => ?_)
      have bx_42 : iv 0 4 x_42 := by rw [ex_42]; exact (by have q_x_24 := toInt_mulC (k := 7) ex_24 bx_20 (by decide) (by decide); have q_x_25 := toInt_add ex_25 (iv_c (54 : Int32) (a := 54) (b := 54) (by decide)) bx_24 (by decide); have k_x_25 : (54 : Int32).toInt = 54 := (by decide); have q_x_41 := toInt_add ex_41 bx_25 (iv_c (3 : Int32) (a := 3) (b := 3) (by decide)) (by decide); have k_x_41 : (3 : Int32).toInt = 3 := (by decide); exact rdS (c := 57) (k := 7) (a := 0) (n := 10) tfz1 (show _ = 57 + 7 * (x_20 : Int32).toInt by omega) bx_20 (by decide) (by decide +kernel))
      replace hR := tb hR ex_42
      refine va_iast hx hb hK hP hD hS 1 0 rfl rfl (vin (by decide +kernel)) dX10_undo_78 (fun H locs hP hD hS => ?_)
      obtain ⟨f_43, ef_43, tf_43, hP, hD⟩ : ∃ f_43 : Nat → Int32, f_43 = (upd f_38 (49 : Int32).toNatClampNeg x_42) ∧ (ivT tA f_43) ∧ va_P V.1 vwCl [(z 0, .inr (10, mo z 0 pz0_5 pz0_6 pz0_7 pz0_8 pz0_9 pz0_10 pz0_11 pz0_12 pz0_13 pz0_14 pz0_18 pz0_19 pz0_22 pz0_23 pz0_29)), (z 1, aI V 3075 f_43)] H ∧ va_D A [(z 0, .inr (10, mo z 0 pz0_5 pz0_6 pz0_7 pz0_8 pz0_9 pz0_10 pz0_11 pz0_12 pz0_13 pz0_14 pz0_18 pz0_19 pz0_22 pz0_23 pz0_29)), (z 1, aI V 3075 f_43)] := ⟨_, rfl, upT (lo := 0) (hi := 4) (a := 49) (n := 1) tf_38 (iv_c (49 : Int32) (a := 49) (b := 49) (by decide)) (by decide) bx_42 (by decide +kernel), hP, hD⟩
      replace hR := tb hR ef_43
      refine lv_iinc (v := 4) (lv' := [(2, .int 4), (0, .ref (z 0)), (1, .int a1)]) hx hb dX10_undo_79 hl (k := 0) rfl (by decide +kernel) (by decide) rfl (fun ls hl => ?_)
      refine lv_goto (tgt := 44) hx hb dX10_undo_82 (by decide) ?_
      refine lv_iload_n hx hb dX10_undo_44 rfl (lv_at hl 0 rfl) ?_
      refine lv_bipush (v := 7) hx hb dX10_undo_45 (by decide) ?_
      refine lv_icmp_ge (tgt := 85) hx hb dX10_undo_47 (by decide) (fun c_45 => absurd c_45 (by decide)) (fun _ => ?_)
      refine lv_aload_n hx hb dX10_undo_50 rfl (lv_at hl 1 rfl) ?_
      refine va_get (ci := 10) (v := .ref (z 1)) (C := RX10) (T := TX10) (N := 40) hx hb hg inX10 hown hK hP 0 rfl rfl 1 (by decide) (hg _ q_5_225) (fun _ h9 => h9) rfl dX10_undo_51 ?_
      refine lv_bipush (v := 46) hx hb dX10_undo_54 (by decide) ?_
      refine lv_iload_n hx hb dX10_undo_56 rfl (lv_at hl 0 rfl) ?_
      refine lv_iadd hx hb dX10_undo_57 ?_
      refine tpi (y := 50) (by decide +kernel) ?_
      refine lv_aload_n hx hb dX10_undo_58 rfl (lv_at hl 1 rfl) ?_
      refine va_get (ci := 10) (v := .ref (z 1)) (C := RX10) (T := TX10) (N := 40) hx hb hg inX10 hown hK hP 0 rfl rfl 1 (by decide) (hg _ q_5_225) (fun _ h9 => h9) rfl dX10_undo_59 ?_
      refine lv_bipush (v := 54) hx hb dX10_undo_62 (by decide) ?_
      refine lv_bipush (v := 7) hx hb dX10_undo_64 (by decide) ?_
      refine lv_aload_n hx hb dX10_undo_66 rfl (lv_at hl 1 rfl) ?_
      refine va_get (ci := 10) (v := .ref (z 1)) (C := RX10) (T := TX10) (N := 40) hx hb hg inX10 hown hK hP 0 rfl rfl 1 (by decide) (hg _ q_5_225) (fun _ h9 => h9) rfl dX10_undo_67 ?_
      refine lv_bipush (v := 53) hx hb dX10_undo_70 (by decide) ?_
      refine va_iald hx hb hK hP 1 0 rfl rfl (vin (by decide +kernel)) dX10_undo_72 ?_
      refine tpi (y := x_20) (((((show f_43 (53 : Int32).toNatClampNeg = f_38 (53 : Int32).toNatClampNeg from by rw [ef_43]; exact upd_ne (cl_ne (iv_c (53 : Int32) (a := 53) (b := 53) (by decide)) (iv_c (49 : Int32) (a := 49) (b := 49) (by decide)) (by decide))).trans (show f_38 (53 : Int32).toNatClampNeg = f_33 (53 : Int32).toNatClampNeg from by rw [ef_38]; exact upd_ne (cl_ne (iv_c (53 : Int32) (a := 53) (b := 53) (by decide)) (iv_c (48 : Int32) (a := 48) (b := 48) (by decide)) (by decide)))).trans (show f_33 (53 : Int32).toNatClampNeg = f_28 (53 : Int32).toNatClampNeg from by rw [ef_33]; exact upd_ne (cl_ne (iv_c (53 : Int32) (a := 53) (b := 53) (by decide)) (iv_c (47 : Int32) (a := 47) (b := 47) (by decide)) (by decide)))).trans (show f_28 (53 : Int32).toNatClampNeg = f_21 (53 : Int32).toNatClampNeg from by rw [ef_28]; exact upd_ne (cl_ne (iv_c (53 : Int32) (a := 53) (b := 53) (by decide)) (iv_c (46 : Int32) (a := 46) (b := 46) (by decide)) (by decide)))).trans (show f_21 (53 : Int32).toNatClampNeg = x_20 from by rw [ef_21]; exact upd_at)) ?_
      refine lv_imul hx hb dX10_undo_73 ?_
      refine tpi (y := x_24) ex_24.symm ?_
      refine lv_iadd hx hb dX10_undo_74 ?_
      refine tpi (y := x_25) ex_25.symm ?_
      refine lv_iload_n hx hb dX10_undo_75 rfl (lv_at hl 0 rfl) ?_
      refine lv_iadd hx hb dX10_undo_76 ?_
      refine lv_topi (fun x_46 ex_46 => ?_)
      have bx_46 : iv 58 121 x_46 := by rw [ex_46]; exact iv_add bx_25 (iv_c (4 : Int32) (a := 4) (b := 4) (by decide)) (by decide)
      replace hR := tb hR ex_46
      refine va_iald hx hb hK hP 1 0 rfl rfl (iv_in bx_46 (by decide)) dX10_undo_77 ?_
      refine tpi (y := fz1 (x_46 : Int32).toNatClampNeg) (((((show f_43 (x_46 : Int32).toNatClampNeg = f_38 (x_46 : Int32).toNatClampNeg from by rw [ef_43]; exact upd_ne (cl_ne bx_46 (iv_c (49 : Int32) (a := 49) (b := 49) (by decide)) (by decide))).trans (show f_38 (x_46 : Int32).toNatClampNeg = f_33 (x_46 : Int32).toNatClampNeg from by rw [ef_38]; exact upd_ne (cl_ne bx_46 (iv_c (48 : Int32) (a := 48) (b := 48) (by decide)) (by decide)))).trans (show f_33 (x_46 : Int32).toNatClampNeg = f_28 (x_46 : Int32).toNatClampNeg from by rw [ef_33]; exact upd_ne (cl_ne bx_46 (iv_c (47 : Int32) (a := 47) (b := 47) (by decide)) (by decide)))).trans (show f_28 (x_46 : Int32).toNatClampNeg = f_21 (x_46 : Int32).toNatClampNeg from by rw [ef_28]; exact upd_ne (cl_ne bx_46 (iv_c (46 : Int32) (a := 46) (b := 46) (by decide)) (by decide)))).trans (show f_21 (x_46 : Int32).toNatClampNeg = fz1 (x_46 : Int32).toNatClampNeg from by rw [ef_21]; exact upd_ne (cl_ne bx_46 (iv_c (53 : Int32) (a := 53) (b := 53) (by decide)) (by decide)))) ?_
      refine lv_topi (fun x_47 ex_47 => ?_)
      have bx_47 : iv 0 15 x_47 := by rw [ex_47]; exact (by have q_x_24 := toInt_mulC (k := 7) ex_24 bx_20 (by decide) (by decide); have q_x_25 := toInt_add ex_25 (iv_c (54 : Int32) (a := 54) (b := 54) (by decide)) bx_24 (by decide); have k_x_25 : (54 : Int32).toInt = 54 := (by decide); have q_x_46 := toInt_add ex_46 bx_25 (iv_c (4 : Int32) (a := 4) (b := 4) (by decide)) (by decide); have k_x_46 : (4 : Int32).toInt = 4 := (by decide); exact rdS (c := 58) (k := 7) (a := 0) (n := 10) tfz1 (show _ = 58 + 7 * (x_20 : Int32).toInt by omega) bx_20 (by decide) (by decide +kernel))
      replace hR := tb hR ex_47
      refine va_iast hx hb hK hP hD hS 1 0 rfl rfl (vin (by decide +kernel)) dX10_undo_78 (fun H locs hP hD hS => ?_)
      obtain ⟨f_48, ef_48, tf_48, hP, hD⟩ : ∃ f_48 : Nat → Int32, f_48 = (upd f_43 (50 : Int32).toNatClampNeg x_47) ∧ (ivT tA f_48) ∧ va_P V.1 vwCl [(z 0, .inr (10, mo z 0 pz0_5 pz0_6 pz0_7 pz0_8 pz0_9 pz0_10 pz0_11 pz0_12 pz0_13 pz0_14 pz0_18 pz0_19 pz0_22 pz0_23 pz0_29)), (z 1, aI V 3075 f_48)] H ∧ va_D A [(z 0, .inr (10, mo z 0 pz0_5 pz0_6 pz0_7 pz0_8 pz0_9 pz0_10 pz0_11 pz0_12 pz0_13 pz0_14 pz0_18 pz0_19 pz0_22 pz0_23 pz0_29)), (z 1, aI V 3075 f_48)] := ⟨_, rfl, upT (lo := 0) (hi := 15) (a := 50) (n := 1) tf_43 (iv_c (50 : Int32) (a := 50) (b := 50) (by decide)) (by decide) bx_47 (by decide +kernel), hP, hD⟩
      replace hR := tb hR ef_48
      refine lv_iinc (v := 5) (lv' := [(2, .int 5), (0, .ref (z 0)), (1, .int a1)]) hx hb dX10_undo_79 hl (k := 0) rfl (by decide +kernel) (by decide) rfl (fun ls hl => ?_)
      refine lv_goto (tgt := 44) hx hb dX10_undo_82 (by decide) ?_
      refine lv_iload_n hx hb dX10_undo_44 rfl (lv_at hl 0 rfl) ?_
      refine lv_bipush (v := 7) hx hb dX10_undo_45 (by decide) ?_
      refine lv_icmp_ge (tgt := 85) hx hb dX10_undo_47 (by decide) (fun c_50 => absurd c_50 (by decide)) (fun _ => ?_)
      refine lv_aload_n hx hb dX10_undo_50 rfl (lv_at hl 1 rfl) ?_
      refine va_get (ci := 10) (v := .ref (z 1)) (C := RX10) (T := TX10) (N := 40) hx hb hg inX10 hown hK hP 0 rfl rfl 1 (by decide) (hg _ q_5_225) (fun _ h9 => h9) rfl dX10_undo_51 ?_
      refine lv_bipush (v := 46) hx hb dX10_undo_54 (by decide) ?_
      refine lv_iload_n hx hb dX10_undo_56 rfl (lv_at hl 0 rfl) ?_
      refine lv_iadd hx hb dX10_undo_57 ?_
      refine tpi (y := 51) (by decide +kernel) ?_
      refine lv_aload_n hx hb dX10_undo_58 rfl (lv_at hl 1 rfl) ?_
      refine va_get (ci := 10) (v := .ref (z 1)) (C := RX10) (T := TX10) (N := 40) hx hb hg inX10 hown hK hP 0 rfl rfl 1 (by decide) (hg _ q_5_225) (fun _ h9 => h9) rfl dX10_undo_59 ?_
      refine lv_bipush (v := 54) hx hb dX10_undo_62 (by decide) ?_
      refine lv_bipush (v := 7) hx hb dX10_undo_64 (by decide) ?_
      refine lv_aload_n hx hb dX10_undo_66 rfl (lv_at hl 1 rfl) ?_
      refine va_get (ci := 10) (v := .ref (z 1)) (C := RX10) (T := TX10) (N := 40) hx hb hg inX10 hown hK hP 0 rfl rfl 1 (by decide) (hg _ q_5_225) (fun _ h9 => h9) rfl dX10_undo_67 ?_
      refine lv_bipush (v := 53) hx hb dX10_undo_70 (by decide) ?_
      refine va_iald hx hb hK hP 1 0 rfl rfl (vin (by decide +kernel)) dX10_undo_72 ?_
      refine tpi (y := x_20) ((((((show f_48 (53 : Int32).toNatClampNeg = f_43 (53 : Int32).toNatClampNeg from by rw [ef_48]; exact upd_ne (cl_ne (iv_c (53 : Int32) (a := 53) (b := 53) (by decide)) (iv_c (50 : Int32) (a := 50) (b := 50) (by decide)) (by decide))).trans (show f_43 (53 : Int32).toNatClampNeg = f_38 (53 : Int32).toNatClampNeg from by rw [ef_43]; exact upd_ne (cl_ne (iv_c (53 : Int32) (a := 53) (b := 53) (by decide)) (iv_c (49 : Int32) (a := 49) (b := 49) (by decide)) (by decide)))).trans (show f_38 (53 : Int32).toNatClampNeg = f_33 (53 : Int32).toNatClampNeg from by rw [ef_38]; exact upd_ne (cl_ne (iv_c (53 : Int32) (a := 53) (b := 53) (by decide)) (iv_c (48 : Int32) (a := 48) (b := 48) (by decide)) (by decide)))).trans (show f_33 (53 : Int32).toNatClampNeg = f_28 (53 : Int32).toNatClampNeg from by rw [ef_33]; exact upd_ne (cl_ne (iv_c (53 : Int32) (a := 53) (b := 53) (by decide)) (iv_c (47 : Int32) (a := 47) (b := 47) (by decide)) (by decide)))).trans (show f_28 (53 : Int32).toNatClampNeg = f_21 (53 : Int32).toNatClampNeg from by rw [ef_28]; exact upd_ne (cl_ne (iv_c (53 : Int32) (a := 53) (b := 53) (by decide)) (iv_c (46 : Int32) (a := 46) (b := 46) (by decide)) (by decide)))).trans (show f_21 (53 : Int32).toNatClampNeg = x_20 from by rw [ef_21]; exact upd_at)) ?_
      refine lv_imul hx hb dX10_undo_73 ?_
      refine tpi (y := x_24) ex_24.symm ?_
      refine lv_iadd hx hb dX10_undo_74 ?_
      refine tpi (y := x_25) ex_25.symm ?_
      refine lv_iload_n hx hb dX10_undo_75 rfl (lv_at hl 0 rfl) ?_
      refine lv_iadd hx hb dX10_undo_76 ?_
      refine lv_topi (fun x_51 ex_51 => ?_)
      have bx_51 : iv 59 122 x_51 := by rw [ex_51]; exact iv_add bx_25 (iv_c (5 : Int32) (a := 5) (b := 5) (by decide)) (by decide)
      replace hR := tb hR ex_51
      refine va_iald hx hb hK hP 1 0 rfl rfl (iv_in bx_51 (by decide)) dX10_undo_77 ?_
      refine tpi (y := fz1 (x_51 : Int32).toNatClampNeg) ((((((show f_48 (x_51 : Int32).toNatClampNeg = f_43 (x_51 : Int32).toNatClampNeg from by rw [ef_48]; exact upd_ne (cl_ne bx_51 (iv_c (50 : Int32) (a := 50) (b := 50) (by decide)) (by decide))).trans (show f_43 (x_51 : Int32).toNatClampNeg = f_38 (x_51 : Int32).toNatClampNeg from by rw [ef_43]; exact upd_ne (cl_ne bx_51 (iv_c (49 : Int32) (a := 49) (b := 49) (by decide)) (by decide)))).trans (show f_38 (x_51 : Int32).toNatClampNeg = f_33 (x_51 : Int32).toNatClampNeg from by rw [ef_38]; exact upd_ne (cl_ne bx_51 (iv_c (48 : Int32) (a := 48) (b := 48) (by decide)) (by decide)))).trans (show f_33 (x_51 : Int32).toNatClampNeg = f_28 (x_51 : Int32).toNatClampNeg from by rw [ef_33]; exact upd_ne (cl_ne bx_51 (iv_c (47 : Int32) (a := 47) (b := 47) (by decide)) (by decide)))).trans (show f_28 (x_51 : Int32).toNatClampNeg = f_21 (x_51 : Int32).toNatClampNeg from by rw [ef_28]; exact upd_ne (cl_ne bx_51 (iv_c (46 : Int32) (a := 46) (b := 46) (by decide)) (by decide)))).trans (show f_21 (x_51 : Int32).toNatClampNeg = fz1 (x_51 : Int32).toNatClampNeg from by rw [ef_21]; exact upd_ne (cl_ne bx_51 (iv_c (53 : Int32) (a := 53) (b := 53) (by decide)) (by decide)))) ?_
      refine lv_topi (fun x_52 ex_52 => ?_)
      have bx_52 : iv 0 9 x_52 := by rw [ex_52]; exact (by have q_x_24 := toInt_mulC (k := 7) ex_24 bx_20 (by decide) (by decide); have q_x_25 := toInt_add ex_25 (iv_c (54 : Int32) (a := 54) (b := 54) (by decide)) bx_24 (by decide); have k_x_25 : (54 : Int32).toInt = 54 := (by decide); have q_x_51 := toInt_add ex_51 bx_25 (iv_c (5 : Int32) (a := 5) (b := 5) (by decide)) (by decide); have k_x_51 : (5 : Int32).toInt = 5 := (by decide); exact rdS (c := 59) (k := 7) (a := 0) (n := 10) tfz1 (show _ = 59 + 7 * (x_20 : Int32).toInt by omega) bx_20 (by decide) (by decide +kernel))
      replace hR := tb hR ex_52
      refine va_iast hx hb hK hP hD hS 1 0 rfl rfl (vin (by decide +kernel)) dX10_undo_78 (fun H locs hP hD hS => ?_)
      obtain ⟨f_53, ef_53, tf_53, hP, hD⟩ : ∃ f_53 : Nat → Int32, f_53 = (upd f_48 (51 : Int32).toNatClampNeg x_52) ∧ (ivT tA f_53) ∧ va_P V.1 vwCl [(z 0, .inr (10, mo z 0 pz0_5 pz0_6 pz0_7 pz0_8 pz0_9 pz0_10 pz0_11 pz0_12 pz0_13 pz0_14 pz0_18 pz0_19 pz0_22 pz0_23 pz0_29)), (z 1, aI V 3075 f_53)] H ∧ va_D A [(z 0, .inr (10, mo z 0 pz0_5 pz0_6 pz0_7 pz0_8 pz0_9 pz0_10 pz0_11 pz0_12 pz0_13 pz0_14 pz0_18 pz0_19 pz0_22 pz0_23 pz0_29)), (z 1, aI V 3075 f_53)] := ⟨_, rfl, upT (lo := 0) (hi := 9) (a := 51) (n := 1) tf_48 (iv_c (51 : Int32) (a := 51) (b := 51) (by decide)) (by decide) bx_52 (by decide +kernel), hP, hD⟩
      replace hR := tb hR ef_53
      refine lv_iinc (v := 6) (lv' := [(2, .int 6), (0, .ref (z 0)), (1, .int a1)]) hx hb dX10_undo_79 hl (k := 0) rfl (by decide +kernel) (by decide) rfl (fun ls hl => ?_)
      refine lv_goto (tgt := 44) hx hb dX10_undo_82 (by decide) ?_
      refine lv_iload_n hx hb dX10_undo_44 rfl (lv_at hl 0 rfl) ?_
      refine lv_bipush (v := 7) hx hb dX10_undo_45 (by decide) ?_
      refine lv_icmp_ge (tgt := 85) hx hb dX10_undo_47 (by decide) (fun c_55 => absurd c_55 (by decide)) (fun _ => ?_)
      refine lv_aload_n hx hb dX10_undo_50 rfl (lv_at hl 1 rfl) ?_
      refine va_get (ci := 10) (v := .ref (z 1)) (C := RX10) (T := TX10) (N := 40) hx hb hg inX10 hown hK hP 0 rfl rfl 1 (by decide) (hg _ q_5_225) (fun _ h9 => h9) rfl dX10_undo_51 ?_
      refine lv_bipush (v := 46) hx hb dX10_undo_54 (by decide) ?_
      refine lv_iload_n hx hb dX10_undo_56 rfl (lv_at hl 0 rfl) ?_
      refine lv_iadd hx hb dX10_undo_57 ?_
      refine tpi (y := 52) (by decide +kernel) ?_
      refine lv_aload_n hx hb dX10_undo_58 rfl (lv_at hl 1 rfl) ?_
      refine va_get (ci := 10) (v := .ref (z 1)) (C := RX10) (T := TX10) (N := 40) hx hb hg inX10 hown hK hP 0 rfl rfl 1 (by decide) (hg _ q_5_225) (fun _ h9 => h9) rfl dX10_undo_59 ?_
      refine lv_bipush (v := 54) hx hb dX10_undo_62 (by decide) ?_
      refine lv_bipush (v := 7) hx hb dX10_undo_64 (by decide) ?_
      refine lv_aload_n hx hb dX10_undo_66 rfl (lv_at hl 1 rfl) ?_
      refine va_get (ci := 10) (v := .ref (z 1)) (C := RX10) (T := TX10) (N := 40) hx hb hg inX10 hown hK hP 0 rfl rfl 1 (by decide) (hg _ q_5_225) (fun _ h9 => h9) rfl dX10_undo_67 ?_
      refine lv_bipush (v := 53) hx hb dX10_undo_70 (by decide) ?_
      refine va_iald hx hb hK hP 1 0 rfl rfl (vin (by decide +kernel)) dX10_undo_72 ?_
      refine tpi (y := x_20) (((((((show f_53 (53 : Int32).toNatClampNeg = f_48 (53 : Int32).toNatClampNeg from by rw [ef_53]; exact upd_ne (cl_ne (iv_c (53 : Int32) (a := 53) (b := 53) (by decide)) (iv_c (51 : Int32) (a := 51) (b := 51) (by decide)) (by decide))).trans (show f_48 (53 : Int32).toNatClampNeg = f_43 (53 : Int32).toNatClampNeg from by rw [ef_48]; exact upd_ne (cl_ne (iv_c (53 : Int32) (a := 53) (b := 53) (by decide)) (iv_c (50 : Int32) (a := 50) (b := 50) (by decide)) (by decide)))).trans (show f_43 (53 : Int32).toNatClampNeg = f_38 (53 : Int32).toNatClampNeg from by rw [ef_43]; exact upd_ne (cl_ne (iv_c (53 : Int32) (a := 53) (b := 53) (by decide)) (iv_c (49 : Int32) (a := 49) (b := 49) (by decide)) (by decide)))).trans (show f_38 (53 : Int32).toNatClampNeg = f_33 (53 : Int32).toNatClampNeg from by rw [ef_38]; exact upd_ne (cl_ne (iv_c (53 : Int32) (a := 53) (b := 53) (by decide)) (iv_c (48 : Int32) (a := 48) (b := 48) (by decide)) (by decide)))).trans (show f_33 (53 : Int32).toNatClampNeg = f_28 (53 : Int32).toNatClampNeg from by rw [ef_33]; exact upd_ne (cl_ne (iv_c (53 : Int32) (a := 53) (b := 53) (by decide)) (iv_c (47 : Int32) (a := 47) (b := 47) (by decide)) (by decide)))).trans (show f_28 (53 : Int32).toNatClampNeg = f_21 (53 : Int32).toNatClampNeg from by rw [ef_28]; exact upd_ne (cl_ne (iv_c (53 : Int32) (a := 53) (b := 53) (by decide)) (iv_c (46 : Int32) (a := 46) (b := 46) (by decide)) (by decide)))).trans (show f_21 (53 : Int32).toNatClampNeg = x_20 from by rw [ef_21]; exact upd_at)) ?_
      refine lv_imul hx hb dX10_undo_73 ?_
      refine tpi (y := x_24) ex_24.symm ?_
      refine lv_iadd hx hb dX10_undo_74 ?_
      refine tpi (y := x_25) ex_25.symm ?_
      refine lv_iload_n hx hb dX10_undo_75 rfl (lv_at hl 0 rfl) ?_
      refine lv_iadd hx hb dX10_undo_76 ?_
      refine lv_topi (fun x_56 ex_56 => ?_)
      have bx_56 : iv 60 123 x_56 := by rw [ex_56]; exact iv_add bx_25 (iv_c (6 : Int32) (a := 6) (b := 6) (by decide)) (by decide)
      replace hR := tb hR ex_56
      refine va_iald hx hb hK hP 1 0 rfl rfl (iv_in bx_56 (by decide)) dX10_undo_77 ?_
      refine tpi (y := fz1 (x_56 : Int32).toNatClampNeg) (((((((show f_53 (x_56 : Int32).toNatClampNeg = f_48 (x_56 : Int32).toNatClampNeg from by rw [ef_53]; exact upd_ne (cl_ne bx_56 (iv_c (51 : Int32) (a := 51) (b := 51) (by decide)) (by decide))).trans (show f_48 (x_56 : Int32).toNatClampNeg = f_43 (x_56 : Int32).toNatClampNeg from by rw [ef_48]; exact upd_ne (cl_ne bx_56 (iv_c (50 : Int32) (a := 50) (b := 50) (by decide)) (by decide)))).trans (show f_43 (x_56 : Int32).toNatClampNeg = f_38 (x_56 : Int32).toNatClampNeg from by rw [ef_43]; exact upd_ne (cl_ne bx_56 (iv_c (49 : Int32) (a := 49) (b := 49) (by decide)) (by decide)))).trans (show f_38 (x_56 : Int32).toNatClampNeg = f_33 (x_56 : Int32).toNatClampNeg from by rw [ef_38]; exact upd_ne (cl_ne bx_56 (iv_c (48 : Int32) (a := 48) (b := 48) (by decide)) (by decide)))).trans (show f_33 (x_56 : Int32).toNatClampNeg = f_28 (x_56 : Int32).toNatClampNeg from by rw [ef_33]; exact upd_ne (cl_ne bx_56 (iv_c (47 : Int32) (a := 47) (b := 47) (by decide)) (by decide)))).trans (show f_28 (x_56 : Int32).toNatClampNeg = f_21 (x_56 : Int32).toNatClampNeg from by rw [ef_28]; exact upd_ne (cl_ne bx_56 (iv_c (46 : Int32) (a := 46) (b := 46) (by decide)) (by decide)))).trans (show f_21 (x_56 : Int32).toNatClampNeg = fz1 (x_56 : Int32).toNatClampNeg from by rw [ef_21]; exact upd_ne (cl_ne bx_56 (iv_c (53 : Int32) (a := 53) (b := 53) (by decide)) (by decide)))) ?_
      refine lv_topi (fun x_57 ex_57 => ?_)
      replace hR := tb hR ex_57
      refine va_iast hx hb hK hP hD hS 1 0 rfl rfl (vin (by decide +kernel)) dX10_undo_78 (fun H locs hP hD hS => ?_)
      obtain ⟨f_58, ef_58, tf_58, hP, hD⟩ : ∃ f_58 : Nat → Int32, f_58 = (upd f_53 (52 : Int32).toNatClampNeg x_57) ∧ (ivT tA f_58) ∧ va_P V.1 vwCl [(z 0, .inr (10, mo z 0 pz0_5 pz0_6 pz0_7 pz0_8 pz0_9 pz0_10 pz0_11 pz0_12 pz0_13 pz0_14 pz0_18 pz0_19 pz0_22 pz0_23 pz0_29)), (z 1, aI V 3075 f_58)] H ∧ va_D A [(z 0, .inr (10, mo z 0 pz0_5 pz0_6 pz0_7 pz0_8 pz0_9 pz0_10 pz0_11 pz0_12 pz0_13 pz0_14 pz0_18 pz0_19 pz0_22 pz0_23 pz0_29)), (z 1, aI V 3075 f_58)] := ⟨_, rfl, upT (lo := (-2147483648)) (hi := 2147483647) (a := 52) (n := 1) tf_53 (iv_c (52 : Int32) (a := 52) (b := 52) (by decide)) (by decide) (iv_top x_57) (by decide +kernel), hP, hD⟩
      replace hR := tb hR ef_58
      refine lv_iinc (v := 7) (lv' := [(2, .int 7), (0, .ref (z 0)), (1, .int a1)]) hx hb dX10_undo_79 hl (k := 0) rfl (by decide +kernel) (by decide) rfl (fun ls hl => ?_)
      refine lv_goto (tgt := 44) hx hb dX10_undo_82 (by decide) ?_
      refine lv_iload_n hx hb dX10_undo_44 rfl (lv_at hl 0 rfl) ?_
      refine lv_bipush (v := 7) hx hb dX10_undo_45 (by decide) ?_
      refine lv_icmp_ge (tgt := 85) hx hb dX10_undo_47 (by decide) (fun _ => ?_) (fun c_60 => absurd c_60 (by decide))
      refine lv_aload_n hx hb dX10_undo_85 rfl (lv_at hl 1 rfl) ?_
      refine va_get (ci := 10) (v := .ref (z 1)) (C := RX10) (T := TX10) (N := 40) hx hb hg inX10 hown hK hP 0 rfl rfl 1 (by decide) (hg _ q_5_225) (fun _ h9 => h9) rfl dX10_undo_86 ?_
      refine lv_bipush (v := 53) hx hb dX10_undo_89 (by decide) ?_
      refine va_iald hx hb hK hP 1 0 rfl rfl (vin (by decide +kernel)) dX10_undo_91 ?_
      refine tpi (y := x_20) ((((((((show f_58 (53 : Int32).toNatClampNeg = f_53 (53 : Int32).toNatClampNeg from by rw [ef_58]; exact upd_ne (cl_ne (iv_c (53 : Int32) (a := 53) (b := 53) (by decide)) (iv_c (52 : Int32) (a := 52) (b := 52) (by decide)) (by decide))).trans (show f_53 (53 : Int32).toNatClampNeg = f_48 (53 : Int32).toNatClampNeg from by rw [ef_53]; exact upd_ne (cl_ne (iv_c (53 : Int32) (a := 53) (b := 53) (by decide)) (iv_c (51 : Int32) (a := 51) (b := 51) (by decide)) (by decide)))).trans (show f_48 (53 : Int32).toNatClampNeg = f_43 (53 : Int32).toNatClampNeg from by rw [ef_48]; exact upd_ne (cl_ne (iv_c (53 : Int32) (a := 53) (b := 53) (by decide)) (iv_c (50 : Int32) (a := 50) (b := 50) (by decide)) (by decide)))).trans (show f_43 (53 : Int32).toNatClampNeg = f_38 (53 : Int32).toNatClampNeg from by rw [ef_43]; exact upd_ne (cl_ne (iv_c (53 : Int32) (a := 53) (b := 53) (by decide)) (iv_c (49 : Int32) (a := 49) (b := 49) (by decide)) (by decide)))).trans (show f_38 (53 : Int32).toNatClampNeg = f_33 (53 : Int32).toNatClampNeg from by rw [ef_38]; exact upd_ne (cl_ne (iv_c (53 : Int32) (a := 53) (b := 53) (by decide)) (iv_c (48 : Int32) (a := 48) (b := 48) (by decide)) (by decide)))).trans (show f_33 (53 : Int32).toNatClampNeg = f_28 (53 : Int32).toNatClampNeg from by rw [ef_33]; exact upd_ne (cl_ne (iv_c (53 : Int32) (a := 53) (b := 53) (by decide)) (iv_c (47 : Int32) (a := 47) (b := 47) (by decide)) (by decide)))).trans (show f_28 (53 : Int32).toNatClampNeg = f_21 (53 : Int32).toNatClampNeg from by rw [ef_28]; exact upd_ne (cl_ne (iv_c (53 : Int32) (a := 53) (b := 53) (by decide)) (iv_c (46 : Int32) (a := 46) (b := 46) (by decide)) (by decide)))).trans (show f_21 (53 : Int32).toNatClampNeg = x_20 from by rw [ef_21]; exact upd_at)) ?_
      exact fiI hx hb hr hlk hK hP hD hS dX10_undo_92 (Nat.le_of_ble_eq_true rfl) (Nat.le_of_ble_eq_true rfl) (⟨0, f_58, tf_58, (iv_w bx_20 (by decide)), (RW_up (RW_up (RW_up (RW_up (RW_up (RW_up (RW_up (RW_up hf0 (iv_c (53 : Int32) (a := 53) (b := 53) (by decide)) (by decide) ef_21) (iv_c (46 : Int32) (a := 46) (b := 46) (by decide)) (by decide) ef_28) (iv_c (47 : Int32) (a := 47) (b := 47) (by decide)) (by decide) ef_33) (iv_c (48 : Int32) (a := 48) (b := 48) (by decide)) (by decide) ef_38) (iv_c (49 : Int32) (a := 49) (b := 49) (by decide)) (by decide) ef_43) (iv_c (50 : Int32) (a := 50) (b := 50) (by decide)) (by decide) ef_48) (iv_c (51 : Int32) (a := 51) (b := 51) (by decide)) (by decide) ef_53) (iv_c (52 : Int32) (a := 52) (b := 52) (by decide)) (by decide) ef_58), (congrArg Prod.fst (hR.symm.trans hT0)), (congrArg Prod.fst (congrArg Prod.snd (hR.symm.trans hT0))), (congrArg Prod.snd (congrArg Prod.snd (hR.symm.trans hT0))), rfl⟩)
    · replace hR := te hR c_18
      have b_61 : iv 0 9 x_17 := iv_l1 (Int32.not_le.mp c_18) bx_17 b_16 (by decide)
      refine lv_bipush (v := (-3)) hx hb dX10_undo_28 (by decide) ?_
      exact fiI hx hb hr hlk hK hP hD hS dX10_undo_30 (Nat.le_of_ble_eq_true rfl) (Nat.le_of_ble_eq_true rfl) (⟨0, fz1, tfz1, (iv_c ((-3) : Int32) (by decide)), hf0, (congrArg Prod.fst (hR.symm.trans hT0)), (congrArg Prod.fst (congrArg Prod.snd (hR.symm.trans hT0))), (congrArg Prod.snd (congrArg Prod.snd (hR.symm.trans hT0))), rfl⟩)
theorem dX10_noTray_0 : decode cX10_noTray 0 = .ok (.iload_n 1, 1) := by decide +kernel
theorem dX10_noTray_1 : decode cX10_noTray 1 = .ok (.i2l, 1) := by decide +kernel
theorem dX10_noTray_2 : decode cX10_noTray 2 = .ok (.lconst 0, 1) := by decide +kernel
theorem q_7_107 : Cond.constantLong "BeaconDelayModel" 315 (3 : Int64) ∈ gw := gw_7 (i := 107) (by decide +kernel) rfl
theorem dX10_noTray_3 : decode cX10_noTray 3 = .ok (.ldc2_w 315, 3) := by decide +kernel
theorem dX10_noTray_6 : decode cX10_noTray 6 = .ok (.invokestatic 159, 3) := by decide +kernel
theorem dX10_noTray_9 : decode cX10_noTray 9 = .ok (.ifCond .ne 8, 3) := by decide +kernel
theorem dX10_noTray_17 : decode cX10_noTray 17 = .ok (.aload_n 0, 1) := by decide +kernel
theorem q_6_21 : Cond.fieldLink "BeaconDelayModel" 84 "BeaconDelayModel" "rowSort" "[I" ∈ gw := gw_6 (i := 21) (by decide +kernel) rfl
theorem dX10_noTray_18 : decode cX10_noTray 18 = .ok (.getfield 84, 3) := by decide +kernel
theorem dX10_noTray_21 : decode cX10_noTray 21 = .ok (.iload_n 1, 1) := by decide +kernel
theorem dX10_noTray_22 : decode cX10_noTray 22 = .ok (.iaload, 1) := by decide +kernel
theorem dX10_noTray_23 : decode cX10_noTray 23 = .ok (.iconst (-1), 1) := by decide +kernel
theorem dX10_noTray_24 : decode cX10_noTray 24 = .ok (.if_icmp .ne 8, 3) := by decide +kernel
theorem dX10_noTray_32 : decode cX10_noTray 32 = .ok (.iconst 0, 1) := by decide +kernel
theorem dX10_noTray_33 : decode cX10_noTray 33 = .ok (.ireturn, 1) := by decide +kernel
theorem dX10_noTray_27 : decode cX10_noTray 27 = .ok (.bipush (-6), 2) := by decide +kernel
theorem dX10_noTray_29 : decode cX10_noTray 29 = .ok (.goto 4, 3) := by decide +kernel
theorem dX10_noTray_12 : decode cX10_noTray 12 = .ok (.bipush (-2), 2) := by decide +kernel
theorem dX10_noTray_14 : decode cX10_noTray 14 = .ok (.goto 19, 3) := by decide +kernel
set_option maxRecDepth 100000 in
noncomputable def F_k_X10_noTray_0 (a1 : Int32) (fz37 : Nat → Int32) : Int32 := bnd (a1.toInt64 : Int64) fun (j_1 : Int64) => bnd (F_k_X10_within_0 j_1 (0 : Int64) (3 : Int64) : Int32) fun (r_2 : Int32) => if r_2 = (0 : Int32) then ((((-2) : Int32))) else (bnd (fz37 (a1 : Int32).toNatClampNeg : Int32) fun (x_16 : Int32) => if x_16 = ((-1) : Int32) then ((((-6) : Int32))) else (((0 : Int32))))
set_option maxHeartbeats 4000000 in
set_option maxRecDepth 100000 in
theorem k_X10_noTray_0 (l : Launch) (V : GV) (z : Nat → Nat) (a1 : Int32) (pz0_0 : Int32) (pz0_5 : Int32) (pz0_6 : Int32) (pz0_7 : Int32) (pz0_8 : Int32) (pz0_9 : Int32) (pz0_10 : Int32) (pz0_11 : Int32) (pz0_12 : Int32) (pz0_13 : Int32) (pz0_14 : Int32) (pz0_18 : Int32) (pz0_19 : Int32) (pz0_22 : Int32) (pz0_23 : Int32) (pz0_29 : Int32) (fz37 : Nat → Int32) (bpz0_5 : iv 0 900 pz0_5) (bpz0_6 : iv 0 900 pz0_6) (bpz0_7 : iv 0 900 pz0_7) (bpz0_8 : iv 0 900 pz0_8) (bpz0_10 : iv 0 999 pz0_10) (bpz0_11 : iv 0 4 pz0_11) (bpz0_12 : iv 0 900 pz0_12) (bpz0_13 : iv 0 4 pz0_13) (bpz0_14 : iv (-1) 900 pz0_14) (bpz0_18 : iv 0 2 pz0_18) (bpz0_22 : iv 0 9999 pz0_22) (bpz0_29 : iv 0 10000 pz0_29) (tfz37 : ∀ j, iv (-1) 3 (fz37 j)) : Ct l V yX10_noTray (.code yX10_noTray cX10_noTray 2 (some .int)) 2 [.ref (z 0), .int a1] [(z 0, .inr (10, mo z pz0_0 pz0_5 pz0_6 pz0_7 pz0_8 pz0_9 pz0_10 pz0_11 pz0_12 pz0_13 pz0_14 pz0_18 pz0_19 pz0_22 pz0_23 pz0_29)), (z 37, aI V 4 fz37)] 0 0 (QI V (fun (r : Int32) (w : va_W) => iv (-6) 0 r ∧ (r = 0 → iv 0 3 a1) ∧ r = (F_k_X10_noTray_0 a1 fz37) ∧ w = [(z 0, .inr (10, mo z pz0_0 pz0_5 pz0_6 pz0_7 pz0_8 pz0_9 pz0_10 pz0_11 pz0_12 pz0_13 pz0_14 pz0_18 pz0_19 pz0_22 pz0_23 pz0_29)), (z 37, aI V 4 fz37)])) := by
  refine Ct.of (by decide) (Nat.le_of_ble_eq_true rfl) (fun p e s m below meth c A ls hx hb hr hml hown hlk hnm hg hP hK hD hE hA hS hl => ?_)
  have hl : lv_has ls 2 [(0, .ref (z 0)), (1, .int a1)] := hl
  obtain ⟨T0, hT0⟩ : ∃ T9, T9 = F_k_X10_noTray_0 a1 fz37 := ⟨_, rfl⟩
  have hR := hT0.trans (F_k_X10_noTray_0.eq_1 ..)
  refine lv_iload_n hx hb dX10_noTray_0 rfl (lv_at hl 1 rfl) ?_
  refine lv_i2l hx hb dX10_noTray_1 rfl ?_
  refine lv_topl (fun j_1 ej_1 => ?_)
  replace hR := tb hR ej_1
  refine lv_lconst (v := 0) hx hb dX10_noTray_2 (by decide) ?_
  refine lv_ldc2 (v := 3) hx hb hown (hg _ q_7_107) dX10_noTray_3 ?_
  refine jnI (wr := [(z 0, .inr (10, mo z pz0_0 pz0_5 pz0_6 pz0_7 pz0_8 pz0_9 pz0_10 pz0_11 pz0_12 pz0_13 pz0_14 pz0_18 pz0_19 pz0_22 pz0_23 pz0_29)), (z 37, aI V 4 fz37)]) (rnS (rest := []) ⟨hx, hb, hml, hown, hg⟩ (k_X10_within_0 l V j_1 0 3) mt_X10_within q_6_114 ⟨Nat.le_of_ble_eq_true rfl, Nat.le_of_ble_eq_true rfl⟩ hK hP hD hS hA hE [] rfl rfl rfl hl.1 rfl (Nat.le_of_ble_eq_true rfl) dX10_noTray_6 ⟨Nat.le_of_ble_eq_true rfl, Nat.le_of_ble_eq_true rfl⟩) hP hD hS hA [] [0, 1] rfl rfl rfl (by decide) (fun r_2 w H locs hw hP hD hS => ?_)
  obtain ⟨br_2, g_3, g_4, g_5, et_6, rfl⟩ := hw
  replace hR := tb hR et_6
  have hP : va_P V.1 vwCl [(z 0, .inr (10, mo z pz0_0 pz0_5 pz0_6 pz0_7 pz0_8 pz0_9 pz0_10 pz0_11 pz0_12 pz0_13 pz0_14 pz0_18 pz0_19 pz0_22 pz0_23 pz0_29)), (z 37, aI V 4 fz37)] H := hP
  have hD := cpD hP hD
  refine lv_if_ne (tgt := 17) hx hb dX10_noTray_9 (by decide) (fun c_8 => ?_) (fun c_8 => ?_)
  · replace hR := te hR c_8
    have b_9 : iv 1 1 r_2 := iv_n0 c_8 br_2 (iv_c (0 : Int32) (a := 0) (b := 0) (by decide)) (by decide)
    have c_10 : (0 : Int64) ≤ j_1 := (g_4 (iv_eqp b_9 (iv_c (1 : Int32) (by decide))))
    have b_11 : ivL 0 9223372036854775807 j_1 := ivL_e2 c_10 (ivL_c (0 : Int64) (a := 0) (b := 0) (by decide)) (ivL_top j_1) (by decide)
    have b_12 : iv 0 2147483647 a1 := iv_cap (ivL_i ej_1 b_11) (iv_top a1) (by decide)
    have c_13 : j_1 ≤ 3 := (g_5 (iv_eqp b_9 (iv_c (1 : Int32) (by decide))))
    have b_14 : ivL 0 3 j_1 := ivL_e1 c_13 b_11 (ivL_c (3 : Int64) (a := 3) (b := 3) (by decide)) (by decide)
    have b_15 : iv 0 3 a1 := iv_cap (ivL_i ej_1 b_14) b_12 (by decide)
    refine lv_aload_n hx hb dX10_noTray_17 rfl (lv_at hl 0 rfl) ?_
    refine va_get (ci := 10) (v := .ref (z 37)) (C := RX10) (T := TX10) (N := 40) hx hb hg inX10 hown hK hP 0 rfl rfl 37 (by decide) (hg _ q_6_21) (fun _ h9 => h9) rfl dX10_noTray_18 ?_
    refine lv_iload_n hx hb dX10_noTray_21 rfl (lv_at hl 1 rfl) ?_
    refine va_iald hx hb hK hP 1 0 rfl rfl (iv_in b_15 (by decide)) dX10_noTray_22 ?_
    refine lv_topi (fun x_16 ex_16 => ?_)
    have bx_16 : iv (-1) 3 x_16 := by rw [ex_16]; exact tfz37 _
    replace hR := tb hR ex_16
    refine lv_iconst (v := (-1)) hx hb dX10_noTray_23 (by decide) ?_
    refine lv_icmp_ne (tgt := 32) hx hb dX10_noTray_24 (by decide) (fun c_17 => ?_) (fun c_17 => ?_)
    · replace hR := te hR c_17
      have b_18 : iv 0 3 x_16 := iv_n0 c_17 bx_16 (iv_c ((-1) : Int32) (a := (-1)) (b := (-1)) (by decide)) (by decide)
      refine lv_iconst (v := 0) hx hb dX10_noTray_32 (by decide) ?_
      exact fiI hx hb hr hlk hK hP hD hS dX10_noTray_33 (Nat.le_of_ble_eq_true rfl) (Nat.le_of_ble_eq_true rfl) (⟨(iv_c (0 : Int32) (by decide)), (fun _ => b_15), (hR.symm.trans hT0), rfl⟩)
    · replace hR := ti hR c_17
      have b_19 : iv (-1) (-1) x_16 := iv_q c_17 (iv_c ((-1) : Int32) (a := (-1)) (b := (-1)) (by decide))
      refine lv_bipush (v := (-6)) hx hb dX10_noTray_27 (by decide) ?_
      refine lv_goto (tgt := 33) hx hb dX10_noTray_29 (by decide) ?_
      exact fiI hx hb hr hlk hK hP hD hS dX10_noTray_33 (Nat.le_of_ble_eq_true rfl) (Nat.le_of_ble_eq_true rfl) (⟨(iv_c ((-6) : Int32) (by decide)), (fun q9 => absurd q9 (by decide)), (hR.symm.trans hT0), rfl⟩)
  · replace hR := ti hR c_8
    have b_20 : iv 0 0 r_2 := iv_q c_8 (iv_c (0 : Int32) (a := 0) (b := 0) (by decide))
    refine lv_bipush (v := (-2)) hx hb dX10_noTray_12 (by decide) ?_
    refine lv_goto (tgt := 33) hx hb dX10_noTray_14 (by decide) ?_
    exact fiI hx hb hr hlk hK hP hD hS dX10_noTray_33 (Nat.le_of_ble_eq_true rfl) (Nat.le_of_ble_eq_true rfl) (⟨(iv_c ((-2) : Int32) (by decide)), (fun q9 => absurd q9 (by decide)), (hR.symm.trans hT0), rfl⟩)
