theorem dX10_whyNot_0 : decode cX10_whyNot 0 = .ok (.lload_n 1, 1) := by decide +kernel
theorem dX10_whyNot_1 : decode cX10_whyNot 1 = .ok (.lconst 0, 1) := by decide +kernel
theorem dX10_whyNot_2 : decode cX10_whyNot 2 = .ok (.ldc2_w 296, 3) := by decide +kernel
theorem dX10_whyNot_5 : decode cX10_whyNot 5 = .ok (.invokestatic 159, 3) := by decide +kernel
theorem dX10_whyNot_8 : decode cX10_whyNot 8 = .ok (.ifCond .eq 17, 3) := by decide +kernel
theorem dX10_whyNot_25 : decode cX10_whyNot 25 = .ok (.lload_n 1, 1) := by decide +kernel
theorem dX10_whyNot_26 : decode cX10_whyNot 26 = .ok (.ldc2_w 298, 3) := by decide +kernel
theorem q_7_120 : Cond.constantLong "BeaconDelayModel" 300 (19 : Int64) ∈ gw := gw_7 (i := 120) (by decide +kernel) rfl
theorem dX10_whyNot_29 : decode cX10_whyNot 29 = .ok (.ldc2_w 300, 3) := by decide +kernel
theorem dX10_whyNot_32 : decode cX10_whyNot 32 = .ok (.invokestatic 159, 3) := by decide +kernel
theorem dX10_whyNot_35 : decode cX10_whyNot 35 = .ok (.ifCond .eq 15, 3) := by decide +kernel
theorem dX10_whyNot_50 : decode cX10_whyNot 50 = .ok (.lload_n 1, 1) := by decide +kernel
theorem q_7_121 : Cond.constantLong "BeaconDelayModel" 302 (20 : Int64) ∈ gw := gw_7 (i := 121) (by decide +kernel) rfl
theorem dX10_whyNot_51 : decode cX10_whyNot 51 = .ok (.ldc2_w 302, 3) := by decide +kernel
theorem q_7_122 : Cond.constantLong "BeaconDelayModel" 304 (29 : Int64) ∈ gw := gw_7 (i := 122) (by decide +kernel) rfl
theorem dX10_whyNot_54 : decode cX10_whyNot 54 = .ok (.ldc2_w 304, 3) := by decide +kernel
theorem dX10_whyNot_57 : decode cX10_whyNot 57 = .ok (.invokestatic 159, 3) := by decide +kernel
theorem dX10_whyNot_60 : decode cX10_whyNot 60 = .ok (.ifCond .eq 7, 3) := by decide +kernel
theorem dX10_whyNot_67 : decode cX10_whyNot 67 = .ok (.iconst 1, 1) := by decide +kernel
theorem dX10_whyNot_68 : decode cX10_whyNot 68 = .ok (.ireturn, 1) := by decide +kernel
theorem dX10_whyNot_63 : decode cX10_whyNot 63 = .ok (.iconst 0, 1) := by decide +kernel
theorem dX10_whyNot_64 : decode cX10_whyNot 64 = .ok (.goto 4, 3) := by decide +kernel
theorem dX10_whyNot_38 : decode cX10_whyNot 38 = .ok (.aload_n 0, 1) := by decide +kernel
theorem dX10_whyNot_39 : decode cX10_whyNot 39 = .ok (.lload_n 1, 1) := by decide +kernel
theorem dX10_whyNot_40 : decode cX10_whyNot 40 = .ok (.ldc2_w 298, 3) := by decide +kernel
theorem dX10_whyNot_43 : decode cX10_whyNot 43 = .ok (.lsub, 1) := by decide +kernel
theorem dX10_whyNot_44 : decode cX10_whyNot 44 = .ok (.invokevirtual 289, 3) := by decide +kernel
theorem dX10_whyNot_47 : decode cX10_whyNot 47 = .ok (.goto 21, 3) := by decide +kernel
theorem dX10_whyNot_11 : decode cX10_whyNot 11 = .ok (.aload_n 0, 1) := by decide +kernel
theorem dX10_whyNot_12 : decode cX10_whyNot 12 = .ok (.lload_n 1, 1) := by decide +kernel
theorem dX10_whyNot_13 : decode cX10_whyNot 13 = .ok (.invokevirtual 266, 3) := by decide +kernel
theorem dX10_whyNot_16 : decode cX10_whyNot 16 = .ok (.ifCond .eq 7, 3) := by decide +kernel
theorem dX10_whyNot_23 : decode cX10_whyNot 23 = .ok (.iconst 1, 1) := by decide +kernel
theorem dX10_whyNot_24 : decode cX10_whyNot 24 = .ok (.ireturn, 1) := by decide +kernel
theorem dX10_whyNot_19 : decode cX10_whyNot 19 = .ok (.iconst 0, 1) := by decide +kernel
theorem dX10_whyNot_20 : decode cX10_whyNot 20 = .ok (.goto 4, 3) := by decide +kernel
set_option maxRecDepth 100000 in
noncomputable def F_k_X10_whyNot_0 (k1 : Int64) (fz1 : Nat → Int32) : Int32 := bnd (F_k_X10_within_0 k1 (0 : Int64) (9 : Int64) : Int32) fun (r_1 : Int32) => if r_1 = (0 : Int32) then (bnd (F_k_X10_within_0 k1 (10 : Int64) (19 : Int64) : Int32) fun (r_9 : Int32) => if r_9 = (0 : Int32) then (bnd (F_k_X10_within_0 k1 (20 : Int64) (29 : Int64) : Int32) fun (r_17 : Int32) => if r_17 = (0 : Int32) then (((1 : Int32))) else (((0 : Int32)))) else (bnd (k1 - (10 : Int64) : Int64) fun (j_35 : Int64) => bnd (F_k_X10_whySteal_0 j_35 fz1 : Int32) fun (r_36 : Int32) => if r_36 = 0 then (((0 : Int32))) else (if r_36 = 1 then (((1 : Int32))) else (((2 : Int32)))))) else (bnd (F_k_X10_isNight_0 k1 fz1 : Int32) fun (r_49 : Int32) => if r_49 = (0 : Int32) then (((1 : Int32))) else (((0 : Int32))))
set_option maxHeartbeats 4000000 in
set_option maxRecDepth 100000 in
theorem k_X10_whyNot_0 (l : Launch) (V : GV) (z : Nat → Nat) (k1 : Int64) (pz0_0 : Int32) (pz0_5 : Int32) (pz0_6 : Int32) (pz0_7 : Int32) (pz0_8 : Int32) (pz0_9 : Int32) (pz0_10 : Int32) (pz0_11 : Int32) (pz0_12 : Int32) (pz0_13 : Int32) (pz0_14 : Int32) (pz0_18 : Int32) (pz0_19 : Int32) (pz0_22 : Int32) (pz0_23 : Int32) (pz0_29 : Int32) (fz1 : Nat → Int32) (bpz0_5 : iv 0 900 pz0_5) (bpz0_6 : iv 0 900 pz0_6) (bpz0_7 : iv 0 900 pz0_7) (bpz0_8 : iv 0 900 pz0_8) (bpz0_10 : iv 0 999 pz0_10) (bpz0_11 : iv 0 4 pz0_11) (bpz0_12 : iv 0 900 pz0_12) (bpz0_13 : iv 0 4 pz0_13) (bpz0_14 : iv (-1) 900 pz0_14) (bpz0_18 : iv 0 2 pz0_18) (bpz0_22 : iv 0 9999 pz0_22) (bpz0_29 : iv 0 10000 pz0_29) (tfz1 : ivT tA fz1) : Ct l V yX10_whyNot (.code yX10_whyNot cX10_whyNot 3 (some .int)) 4 [.ref (z 0), .long k1] [(z 0, .inr (10, mo z pz0_0 pz0_5 pz0_6 pz0_7 pz0_8 pz0_9 pz0_10 pz0_11 pz0_12 pz0_13 pz0_14 pz0_18 pz0_19 pz0_22 pz0_23 pz0_29)), (z 1, aI V 3075 fz1)] 0 0 (QI V (fun (r : Int32) (w : va_W) => iv 0 2 r ∧ (r = 0 → WN fz1 (k1 : Int64).toInt) ∧ (r = 0 → ivL 0 29 k1) ∧ r = (F_k_X10_whyNot_0 k1 fz1) ∧ w = [(z 0, .inr (10, mo z pz0_0 pz0_5 pz0_6 pz0_7 pz0_8 pz0_9 pz0_10 pz0_11 pz0_12 pz0_13 pz0_14 pz0_18 pz0_19 pz0_22 pz0_23 pz0_29)), (z 1, aI V 3075 fz1)])) := by
  refine Ct.of (by decide) (Nat.le_of_ble_eq_true rfl) (fun p e s m below meth c A ls hx hb hr hml hown hlk hnm hg hP hK hD hE hA hS hl => ?_)
  have hl : lv_has ls 3 [(0, .ref (z 0)), (1, .long k1)] := hl
  obtain ⟨T0, hT0⟩ : ∃ T9, T9 = F_k_X10_whyNot_0 k1 fz1 := ⟨_, rfl⟩
  have hR := hT0.trans (F_k_X10_whyNot_0.eq_1 ..)
  refine lv_lload_n hx hb dX10_whyNot_0 rfl (lv_at hl 1 rfl) ?_
  refine lv_lconst (v := 0) hx hb dX10_whyNot_1 (by decide) ?_
  refine lv_ldc2 (v := 9) hx hb hown (hg _ q_7_97) dX10_whyNot_2 ?_
  refine jnI (wr := [(z 0, .inr (10, mo z pz0_0 pz0_5 pz0_6 pz0_7 pz0_8 pz0_9 pz0_10 pz0_11 pz0_12 pz0_13 pz0_14 pz0_18 pz0_19 pz0_22 pz0_23 pz0_29)), (z 1, aI V 3075 fz1)]) (rnS (rest := []) ⟨hx, hb, hml, hown, hg⟩ (k_X10_within_0 l V k1 0 9) mt_X10_within q_6_114 ⟨Nat.le_of_ble_eq_true rfl, Nat.le_of_ble_eq_true rfl⟩ hK hP hD hS hA hE [] rfl rfl rfl hl.1 rfl (Nat.le_of_ble_eq_true rfl) dX10_whyNot_5 ⟨Nat.le_of_ble_eq_true rfl, Nat.le_of_ble_eq_true rfl⟩) hP hD hS hA [] [0, 1] rfl rfl rfl (by decide) (fun r_1 w H locs hw hP hD hS => ?_)
  obtain ⟨br_1, g_2, g_3, g_4, et_5, rfl⟩ := hw
  replace hR := tb hR et_5
  have hP : va_P V.1 vwCl [(z 0, .inr (10, mo z pz0_0 pz0_5 pz0_6 pz0_7 pz0_8 pz0_9 pz0_10 pz0_11 pz0_12 pz0_13 pz0_14 pz0_18 pz0_19 pz0_22 pz0_23 pz0_29)), (z 1, aI V 3075 fz1)] H := hP
  have hD := cpD hP hD
  refine lv_if_eq (tgt := 25) hx hb dX10_whyNot_8 (by decide) (fun c_7 => ?_) (fun c_7 => ?_)
  · replace hR := ti hR c_7
    have b_8 : iv 0 0 r_1 := iv_q c_7 (iv_c (0 : Int32) (a := 0) (b := 0) (by decide))
    refine lv_lload_n hx hb dX10_whyNot_25 rfl (lv_at hl 1 rfl) ?_
    refine lv_ldc2 (v := 10) hx hb hown (hg _ q_7_102) dX10_whyNot_26 ?_
    refine lv_ldc2 (v := 19) hx hb hown (hg _ q_7_120) dX10_whyNot_29 ?_
    refine jnI (wr := [(z 0, .inr (10, mo z pz0_0 pz0_5 pz0_6 pz0_7 pz0_8 pz0_9 pz0_10 pz0_11 pz0_12 pz0_13 pz0_14 pz0_18 pz0_19 pz0_22 pz0_23 pz0_29)), (z 1, aI V 3075 fz1)]) (rnS (rest := []) ⟨hx, hb, hml, hown, hg⟩ (k_X10_within_0 l V k1 10 19) mt_X10_within q_6_114 ⟨Nat.le_of_ble_eq_true rfl, Nat.le_of_ble_eq_true rfl⟩ hK hP hD hS hA hE [] rfl rfl rfl hl.1 rfl (Nat.le_of_ble_eq_true rfl) dX10_whyNot_32 ⟨Nat.le_of_ble_eq_true rfl, Nat.le_of_ble_eq_true rfl⟩) hP hD hS hA [] [0, 1] rfl rfl rfl (by decide) (fun r_9 w H locs hw hP hD hS => ?_)
    obtain ⟨br_9, g_10, g_11, g_12, et_13, rfl⟩ := hw
    replace hR := tb hR et_13
    have hP : va_P V.1 vwCl [(z 0, .inr (10, mo z pz0_0 pz0_5 pz0_6 pz0_7 pz0_8 pz0_9 pz0_10 pz0_11 pz0_12 pz0_13 pz0_14 pz0_18 pz0_19 pz0_22 pz0_23 pz0_29)), (z 1, aI V 3075 fz1)] H := hP
    have hD := cpD hP hD
    refine lv_if_eq (tgt := 50) hx hb dX10_whyNot_35 (by decide) (fun c_15 => ?_) (fun c_15 => ?_)
    · replace hR := ti hR c_15
      have b_16 : iv 0 0 r_9 := iv_q c_15 (iv_c (0 : Int32) (a := 0) (b := 0) (by decide))
      refine lv_lload_n hx hb dX10_whyNot_50 rfl (lv_at hl 1 rfl) ?_
      refine lv_ldc2 (v := 20) hx hb hown (hg _ q_7_121) dX10_whyNot_51 ?_
      refine lv_ldc2 (v := 29) hx hb hown (hg _ q_7_122) dX10_whyNot_54 ?_
      refine jnI (wr := [(z 0, .inr (10, mo z pz0_0 pz0_5 pz0_6 pz0_7 pz0_8 pz0_9 pz0_10 pz0_11 pz0_12 pz0_13 pz0_14 pz0_18 pz0_19 pz0_22 pz0_23 pz0_29)), (z 1, aI V 3075 fz1)]) (rnS (rest := []) ⟨hx, hb, hml, hown, hg⟩ (k_X10_within_0 l V k1 20 29) mt_X10_within q_6_114 ⟨Nat.le_of_ble_eq_true rfl, Nat.le_of_ble_eq_true rfl⟩ hK hP hD hS hA hE [] rfl rfl rfl hl.1 rfl (Nat.le_of_ble_eq_true rfl) dX10_whyNot_57 ⟨Nat.le_of_ble_eq_true rfl, Nat.le_of_ble_eq_true rfl⟩) hP hD hS hA [] [0, 1] rfl rfl rfl (by decide) (fun r_17 w H locs hw hP hD hS => ?_)
      obtain ⟨br_17, g_18, g_19, g_20, et_21, rfl⟩ := hw
      replace hR := tb hR et_21
      have hP : va_P V.1 vwCl [(z 0, .inr (10, mo z pz0_0 pz0_5 pz0_6 pz0_7 pz0_8 pz0_9 pz0_10 pz0_11 pz0_12 pz0_13 pz0_14 pz0_18 pz0_19 pz0_22 pz0_23 pz0_29)), (z 1, aI V 3075 fz1)] H := hP
      have hD := cpD hP hD
      refine lv_if_eq (tgt := 67) hx hb dX10_whyNot_60 (by decide) (fun c_23 => ?_) (fun c_23 => ?_)
      · replace hR := ti hR c_23
        have b_24 : iv 0 0 r_17 := iv_q c_23 (iv_c (0 : Int32) (a := 0) (b := 0) (by decide))
        refine lv_iconst (v := 1) hx hb dX10_whyNot_67 (by decide) ?_
        exact fiI hx hb hr hlk hK hP hD hS dX10_whyNot_68 (Nat.le_of_ble_eq_true rfl) (Nat.le_of_ble_eq_true rfl) (⟨(iv_c (1 : Int32) (by decide)), (fun q9 => absurd q9 (by decide)), (fun q9 => absurd q9 (by decide)), (hR.symm.trans hT0), rfl⟩)
      · replace hR := te hR c_23
        have b_25 : iv 1 1 r_17 := iv_n0 c_23 br_17 (iv_c (0 : Int32) (a := 0) (b := 0) (by decide)) (by decide)
        have c_26 : (20 : Int64) ≤ k1 := (g_19 (iv_eqp b_25 (iv_c (1 : Int32) (by decide))))
        have b_27 : ivL 20 9223372036854775807 k1 := ivL_e2 c_26 (ivL_c (20 : Int64) (a := 20) (b := 20) (by decide)) (ivL_top k1) (by decide)
        have c_28 : k1 ≤ 29 := (g_20 (iv_eqp b_25 (iv_c (1 : Int32) (by decide))))
        have b_29 : ivL 20 29 k1 := ivL_e1 c_28 b_27 (ivL_c (29 : Int64) (a := 29) (b := 29) (by decide)) (by decide)
        refine lv_iconst (v := 0) hx hb dX10_whyNot_63 (by decide) ?_
        refine lv_goto (tgt := 68) hx hb dX10_whyNot_64 (by decide) ?_
        exact fiI hx hb hr hlk hK hP hD hS dX10_whyNot_68 (Nat.le_of_ble_eq_true rfl) (Nat.le_of_ble_eq_true rfl) (⟨(iv_c (0 : Int32) (by decide)), (fun _ => Or.inr (Or.inr (by have q9 := b_29; unfold ivL at q9; omega))), (fun _ => (ivL_w b_29 (by decide))), (hR.symm.trans hT0), rfl⟩)
    · replace hR := te hR c_15
      have b_30 : iv 1 1 r_9 := iv_n0 c_15 br_9 (iv_c (0 : Int32) (a := 0) (b := 0) (by decide)) (by decide)
      have c_31 : (10 : Int64) ≤ k1 := (g_11 (iv_eqp b_30 (iv_c (1 : Int32) (by decide))))
      have b_32 : ivL 10 9223372036854775807 k1 := ivL_e2 c_31 (ivL_c (10 : Int64) (a := 10) (b := 10) (by decide)) (ivL_top k1) (by decide)
      have c_33 : k1 ≤ 19 := (g_12 (iv_eqp b_30 (iv_c (1 : Int32) (by decide))))
      have b_34 : ivL 10 19 k1 := ivL_e1 c_33 b_32 (ivL_c (19 : Int64) (a := 19) (b := 19) (by decide)) (by decide)
      refine lv_aload_n hx hb dX10_whyNot_38 rfl (lv_at hl 0 rfl) ?_
      refine lv_lload_n hx hb dX10_whyNot_39 rfl (lv_at hl 1 rfl) ?_
      refine lv_ldc2 (v := 10) hx hb hown (hg _ q_7_102) dX10_whyNot_40 ?_
      refine lv_lsub hx hb dX10_whyNot_43 ?_
      refine lv_topl (fun j_35 ej_35 => ?_)
      have bj_35 : ivL 0 9 j_35 := by rw [ej_35]; exact ivL_sub b_34 (ivL_c (10 : Int64) (a := 10) (b := 10) (by decide)) (by decide)
      replace hR := tb hR ej_35
      refine jnI (wr := []) (rnV (rest := []) ⟨hx, hb, hml, hown, hg⟩ (k_X10_whySteal_0 l V z j_35 pz0_0 pz0_5 pz0_6 pz0_7 pz0_8 pz0_9 pz0_10 pz0_11 pz0_12 pz0_13 pz0_14 pz0_18 pz0_19 pz0_22 pz0_23 pz0_29 fz1 bpz0_5 bpz0_6 bpz0_7 bpz0_8 bpz0_10 bpz0_11 bpz0_12 bpz0_13 bpz0_14 bpz0_18 bpz0_22 bpz0_29 tfz1) mt_X10_whySteal q_7_85 ⟨Nat.le_of_ble_eq_true rfl, Nat.le_of_ble_eq_true rfl⟩ hK hP hD hS hA hE [0, 1] rfl rfl 0 rfl rfl rfl rfl hl.1 rfl (Nat.le_of_ble_eq_true rfl) dX10_whyNot_44 ⟨Nat.le_of_ble_eq_true rfl, Nat.le_of_ble_eq_true rfl⟩) hP hD hS hA [0, 1] [] rfl rfl rfl (by decide) (fun r_36 w H locs hw hP hD hS => ?_)
      obtain ⟨br_36, g_37, g_38, et_39, rfl⟩ := hw
      replace hR := tb hR et_39
      have hP : va_P V.1 vwCl [(z 0, .inr (10, mo z pz0_0 pz0_5 pz0_6 pz0_7 pz0_8 pz0_9 pz0_10 pz0_11 pz0_12 pz0_13 pz0_14 pz0_18 pz0_19 pz0_22 pz0_23 pz0_29)), (z 1, aI V 3075 fz1)] H := hP
      have hD := cpD hP hD
      refine lv_goto (tgt := 68) hx hb dX10_whyNot_47 (by decide) ?_
      have c_41 : r_36 = 0 ∨ r_36 = 1 ∨ r_36 = 2 := by have q9 := br_36; unfold iv at q9; simp only [tI_eq, (by decide : (0 : Int32).toInt = 0), (by decide : (1 : Int32).toInt = 1), (by decide : (2 : Int32).toInt = 2)]; omega
      rcases c_41 with rfl | rfl | rfl
      · replace hR := ti hR rfl
        have b_42 : ivL 0 3 j_35 := ivL_cap (g_38 rfl) bj_35 (by decide)
        have b_43 : ivL 10 13 k1 := ivL_subb ej_35 b_42 b_34 (by decide)
        exact fiI hx hb hr hlk hK hP hD hS dX10_whyNot_68 (Nat.le_of_ble_eq_true rfl) (Nat.le_of_ble_eq_true rfl) (⟨(iv_c (0 : Int32) (by decide)), (fun _ => Or.inr (Or.inl ⟨(show 10 ≤ (k1 : Int64).toInt ∧ (k1 : Int64).toInt ≤ 13 from (by have q9 := b_43; unfold ivL at q9; omega)).1, (show 10 ≤ (k1 : Int64).toInt ∧ (k1 : Int64).toInt ≤ 13 from (by have q9 := b_43; unfold ivL at q9; omega)).2, by have q9 := lsub_toInt ej_35 b_43 (by decide); rw [← q9]; exact (g_37 rfl)⟩)), (fun _ => (ivL_w b_43 (by decide))), (hR.symm.trans hT0), rfl⟩)
      · replace hR := te hR (by decide)
        replace hR := ti hR rfl
        exact fiI hx hb hr hlk hK hP hD hS dX10_whyNot_68 (Nat.le_of_ble_eq_true rfl) (Nat.le_of_ble_eq_true rfl) (⟨(iv_c (1 : Int32) (by decide)), (fun q9 => absurd q9 (by decide)), (fun q9 => absurd q9 (by decide)), (hR.symm.trans hT0), rfl⟩)
      · replace hR := te hR (by decide)
        replace hR := te hR (by decide)
        exact fiI hx hb hr hlk hK hP hD hS dX10_whyNot_68 (Nat.le_of_ble_eq_true rfl) (Nat.le_of_ble_eq_true rfl) (⟨(iv_c (2 : Int32) (by decide)), (fun q9 => absurd q9 (by decide)), (fun q9 => absurd q9 (by decide)), (hR.symm.trans hT0), rfl⟩)
  · replace hR := te hR c_7
    have b_44 : iv 1 1 r_1 := iv_n0 c_7 br_1 (iv_c (0 : Int32) (a := 0) (b := 0) (by decide)) (by decide)
    have c_45 : (0 : Int64) ≤ k1 := (g_3 (iv_eqp b_44 (iv_c (1 : Int32) (by decide))))
    have b_46 : ivL 0 9223372036854775807 k1 := ivL_e2 c_45 (ivL_c (0 : Int64) (a := 0) (b := 0) (by decide)) (ivL_top k1) (by decide)
    have c_47 : k1 ≤ 9 := (g_4 (iv_eqp b_44 (iv_c (1 : Int32) (by decide))))
    have b_48 : ivL 0 9 k1 := ivL_e1 c_47 b_46 (ivL_c (9 : Int64) (a := 9) (b := 9) (by decide)) (by decide)
    refine lv_aload_n hx hb dX10_whyNot_11 rfl (lv_at hl 0 rfl) ?_
    refine lv_lload_n hx hb dX10_whyNot_12 rfl (lv_at hl 1 rfl) ?_
    refine jnI (wr := []) (rnV (rest := []) ⟨hx, hb, hml, hown, hg⟩ (k_X10_isNight_0 l V z k1 pz0_0 pz0_5 pz0_6 pz0_7 pz0_8 pz0_9 pz0_10 pz0_11 pz0_12 pz0_13 pz0_14 pz0_18 pz0_19 pz0_22 pz0_23 pz0_29 fz1 bpz0_5 bpz0_6 bpz0_7 bpz0_8 bpz0_10 bpz0_11 bpz0_12 bpz0_13 bpz0_14 bpz0_18 bpz0_22 bpz0_29 tfz1) mt_X10_isNight q_7_7 ⟨Nat.le_of_ble_eq_true rfl, Nat.le_of_ble_eq_true rfl⟩ hK hP hD hS hA hE [0, 1] rfl rfl 0 rfl rfl rfl rfl hl.1 rfl (Nat.le_of_ble_eq_true rfl) dX10_whyNot_13 ⟨Nat.le_of_ble_eq_true rfl, Nat.le_of_ble_eq_true rfl⟩) hP hD hS hA [0, 1] [] rfl rfl rfl (by decide) (fun r_49 w H locs hw hP hD hS => ?_)
    obtain ⟨br_49, g_50, et_51, rfl⟩ := hw
    replace hR := tb hR et_51
    have hP : va_P V.1 vwCl [(z 0, .inr (10, mo z pz0_0 pz0_5 pz0_6 pz0_7 pz0_8 pz0_9 pz0_10 pz0_11 pz0_12 pz0_13 pz0_14 pz0_18 pz0_19 pz0_22 pz0_23 pz0_29)), (z 1, aI V 3075 fz1)] H := hP
    have hD := cpD hP hD
    refine lv_if_eq (tgt := 23) hx hb dX10_whyNot_16 (by decide) (fun c_53 => ?_) (fun c_53 => ?_)
    · replace hR := ti hR c_53
      have b_54 : iv 0 0 r_49 := iv_q c_53 (iv_c (0 : Int32) (a := 0) (b := 0) (by decide))
      refine lv_iconst (v := 1) hx hb dX10_whyNot_23 (by decide) ?_
      exact fiI hx hb hr hlk hK hP hD hS dX10_whyNot_24 (Nat.le_of_ble_eq_true rfl) (Nat.le_of_ble_eq_true rfl) (⟨(iv_c (1 : Int32) (by decide)), (fun q9 => absurd q9 (by decide)), (fun q9 => absurd q9 (by decide)), (hR.symm.trans hT0), rfl⟩)
    · replace hR := te hR c_53
      have b_55 : iv 1 1 r_49 := iv_n0 c_53 br_49 (iv_c (0 : Int32) (a := 0) (b := 0) (by decide)) (by decide)
      have b_56 : ivL 0 3 k1 := ivL_cap (g_50 (iv_eqp b_55 (iv_c (1 : Int32) (by decide)))) b_48 (by decide)
      refine lv_iconst (v := 0) hx hb dX10_whyNot_19 (by decide) ?_
      refine lv_goto (tgt := 24) hx hb dX10_whyNot_20 (by decide) ?_
      exact fiI hx hb hr hlk hK hP hD hS dX10_whyNot_24 (Nat.le_of_ble_eq_true rfl) (Nat.le_of_ble_eq_true rfl) (⟨(iv_c (0 : Int32) (by decide)), (fun _ => Or.inl (by have q9 := b_56; unfold ivL at q9; omega)), (fun _ => (ivL_w b_56 (by decide))), (hR.symm.trans hT0), rfl⟩)
theorem dX10_does_0 : decode cX10_does 0 = .ok (.iload_n 1, 1) := by decide +kernel
theorem dX10_does_1 : decode cX10_does 1 = .ok (.bipush 10, 2) := by decide +kernel
theorem dX10_does_3 : decode cX10_does 3 = .ok (.if_icmp .ge 11, 3) := by decide +kernel
theorem dX10_does_14 : decode cX10_does 14 = .ok (.iload_n 1, 1) := by decide +kernel
theorem dX10_does_15 : decode cX10_does 15 = .ok (.bipush 20, 2) := by decide +kernel
theorem dX10_does_17 : decode cX10_does 17 = .ok (.if_icmp .ge 14, 3) := by decide +kernel
theorem dX10_does_31 : decode cX10_does 31 = .ok (.aload_n 0, 1) := by decide +kernel
theorem dX10_does_32 : decode cX10_does 32 = .ok (.getfield 13, 3) := by decide +kernel
theorem dX10_does_35 : decode cX10_does 35 = .ok (.bipush 51, 2) := by decide +kernel
theorem dX10_does_37 : decode cX10_does 37 = .ok (.iload_n 1, 1) := by decide +kernel
theorem dX10_does_38 : decode cX10_does 38 = .ok (.bipush 20, 2) := by decide +kernel
theorem dX10_does_40 : decode cX10_does 40 = .ok (.isub, 1) := by decide +kernel
theorem dX10_does_41 : decode cX10_does 41 = .ok (.iastore, 1) := by decide +kernel
theorem dX10_does_42 : decode cX10_does 42 = .ok (.return_, 1) := by decide +kernel
theorem dX10_does_20 : decode cX10_does 20 = .ok (.aload_n 0, 1) := by decide +kernel
theorem dX10_does_21 : decode cX10_does 21 = .ok (.iload_n 1, 1) := by decide +kernel
theorem dX10_does_22 : decode cX10_does 22 = .ok (.bipush 10, 2) := by decide +kernel
theorem dX10_does_24 : decode cX10_does 24 = .ok (.isub, 1) := by decide +kernel
theorem dX10_does_25 : decode cX10_does 25 = .ok (.invokevirtual 293, 3) := by decide +kernel
theorem dX10_does_28 : decode cX10_does 28 = .ok (.goto 14, 3) := by decide +kernel
theorem dX10_does_6 : decode cX10_does 6 = .ok (.aload_n 0, 1) := by decide +kernel
theorem dX10_does_7 : decode cX10_does 7 = .ok (.iload_n 1, 1) := by decide +kernel
theorem dX10_does_8 : decode cX10_does 8 = .ok (.invokevirtual 281, 3) := by decide +kernel
theorem dX10_does_11 : decode cX10_does 11 = .ok (.goto 31, 3) := by decide +kernel
set_option maxRecDepth 100000 in
noncomputable def F_k_X10_does_0 (a1 : Int32) (fz15 : Nat → Int32) (fz16 : Nat → Int32) (fz1 : Nat → Int32) : (Nat → Int32) × (Nat → Int32) × (Nat → Int32) := if (10 : Int32) ≤ a1 then (if (20 : Int32) ≤ a1 then (bnd (a1 - (20 : Int32) : Int32) fun (x_5 : Int32) => bnd ((upd fz1 (51 : Int32).toNatClampNeg x_5) : Nat → Int32) fun (f_6 : Nat → Int32) => (fz15, fz16, f_6)) else (bnd (a1 - (10 : Int32) : Int32) fun (x_8 : Int32) => bnd (F_k_X10_steals_0 x_8 fz1 : Nat → Int32) fun (f_10 : Nat → Int32) => (fz15, fz16, f_10))) else (bnd (F_k_X10_goesNight_0 a1 fz15 fz16 fz1 : (Nat → Int32) × (Nat → Int32) × (Nat → Int32)) fun (q_23 : (Nat → Int32) × (Nat → Int32) × (Nat → Int32)) => bnd (q_23.1 : Nat → Int32) fun (f_16 : Nat → Int32) => bnd (q_23.2.1 : Nat → Int32) fun (f_17 : Nat → Int32) => bnd (q_23.2.2 : Nat → Int32) fun (f_18 : Nat → Int32) => (f_16, f_17, f_18))
set_option maxHeartbeats 4000000 in
set_option maxRecDepth 100000 in
theorem k_X10_does_0 (l : Launch) (V : GV) (z : Nat → Nat) (a1 : Int32) (fz15 : Nat → Int32) (fz16 : Nat → Int32) (pz0_0 : Int32) (pz0_5 : Int32) (pz0_6 : Int32) (pz0_7 : Int32) (pz0_8 : Int32) (pz0_9 : Int32) (pz0_10 : Int32) (pz0_11 : Int32) (pz0_12 : Int32) (pz0_13 : Int32) (pz0_14 : Int32) (pz0_18 : Int32) (pz0_19 : Int32) (pz0_22 : Int32) (pz0_23 : Int32) (pz0_29 : Int32) (fz1 : Nat → Int32) (ba1 : iv 0 29 a1) (tfz16 : ivT tW fz16) (bpz0_5 : iv 0 900 pz0_5) (bpz0_6 : iv 0 900 pz0_6) (bpz0_7 : iv 0 900 pz0_7) (bpz0_8 : iv 0 900 pz0_8) (bpz0_10 : iv 0 999 pz0_10) (bpz0_11 : iv 0 4 pz0_11) (bpz0_12 : iv 0 900 pz0_12) (bpz0_13 : iv 0 4 pz0_13) (bpz0_14 : iv (-1) 900 pz0_14) (bpz0_18 : iv 0 2 pz0_18) (bpz0_22 : iv 0 9999 pz0_22) (bpz0_29 : iv 0 10000 pz0_29) (tfz1 : ivT tA fz1) (hf0 : RW fz1) (hf1 : WN fz1 (a1 : Int32).toInt) : Ct l V yX10_does (.code yX10_does cX10_does 2 none) 6 [.ref (z 0), .int a1] [(z 15, aI V 900 fz15), (z 16, aI V 6 fz16), (z 0, .inr (10, mo z pz0_0 pz0_5 pz0_6 pz0_7 pz0_8 pz0_9 pz0_10 pz0_11 pz0_12 pz0_13 pz0_14 pz0_18 pz0_19 pz0_22 pz0_23 pz0_29)), (z 1, aI V 3075 fz1)] 0 0 (QV V (fun (w : va_W) => ∃ (g0 : Nat → Int32) (g1 : Nat → Int32) (g2 : Nat → Int32), (ivT tW g1) ∧ (ivT tA g2) ∧ (RW g2) ∧ g0 = (F_k_X10_does_0 a1 fz15 fz16 fz1).1 ∧ g1 = (F_k_X10_does_0 a1 fz15 fz16 fz1).2.1 ∧ g2 = (F_k_X10_does_0 a1 fz15 fz16 fz1).2.2 ∧ w = [(z 15, aI V 900 g0), (z 16, aI V 6 g1), (z 0, .inr (10, mo z pz0_0 pz0_5 pz0_6 pz0_7 pz0_8 pz0_9 pz0_10 pz0_11 pz0_12 pz0_13 pz0_14 pz0_18 pz0_19 pz0_22 pz0_23 pz0_29)), (z 1, aI V 3075 g2)])) := by
  refine Ct.of (by decide) (Nat.le_of_ble_eq_true rfl) (fun p e s m below meth c A ls hx hb hr hml hown hlk hnm hg hP hK hD hE hA hS hl => ?_)
  have hl : lv_has ls 2 [(0, .ref (z 0)), (1, .int a1)] := hl
  obtain ⟨T0, hT0⟩ : ∃ T9, T9 = F_k_X10_does_0 a1 fz15 fz16 fz1 := ⟨_, rfl⟩
  have hR := hT0.trans (F_k_X10_does_0.eq_1 ..)
  refine lv_iload_n hx hb dX10_does_0 rfl (lv_at hl 1 rfl) ?_
  refine lv_bipush (v := 10) hx hb dX10_does_1 (by decide) ?_
  refine lv_icmp_ge (tgt := 14) hx hb dX10_does_3 (by decide) (fun c_1 => ?_) (fun c_1 => ?_)
  · replace hR := ti hR c_1
    have b_2 : iv 10 29 a1 := iv_e2 c_1 (iv_c (10 : Int32) (a := 10) (b := 10) (by decide)) ba1 (by decide)
    refine lv_iload_n hx hb dX10_does_14 rfl (lv_at hl 1 rfl) ?_
    refine lv_bipush (v := 20) hx hb dX10_does_15 (by decide) ?_
    refine lv_icmp_ge (tgt := 31) hx hb dX10_does_17 (by decide) (fun c_3 => ?_) (fun c_3 => ?_)
    · replace hR := ti hR c_3
      have b_4 : iv 20 29 a1 := iv_e2 c_3 (iv_c (20 : Int32) (a := 20) (b := 20) (by decide)) b_2 (by decide)
      refine lv_aload_n hx hb dX10_does_31 rfl (lv_at hl 0 rfl) ?_
      refine va_get (ci := 10) (v := .ref (z 1)) (C := RX10) (T := TX10) (N := 40) hx hb hg inX10 hown hK hP 2 rfl rfl 1 (by decide) (hg _ q_5_225) (fun _ h9 => h9) rfl dX10_does_32 ?_
      refine lv_bipush (v := 51) hx hb dX10_does_35 (by decide) ?_
      refine lv_iload_n hx hb dX10_does_37 rfl (lv_at hl 1 rfl) ?_
      refine lv_bipush (v := 20) hx hb dX10_does_38 (by decide) ?_
      refine lv_isub hx hb dX10_does_40 ?_
      refine lv_topi (fun x_5 ex_5 => ?_)
      have bx_5 : iv 0 9 x_5 := by rw [ex_5]; exact iv_subl c_3 b_4 (iv_c (20 : Int32) (a := 20) (b := 20) (by decide)) (by decide)
      replace hR := tb hR ex_5
      refine va_iast hx hb hK hP hD hS 3 0 rfl rfl (vin (by decide +kernel)) dX10_does_41 (fun H locs hP hD hS => ?_)
      obtain ⟨f_6, ef_6, tf_6, hP, hD⟩ : ∃ f_6 : Nat → Int32, f_6 = (upd fz1 (51 : Int32).toNatClampNeg x_5) ∧ (ivT tA f_6) ∧ va_P V.1 vwCl [(z 15, aI V 900 fz15), (z 16, aI V 6 fz16), (z 0, .inr (10, mo z pz0_0 pz0_5 pz0_6 pz0_7 pz0_8 pz0_9 pz0_10 pz0_11 pz0_12 pz0_13 pz0_14 pz0_18 pz0_19 pz0_22 pz0_23 pz0_29)), (z 1, aI V 3075 f_6)] H ∧ va_D A [(z 15, aI V 900 fz15), (z 16, aI V 6 fz16), (z 0, .inr (10, mo z pz0_0 pz0_5 pz0_6 pz0_7 pz0_8 pz0_9 pz0_10 pz0_11 pz0_12 pz0_13 pz0_14 pz0_18 pz0_19 pz0_22 pz0_23 pz0_29)), (z 1, aI V 3075 f_6)] := ⟨_, rfl, upT (lo := 0) (hi := 9) (a := 51) (n := 1) tfz1 (iv_c (51 : Int32) (a := 51) (b := 51) (by decide)) (by decide) bx_5 (by decide +kernel), hP, hD⟩
      replace hR := tb hR ef_6
      exact fiV hx hb hr hlk hK hP hD hS dX10_does_42 (Nat.le_of_ble_eq_true rfl) (Nat.le_of_ble_eq_true rfl) (⟨fz15, fz16, f_6, tfz16, tf_6, (RW_up hf0 (iv_c (51 : Int32) (a := 51) (b := 51) (by decide)) (by decide) ef_6), (congrArg Prod.fst (hR.symm.trans hT0)), (congrArg Prod.fst (congrArg Prod.snd (hR.symm.trans hT0))), (congrArg Prod.snd (congrArg Prod.snd (hR.symm.trans hT0))), rfl⟩)
    · replace hR := te hR c_3
      have b_7 : iv 10 19 a1 := iv_l1 (Int32.not_le.mp c_3) b_2 (iv_c (20 : Int32) (a := 20) (b := 20) (by decide)) (by decide)
      refine lv_aload_n hx hb dX10_does_20 rfl (lv_at hl 0 rfl) ?_
      refine lv_iload_n hx hb dX10_does_21 rfl (lv_at hl 1 rfl) ?_
      refine lv_bipush (v := 10) hx hb dX10_does_22 (by decide) ?_
      refine lv_isub hx hb dX10_does_24 ?_
      refine lv_topi (fun x_8 ex_8 => ?_)
      have bx_8 : iv 0 9 x_8 := by rw [ex_8]; exact iv_subl c_1 b_7 (iv_c (10 : Int32) (a := 10) (b := 10) (by decide)) (by decide)
      replace hR := tb hR ex_8
      have qs_x_8 := isub_toInt ex_8 (c := 10) (n := 10) (by decide) b_7 (by decide)
      have b_9 : iv 0 3 x_8 := by have q9 := hf1; have q8 := b_7; unfold WN at q9; unfold iv at *; omega
      refine jnV (wr := [(z 15, aI V 900 fz15), (z 16, aI V 6 fz16)]) (rnV (rest := []) ⟨hx, hb, hml, hown, hg⟩ (k_X10_steals_0 l V z x_8 pz0_0 pz0_5 pz0_6 pz0_7 pz0_8 pz0_9 pz0_10 pz0_11 pz0_12 pz0_13 pz0_14 pz0_18 pz0_19 pz0_22 pz0_23 pz0_29 fz1 b_9 bpz0_5 bpz0_6 bpz0_7 bpz0_8 bpz0_10 bpz0_11 bpz0_12 bpz0_13 bpz0_14 bpz0_18 bpz0_22 bpz0_29 tfz1 hf0 (by have q9 := hf1; have q8 := b_7; unfold WN at q9; rw [qs_x_8]; unfold iv at q8; rcases q9 with q9 | q9 | q9; omega; exact q9.2.2; omega)) mt_X10_steals q_7_89 ⟨Nat.le_of_ble_eq_true rfl, Nat.le_of_ble_eq_true rfl⟩ hK hP hD hS hA hE [2, 3] rfl rfl 2 rfl rfl rfl rfl hl.1 rfl (Nat.le_of_ble_eq_true rfl) dX10_does_25 ⟨Nat.le_of_ble_eq_true rfl, Nat.le_of_ble_eq_true rfl⟩) hP hD hS hA [2, 3] [0, 1] rfl rfl rfl (by decide) (fun  w H locs hw hP hD hS => ?_)
      obtain ⟨f_10, tf_10, g_11, et_12, rfl⟩ := hw
      replace hR := tb hR et_12
      have hP : va_P V.1 vwCl [(z 15, aI V 900 fz15), (z 16, aI V 6 fz16), (z 0, .inr (10, mo z pz0_0 pz0_5 pz0_6 pz0_7 pz0_8 pz0_9 pz0_10 pz0_11 pz0_12 pz0_13 pz0_14 pz0_18 pz0_19 pz0_22 pz0_23 pz0_29)), (z 1, aI V 3075 f_10)] H := hP
      have hD := cpD hP hD
      refine lv_goto (tgt := 42) hx hb dX10_does_28 (by decide) ?_
      exact fiV hx hb hr hlk hK hP hD hS dX10_does_42 (Nat.le_of_ble_eq_true rfl) (Nat.le_of_ble_eq_true rfl) (⟨fz15, fz16, f_10, tfz16, tf_10, g_11, (congrArg Prod.fst (hR.symm.trans hT0)), (congrArg Prod.fst (congrArg Prod.snd (hR.symm.trans hT0))), (congrArg Prod.snd (congrArg Prod.snd (hR.symm.trans hT0))), rfl⟩)
  · replace hR := te hR c_1
    have b_14 : iv 0 9 a1 := iv_l1 (Int32.not_le.mp c_1) ba1 (iv_c (10 : Int32) (a := 10) (b := 10) (by decide)) (by decide)
    have b_15 : iv 0 3 a1 := by have q9 := hf1; have q8 := b_14; unfold WN at q9; unfold iv at *; omega
    refine lv_aload_n hx hb dX10_does_6 rfl (lv_at hl 0 rfl) ?_
    refine lv_iload_n hx hb dX10_does_7 rfl (lv_at hl 1 rfl) ?_
    refine jnV (wr := []) (rnV (rest := []) ⟨hx, hb, hml, hown, hg⟩ (k_X10_goesNight_0 l V z a1 fz15 fz16 pz0_0 pz0_5 pz0_6 pz0_7 pz0_8 pz0_9 pz0_10 pz0_11 pz0_12 pz0_13 pz0_14 pz0_18 pz0_19 pz0_22 pz0_23 pz0_29 fz1 b_15 tfz16 bpz0_5 bpz0_6 bpz0_7 bpz0_8 bpz0_10 bpz0_11 bpz0_12 bpz0_13 bpz0_14 bpz0_18 bpz0_22 bpz0_29 tfz1 hf0) mt_X10_goesNight q_7_64 ⟨Nat.le_of_ble_eq_true rfl, Nat.le_of_ble_eq_true rfl⟩ hK hP hD hS hA hE [0, 1, 2, 3] rfl rfl 2 rfl rfl rfl rfl hl.1 rfl (Nat.le_of_ble_eq_true rfl) dX10_does_8 ⟨Nat.le_of_ble_eq_true rfl, Nat.le_of_ble_eq_true rfl⟩) hP hD hS hA [0, 1, 2, 3] [] rfl rfl rfl (by decide) (fun  w H locs hw hP hD hS => ?_)
    obtain ⟨f_16, f_17, f_18, tf_17, tf_18, g_19, et_20, et_21, et_22, rfl⟩ := hw
    replace hR := tb0 hR
    replace hR := tb hR et_20
    replace hR := tb hR et_21
    replace hR := tb hR et_22
    have hP : va_P V.1 vwCl [(z 15, aI V 900 f_16), (z 16, aI V 6 f_17), (z 0, .inr (10, mo z pz0_0 pz0_5 pz0_6 pz0_7 pz0_8 pz0_9 pz0_10 pz0_11 pz0_12 pz0_13 pz0_14 pz0_18 pz0_19 pz0_22 pz0_23 pz0_29)), (z 1, aI V 3075 f_18)] H := hP
    have hD := cpD hP hD
    refine lv_goto (tgt := 42) hx hb dX10_does_11 (by decide) ?_
    exact fiV hx hb hr hlk hK hP hD hS dX10_does_42 (Nat.le_of_ble_eq_true rfl) (Nat.le_of_ble_eq_true rfl) (⟨f_16, f_17, f_18, tf_17, tf_18, g_19, (congrArg Prod.fst (hR.symm.trans hT0)), (congrArg Prod.fst (congrArg Prod.snd (hR.symm.trans hT0))), (congrArg Prod.snd (congrArg Prod.snd (hR.symm.trans hT0))), rfl⟩)
theorem dX10_tells_0 : decode cX10_tells 0 = .ok (.aload_n 0, 1) := by decide +kernel
theorem dX10_tells_1 : decode cX10_tells 1 = .ok (.iconst 0, 1) := by decide +kernel
theorem q_6_2 : Cond.fieldLink "BeaconDelayModel" 306 "BeaconDelayModel" "toldWhy" "I" ∈ gw := gw_6 (i := 2) (by decide +kernel) rfl
theorem dX10_tells_2 : decode cX10_tells 2 = .ok (.putfield 306, 3) := by decide +kernel
theorem dX10_tells_5 : decode cX10_tells 5 = .ok (.iconst 0, 1) := by decide +kernel
theorem dX10_tells_6 : decode cX10_tells 6 = .ok (.istore_n 2, 1) := by decide +kernel
theorem dX10_tells_7 : decode cX10_tells 7 = .ok (.iload_n 2, 1) := by decide +kernel
theorem dX10_tells_8 : decode cX10_tells 8 = .ok (.aload_n 0, 1) := by decide +kernel
theorem q_6_22 : Cond.fieldLink "BeaconDelayModel" 87 "BeaconDelayModel" "rowMany" "[I" ∈ gw := gw_6 (i := 22) (by decide +kernel) rfl
theorem dX10_tells_9 : decode cX10_tells 9 = .ok (.getfield 87, 3) := by decide +kernel
theorem dX10_tells_12 : decode cX10_tells 12 = .ok (.iload_n 1, 1) := by decide +kernel
theorem dX10_tells_13 : decode cX10_tells 13 = .ok (.iaload, 1) := by decide +kernel
theorem dX10_tells_14 : decode cX10_tells 14 = .ok (.if_icmp .ge 53, 3) := by decide +kernel
theorem dX10_tells_67 : decode cX10_tells 67 = .ok (.aload_n 0, 1) := by decide +kernel
theorem dX10_tells_68 : decode cX10_tells 68 = .ok (.getfield 87, 3) := by decide +kernel
theorem dX10_tells_71 : decode cX10_tells 71 = .ok (.iload_n 1, 1) := by decide +kernel
theorem dX10_tells_72 : decode cX10_tells 72 = .ok (.iaload, 1) := by decide +kernel
theorem dX10_tells_73 : decode cX10_tells 73 = .ok (.ireturn, 1) := by decide +kernel
theorem dX10_tells_17 : decode cX10_tells 17 = .ok (.aload_n 0, 1) := by decide +kernel
theorem dX10_tells_18 : decode cX10_tells 18 = .ok (.aload_n 0, 1) := by decide +kernel
theorem dX10_tells_19 : decode cX10_tells 19 = .ok (.aload_n 0, 1) := by decide +kernel
theorem q_6_23 : Cond.fieldLink "BeaconDelayModel" 90 "BeaconDelayModel" "numbers" "[J" ∈ gw := gw_6 (i := 23) (by decide +kernel) rfl
theorem dX10_tells_20 : decode cX10_tells 20 = .ok (.getfield 90, 3) := by decide +kernel
theorem dX10_tells_23 : decode cX10_tells 23 = .ok (.bipush 40, 2) := by decide +kernel
theorem dX10_tells_25 : decode cX10_tells 25 = .ok (.iload_n 1, 1) := by decide +kernel
theorem dX10_tells_26 : decode cX10_tells 26 = .ok (.imul, 1) := by decide +kernel
theorem dX10_tells_27 : decode cX10_tells 27 = .ok (.iload_n 2, 1) := by decide +kernel
theorem dX10_tells_28 : decode cX10_tells 28 = .ok (.iadd, 1) := by decide +kernel
theorem dX10_tells_29 : decode cX10_tells 29 = .ok (.laload, 1) := by decide +kernel
theorem q_7_119 : Cond.code yX10_whyNot prog_12_method_67_code 3 (some FieldType.int) ∈ gw := gw_7 (i := 119) (rfl) rfl
theorem q_7_118 : Cond.instanceMethod yX10_whyNot ∈ gw := gw_7 (i := 118) (by decide +kernel) rfl
theorem q_s_95 : Cond.selects "BeaconDelayModel" yX10_whyNot yX10_whyNot ∈ gw := gw_s (i := 95) (by decide +kernel) rfl
theorem mt_X10_whyNot : MtV yX10_whyNot cX10_whyNot 3 (some .int) 1 := ⟨⟨q_7_119, q_1_9, by decide +kernel, by decide +kernel, by decide +kernel⟩, q_7_118, q_s_95⟩
theorem q_7_116 : Cond.methodLink "BeaconDelayModel" 309 yX10_whyNot ∈ gw := gw_7 (i := 116) (by decide +kernel) rfl
theorem dX10_tells_30 : decode cX10_tells 30 = .ok (.invokevirtual 309, 3) := by decide +kernel
theorem dX10_tells_33 : decode cX10_tells 33 = .ok (.putfield 306, 3) := by decide +kernel
theorem dX10_tells_36 : decode cX10_tells 36 = .ok (.aload_n 0, 1) := by decide +kernel
theorem dX10_tells_37 : decode cX10_tells 37 = .ok (.getfield 306, 3) := by decide +kernel
theorem dX10_tells_40 : decode cX10_tells 40 = .ok (.ifCond .eq 5, 3) := by decide +kernel
theorem dX10_tells_45 : decode cX10_tells 45 = .ok (.aload_n 0, 1) := by decide +kernel
theorem dX10_tells_46 : decode cX10_tells 46 = .ok (.aload_n 0, 1) := by decide +kernel
theorem dX10_tells_47 : decode cX10_tells 47 = .ok (.getfield 90, 3) := by decide +kernel
theorem dX10_tells_50 : decode cX10_tells 50 = .ok (.bipush 40, 2) := by decide +kernel
theorem dX10_tells_52 : decode cX10_tells 52 = .ok (.iload_n 1, 1) := by decide +kernel
theorem dX10_tells_53 : decode cX10_tells 53 = .ok (.imul, 1) := by decide +kernel
theorem dX10_tells_54 : decode cX10_tells 54 = .ok (.iload_n 2, 1) := by decide +kernel
theorem dX10_tells_55 : decode cX10_tells 55 = .ok (.iadd, 1) := by decide +kernel
theorem dX10_tells_56 : decode cX10_tells 56 = .ok (.laload, 1) := by decide +kernel
theorem dX10_tells_57 : decode cX10_tells 57 = .ok (.l2i, 1) := by decide +kernel
theorem q_7_126 : Cond.code yX10_does prog_12_method_68_code 2 none ∈ gw := gw_7 (i := 126) (rfl) rfl
theorem q_7_125 : Cond.instanceMethod yX10_does ∈ gw := gw_7 (i := 125) (by decide +kernel) rfl
theorem q_s_96 : Cond.selects "BeaconDelayModel" yX10_does yX10_does ∈ gw := gw_s (i := 96) (by decide +kernel) rfl
theorem mt_X10_does : MtV yX10_does cX10_does 2 none 1 := ⟨⟨q_7_126, q_1_9, by decide +kernel, by decide +kernel, by decide +kernel⟩, q_7_125, q_s_96⟩
theorem q_7_123 : Cond.methodLink "BeaconDelayModel" 312 yX10_does ∈ gw := gw_7 (i := 123) (by decide +kernel) rfl
theorem dX10_tells_58 : decode cX10_tells 58 = .ok (.invokevirtual 312, 3) := by decide +kernel
theorem dX10_tells_61 : decode cX10_tells 61 = .ok (.iinc 2 1, 3) := by decide +kernel
theorem dX10_tells_64 : decode cX10_tells 64 = .ok (.goto (-57), 3) := by decide +kernel
theorem dX10_tells_43 : decode cX10_tells 43 = .ok (.iload_n 2, 1) := by decide +kernel
theorem dX10_tells_44 : decode cX10_tells 44 = .ok (.ireturn, 1) := by decide +kernel
set_option maxRecDepth 100000 in
noncomputable def B_k_X10_tells_0_1 (a1 : Int32) (fz38 : Nat → Int32) (fz39 : Nat → Int64) (u_1 : Int32) (f_2 : Nat → Int32) (f_3 : Nat → Int32) (u_4 : Int32) (f_5 : Nat → Int32) : (Int32 × (Nat → Int32) × (Nat → Int32) × Int32 × (Nat → Int32)) ⊕ (Int32 × (Nat → Int32) × (Nat → Int32) × Int32 × (Nat → Int32)) := bnd (fz38 (a1 : Int32).toNatClampNeg : Int32) fun (x_7 : Int32) => if x_7 ≤ u_1 then (Sum.inr ((x_7, f_2, f_3, u_4, f_5))) else (bnd ((40 : Int32) * a1 : Int32) fun (x_11 : Int32) => bnd (x_11 + u_1 : Int32) fun (x_12 : Int32) => bnd (fz39 (x_12 : Int32).toNatClampNeg : Int64) fun (j_13 : Int64) => bnd (F_k_X10_whyNot_0 j_13 f_5 : Int32) fun (r_14 : Int32) => if r_14 = (0 : Int32) then (bnd (j_13.toInt32 : Int32) fun (x_22 : Int32) => bnd (F_k_X10_does_0 x_22 f_2 f_3 f_5 : (Nat → Int32) × (Nat → Int32) × (Nat → Int32)) fun (q_30 : (Nat → Int32) × (Nat → Int32) × (Nat → Int32)) => bnd (q_30.1 : Nat → Int32) fun (f_23 : Nat → Int32) => bnd (q_30.2.1 : Nat → Int32) fun (f_24 : Nat → Int32) => bnd (q_30.2.2 : Nat → Int32) fun (f_25 : Nat → Int32) => bnd (u_1 + 1 : Int32) fun (x_31 : Int32) => Sum.inl (x_31, f_23, f_24, r_14, f_25)) else (Sum.inr ((u_1, f_2, f_3, r_14, f_5))))
noncomputable def L_k_X10_tells_0_1 (a1 : Int32) (fz38 : Nat → Int32) (fz39 : Nat → Int64) (q9 : Int32 × (Nat → Int32) × (Nat → Int32) × Int32 × (Nat → Int32)) : (Int32 × (Nat → Int32) × (Nat → Int32) × Int32 × (Nat → Int32)) ⊕ (Int32 × (Nat → Int32) × (Nat → Int32) × Int32 × (Nat → Int32)) := B_k_X10_tells_0_1 a1 fz38 fz39 q9.1 q9.2.1 q9.2.2.1 q9.2.2.2.1 q9.2.2.2.2
set_option maxRecDepth 100000 in
noncomputable def F_k_X10_tells_0 (a1 : Int32) (fz15 : Nat → Int32) (fz16 : Nat → Int32) (fz38 : Nat → Int32) (fz39 : Nat → Int64) (fz1 : Nat → Int32) : Int32 × (Nat → Int32) × (Nat → Int32) × Int32 × (Nat → Int32) := W9 (L_k_X10_tells_0_1 a1 fz38 fz39) (0, fz15, fz16, 0, fz1)
set_option maxHeartbeats 4000000 in
set_option maxRecDepth 100000 in
theorem k_X10_tells_0 (l : Launch) (V : GV) (z : Nat → Nat) (a1 : Int32) (fz15 : Nat → Int32) (fz16 : Nat → Int32) (fz38 : Nat → Int32) (fz39 : Nat → Int64) (pz0_0 : Int32) (pz0_5 : Int32) (pz0_6 : Int32) (pz0_7 : Int32) (pz0_8 : Int32) (pz0_9 : Int32) (pz0_10 : Int32) (pz0_11 : Int32) (pz0_12 : Int32) (pz0_13 : Int32) (pz0_14 : Int32) (pz0_18 : Int32) (pz0_19 : Int32) (pz0_22 : Int32) (pz0_23 : Int32) (pz0_29 : Int32) (fz1 : Nat → Int32) (ba1 : iv 0 3 a1) (tfz16 : ivT tW fz16) (tfz38 : ∀ j, iv 0 40 (fz38 j)) (bpz0_5 : iv 0 900 pz0_5) (bpz0_6 : iv 0 900 pz0_6) (bpz0_7 : iv 0 900 pz0_7) (bpz0_8 : iv 0 900 pz0_8) (bpz0_10 : iv 0 999 pz0_10) (bpz0_11 : iv 0 4 pz0_11) (bpz0_12 : iv 0 900 pz0_12) (bpz0_13 : iv 0 4 pz0_13) (bpz0_14 : iv (-1) 900 pz0_14) (bpz0_18 : iv 0 2 pz0_18) (bpz0_22 : iv 0 9999 pz0_22) (bpz0_29 : iv 0 10000 pz0_29) (tfz1 : ivT tA fz1) (hf0 : RW fz1) : Ct l V yX10_tells (.code yX10_tells cX10_tells 3 (some .int)) 7 [.ref (z 0), .int a1] [(z 15, aI V 900 fz15), (z 16, aI V 6 fz16), (z 38, aI V 4 fz38), (z 39, aJ V 160 fz39), (z 0, .inr (10, mo z pz0_0 pz0_5 pz0_6 pz0_7 pz0_8 pz0_9 pz0_10 pz0_11 pz0_12 pz0_13 pz0_14 pz0_18 pz0_19 pz0_22 pz0_23 pz0_29)), (z 1, aI V 3075 fz1)] 0 0 (QI V (fun (r : Int32) (w : va_W) => ∃ (g0 : Nat → Int32) (g1 : Nat → Int32) (v2 : Int32) (g3 : Nat → Int32), (ivT tW g1) ∧ iv 0 2 v2 ∧ (ivT tA g3) ∧ iv 0 40 r ∧ (RW g3) ∧ r = (F_k_X10_tells_0 a1 fz15 fz16 fz38 fz39 fz1).1 ∧ g0 = (F_k_X10_tells_0 a1 fz15 fz16 fz38 fz39 fz1).2.1 ∧ g1 = (F_k_X10_tells_0 a1 fz15 fz16 fz38 fz39 fz1).2.2.1 ∧ v2 = (F_k_X10_tells_0 a1 fz15 fz16 fz38 fz39 fz1).2.2.2.1 ∧ g3 = (F_k_X10_tells_0 a1 fz15 fz16 fz38 fz39 fz1).2.2.2.2 ∧ w = [(z 15, aI V 900 g0), (z 16, aI V 6 g1), (z 38, aI V 4 fz38), (z 39, aJ V 160 fz39), (z 0, .inr (10, mo z pz0_0 pz0_5 pz0_6 pz0_7 pz0_8 pz0_9 pz0_10 pz0_11 pz0_12 pz0_13 pz0_14 v2 pz0_19 pz0_22 pz0_23 pz0_29)), (z 1, aI V 3075 g3)])) := by
  refine Ct.of (by decide) (Nat.le_of_ble_eq_true rfl) (fun p e s m below meth c A ls hx hb hr hml hown hlk hnm hg hP hK hD hE hA hS hl => ?_)
  have hl : lv_has ls 3 [(0, .ref (z 0)), (1, .int a1)] := hl
  obtain ⟨T0, hT0⟩ : ∃ T9, T9 = F_k_X10_tells_0 a1 fz15 fz16 fz38 fz39 fz1 := ⟨_, rfl⟩
  have hR := hT0.trans (F_k_X10_tells_0.eq_1 ..)
  refine lv_aload_n hx hb dX10_tells_0 rfl (lv_at hl 0 rfl) ?_
  refine lv_iconst (v := 0) hx hb dX10_tells_1 (by decide) ?_
  refine va_put (ci := 10) (v := .int 0) (ty := .int) (C := RX10) (T := TX10) (N := 40) hx hb hg inX10 tyX10 tyX10_ok nmX10 hown hK hP hD hS 4 rfl rfl 18 (by decide) (hg _ q_6_2) (fun _ h9 => h9) rfl (by decide +kernel) rfl rfl (Nat.le_of_ble_eq_true rfl) dX10_tells_2 (fun H locs hP hD hS => ?_)
  have hP : va_P V.1 vwCl [(z 15, aI V 900 fz15), (z 16, aI V 6 fz16), (z 38, aI V 4 fz38), (z 39, aJ V 160 fz39), (z 0, .inr (10, mo z pz0_0 pz0_5 pz0_6 pz0_7 pz0_8 pz0_9 pz0_10 pz0_11 pz0_12 pz0_13 pz0_14 0 pz0_19 pz0_22 pz0_23 pz0_29)), (z 1, aI V 3075 fz1)] H := hP
  have hD := cpD hP hD
  refine lv_iconst (v := 0) hx hb dX10_tells_5 (by decide) ?_
  refine lv_istore_n (lv' := [(2, .int 0), (0, .ref (z 0)), (1, .int a1)]) hx hb dX10_tells_6 rfl hl (by decide) rfl (fun ls hl => ?_)
  refine loopF (X := fun (n_6 : Nat) (H : Heap) (locs : List Loc) (ls : Array Slot) => ∃ (u_1 : Int32) (f_2 : Nat → Int32) (f_3 : Nat → Int32) (u_4 : Int32) (f_5 : Nat → Int32), (iv 0 40 u_1) ∧ (ivT tW f_3) ∧ (iv 0 2 u_4) ∧ (ivT tA f_5) ∧ (RW f_5) ∧ T0 = W9 (L_k_X10_tells_0_1 a1 fz38 fz39) (u_1, f_2, f_3, u_4, f_5) ∧ n_6 = (2147483647 - (u_1 : Int32).toInt).toNat ∧ va_P V.1 vwCl [(z 15, aI V 900 f_2), (z 16, aI V 6 f_3), (z 38, aI V 4 fz38), (z 39, aJ V 160 fz39), (z 0, .inr (10, mo z pz0_0 pz0_5 pz0_6 pz0_7 pz0_8 pz0_9 pz0_10 pz0_11 pz0_12 pz0_13 pz0_14 u_4 pz0_19 pz0_22 pz0_23 pz0_29)), (z 1, aI V 3075 f_5)] H ∧ va_D A [(z 15, aI V 900 f_2), (z 16, aI V 6 f_3), (z 38, aI V 4 fz38), (z 39, aJ V 160 fz39), (z 0, .inr (10, mo z pz0_0 pz0_5 pz0_6 pz0_7 pz0_8 pz0_9 pz0_10 pz0_11 pz0_12 pz0_13 pz0_14 u_4 pz0_19 pz0_22 pz0_23 pz0_29)), (z 1, aI V 3075 f_5)] ∧ va_S A s.heap H locs ∧ lv_has ls 3 [(2, .int u_1), (0, .ref (z 0)), (1, .int a1)]) (g := fun ls => F0 m 7 ls []) (fun n_6 H locs ls hX ihn_6 => ?_) _ ⟨0, fz15, fz16, 0, fz1, (iv_c (0 : Int32) (by decide)), tfz16, (iv_c (0 : Int32) (by decide)), tfz1, hf0, hR, rfl, hP, hD, hS, lv_sub hl [0, 1, 2] rfl⟩
  obtain ⟨u_1, f_2, f_3, u_4, f_5, bu_1, tf_3, bu_4, tf_5, inn_6_0, hR, en_6, hP, hD, hS, hl⟩ := hX
  obtain ⟨Tn_6, hR, hAn_6⟩ := tw hR
  replace hR : Tn_6 = B_k_X10_tells_0_1 a1 fz38 fz39 u_1 f_2 f_3 u_4 f_5 := hR
  replace hR := hR.trans (B_k_X10_tells_0_1.eq_1 ..)
  refine lv_iload_n hx hb dX10_tells_7 rfl (lv_at hl 0 rfl) ?_
  refine lv_aload_n hx hb dX10_tells_8 rfl (lv_at hl 1 rfl) ?_
  refine va_get (ci := 10) (v := .ref (z 38)) (C := RX10) (T := TX10) (N := 40) hx hb hg inX10 hown hK hP 4 rfl rfl 38 (by decide) (hg _ q_6_22) (fun _ h9 => h9) rfl dX10_tells_9 ?_
  refine lv_iload_n hx hb dX10_tells_12 rfl (lv_at hl 2 rfl) ?_
  refine va_iald hx hb hK hP 2 0 rfl rfl (iv_in ba1 (by decide)) dX10_tells_13 ?_
  refine lv_topi (fun x_7 ex_7 => ?_)
  have bx_7 : iv 0 40 x_7 := by rw [ex_7]; exact tfz38 _
  replace hR := tb hR ex_7
  refine lv_icmp_ge (tgt := 67) hx hb dX10_tells_14 (by decide) (fun c_8 => ?_) (fun c_8 => ?_)
  · replace hR := ti hR c_8
    refine lv_aload_n hx hb dX10_tells_67 rfl (lv_at hl 1 rfl) ?_
    refine va_get (ci := 10) (v := .ref (z 38)) (C := RX10) (T := TX10) (N := 40) hx hb hg inX10 hown hK hP 4 rfl rfl 38 (by decide) (hg _ q_6_22) (fun _ h9 => h9) rfl dX10_tells_68 ?_
    refine lv_iload_n hx hb dX10_tells_71 rfl (lv_at hl 2 rfl) ?_
    refine va_iald hx hb hK hP 2 0 rfl rfl (iv_in ba1 (by decide)) dX10_tells_72 ?_
    refine tpi (y := x_7) ex_7.symm ?_
    exact fiI hx hb hr hlk hK hP hD hS dX10_tells_73 (Nat.le_of_ble_eq_true rfl) (Nat.le_of_ble_eq_true rfl) (⟨f_2, f_3, u_4, f_5, tf_3, bu_4, tf_5, bx_7, inn_6_0, (congrArg Prod.fst ((tx hAn_6 hR).symm.trans hT0)), (congrArg Prod.fst (congrArg Prod.snd ((tx hAn_6 hR).symm.trans hT0))), (congrArg Prod.fst (congrArg Prod.snd (congrArg Prod.snd ((tx hAn_6 hR).symm.trans hT0)))), (congrArg Prod.fst (congrArg Prod.snd (congrArg Prod.snd (congrArg Prod.snd ((tx hAn_6 hR).symm.trans hT0))))), (congrArg Prod.snd (congrArg Prod.snd (congrArg Prod.snd (congrArg Prod.snd ((tx hAn_6 hR).symm.trans hT0))))), rfl⟩)
  · replace hR := te hR c_8
    have b_9 : iv 0 39 u_1 := iv_l1 (Int32.not_le.mp c_8) bu_1 bx_7 (by decide)
    have b_10 : iv 1 40 x_7 := iv_l2 (Int32.not_le.mp c_8) bu_1 bx_7 (by decide)
    refine lv_aload_n hx hb dX10_tells_17 rfl (lv_at hl 1 rfl) ?_
    refine lv_aload_n hx hb dX10_tells_18 rfl (lv_at hl 1 rfl) ?_
    refine lv_aload_n hx hb dX10_tells_19 rfl (lv_at hl 1 rfl) ?_
    refine va_get (ci := 10) (v := .ref (z 39)) (C := RX10) (T := TX10) (N := 40) hx hb hg inX10 hown hK hP 4 rfl rfl 39 (by decide) (hg _ q_6_23) (fun _ h9 => h9) rfl dX10_tells_20 ?_
    refine lv_bipush (v := 40) hx hb dX10_tells_23 (by decide) ?_
    refine lv_iload_n hx hb dX10_tells_25 rfl (lv_at hl 2 rfl) ?_
    refine lv_imul hx hb dX10_tells_26 ?_
    refine lv_topi (fun x_11 ex_11 => ?_)
    have bx_11 : iv 0 120 x_11 := by rw [ex_11]; exact iv_cmul (iv_c (40 : Int32) (a := 40) (b := 40) (by decide)) ba1 (by decide)
    replace hR := tb hR ex_11
    refine lv_iload_n hx hb dX10_tells_27 rfl (lv_at hl 0 rfl) ?_
    refine lv_iadd hx hb dX10_tells_28 ?_
    refine lv_topi (fun x_12 ex_12 => ?_)
    have bx_12 : iv 0 159 x_12 := by rw [ex_12]; exact iv_add bx_11 b_9 (by decide)
    replace hR := tb hR ex_12
    refine va_lald hx hb hK hP 3 2 rfl rfl (iv_in bx_12 (by decide)) dX10_tells_29 ?_
    refine lv_topl (fun j_13 ej_13 => ?_)
    replace hR := tb hR ej_13
    refine jnI (wr := [(z 15, aI V 900 f_2), (z 16, aI V 6 f_3), (z 38, aI V 4 fz38), (z 39, aJ V 160 fz39)]) (rnV (rest := [.ref (z 0)]) ⟨hx, hb, hml, hown, hg⟩ (k_X10_whyNot_0 l V z j_13 pz0_0 pz0_5 pz0_6 pz0_7 pz0_8 pz0_9 pz0_10 pz0_11 pz0_12 pz0_13 pz0_14 u_4 pz0_19 pz0_22 pz0_23 pz0_29 f_5 bpz0_5 bpz0_6 bpz0_7 bpz0_8 bpz0_10 bpz0_11 bpz0_12 bpz0_13 bpz0_14 bu_4 bpz0_22 bpz0_29 tf_5) mt_X10_whyNot q_7_116 ⟨Nat.le_of_ble_eq_true rfl, Nat.le_of_ble_eq_true rfl⟩ hK hP hD hS hA hE [4, 5] rfl rfl 4 rfl rfl rfl rfl hl.1 rfl (Nat.le_of_ble_eq_true rfl) dX10_tells_30 ⟨Nat.le_of_ble_eq_true rfl, Nat.le_of_ble_eq_true rfl⟩) hP hD hS hA [4, 5] [0, 1, 2, 3] rfl rfl rfl (by decide) (fun r_14 w H locs hw hP hD hS => ?_)
    obtain ⟨br_14, g_15, g_16, et_17, rfl⟩ := hw
    replace hR := tb hR et_17
    have hP : va_P V.1 vwCl [(z 15, aI V 900 f_2), (z 16, aI V 6 f_3), (z 38, aI V 4 fz38), (z 39, aJ V 160 fz39), (z 0, .inr (10, mo z pz0_0 pz0_5 pz0_6 pz0_7 pz0_8 pz0_9 pz0_10 pz0_11 pz0_12 pz0_13 pz0_14 u_4 pz0_19 pz0_22 pz0_23 pz0_29)), (z 1, aI V 3075 f_5)] H := hP
    have hD := cpD hP hD
    refine va_put (ci := 10) (v := .int r_14) (ty := .int) (C := RX10) (T := TX10) (N := 40) hx hb hg inX10 tyX10 tyX10_ok nmX10 hown hK hP hD hS 4 rfl rfl 18 (by decide) (hg _ q_6_2) (fun _ h9 => h9) rfl (by decide +kernel) rfl rfl (Nat.le_of_ble_eq_true rfl) dX10_tells_33 (fun H locs hP hD hS => ?_)
    have hP : va_P V.1 vwCl [(z 15, aI V 900 f_2), (z 16, aI V 6 f_3), (z 38, aI V 4 fz38), (z 39, aJ V 160 fz39), (z 0, .inr (10, mo z pz0_0 pz0_5 pz0_6 pz0_7 pz0_8 pz0_9 pz0_10 pz0_11 pz0_12 pz0_13 pz0_14 r_14 pz0_19 pz0_22 pz0_23 pz0_29)), (z 1, aI V 3075 f_5)] H := hP
    have hD := cpD hP hD
    refine lv_aload_n hx hb dX10_tells_36 rfl (lv_at hl 1 rfl) ?_
    refine va_get (ci := 10) (v := .int r_14) (C := RX10) (T := TX10) (N := 40) hx hb hg inX10 hown hK hP 4 rfl rfl 18 (by decide) (hg _ q_6_2) (fun _ h9 => h9) rfl dX10_tells_37 ?_
    refine lv_if_eq (tgt := 45) hx hb dX10_tells_40 (by decide) (fun c_19 => ?_) (fun c_19 => ?_)
    · replace hR := ti hR c_19
      have b_20 : iv 0 0 r_14 := iv_q c_19 (iv_c (0 : Int32) (a := 0) (b := 0) (by decide))
      have b_21 : ivL 0 29 j_13 := ivL_cap (g_16 (iv_eqp b_20 (iv_c (0 : Int32) (by decide)))) (ivL_top j_13) (by decide)
      refine lv_aload_n hx hb dX10_tells_45 rfl (lv_at hl 1 rfl) ?_
      refine lv_aload_n hx hb dX10_tells_46 rfl (lv_at hl 1 rfl) ?_
      refine va_get (ci := 10) (v := .ref (z 39)) (C := RX10) (T := TX10) (N := 40) hx hb hg inX10 hown hK hP 4 rfl rfl 39 (by decide) (hg _ q_6_23) (fun _ h9 => h9) rfl dX10_tells_47 ?_
      refine lv_bipush (v := 40) hx hb dX10_tells_50 (by decide) ?_
      refine lv_iload_n hx hb dX10_tells_52 rfl (lv_at hl 2 rfl) ?_
      refine lv_imul hx hb dX10_tells_53 ?_
      refine tpi (y := x_11) ex_11.symm ?_
      refine lv_iload_n hx hb dX10_tells_54 rfl (lv_at hl 0 rfl) ?_
      refine lv_iadd hx hb dX10_tells_55 ?_
      refine tpi (y := x_12) ex_12.symm ?_
      refine va_lald hx hb hK hP 3 2 rfl rfl (iv_in bx_12 (by decide)) dX10_tells_56 ?_
      refine tpl (y := j_13) ej_13.symm ?_
      refine lv_l2i hx hb dX10_tells_57 rfl ?_
      refine lv_topi (fun x_22 ex_22 => ?_)
      have bx_22 : iv 0 29 x_22 := by rw [ex_22]; exact iv_ofL b_21 (by decide)
      replace hR := tb hR ex_22
      refine jnV (wr := [(z 38, aI V 4 fz38), (z 39, aJ V 160 fz39)]) (rnV (rest := []) ⟨hx, hb, hml, hown, hg⟩ (k_X10_does_0 l V z x_22 f_2 f_3 pz0_0 pz0_5 pz0_6 pz0_7 pz0_8 pz0_9 pz0_10 pz0_11 pz0_12 pz0_13 pz0_14 r_14 pz0_19 pz0_22 pz0_23 pz0_29 f_5 bx_22 tf_3 bpz0_5 bpz0_6 bpz0_7 bpz0_8 bpz0_10 bpz0_11 bpz0_12 bpz0_13 bpz0_14 (iv_w b_20 (by decide)) bpz0_22 bpz0_29 tf_5 inn_6_0 (by have q9 := (g_15 (iv_eqp b_20 (iv_c (0 : Int32) (by decide)))); rw [l2i_toInt ex_22 b_21 (by decide)]; exact q9)) mt_X10_does q_7_123 ⟨Nat.le_of_ble_eq_true rfl, Nat.le_of_ble_eq_true rfl⟩ hK hP hD hS hA hE [0, 1, 4, 5] rfl rfl 4 rfl rfl rfl rfl hl.1 rfl (Nat.le_of_ble_eq_true rfl) dX10_tells_58 ⟨Nat.le_of_ble_eq_true rfl, Nat.le_of_ble_eq_true rfl⟩) hP hD hS hA [0, 1, 4, 5] [2, 3] rfl rfl rfl (by decide) (fun  w H locs hw hP hD hS => ?_)
      obtain ⟨f_23, f_24, f_25, tf_24, tf_25, g_26, et_27, et_28, et_29, rfl⟩ := hw
      replace hR := tb0 hR
      replace hR := tb hR et_27
      replace hR := tb hR et_28
      replace hR := tb hR et_29
      have hP : va_P V.1 vwCl [(z 38, aI V 4 fz38), (z 39, aJ V 160 fz39), (z 15, aI V 900 f_23), (z 16, aI V 6 f_24), (z 0, .inr (10, mo z pz0_0 pz0_5 pz0_6 pz0_7 pz0_8 pz0_9 pz0_10 pz0_11 pz0_12 pz0_13 pz0_14 r_14 pz0_19 pz0_22 pz0_23 pz0_29)), (z 1, aI V 3075 f_25)] H := hP
      have hD := cpD hP hD
      obtain ⟨x_31, ex_31⟩ : ∃ z9 : Int32, z9 = u_1 + 1 := ⟨_, rfl⟩
      have bx_31 : iv 1 40 x_31 := by rw [ex_31]; exact iv_add b_9 (iv_c (1 : Int32) (a := 1) (b := 1) (by decide)) (by decide)
      replace hR := tb hR ex_31
      refine lv_iinc (v := x_31) (lv' := [(2, .int x_31), (0, .ref (z 0)), (1, .int a1)]) hx hb dX10_tells_61 hl (k := 0) rfl (by rw [ex_31]; rfl) (by decide) rfl (fun ls hl => ?_)
      refine lv_goto (tgt := 7) hx hb dX10_tells_64 (by decide) ?_
      have hP := subP (ws' := [(z 15, aI V 900 f_23), (z 16, aI V 6 f_24), (z 38, aI V 4 fz38), (z 39, aJ V 160 fz39), (z 0, .inr (10, mo z pz0_0 pz0_5 pz0_6 pz0_7 pz0_8 pz0_9 pz0_10 pz0_11 pz0_12 pz0_13 pz0_14 r_14 pz0_19 pz0_22 pz0_23 pz0_29)), (z 1, aI V 3075 f_25)]) hP [2, 3, 0, 1, 4, 5] rfl
      have hD := subD hP hD [2, 3, 0, 1, 4, 5] rfl rfl
      exact ihn_6 _ _ _ _ (by rw [en_6, ex_31]; exact mu_up b_9 (by decide)) ⟨x_31, f_23, f_24, r_14, f_25, (iv_w bx_31 (by decide)), tf_24, (iv_w b_20 (by decide)), tf_25, g_26, (tbk hAn_6 hR), rfl, hP, hD, hS, lv_sub hl [0, 1, 2] rfl⟩
    · replace hR := te hR c_19
      have b_32 : iv 1 2 r_14 := iv_n0 c_19 br_14 (iv_c (0 : Int32) (a := 0) (b := 0) (by decide)) (by decide)
      refine lv_iload_n hx hb dX10_tells_43 rfl (lv_at hl 0 rfl) ?_
      exact fiI hx hb hr hlk hK hP hD hS dX10_tells_44 (Nat.le_of_ble_eq_true rfl) (Nat.le_of_ble_eq_true rfl) (⟨f_2, f_3, r_14, f_5, tf_3, (iv_w b_32 (by decide)), tf_5, (iv_w b_9 (by decide)), inn_6_0, (congrArg Prod.fst ((tx hAn_6 hR).symm.trans hT0)), (congrArg Prod.fst (congrArg Prod.snd ((tx hAn_6 hR).symm.trans hT0))), (congrArg Prod.fst (congrArg Prod.snd (congrArg Prod.snd ((tx hAn_6 hR).symm.trans hT0)))), (congrArg Prod.fst (congrArg Prod.snd (congrArg Prod.snd (congrArg Prod.snd ((tx hAn_6 hR).symm.trans hT0))))), (congrArg Prod.snd (congrArg Prod.snd (congrArg Prod.snd (congrArg Prod.snd ((tx hAn_6 hR).symm.trans hT0))))), rfl⟩)
theorem dX10_isAgain_0 : decode cX10_isAgain 0 = .ok (.iconst 0, 1) := by decide +kernel
theorem dX10_isAgain_1 : decode cX10_isAgain 1 = .ok (.istore_n 1, 1) := by decide +kernel
theorem dX10_isAgain_2 : decode cX10_isAgain 2 = .ok (.iload_n 1, 1) := by decide +kernel
theorem dX10_isAgain_3 : decode cX10_isAgain 3 = .ok (.bipush 7, 2) := by decide +kernel
theorem dX10_isAgain_5 : decode cX10_isAgain 5 = .ok (.if_icmp .ge 24, 3) := by decide +kernel
theorem dX10_isAgain_8 : decode cX10_isAgain 8 = .ok (.aload_n 0, 1) := by decide +kernel
theorem dX10_isAgain_9 : decode cX10_isAgain 9 = .ok (.getfield 13, 3) := by decide +kernel
theorem dX10_isAgain_12 : decode cX10_isAgain 12 = .ok (.bipush 46, 2) := by decide +kernel
theorem dX10_isAgain_14 : decode cX10_isAgain 14 = .ok (.iload_n 1, 1) := by decide +kernel
theorem dX10_isAgain_15 : decode cX10_isAgain 15 = .ok (.iadd, 1) := by decide +kernel
theorem dX10_isAgain_16 : decode cX10_isAgain 16 = .ok (.aload_n 0, 1) := by decide +kernel
theorem dX10_isAgain_17 : decode cX10_isAgain 17 = .ok (.getfield 36, 3) := by decide +kernel
theorem dX10_isAgain_20 : decode cX10_isAgain 20 = .ok (.iload_n 1, 1) := by decide +kernel
theorem dX10_isAgain_21 : decode cX10_isAgain 21 = .ok (.iaload, 1) := by decide +kernel
theorem dX10_isAgain_22 : decode cX10_isAgain 22 = .ok (.iastore, 1) := by decide +kernel
theorem dX10_isAgain_23 : decode cX10_isAgain 23 = .ok (.iinc 1 1, 3) := by decide +kernel
theorem dX10_isAgain_26 : decode cX10_isAgain 26 = .ok (.goto (-24), 3) := by decide +kernel
theorem dX10_isAgain_29 : decode cX10_isAgain 29 = .ok (.return_, 1) := by decide +kernel
set_option maxRecDepth 100000 in
noncomputable def F_k_X10_isAgain_0 (fz17 : Nat → Int32) (fz1 : Nat → Int32) : (Nat → Int32) := bnd (fz17 (0 : Int32).toNatClampNeg : Int32) fun (x_3 : Int32) => bnd ((upd fz1 (46 : Int32).toNatClampNeg x_3) : Nat → Int32) fun (f_4 : Nat → Int32) => bnd (fz17 (1 : Int32).toNatClampNeg : Int32) fun (x_7 : Int32) => bnd ((upd f_4 (47 : Int32).toNatClampNeg x_7) : Nat → Int32) fun (f_8 : Nat → Int32) => bnd (fz17 (2 : Int32).toNatClampNeg : Int32) fun (x_11 : Int32) => bnd ((upd f_8 (48 : Int32).toNatClampNeg x_11) : Nat → Int32) fun (f_12 : Nat → Int32) => bnd (fz17 (3 : Int32).toNatClampNeg : Int32) fun (x_15 : Int32) => bnd ((upd f_12 (49 : Int32).toNatClampNeg x_15) : Nat → Int32) fun (f_16 : Nat → Int32) => bnd (fz17 (4 : Int32).toNatClampNeg : Int32) fun (x_19 : Int32) => bnd ((upd f_16 (50 : Int32).toNatClampNeg x_19) : Nat → Int32) fun (f_20 : Nat → Int32) => bnd (fz17 (5 : Int32).toNatClampNeg : Int32) fun (x_23 : Int32) => bnd ((upd f_20 (51 : Int32).toNatClampNeg x_23) : Nat → Int32) fun (f_24 : Nat → Int32) => bnd (fz17 (6 : Int32).toNatClampNeg : Int32) fun (x_27 : Int32) => bnd ((upd f_24 (52 : Int32).toNatClampNeg x_27) : Nat → Int32) fun (f_28 : Nat → Int32) => (f_28)
set_option maxHeartbeats 4000000 in
set_option maxRecDepth 100000 in
theorem k_X10_isAgain_0 (l : Launch) (V : GV) (z : Nat → Nat) (fz17 : Nat → Int32) (pz0_0 : Int32) (pz0_5 : Int32) (pz0_6 : Int32) (pz0_7 : Int32) (pz0_8 : Int32) (pz0_9 : Int32) (pz0_10 : Int32) (pz0_11 : Int32) (pz0_12 : Int32) (pz0_13 : Int32) (pz0_14 : Int32) (pz0_18 : Int32) (pz0_19 : Int32) (pz0_22 : Int32) (pz0_23 : Int32) (pz0_29 : Int32) (fz1 : Nat → Int32) (tfz17 : ivT tS fz17) (bpz0_5 : iv 0 900 pz0_5) (bpz0_6 : iv 0 900 pz0_6) (bpz0_7 : iv 0 900 pz0_7) (bpz0_8 : iv 0 900 pz0_8) (bpz0_10 : iv 0 999 pz0_10) (bpz0_11 : iv 0 4 pz0_11) (bpz0_12 : iv 0 900 pz0_12) (bpz0_13 : iv 0 4 pz0_13) (bpz0_14 : iv (-1) 900 pz0_14) (bpz0_18 : iv 0 2 pz0_18) (bpz0_22 : iv 0 9999 pz0_22) (bpz0_29 : iv 0 10000 pz0_29) (tfz1 : ivT tA fz1) (hf0 : RW fz1) : Ct l V yX10_isAgain (.code yX10_isAgain cX10_isAgain 2 none) 1 [.ref (z 0)] [(z 17, aI V 7 fz17), (z 0, .inr (10, mo z pz0_0 pz0_5 pz0_6 pz0_7 pz0_8 pz0_9 pz0_10 pz0_11 pz0_12 pz0_13 pz0_14 pz0_18 pz0_19 pz0_22 pz0_23 pz0_29)), (z 1, aI V 3075 fz1)] 0 0 (QV V (fun (w : va_W) => ∃ (g0 : Nat → Int32), (ivT tA g0) ∧ (RW g0) ∧ g0 = (F_k_X10_isAgain_0 fz17 fz1) ∧ w = [(z 17, aI V 7 fz17), (z 0, .inr (10, mo z pz0_0 pz0_5 pz0_6 pz0_7 pz0_8 pz0_9 pz0_10 pz0_11 pz0_12 pz0_13 pz0_14 pz0_18 pz0_19 pz0_22 pz0_23 pz0_29)), (z 1, aI V 3075 g0)])) := by
  refine Ct.of (by decide) (Nat.le_of_ble_eq_true rfl) (fun p e s m below meth c A ls hx hb hr hml hown hlk hnm hg hP hK hD hE hA hS hl => ?_)
  have hl : lv_has ls 2 [(0, .ref (z 0))] := hl
  obtain ⟨T0, hT0⟩ : ∃ T9, T9 = F_k_X10_isAgain_0 fz17 fz1 := ⟨_, rfl⟩
  have hR := hT0.trans (F_k_X10_isAgain_0.eq_1 ..)
  refine lv_iconst (v := 0) hx hb dX10_isAgain_0 (by decide) ?_
  refine lv_istore_n (lv' := [(1, .int 0), (0, .ref (z 0))]) hx hb dX10_isAgain_1 rfl hl (by decide) rfl (fun ls hl => ?_)
  refine lv_iload_n hx hb dX10_isAgain_2 rfl (lv_at hl 0 rfl) ?_
  refine lv_bipush (v := 7) hx hb dX10_isAgain_3 (by decide) ?_
  refine lv_icmp_ge (tgt := 29) hx hb dX10_isAgain_5 (by decide) (fun c_2 => absurd c_2 (by decide)) (fun _ => ?_)
  refine lv_aload_n hx hb dX10_isAgain_8 rfl (lv_at hl 1 rfl) ?_
  refine va_get (ci := 10) (v := .ref (z 1)) (C := RX10) (T := TX10) (N := 40) hx hb hg inX10 hown hK hP 1 rfl rfl 1 (by decide) (hg _ q_5_225) (fun _ h9 => h9) rfl dX10_isAgain_9 ?_
  refine lv_bipush (v := 46) hx hb dX10_isAgain_12 (by decide) ?_
  refine lv_iload_n hx hb dX10_isAgain_14 rfl (lv_at hl 0 rfl) ?_
  refine lv_iadd hx hb dX10_isAgain_15 ?_
  refine tpi (y := 46) (by decide +kernel) ?_
  refine lv_aload_n hx hb dX10_isAgain_16 rfl (lv_at hl 1 rfl) ?_
  refine va_get (ci := 10) (v := .ref (z 17)) (C := RX10) (T := TX10) (N := 40) hx hb hg inX10 hown hK hP 1 rfl rfl 17 (by decide) (hg _ q_6_1) (fun _ h9 => h9) rfl dX10_isAgain_17 ?_
  refine lv_iload_n hx hb dX10_isAgain_20 rfl (lv_at hl 0 rfl) ?_
  refine va_iald hx hb hK hP 0 0 rfl rfl (vin (by decide +kernel)) dX10_isAgain_21 ?_
  refine lv_topi (fun x_3 ex_3 => ?_)
  have bx_3 : iv 0 4 x_3 := by rw [ex_3]; exact rdT (a := 0) (n := 1) tfz17 (iv_c (0 : Int32) (a := 0) (b := 0) (by decide)) (by decide) (by decide +kernel)
  replace hR := tb hR ex_3
  refine va_iast hx hb hK hP hD hS 2 0 rfl rfl (vin (by decide +kernel)) dX10_isAgain_22 (fun H locs hP hD hS => ?_)
  obtain ⟨f_4, ef_4, tf_4, hP, hD⟩ : ∃ f_4 : Nat → Int32, f_4 = (upd fz1 (46 : Int32).toNatClampNeg x_3) ∧ (ivT tA f_4) ∧ va_P V.1 vwCl [(z 17, aI V 7 fz17), (z 0, .inr (10, mo z pz0_0 pz0_5 pz0_6 pz0_7 pz0_8 pz0_9 pz0_10 pz0_11 pz0_12 pz0_13 pz0_14 pz0_18 pz0_19 pz0_22 pz0_23 pz0_29)), (z 1, aI V 3075 f_4)] H ∧ va_D A [(z 17, aI V 7 fz17), (z 0, .inr (10, mo z pz0_0 pz0_5 pz0_6 pz0_7 pz0_8 pz0_9 pz0_10 pz0_11 pz0_12 pz0_13 pz0_14 pz0_18 pz0_19 pz0_22 pz0_23 pz0_29)), (z 1, aI V 3075 f_4)] := ⟨_, rfl, upT (lo := 0) (hi := 4) (a := 46) (n := 1) tfz1 (iv_c (46 : Int32) (a := 46) (b := 46) (by decide)) (by decide) bx_3 (by decide +kernel), hP, hD⟩
  replace hR := tb hR ef_4
  refine lv_iinc (v := 1) (lv' := [(1, .int 1), (0, .ref (z 0))]) hx hb dX10_isAgain_23 hl (k := 0) rfl (by decide +kernel) (by decide) rfl (fun ls hl => ?_)
  refine lv_goto (tgt := 2) hx hb dX10_isAgain_26 (by decide) ?_
  refine lv_iload_n hx hb dX10_isAgain_2 rfl (lv_at hl 0 rfl) ?_
  refine lv_bipush (v := 7) hx hb dX10_isAgain_3 (by decide) ?_
  refine lv_icmp_ge (tgt := 29) hx hb dX10_isAgain_5 (by decide) (fun c_6 => absurd c_6 (by decide)) (fun _ => ?_)
  refine lv_aload_n hx hb dX10_isAgain_8 rfl (lv_at hl 1 rfl) ?_
  refine va_get (ci := 10) (v := .ref (z 1)) (C := RX10) (T := TX10) (N := 40) hx hb hg inX10 hown hK hP 1 rfl rfl 1 (by decide) (hg _ q_5_225) (fun _ h9 => h9) rfl dX10_isAgain_9 ?_
  refine lv_bipush (v := 46) hx hb dX10_isAgain_12 (by decide) ?_
  refine lv_iload_n hx hb dX10_isAgain_14 rfl (lv_at hl 0 rfl) ?_
  refine lv_iadd hx hb dX10_isAgain_15 ?_
  refine tpi (y := 47) (by decide +kernel) ?_
  refine lv_aload_n hx hb dX10_isAgain_16 rfl (lv_at hl 1 rfl) ?_
  refine va_get (ci := 10) (v := .ref (z 17)) (C := RX10) (T := TX10) (N := 40) hx hb hg inX10 hown hK hP 1 rfl rfl 17 (by decide) (hg _ q_6_1) (fun _ h9 => h9) rfl dX10_isAgain_17 ?_
  refine lv_iload_n hx hb dX10_isAgain_20 rfl (lv_at hl 0 rfl) ?_
  refine va_iald hx hb hK hP 0 0 rfl rfl (vin (by decide +kernel)) dX10_isAgain_21 ?_
  refine lv_topi (fun x_7 ex_7 => ?_)
  have bx_7 : iv 0 4 x_7 := by rw [ex_7]; exact rdT (a := 1) (n := 1) tfz17 (iv_c (1 : Int32) (a := 1) (b := 1) (by decide)) (by decide) (by decide +kernel)
  replace hR := tb hR ex_7
  refine va_iast hx hb hK hP hD hS 2 0 rfl rfl (vin (by decide +kernel)) dX10_isAgain_22 (fun H locs hP hD hS => ?_)
  obtain ⟨f_8, ef_8, tf_8, hP, hD⟩ : ∃ f_8 : Nat → Int32, f_8 = (upd f_4 (47 : Int32).toNatClampNeg x_7) ∧ (ivT tA f_8) ∧ va_P V.1 vwCl [(z 17, aI V 7 fz17), (z 0, .inr (10, mo z pz0_0 pz0_5 pz0_6 pz0_7 pz0_8 pz0_9 pz0_10 pz0_11 pz0_12 pz0_13 pz0_14 pz0_18 pz0_19 pz0_22 pz0_23 pz0_29)), (z 1, aI V 3075 f_8)] H ∧ va_D A [(z 17, aI V 7 fz17), (z 0, .inr (10, mo z pz0_0 pz0_5 pz0_6 pz0_7 pz0_8 pz0_9 pz0_10 pz0_11 pz0_12 pz0_13 pz0_14 pz0_18 pz0_19 pz0_22 pz0_23 pz0_29)), (z 1, aI V 3075 f_8)] := ⟨_, rfl, upT (lo := 0) (hi := 4) (a := 47) (n := 1) tf_4 (iv_c (47 : Int32) (a := 47) (b := 47) (by decide)) (by decide) bx_7 (by decide +kernel), hP, hD⟩
  replace hR := tb hR ef_8
  refine lv_iinc (v := 2) (lv' := [(1, .int 2), (0, .ref (z 0))]) hx hb dX10_isAgain_23 hl (k := 0) rfl (by decide +kernel) (by decide) rfl (fun ls hl => ?_)
  refine lv_goto (tgt := 2) hx hb dX10_isAgain_26 (by decide) ?_
  refine lv_iload_n hx hb dX10_isAgain_2 rfl (lv_at hl 0 rfl) ?_
  refine lv_bipush (v := 7) hx hb dX10_isAgain_3 (by decide) ?_
  refine lv_icmp_ge (tgt := 29) hx hb dX10_isAgain_5 (by decide) (fun c_10 => absurd c_10 (by decide)) (fun _ => ?_)
  refine lv_aload_n hx hb dX10_isAgain_8 rfl (lv_at hl 1 rfl) ?_
  refine va_get (ci := 10) (v := .ref (z 1)) (C := RX10) (T := TX10) (N := 40) hx hb hg inX10 hown hK hP 1 rfl rfl 1 (by decide) (hg _ q_5_225) (fun _ h9 => h9) rfl dX10_isAgain_9 ?_
  refine lv_bipush (v := 46) hx hb dX10_isAgain_12 (by decide) ?_
  refine lv_iload_n hx hb dX10_isAgain_14 rfl (lv_at hl 0 rfl) ?_
  refine lv_iadd hx hb dX10_isAgain_15 ?_
  refine tpi (y := 48) (by decide +kernel) ?_
  refine lv_aload_n hx hb dX10_isAgain_16 rfl (lv_at hl 1 rfl) ?_
  refine va_get (ci := 10) (v := .ref (z 17)) (C := RX10) (T := TX10) (N := 40) hx hb hg inX10 hown hK hP 1 rfl rfl 17 (by decide) (hg _ q_6_1) (fun _ h9 => h9) rfl dX10_isAgain_17 ?_
  refine lv_iload_n hx hb dX10_isAgain_20 rfl (lv_at hl 0 rfl) ?_
  refine va_iald hx hb hK hP 0 0 rfl rfl (vin (by decide +kernel)) dX10_isAgain_21 ?_
  refine lv_topi (fun x_11 ex_11 => ?_)
  have bx_11 : iv 0 4 x_11 := by rw [ex_11]; exact rdT (a := 2) (n := 1) tfz17 (iv_c (2 : Int32) (a := 2) (b := 2) (by decide)) (by decide) (by decide +kernel)
  replace hR := tb hR ex_11
  refine va_iast hx hb hK hP hD hS 2 0 rfl rfl (vin (by decide +kernel)) dX10_isAgain_22 (fun H locs hP hD hS => ?_)
  obtain ⟨f_12, ef_12, tf_12, hP, hD⟩ : ∃ f_12 : Nat → Int32, f_12 = (upd f_8 (48 : Int32).toNatClampNeg x_11) ∧ (ivT tA f_12) ∧ va_P V.1 vwCl [(z 17, aI V 7 fz17), (z 0, .inr (10, mo z pz0_0 pz0_5 pz0_6 pz0_7 pz0_8 pz0_9 pz0_10 pz0_11 pz0_12 pz0_13 pz0_14 pz0_18 pz0_19 pz0_22 pz0_23 pz0_29)), (z 1, aI V 3075 f_12)] H ∧ va_D A [(z 17, aI V 7 fz17), (z 0, .inr (10, mo z pz0_0 pz0_5 pz0_6 pz0_7 pz0_8 pz0_9 pz0_10 pz0_11 pz0_12 pz0_13 pz0_14 pz0_18 pz0_19 pz0_22 pz0_23 pz0_29)), (z 1, aI V 3075 f_12)] := ⟨_, rfl, upT (lo := 0) (hi := 4) (a := 48) (n := 1) tf_8 (iv_c (48 : Int32) (a := 48) (b := 48) (by decide)) (by decide) bx_11 (by decide +kernel), hP, hD⟩
  replace hR := tb hR ef_12
  refine lv_iinc (v := 3) (lv' := [(1, .int 3), (0, .ref (z 0))]) hx hb dX10_isAgain_23 hl (k := 0) rfl (by decide +kernel) (by decide) rfl (fun ls hl => ?_)
  refine lv_goto (tgt := 2) hx hb dX10_isAgain_26 (by decide) ?_
  refine lv_iload_n hx hb dX10_isAgain_2 rfl (lv_at hl 0 rfl) ?_
  refine lv_bipush (v := 7) hx hb dX10_isAgain_3 (by decide) ?_
  refine lv_icmp_ge (tgt := 29) hx hb dX10_isAgain_5 (by decide) (fun c_14 => absurd c_14 (by decide)) (fun _ => ?_)
  refine lv_aload_n hx hb dX10_isAgain_8 rfl (lv_at hl 1 rfl) ?_
  refine va_get (ci := 10) (v := .ref (z 1)) (C := RX10) (T := TX10) (N := 40) hx hb hg inX10 hown hK hP 1 rfl rfl 1 (by decide) (hg _ q_5_225) (fun _ h9 => h9) rfl dX10_isAgain_9 ?_
  refine lv_bipush (v := 46) hx hb dX10_isAgain_12 (by decide) ?_
  refine lv_iload_n hx hb dX10_isAgain_14 rfl (lv_at hl 0 rfl) ?_
  refine lv_iadd hx hb dX10_isAgain_15 ?_
  refine tpi (y := 49) (by decide +kernel) ?_
  refine lv_aload_n hx hb dX10_isAgain_16 rfl (lv_at hl 1 rfl) ?_
  refine va_get (ci := 10) (v := .ref (z 17)) (C := RX10) (T := TX10) (N := 40) hx hb hg inX10 hown hK hP 1 rfl rfl 17 (by decide) (hg _ q_6_1) (fun _ h9 => h9) rfl dX10_isAgain_17 ?_
  refine lv_iload_n hx hb dX10_isAgain_20 rfl (lv_at hl 0 rfl) ?_
  refine va_iald hx hb hK hP 0 0 rfl rfl (vin (by decide +kernel)) dX10_isAgain_21 ?_
  refine lv_topi (fun x_15 ex_15 => ?_)
  have bx_15 : iv 0 4 x_15 := by rw [ex_15]; exact rdT (a := 3) (n := 1) tfz17 (iv_c (3 : Int32) (a := 3) (b := 3) (by decide)) (by decide) (by decide +kernel)
  replace hR := tb hR ex_15
  refine va_iast hx hb hK hP hD hS 2 0 rfl rfl (vin (by decide +kernel)) dX10_isAgain_22 (fun H locs hP hD hS => ?_)
  obtain ⟨f_16, ef_16, tf_16, hP, hD⟩ : ∃ f_16 : Nat → Int32, f_16 = (upd f_12 (49 : Int32).toNatClampNeg x_15) ∧ (ivT tA f_16) ∧ va_P V.1 vwCl [(z 17, aI V 7 fz17), (z 0, .inr (10, mo z pz0_0 pz0_5 pz0_6 pz0_7 pz0_8 pz0_9 pz0_10 pz0_11 pz0_12 pz0_13 pz0_14 pz0_18 pz0_19 pz0_22 pz0_23 pz0_29)), (z 1, aI V 3075 f_16)] H ∧ va_D A [(z 17, aI V 7 fz17), (z 0, .inr (10, mo z pz0_0 pz0_5 pz0_6 pz0_7 pz0_8 pz0_9 pz0_10 pz0_11 pz0_12 pz0_13 pz0_14 pz0_18 pz0_19 pz0_22 pz0_23 pz0_29)), (z 1, aI V 3075 f_16)] := ⟨_, rfl, upT (lo := 0) (hi := 4) (a := 49) (n := 1) tf_12 (iv_c (49 : Int32) (a := 49) (b := 49) (by decide)) (by decide) bx_15 (by decide +kernel), hP, hD⟩
  replace hR := tb hR ef_16
  refine lv_iinc (v := 4) (lv' := [(1, .int 4), (0, .ref (z 0))]) hx hb dX10_isAgain_23 hl (k := 0) rfl (by decide +kernel) (by decide) rfl (fun ls hl => ?_)
  refine lv_goto (tgt := 2) hx hb dX10_isAgain_26 (by decide) ?_
  refine lv_iload_n hx hb dX10_isAgain_2 rfl (lv_at hl 0 rfl) ?_
  refine lv_bipush (v := 7) hx hb dX10_isAgain_3 (by decide) ?_
  refine lv_icmp_ge (tgt := 29) hx hb dX10_isAgain_5 (by decide) (fun c_18 => absurd c_18 (by decide)) (fun _ => ?_)
  refine lv_aload_n hx hb dX10_isAgain_8 rfl (lv_at hl 1 rfl) ?_
  refine va_get (ci := 10) (v := .ref (z 1)) (C := RX10) (T := TX10) (N := 40) hx hb hg inX10 hown hK hP 1 rfl rfl 1 (by decide) (hg _ q_5_225) (fun _ h9 => h9) rfl dX10_isAgain_9 ?_
  refine lv_bipush (v := 46) hx hb dX10_isAgain_12 (by decide) ?_
  refine lv_iload_n hx hb dX10_isAgain_14 rfl (lv_at hl 0 rfl) ?_
  refine lv_iadd hx hb dX10_isAgain_15 ?_
  refine tpi (y := 50) (by decide +kernel) ?_
  refine lv_aload_n hx hb dX10_isAgain_16 rfl (lv_at hl 1 rfl) ?_
  refine va_get (ci := 10) (v := .ref (z 17)) (C := RX10) (T := TX10) (N := 40) hx hb hg inX10 hown hK hP 1 rfl rfl 17 (by decide) (hg _ q_6_1) (fun _ h9 => h9) rfl dX10_isAgain_17 ?_
  refine lv_iload_n hx hb dX10_isAgain_20 rfl (lv_at hl 0 rfl) ?_
  refine va_iald hx hb hK hP 0 0 rfl rfl (vin (by decide +kernel)) dX10_isAgain_21 ?_
  refine lv_topi (fun x_19 ex_19 => ?_)
  have bx_19 : iv 0 15 x_19 := by rw [ex_19]; exact rdT (a := 4) (n := 1) tfz17 (iv_c (4 : Int32) (a := 4) (b := 4) (by decide)) (by decide) (by decide +kernel)
  replace hR := tb hR ex_19
  refine va_iast hx hb hK hP hD hS 2 0 rfl rfl (vin (by decide +kernel)) dX10_isAgain_22 (fun H locs hP hD hS => ?_)
  obtain ⟨f_20, ef_20, tf_20, hP, hD⟩ : ∃ f_20 : Nat → Int32, f_20 = (upd f_16 (50 : Int32).toNatClampNeg x_19) ∧ (ivT tA f_20) ∧ va_P V.1 vwCl [(z 17, aI V 7 fz17), (z 0, .inr (10, mo z pz0_0 pz0_5 pz0_6 pz0_7 pz0_8 pz0_9 pz0_10 pz0_11 pz0_12 pz0_13 pz0_14 pz0_18 pz0_19 pz0_22 pz0_23 pz0_29)), (z 1, aI V 3075 f_20)] H ∧ va_D A [(z 17, aI V 7 fz17), (z 0, .inr (10, mo z pz0_0 pz0_5 pz0_6 pz0_7 pz0_8 pz0_9 pz0_10 pz0_11 pz0_12 pz0_13 pz0_14 pz0_18 pz0_19 pz0_22 pz0_23 pz0_29)), (z 1, aI V 3075 f_20)] := ⟨_, rfl, upT (lo := 0) (hi := 15) (a := 50) (n := 1) tf_16 (iv_c (50 : Int32) (a := 50) (b := 50) (by decide)) (by decide) bx_19 (by decide +kernel), hP, hD⟩
  replace hR := tb hR ef_20
  refine lv_iinc (v := 5) (lv' := [(1, .int 5), (0, .ref (z 0))]) hx hb dX10_isAgain_23 hl (k := 0) rfl (by decide +kernel) (by decide) rfl (fun ls hl => ?_)
  refine lv_goto (tgt := 2) hx hb dX10_isAgain_26 (by decide) ?_
  refine lv_iload_n hx hb dX10_isAgain_2 rfl (lv_at hl 0 rfl) ?_
  refine lv_bipush (v := 7) hx hb dX10_isAgain_3 (by decide) ?_
  refine lv_icmp_ge (tgt := 29) hx hb dX10_isAgain_5 (by decide) (fun c_22 => absurd c_22 (by decide)) (fun _ => ?_)
  refine lv_aload_n hx hb dX10_isAgain_8 rfl (lv_at hl 1 rfl) ?_
  refine va_get (ci := 10) (v := .ref (z 1)) (C := RX10) (T := TX10) (N := 40) hx hb hg inX10 hown hK hP 1 rfl rfl 1 (by decide) (hg _ q_5_225) (fun _ h9 => h9) rfl dX10_isAgain_9 ?_
  refine lv_bipush (v := 46) hx hb dX10_isAgain_12 (by decide) ?_
  refine lv_iload_n hx hb dX10_isAgain_14 rfl (lv_at hl 0 rfl) ?_
  refine lv_iadd hx hb dX10_isAgain_15 ?_
  refine tpi (y := 51) (by decide +kernel) ?_
  refine lv_aload_n hx hb dX10_isAgain_16 rfl (lv_at hl 1 rfl) ?_
  refine va_get (ci := 10) (v := .ref (z 17)) (C := RX10) (T := TX10) (N := 40) hx hb hg inX10 hown hK hP 1 rfl rfl 17 (by decide) (hg _ q_6_1) (fun _ h9 => h9) rfl dX10_isAgain_17 ?_
  refine lv_iload_n hx hb dX10_isAgain_20 rfl (lv_at hl 0 rfl) ?_
  refine va_iald hx hb hK hP 0 0 rfl rfl (vin (by decide +kernel)) dX10_isAgain_21 ?_
  refine lv_topi (fun x_23 ex_23 => ?_)
  have bx_23 : iv 0 9 x_23 := by rw [ex_23]; exact rdT (a := 5) (n := 1) tfz17 (iv_c (5 : Int32) (a := 5) (b := 5) (by decide)) (by decide) (by decide +kernel)
  replace hR := tb hR ex_23
  refine va_iast hx hb hK hP hD hS 2 0 rfl rfl (vin (by decide +kernel)) dX10_isAgain_22 (fun H locs hP hD hS => ?_)
  obtain ⟨f_24, ef_24, tf_24, hP, hD⟩ : ∃ f_24 : Nat → Int32, f_24 = (upd f_20 (51 : Int32).toNatClampNeg x_23) ∧ (ivT tA f_24) ∧ va_P V.1 vwCl [(z 17, aI V 7 fz17), (z 0, .inr (10, mo z pz0_0 pz0_5 pz0_6 pz0_7 pz0_8 pz0_9 pz0_10 pz0_11 pz0_12 pz0_13 pz0_14 pz0_18 pz0_19 pz0_22 pz0_23 pz0_29)), (z 1, aI V 3075 f_24)] H ∧ va_D A [(z 17, aI V 7 fz17), (z 0, .inr (10, mo z pz0_0 pz0_5 pz0_6 pz0_7 pz0_8 pz0_9 pz0_10 pz0_11 pz0_12 pz0_13 pz0_14 pz0_18 pz0_19 pz0_22 pz0_23 pz0_29)), (z 1, aI V 3075 f_24)] := ⟨_, rfl, upT (lo := 0) (hi := 9) (a := 51) (n := 1) tf_20 (iv_c (51 : Int32) (a := 51) (b := 51) (by decide)) (by decide) bx_23 (by decide +kernel), hP, hD⟩
  replace hR := tb hR ef_24
  refine lv_iinc (v := 6) (lv' := [(1, .int 6), (0, .ref (z 0))]) hx hb dX10_isAgain_23 hl (k := 0) rfl (by decide +kernel) (by decide) rfl (fun ls hl => ?_)
  refine lv_goto (tgt := 2) hx hb dX10_isAgain_26 (by decide) ?_
  refine lv_iload_n hx hb dX10_isAgain_2 rfl (lv_at hl 0 rfl) ?_
  refine lv_bipush (v := 7) hx hb dX10_isAgain_3 (by decide) ?_
  refine lv_icmp_ge (tgt := 29) hx hb dX10_isAgain_5 (by decide) (fun c_26 => absurd c_26 (by decide)) (fun _ => ?_)
  refine lv_aload_n hx hb dX10_isAgain_8 rfl (lv_at hl 1 rfl) ?_
  refine va_get (ci := 10) (v := .ref (z 1)) (C := RX10) (T := TX10) (N := 40) hx hb hg inX10 hown hK hP 1 rfl rfl 1 (by decide) (hg _ q_5_225) (fun _ h9 => h9) rfl dX10_isAgain_9 ?_
  refine lv_bipush (v := 46) hx hb dX10_isAgain_12 (by decide) ?_
  refine lv_iload_n hx hb dX10_isAgain_14 rfl (lv_at hl 0 rfl) ?_
  refine lv_iadd hx hb dX10_isAgain_15 ?_
  refine tpi (y := 52) (by decide +kernel) ?_
  refine lv_aload_n hx hb dX10_isAgain_16 rfl (lv_at hl 1 rfl) ?_
  refine va_get (ci := 10) (v := .ref (z 17)) (C := RX10) (T := TX10) (N := 40) hx hb hg inX10 hown hK hP 1 rfl rfl 17 (by decide) (hg _ q_6_1) (fun _ h9 => h9) rfl dX10_isAgain_17 ?_
  refine lv_iload_n hx hb dX10_isAgain_20 rfl (lv_at hl 0 rfl) ?_
  refine va_iald hx hb hK hP 0 0 rfl rfl (vin (by decide +kernel)) dX10_isAgain_21 ?_
  refine lv_topi (fun x_27 ex_27 => ?_)
  replace hR := tb hR ex_27
  refine va_iast hx hb hK hP hD hS 2 0 rfl rfl (vin (by decide +kernel)) dX10_isAgain_22 (fun H locs hP hD hS => ?_)
  obtain ⟨f_28, ef_28, tf_28, hP, hD⟩ : ∃ f_28 : Nat → Int32, f_28 = (upd f_24 (52 : Int32).toNatClampNeg x_27) ∧ (ivT tA f_28) ∧ va_P V.1 vwCl [(z 17, aI V 7 fz17), (z 0, .inr (10, mo z pz0_0 pz0_5 pz0_6 pz0_7 pz0_8 pz0_9 pz0_10 pz0_11 pz0_12 pz0_13 pz0_14 pz0_18 pz0_19 pz0_22 pz0_23 pz0_29)), (z 1, aI V 3075 f_28)] H ∧ va_D A [(z 17, aI V 7 fz17), (z 0, .inr (10, mo z pz0_0 pz0_5 pz0_6 pz0_7 pz0_8 pz0_9 pz0_10 pz0_11 pz0_12 pz0_13 pz0_14 pz0_18 pz0_19 pz0_22 pz0_23 pz0_29)), (z 1, aI V 3075 f_28)] := ⟨_, rfl, upT (lo := (-2147483648)) (hi := 2147483647) (a := 52) (n := 1) tf_24 (iv_c (52 : Int32) (a := 52) (b := 52) (by decide)) (by decide) (iv_top x_27) (by decide +kernel), hP, hD⟩
  replace hR := tb hR ef_28
  refine lv_iinc (v := 7) (lv' := [(1, .int 7), (0, .ref (z 0))]) hx hb dX10_isAgain_23 hl (k := 0) rfl (by decide +kernel) (by decide) rfl (fun ls hl => ?_)
  refine lv_goto (tgt := 2) hx hb dX10_isAgain_26 (by decide) ?_
  refine lv_iload_n hx hb dX10_isAgain_2 rfl (lv_at hl 0 rfl) ?_
  refine lv_bipush (v := 7) hx hb dX10_isAgain_3 (by decide) ?_
  refine lv_icmp_ge (tgt := 29) hx hb dX10_isAgain_5 (by decide) (fun _ => ?_) (fun c_30 => absurd c_30 (by decide))
  exact fiV hx hb hr hlk hK hP hD hS dX10_isAgain_29 (Nat.le_of_ble_eq_true rfl) (Nat.le_of_ble_eq_true rfl) (⟨f_28, tf_28, (RW_up (RW_up (RW_up (RW_up (RW_up (RW_up (RW_up hf0 (iv_c (46 : Int32) (a := 46) (b := 46) (by decide)) (by decide) ef_4) (iv_c (47 : Int32) (a := 47) (b := 47) (by decide)) (by decide) ef_8) (iv_c (48 : Int32) (a := 48) (b := 48) (by decide)) (by decide) ef_12) (iv_c (49 : Int32) (a := 49) (b := 49) (by decide)) (by decide) ef_16) (iv_c (50 : Int32) (a := 50) (b := 50) (by decide)) (by decide) ef_20) (iv_c (51 : Int32) (a := 51) (b := 51) (by decide)) (by decide) ef_24) (iv_c (52 : Int32) (a := 52) (b := 52) (by decide)) (by decide) ef_28), (hR.symm.trans hT0), rfl⟩)
theorem dX10_sumIn_0 : decode cX10_sumIn 0 = .ok (.iconst 0, 1) := by decide +kernel
theorem dX10_sumIn_1 : decode cX10_sumIn 1 = .ok (.istore_n 2, 1) := by decide +kernel
theorem dX10_sumIn_2 : decode cX10_sumIn 2 = .ok (.iconst 0, 1) := by decide +kernel
theorem dX10_sumIn_3 : decode cX10_sumIn 3 = .ok (.istore_n 3, 1) := by decide +kernel
theorem dX10_sumIn_4 : decode cX10_sumIn 4 = .ok (.iload_n 3, 1) := by decide +kernel
theorem dX10_sumIn_5 : decode cX10_sumIn 5 = .ok (.aload_n 0, 1) := by decide +kernel
theorem dX10_sumIn_6 : decode cX10_sumIn 6 = .ok (.getfield 13, 3) := by decide +kernel
theorem dX10_sumIn_9 : decode cX10_sumIn 9 = .ok (.iconst 1, 1) := by decide +kernel
theorem dX10_sumIn_10 : decode cX10_sumIn 10 = .ok (.iaload, 1) := by decide +kernel
theorem dX10_sumIn_11 : decode cX10_sumIn 11 = .ok (.if_icmp .ge 17, 3) := by decide +kernel
theorem dX10_sumIn_28 : decode cX10_sumIn 28 = .ok (.iload_n 2, 1) := by decide +kernel
theorem dX10_sumIn_29 : decode cX10_sumIn 29 = .ok (.ireturn, 1) := by decide +kernel
theorem dX10_sumIn_14 : decode cX10_sumIn 14 = .ok (.iload_n 2, 1) := by decide +kernel
theorem dX10_sumIn_15 : decode cX10_sumIn 15 = .ok (.iload_n 1, 1) := by decide +kernel
theorem dX10_sumIn_16 : decode cX10_sumIn 16 = .ok (.iload_n 3, 1) := by decide +kernel
theorem dX10_sumIn_17 : decode cX10_sumIn 17 = .ok (.invokestatic 231, 3) := by decide +kernel
theorem dX10_sumIn_20 : decode cX10_sumIn 20 = .ok (.iadd, 1) := by decide +kernel
theorem dX10_sumIn_21 : decode cX10_sumIn 21 = .ok (.istore_n 2, 1) := by decide +kernel
theorem dX10_sumIn_22 : decode cX10_sumIn 22 = .ok (.iinc 3 1, 3) := by decide +kernel
theorem dX10_sumIn_25 : decode cX10_sumIn 25 = .ok (.goto (-21), 3) := by decide +kernel
set_option maxRecDepth 100000 in
noncomputable def B_k_X10_sumIn_0_1 (a1 : Int32) (fz1 : Nat → Int32) (u_1 : Int32) (u_2 : Int32) : (Int32 × Int32) ⊕ (Int32) := bnd (fz1 (1 : Int32).toNatClampNeg : Int32) fun (x_4 : Int32) => if x_4 ≤ u_1 then (Sum.inr ((u_2))) else (bnd (F_k_X10_stackIn_0 a1 u_1 : Int32) fun (r_8 : Int32) => bnd (u_2 + r_8 : Int32) fun (x_11 : Int32) => bnd (u_1 + 1 : Int32) fun (x_12 : Int32) => Sum.inl (x_12, x_11))
noncomputable def L_k_X10_sumIn_0_1 (a1 : Int32) (fz1 : Nat → Int32) (q9 : Int32 × Int32) : (Int32 × Int32) ⊕ (Int32) := B_k_X10_sumIn_0_1 a1 fz1 q9.1 q9.2
set_option maxRecDepth 100000 in
noncomputable def F_k_X10_sumIn_0 (a1 : Int32) (fz1 : Nat → Int32) : Int32 := W9 (L_k_X10_sumIn_0_1 a1 fz1) (0, 0)
set_option maxHeartbeats 4000000 in
set_option maxRecDepth 100000 in
theorem k_X10_sumIn_0 (l : Launch) (V : GV) (z : Nat → Nat) (a1 : Int32) (pz0_0 : Int32) (pz0_5 : Int32) (pz0_6 : Int32) (pz0_7 : Int32) (pz0_8 : Int32) (pz0_9 : Int32) (pz0_10 : Int32) (pz0_11 : Int32) (pz0_12 : Int32) (pz0_13 : Int32) (pz0_14 : Int32) (pz0_18 : Int32) (pz0_19 : Int32) (pz0_22 : Int32) (pz0_23 : Int32) (pz0_29 : Int32) (fz1 : Nat → Int32) (ba1 : iv 0 9999 a1) (bpz0_5 : iv 0 900 pz0_5) (bpz0_6 : iv 0 900 pz0_6) (bpz0_7 : iv 0 900 pz0_7) (bpz0_8 : iv 0 900 pz0_8) (bpz0_10 : iv 0 999 pz0_10) (bpz0_11 : iv 0 4 pz0_11) (bpz0_12 : iv 0 900 pz0_12) (bpz0_13 : iv 0 4 pz0_13) (bpz0_14 : iv (-1) 900 pz0_14) (bpz0_18 : iv 0 2 pz0_18) (bpz0_22 : iv 0 9999 pz0_22) (bpz0_29 : iv 0 10000 pz0_29) (tfz1 : ivT tA fz1) : Ct l V yX10_sumIn (.code yX10_sumIn cX10_sumIn 4 (some .int)) 3 [.ref (z 0), .int a1] [(z 0, .inr (10, mo z pz0_0 pz0_5 pz0_6 pz0_7 pz0_8 pz0_9 pz0_10 pz0_11 pz0_12 pz0_13 pz0_14 pz0_18 pz0_19 pz0_22 pz0_23 pz0_29)), (z 1, aI V 3075 fz1)] 0 0 (QI V (fun (r : Int32) (w : va_W) => r = (F_k_X10_sumIn_0 a1 fz1) ∧ w = [(z 0, .inr (10, mo z pz0_0 pz0_5 pz0_6 pz0_7 pz0_8 pz0_9 pz0_10 pz0_11 pz0_12 pz0_13 pz0_14 pz0_18 pz0_19 pz0_22 pz0_23 pz0_29)), (z 1, aI V 3075 fz1)])) := by
  refine Ct.of (by decide) (Nat.le_of_ble_eq_true rfl) (fun p e s m below meth c A ls hx hb hr hml hown hlk hnm hg hP hK hD hE hA hS hl => ?_)
  have hl : lv_has ls 4 [(0, .ref (z 0)), (1, .int a1)] := hl
  obtain ⟨T0, hT0⟩ : ∃ T9, T9 = F_k_X10_sumIn_0 a1 fz1 := ⟨_, rfl⟩
  have hR := hT0.trans (F_k_X10_sumIn_0.eq_1 ..)
  refine lv_iconst (v := 0) hx hb dX10_sumIn_0 (by decide) ?_
  refine lv_istore_n (lv' := [(2, .int 0), (0, .ref (z 0)), (1, .int a1)]) hx hb dX10_sumIn_1 rfl hl (by decide) rfl (fun ls hl => ?_)
  refine lv_iconst (v := 0) hx hb dX10_sumIn_2 (by decide) ?_
  refine lv_istore_n (lv' := [(3, .int 0), (2, .int 0), (0, .ref (z 0)), (1, .int a1)]) hx hb dX10_sumIn_3 rfl hl (by decide) rfl (fun ls hl => ?_)
  refine loopF (X := fun (n_3 : Nat) (H : Heap) (locs : List Loc) (ls : Array Slot) => ∃ (u_1 : Int32) (u_2 : Int32), (iv 0 2147483647 u_1) ∧ T0 = W9 (L_k_X10_sumIn_0_1 a1 fz1) (u_1, u_2) ∧ n_3 = (2147483647 - (u_1 : Int32).toInt).toNat ∧ va_P V.1 vwCl [(z 0, .inr (10, mo z pz0_0 pz0_5 pz0_6 pz0_7 pz0_8 pz0_9 pz0_10 pz0_11 pz0_12 pz0_13 pz0_14 pz0_18 pz0_19 pz0_22 pz0_23 pz0_29)), (z 1, aI V 3075 fz1)] H ∧ va_D A [(z 0, .inr (10, mo z pz0_0 pz0_5 pz0_6 pz0_7 pz0_8 pz0_9 pz0_10 pz0_11 pz0_12 pz0_13 pz0_14 pz0_18 pz0_19 pz0_22 pz0_23 pz0_29)), (z 1, aI V 3075 fz1)] ∧ va_S A s.heap H locs ∧ lv_has ls 4 [(3, .int u_1), (2, .int u_2), (0, .ref (z 0)), (1, .int a1)]) (g := fun ls => F0 m 4 ls []) (fun n_3 H locs ls hX ihn_3 => ?_) _ ⟨0, 0, (iv_c (0 : Int32) (by decide)), hR, rfl, hP, hD, hS, lv_sub hl [0, 1, 2, 3] rfl⟩
  obtain ⟨u_1, u_2, bu_1, hR, en_3, hP, hD, hS, hl⟩ := hX
  obtain ⟨Tn_3, hR, hAn_3⟩ := tw hR
  replace hR : Tn_3 = B_k_X10_sumIn_0_1 a1 fz1 u_1 u_2 := hR
  replace hR := hR.trans (B_k_X10_sumIn_0_1.eq_1 ..)
  refine lv_iload_n hx hb dX10_sumIn_4 rfl (lv_at hl 0 rfl) ?_
  refine lv_aload_n hx hb dX10_sumIn_5 rfl (lv_at hl 2 rfl) ?_
  refine va_get (ci := 10) (v := .ref (z 1)) (C := RX10) (T := TX10) (N := 40) hx hb hg inX10 hown hK hP 0 rfl rfl 1 (by decide) (hg _ q_5_225) (fun _ h9 => h9) rfl dX10_sumIn_6 ?_
  refine lv_iconst (v := 1) hx hb dX10_sumIn_9 (by decide) ?_
  refine va_iald hx hb hK hP 1 0 rfl rfl (vin (by decide +kernel)) dX10_sumIn_10 ?_
  refine lv_topi (fun x_4 ex_4 => ?_)
  have bx_4 : iv 0 4 x_4 := by rw [ex_4]; exact rdT (a := 1) (n := 1) tfz1 (iv_c (1 : Int32) (a := 1) (b := 1) (by decide)) (by decide) (by decide +kernel)
  replace hR := tb hR ex_4
  refine lv_icmp_ge (tgt := 28) hx hb dX10_sumIn_11 (by decide) (fun c_5 => ?_) (fun c_5 => ?_)
  · replace hR := ti hR c_5
    refine lv_iload_n hx hb dX10_sumIn_28 rfl (lv_at hl 1 rfl) ?_
    exact fiI hx hb hr hlk hK hP hD hS dX10_sumIn_29 (Nat.le_of_ble_eq_true rfl) (Nat.le_of_ble_eq_true rfl) (⟨((tx hAn_3 hR).symm.trans hT0), rfl⟩)
  · replace hR := te hR c_5
    have b_6 : iv 0 3 u_1 := iv_l1 (Int32.not_le.mp c_5) bu_1 bx_4 (by decide)
    have b_7 : iv 1 4 x_4 := iv_l2 (Int32.not_le.mp c_5) bu_1 bx_4 (by decide)
    refine lv_iload_n hx hb dX10_sumIn_14 rfl (lv_at hl 1 rfl) ?_
    refine lv_iload_n hx hb dX10_sumIn_15 rfl (lv_at hl 3 rfl) ?_
    refine lv_iload_n hx hb dX10_sumIn_16 rfl (lv_at hl 0 rfl) ?_
    refine jnI (wr := [(z 0, .inr (10, mo z pz0_0 pz0_5 pz0_6 pz0_7 pz0_8 pz0_9 pz0_10 pz0_11 pz0_12 pz0_13 pz0_14 pz0_18 pz0_19 pz0_22 pz0_23 pz0_29)), (z 1, aI V 3075 fz1)]) (rnS (rest := [.int u_2]) ⟨hx, hb, hml, hown, hg⟩ (k_X10_stackIn_0 l V a1 u_1 ba1 b_6) mt_X10_stackIn q_7_26 ⟨Nat.le_of_ble_eq_true rfl, Nat.le_of_ble_eq_true rfl⟩ hK hP hD hS hA hE [] rfl rfl rfl hl.1 rfl (Nat.le_of_ble_eq_true rfl) dX10_sumIn_17 ⟨Nat.le_of_ble_eq_true rfl, Nat.le_of_ble_eq_true rfl⟩) hP hD hS hA [] [0, 1] rfl rfl rfl (by decide) (fun r_8 w H locs hw hP hD hS => ?_)
    obtain ⟨br_8, er_8, et_9, rfl⟩ := hw
    replace hR := tb hR et_9
    have hP : va_P V.1 vwCl [(z 0, .inr (10, mo z pz0_0 pz0_5 pz0_6 pz0_7 pz0_8 pz0_9 pz0_10 pz0_11 pz0_12 pz0_13 pz0_14 pz0_18 pz0_19 pz0_22 pz0_23 pz0_29)), (z 1, aI V 3075 fz1)] H := hP
    have hD := cpD hP hD
    refine lv_iadd hx hb dX10_sumIn_20 ?_
    refine lv_topi (fun x_11 ex_11 => ?_)
    replace hR := tb hR ex_11
    refine lv_istore_n (lv' := [(2, .int x_11), (3, .int u_1), (0, .ref (z 0)), (1, .int a1)]) hx hb dX10_sumIn_21 rfl hl (by decide) rfl (fun ls hl => ?_)
    obtain ⟨x_12, ex_12⟩ : ∃ z9 : Int32, z9 = u_1 + 1 := ⟨_, rfl⟩
    have bx_12 : iv 1 4 x_12 := by rw [ex_12]; exact iv_add b_6 (iv_c (1 : Int32) (a := 1) (b := 1) (by decide)) (by decide)
    replace hR := tb hR ex_12
    refine lv_iinc (v := x_12) (lv' := [(3, .int x_12), (2, .int x_11), (0, .ref (z 0)), (1, .int a1)]) hx hb dX10_sumIn_22 hl (k := 1) rfl (by rw [ex_12]; rfl) (by decide) rfl (fun ls hl => ?_)
    refine lv_goto (tgt := 4) hx hb dX10_sumIn_25 (by decide) ?_
    exact ihn_3 _ _ _ _ (by rw [en_3, ex_12]; exact mu_up b_6 (by decide)) ⟨x_12, x_11, (iv_w bx_12 (by decide)), (tbk hAn_3 hR), rfl, hP, hD, hS, lv_sub hl [0, 1, 2, 3] rfl⟩
theorem dX10_judge_0 : decode cX10_judge 0 = .ok (.aload_n 0, 1) := by decide +kernel
theorem dX10_judge_1 : decode cX10_judge 1 = .ok (.iconst 0, 1) := by decide +kernel
theorem dX10_judge_2 : decode cX10_judge 2 = .ok (.putfield 1, 3) := by decide +kernel
theorem dX10_judge_5 : decode cX10_judge 5 = .ok (.iload_n 2, 1) := by decide +kernel
theorem dX10_judge_6 : decode cX10_judge 6 = .ok (.i2l, 1) := by decide +kernel
theorem dX10_judge_7 : decode cX10_judge 7 = .ok (.lconst 0, 1) := by decide +kernel
theorem dX10_judge_8 : decode cX10_judge 8 = .ok (.ldc2_w 315, 3) := by decide +kernel
theorem dX10_judge_11 : decode cX10_judge 11 = .ok (.invokestatic 159, 3) := by decide +kernel
theorem dX10_judge_14 : decode cX10_judge 14 = .ok (.ifCond .ne 6, 3) := by decide +kernel
theorem dX10_judge_20 : decode cX10_judge 20 = .ok (.aload_n 0, 1) := by decide +kernel
theorem dX10_judge_21 : decode cX10_judge 21 = .ok (.iload_n 1, 1) := by decide +kernel
theorem q_7_111 : Cond.code yX10_noTray prog_12_method_70_code 2 (some FieldType.int) ∈ gw := gw_7 (i := 111) (rfl) rfl
theorem q_7_110 : Cond.instanceMethod yX10_noTray ∈ gw := gw_7 (i := 110) (by decide +kernel) rfl
theorem q_s_93 : Cond.selects "BeaconDelayModel" yX10_noTray yX10_noTray ∈ gw := gw_s (i := 93) (by decide +kernel) rfl
theorem mt_X10_noTray : MtV yX10_noTray cX10_noTray 2 (some .int) 1 := ⟨⟨q_7_111, q_1_9, by decide +kernel, by decide +kernel, by decide +kernel⟩, q_7_110, q_s_93⟩
theorem q_7_108 : Cond.methodLink "BeaconDelayModel" 317 yX10_noTray ∈ gw := gw_7 (i := 108) (by decide +kernel) rfl
theorem dX10_judge_22 : decode cX10_judge 22 = .ok (.invokevirtual 317, 3) := by decide +kernel
theorem dX10_judge_25 : decode cX10_judge 25 = .ok (.istore_n 3, 1) := by decide +kernel
theorem dX10_judge_26 : decode cX10_judge 26 = .ok (.iload_n 3, 1) := by decide +kernel
theorem dX10_judge_27 : decode cX10_judge 27 = .ok (.ifCond .eq 5, 3) := by decide +kernel
theorem dX10_judge_32 : decode cX10_judge 32 = .ok (.aload_n 0, 1) := by decide +kernel
theorem dX10_judge_33 : decode cX10_judge 33 = .ok (.invokevirtual 278, 3) := by decide +kernel
theorem dX10_judge_36 : decode cX10_judge 36 = .ok (.aload_n 0, 1) := by decide +kernel
theorem dX10_judge_37 : decode cX10_judge 37 = .ok (.iload_n 1, 1) := by decide +kernel
theorem q_7_115 : Cond.code yX10_tells prog_12_method_69_code 3 (some FieldType.int) ∈ gw := gw_7 (i := 115) (rfl) rfl
theorem q_7_114 : Cond.instanceMethod yX10_tells ∈ gw := gw_7 (i := 114) (by decide +kernel) rfl
theorem q_s_94 : Cond.selects "BeaconDelayModel" yX10_tells yX10_tells ∈ gw := gw_s (i := 94) (by decide +kernel) rfl
theorem mt_X10_tells : MtV yX10_tells cX10_tells 3 (some .int) 1 := ⟨⟨q_7_115, q_1_9, by decide +kernel, by decide +kernel, by decide +kernel⟩, q_7_114, q_s_94⟩
theorem q_7_112 : Cond.methodLink "BeaconDelayModel" 320 yX10_tells ∈ gw := gw_7 (i := 112) (by decide +kernel) rfl
theorem dX10_judge_38 : decode cX10_judge 38 = .ok (.invokevirtual 320, 3) := by decide +kernel
theorem dX10_judge_41 : decode cX10_judge 41 = .ok (.istore 4, 2) := by decide +kernel
theorem dX10_judge_43 : decode cX10_judge 43 = .ok (.aload_n 0, 1) := by decide +kernel
theorem dX10_judge_44 : decode cX10_judge 44 = .ok (.invokevirtual 269, 3) := by decide +kernel
theorem dX10_judge_47 : decode cX10_judge 47 = .ok (.istore 5, 2) := by decide +kernel
theorem dX10_judge_49 : decode cX10_judge 49 = .ok (.aload_n 0, 1) := by decide +kernel
theorem q_7_130 : Cond.code yX10_isAgain prog_12_method_57_code 2 none ∈ gw := gw_7 (i := 130) (rfl) rfl
theorem q_7_129 : Cond.instanceMethod yX10_isAgain ∈ gw := gw_7 (i := 129) (by decide +kernel) rfl
theorem q_s_97 : Cond.selects "BeaconDelayModel" yX10_isAgain yX10_isAgain ∈ gw := gw_s (i := 97) (by decide +kernel) rfl
theorem mt_X10_isAgain : MtV yX10_isAgain cX10_isAgain 2 none 0 := ⟨⟨q_7_130, q_1_9, by decide +kernel, by decide +kernel, by decide +kernel⟩, q_7_129, q_s_97⟩
theorem q_7_127 : Cond.methodLink "BeaconDelayModel" 323 yX10_isAgain ∈ gw := gw_7 (i := 127) (by decide +kernel) rfl
theorem dX10_judge_50 : decode cX10_judge 50 = .ok (.invokevirtual 323, 3) := by decide +kernel
theorem dX10_judge_53 : decode cX10_judge 53 = .ok (.iload_n 2, 1) := by decide +kernel
theorem dX10_judge_54 : decode cX10_judge 54 = .ok (.ifCond .ne 19, 3) := by decide +kernel
theorem dX10_judge_73 : decode cX10_judge 73 = .ok (.iload_n 2, 1) := by decide +kernel
theorem dX10_judge_74 : decode cX10_judge 74 = .ok (.iconst 1, 1) := by decide +kernel
theorem dX10_judge_75 : decode cX10_judge 75 = .ok (.if_icmp .ne 10, 3) := by decide +kernel
theorem dX10_judge_85 : decode cX10_judge 85 = .ok (.iload_n 2, 1) := by decide +kernel
theorem dX10_judge_86 : decode cX10_judge 86 = .ok (.iconst 2, 1) := by decide +kernel
theorem dX10_judge_87 : decode cX10_judge 87 = .ok (.if_icmp .ne 12, 3) := by decide +kernel
theorem dX10_judge_99 : decode cX10_judge 99 = .ok (.iload 5, 2) := by decide +kernel
theorem dX10_judge_101 : decode cX10_judge 101 = .ok (.invokestatic 234, 3) := by decide +kernel
theorem dX10_judge_104 : decode cX10_judge 104 = .ok (.ireturn, 1) := by decide +kernel
theorem dX10_judge_90 : decode cX10_judge 90 = .ok (.aload_n 0, 1) := by decide +kernel
theorem dX10_judge_91 : decode cX10_judge 91 = .ok (.iload 5, 2) := by decide +kernel
theorem q_7_134 : Cond.code yX10_sumIn prog_12_method_43_code 4 (some FieldType.int) ∈ gw := gw_7 (i := 134) (rfl) rfl
theorem q_7_133 : Cond.instanceMethod yX10_sumIn ∈ gw := gw_7 (i := 133) (by decide +kernel) rfl
theorem q_s_98 : Cond.selects "BeaconDelayModel" yX10_sumIn yX10_sumIn ∈ gw := gw_s (i := 98) (by decide +kernel) rfl
theorem mt_X10_sumIn : MtV yX10_sumIn cX10_sumIn 4 (some .int) 1 := ⟨⟨q_7_134, q_1_9, by decide +kernel, by decide +kernel, by decide +kernel⟩, q_7_133, q_s_98⟩
theorem q_7_131 : Cond.methodLink "BeaconDelayModel" 326 yX10_sumIn ∈ gw := gw_7 (i := 131) (by decide +kernel) rfl
theorem dX10_judge_93 : decode cX10_judge 93 = .ok (.invokevirtual 326, 3) := by decide +kernel
theorem dX10_judge_96 : decode cX10_judge 96 = .ok (.goto 8, 3) := by decide +kernel
theorem dX10_judge_78 : decode cX10_judge 78 = .ok (.aload_n 0, 1) := by decide +kernel
theorem dX10_judge_79 : decode cX10_judge 79 = .ok (.getfield 306, 3) := by decide +kernel
theorem dX10_judge_82 : decode cX10_judge 82 = .ok (.goto 22, 3) := by decide +kernel
theorem dX10_judge_57 : decode cX10_judge 57 = .ok (.aload_n 0, 1) := by decide +kernel
theorem dX10_judge_58 : decode cX10_judge 58 = .ok (.getfield 306, 3) := by decide +kernel
theorem dX10_judge_61 : decode cX10_judge 61 = .ok (.ifCond .ne 7, 3) := by decide +kernel
theorem dX10_judge_68 : decode cX10_judge 68 = .ok (.iload 4, 2) := by decide +kernel
theorem dX10_judge_70 : decode cX10_judge 70 = .ok (.goto 34, 3) := by decide +kernel
theorem dX10_judge_64 : decode cX10_judge 64 = .ok (.iconst (-1), 1) := by decide +kernel
theorem dX10_judge_65 : decode cX10_judge 65 = .ok (.goto 39, 3) := by decide +kernel
theorem dX10_judge_30 : decode cX10_judge 30 = .ok (.iload_n 3, 1) := by decide +kernel
theorem dX10_judge_31 : decode cX10_judge 31 = .ok (.ireturn, 1) := by decide +kernel
theorem dX10_judge_17 : decode cX10_judge 17 = .ok (.bipush (-2), 2) := by decide +kernel
theorem dX10_judge_19 : decode cX10_judge 19 = .ok (.ireturn, 1) := by decide +kernel
set_option maxRecDepth 100000 in
noncomputable def F_k_X10_judge_0 (a1 : Int32) (a2 : Int32) (pz0_18 : Int32) (fz1 : Nat → Int32) (fz15 : Nat → Int32) (fz16 : Nat → Int32) (fz17 : Nat → Int32) (fz37 : Nat → Int32) (fz38 : Nat → Int32) (fz39 : Nat → Int64) : Int32 × Int32 × Int32 × (Nat → Int32) × (Nat → Int32) × (Nat → Int32) × (Nat → Int32) := bnd (a2.toInt64 : Int64) fun (j_1 : Int64) => bnd (F_k_X10_within_0 j_1 (0 : Int64) (3 : Int64) : Int32) fun (r_2 : Int32) => if r_2 = (0 : Int32) then ((((-2) : Int32), (0 : Int32), pz0_18, fz1, fz15, fz16, fz17)) else (bnd (F_k_X10_noTray_0 a1 fz37 : Int32) fun (r_16 : Int32) => if r_16 = (0 : Int32) then (bnd (F_k_X10_stores_0 fz17 fz1 : Nat → Int32) fun (f_23 : Nat → Int32) => bnd (F_k_X10_tells_0 a1 fz15 fz16 fz38 fz39 fz1 : Int32 × (Nat → Int32) × (Nat → Int32) × Int32 × (Nat → Int32)) fun (q_37 : Int32 × (Nat → Int32) × (Nat → Int32) × Int32 × (Nat → Int32)) => bnd (q_37.1 : Int32) fun (r_26 : Int32) => bnd (q_37.2.1 : Nat → Int32) fun (f_27 : Nat → Int32) => bnd (q_37.2.2.1 : Nat → Int32) fun (f_28 : Nat → Int32) => bnd (q_37.2.2.2.1 : Int32) fun (v_29 : Int32) => bnd (q_37.2.2.2.2 : Nat → Int32) fun (f_30 : Nat → Int32) => bnd (F_k_X10_standNow_0 f_30 : Int32) fun (r_38 : Int32) => bnd (F_k_X10_isAgain_0 f_23 f_30 : Nat → Int32) fun (f_41 : Nat → Int32) => if a2 = (0 : Int32) then (if v_29 = (0 : Int32) then ((((-1) : Int32), (0 : Int32), v_29, f_41, f_27, f_28, f_23)) else ((r_26, (0 : Int32), v_29, f_41, f_27, f_28, f_23))) else (if a2 = (1 : Int32) then ((v_29, (0 : Int32), v_29, f_41, f_27, f_28, f_23)) else (if a2 = (2 : Int32) then (bnd (F_k_X10_sumIn_0 r_38 f_41 : Int32) fun (r_55 : Int32) => (r_55, (0 : Int32), v_29, f_41, f_27, f_28, f_23)) else (bnd (F_k_X10_tookIn_0 r_38 : Int32) fun (r_51 : Int32) => (r_51, (0 : Int32), v_29, f_41, f_27, f_28, f_23))))) else ((r_16, (0 : Int32), pz0_18, fz1, fz15, fz16, fz17)))
set_option maxHeartbeats 4000000 in
set_option maxRecDepth 100000 in
theorem k_X10_judge_0 (l : Launch) (V : GV) (z : Nat → Nat) (a1 : Int32) (a2 : Int32) (pz0_0 : Int32) (pz0_5 : Int32) (pz0_6 : Int32) (pz0_7 : Int32) (pz0_8 : Int32) (pz0_9 : Int32) (pz0_10 : Int32) (pz0_11 : Int32) (pz0_12 : Int32) (pz0_13 : Int32) (pz0_14 : Int32) (pz0_18 : Int32) (pz0_19 : Int32) (pz0_22 : Int32) (pz0_23 : Int32) (pz0_29 : Int32) (fz1 : Nat → Int32) (fz15 : Nat → Int32) (fz16 : Nat → Int32) (fz17 : Nat → Int32) (fz37 : Nat → Int32) (fz38 : Nat → Int32) (fz39 : Nat → Int64) (bpz0_5 : iv 0 900 pz0_5) (bpz0_6 : iv 0 900 pz0_6) (bpz0_7 : iv 0 900 pz0_7) (bpz0_8 : iv 0 900 pz0_8) (bpz0_10 : iv 0 999 pz0_10) (bpz0_11 : iv 0 4 pz0_11) (bpz0_12 : iv 0 900 pz0_12) (bpz0_13 : iv 0 4 pz0_13) (bpz0_14 : iv (-1) 900 pz0_14) (bpz0_18 : iv 0 2 pz0_18) (bpz0_22 : iv 0 9999 pz0_22) (bpz0_29 : iv 0 10000 pz0_29) (tfz1 : ivT tA fz1) (tfz16 : ivT tW fz16) (tfz17 : ivT tS fz17) (tfz37 : ∀ j, iv (-1) 3 (fz37 j)) (tfz38 : ∀ j, iv 0 40 (fz38 j)) (hf0 : RW fz1) : Ct l V yX10_judge (.code yX10_judge cX10_judge 6 (some .int)) 8 [.ref (z 0), .int a1, .int a2] [(z 0, .inr (10, mo z pz0_0 pz0_5 pz0_6 pz0_7 pz0_8 pz0_9 pz0_10 pz0_11 pz0_12 pz0_13 pz0_14 pz0_18 pz0_19 pz0_22 pz0_23 pz0_29)), (z 1, aI V 3075 fz1), (z 15, aI V 900 fz15), (z 16, aI V 6 fz16), (z 17, aI V 7 fz17), (z 37, aI V 4 fz37), (z 38, aI V 4 fz38), (z 39, aJ V 160 fz39)] 0 0 (QI V (fun (r : Int32) (w : va_W) => ∃ (v0 : Int32) (v1 : Int32) (g2 : Nat → Int32) (g3 : Nat → Int32) (g4 : Nat → Int32) (g5 : Nat → Int32), iv 0 2 v1 ∧ (ivT tA g2) ∧ (ivT tW g4) ∧ (ivT tS g5) ∧ (RW g2) ∧ r = (F_k_X10_judge_0 a1 a2 pz0_18 fz1 fz15 fz16 fz17 fz37 fz38 fz39).1 ∧ v0 = (F_k_X10_judge_0 a1 a2 pz0_18 fz1 fz15 fz16 fz17 fz37 fz38 fz39).2.1 ∧ v1 = (F_k_X10_judge_0 a1 a2 pz0_18 fz1 fz15 fz16 fz17 fz37 fz38 fz39).2.2.1 ∧ g2 = (F_k_X10_judge_0 a1 a2 pz0_18 fz1 fz15 fz16 fz17 fz37 fz38 fz39).2.2.2.1 ∧ g3 = (F_k_X10_judge_0 a1 a2 pz0_18 fz1 fz15 fz16 fz17 fz37 fz38 fz39).2.2.2.2.1 ∧ g4 = (F_k_X10_judge_0 a1 a2 pz0_18 fz1 fz15 fz16 fz17 fz37 fz38 fz39).2.2.2.2.2.1 ∧ g5 = (F_k_X10_judge_0 a1 a2 pz0_18 fz1 fz15 fz16 fz17 fz37 fz38 fz39).2.2.2.2.2.2 ∧ w = [(z 0, .inr (10, mo z v0 pz0_5 pz0_6 pz0_7 pz0_8 pz0_9 pz0_10 pz0_11 pz0_12 pz0_13 pz0_14 v1 pz0_19 pz0_22 pz0_23 pz0_29)), (z 1, aI V 3075 g2), (z 15, aI V 900 g3), (z 16, aI V 6 g4), (z 17, aI V 7 g5), (z 37, aI V 4 fz37), (z 38, aI V 4 fz38), (z 39, aJ V 160 fz39)])) := by
  refine Ct.of (by decide) (Nat.le_of_ble_eq_true rfl) (fun p e s m below meth c A ls hx hb hr hml hown hlk hnm hg hP hK hD hE hA hS hl => ?_)
  have hl : lv_has ls 6 [(0, .ref (z 0)), (1, .int a1), (2, .int a2)] := hl
  obtain ⟨T0, hT0⟩ : ∃ T9, T9 = F_k_X10_judge_0 a1 a2 pz0_18 fz1 fz15 fz16 fz17 fz37 fz38 fz39 := ⟨_, rfl⟩
  have hR := hT0.trans (F_k_X10_judge_0.eq_1 ..)
  refine lv_aload_n hx hb dX10_judge_0 rfl (lv_at hl 0 rfl) ?_
  refine lv_iconst (v := 0) hx hb dX10_judge_1 (by decide) ?_
  refine va_put (ci := 10) (v := .int 0) (ty := .int) (C := RX10) (T := TX10) (N := 40) hx hb hg inX10 tyX10 tyX10_ok nmX10 hown hK hP hD hS 0 rfl rfl 0 (by decide) (hg _ q_5_224) (fun _ h9 => h9) rfl (by decide +kernel) rfl rfl (Nat.le_of_ble_eq_true rfl) dX10_judge_2 (fun H locs hP hD hS => ?_)
  have hP : va_P V.1 vwCl [(z 0, .inr (10, mo z 0 pz0_5 pz0_6 pz0_7 pz0_8 pz0_9 pz0_10 pz0_11 pz0_12 pz0_13 pz0_14 pz0_18 pz0_19 pz0_22 pz0_23 pz0_29)), (z 1, aI V 3075 fz1), (z 15, aI V 900 fz15), (z 16, aI V 6 fz16), (z 17, aI V 7 fz17), (z 37, aI V 4 fz37), (z 38, aI V 4 fz38), (z 39, aJ V 160 fz39)] H := hP
  have hD := cpD hP hD
  refine lv_iload_n hx hb dX10_judge_5 rfl (lv_at hl 2 rfl) ?_
  refine lv_i2l hx hb dX10_judge_6 rfl ?_
  refine lv_topl (fun j_1 ej_1 => ?_)
  replace hR := tb hR ej_1
  refine lv_lconst (v := 0) hx hb dX10_judge_7 (by decide) ?_
  refine lv_ldc2 (v := 3) hx hb hown (hg _ q_7_107) dX10_judge_8 ?_
  refine jnI (wr := [(z 0, .inr (10, mo z 0 pz0_5 pz0_6 pz0_7 pz0_8 pz0_9 pz0_10 pz0_11 pz0_12 pz0_13 pz0_14 pz0_18 pz0_19 pz0_22 pz0_23 pz0_29)), (z 1, aI V 3075 fz1), (z 15, aI V 900 fz15), (z 16, aI V 6 fz16), (z 17, aI V 7 fz17), (z 37, aI V 4 fz37), (z 38, aI V 4 fz38), (z 39, aJ V 160 fz39)]) (rnS (rest := []) ⟨hx, hb, hml, hown, hg⟩ (k_X10_within_0 l V j_1 0 3) mt_X10_within q_6_114 ⟨Nat.le_of_ble_eq_true rfl, Nat.le_of_ble_eq_true rfl⟩ hK hP hD hS hA hE [] rfl rfl rfl hl.1 rfl (Nat.le_of_ble_eq_true rfl) dX10_judge_11 ⟨Nat.le_of_ble_eq_true rfl, Nat.le_of_ble_eq_true rfl⟩) hP hD hS hA [] [0, 1, 2, 3, 4, 5, 6, 7] rfl rfl rfl (by decide) (fun r_2 w H locs hw hP hD hS => ?_)
  obtain ⟨br_2, g_3, g_4, g_5, et_6, rfl⟩ := hw
  replace hR := tb hR et_6
  have hP : va_P V.1 vwCl [(z 0, .inr (10, mo z 0 pz0_5 pz0_6 pz0_7 pz0_8 pz0_9 pz0_10 pz0_11 pz0_12 pz0_13 pz0_14 pz0_18 pz0_19 pz0_22 pz0_23 pz0_29)), (z 1, aI V 3075 fz1), (z 15, aI V 900 fz15), (z 16, aI V 6 fz16), (z 17, aI V 7 fz17), (z 37, aI V 4 fz37), (z 38, aI V 4 fz38), (z 39, aJ V 160 fz39)] H := hP
  have hD := cpD hP hD
  refine lv_if_ne (tgt := 20) hx hb dX10_judge_14 (by decide) (fun c_8 => ?_) (fun c_8 => ?_)
  · replace hR := te hR c_8
    have b_9 : iv 1 1 r_2 := iv_n0 c_8 br_2 (iv_c (0 : Int32) (a := 0) (b := 0) (by decide)) (by decide)
    have c_10 : (0 : Int64) ≤ j_1 := (g_4 (iv_eqp b_9 (iv_c (1 : Int32) (by decide))))
    have b_11 : ivL 0 9223372036854775807 j_1 := ivL_e2 c_10 (ivL_c (0 : Int64) (a := 0) (b := 0) (by decide)) (ivL_top j_1) (by decide)
    have b_12 : iv 0 2147483647 a2 := iv_cap (ivL_i ej_1 b_11) (iv_top a2) (by decide)
    have c_13 : j_1 ≤ 3 := (g_5 (iv_eqp b_9 (iv_c (1 : Int32) (by decide))))
    have b_14 : ivL 0 3 j_1 := ivL_e1 c_13 b_11 (ivL_c (3 : Int64) (a := 3) (b := 3) (by decide)) (by decide)
    have b_15 : iv 0 3 a2 := iv_cap (ivL_i ej_1 b_14) b_12 (by decide)
    refine lv_aload_n hx hb dX10_judge_20 rfl (lv_at hl 0 rfl) ?_
    refine lv_iload_n hx hb dX10_judge_21 rfl (lv_at hl 1 rfl) ?_
    refine jnI (wr := [(z 1, aI V 3075 fz1), (z 15, aI V 900 fz15), (z 16, aI V 6 fz16), (z 17, aI V 7 fz17), (z 38, aI V 4 fz38), (z 39, aJ V 160 fz39)]) (rnV (rest := []) ⟨hx, hb, hml, hown, hg⟩ (k_X10_noTray_0 l V z a1 0 pz0_5 pz0_6 pz0_7 pz0_8 pz0_9 pz0_10 pz0_11 pz0_12 pz0_13 pz0_14 pz0_18 pz0_19 pz0_22 pz0_23 pz0_29 fz37 bpz0_5 bpz0_6 bpz0_7 bpz0_8 bpz0_10 bpz0_11 bpz0_12 bpz0_13 bpz0_14 bpz0_18 bpz0_22 bpz0_29 tfz37) mt_X10_noTray q_7_108 ⟨Nat.le_of_ble_eq_true rfl, Nat.le_of_ble_eq_true rfl⟩ hK hP hD hS hA hE [0, 5] rfl rfl 0 rfl rfl rfl rfl hl.1 rfl (Nat.le_of_ble_eq_true rfl) dX10_judge_22 ⟨Nat.le_of_ble_eq_true rfl, Nat.le_of_ble_eq_true rfl⟩) hP hD hS hA [0, 5] [1, 2, 3, 4, 6, 7] rfl rfl rfl (by decide) (fun r_16 w H locs hw hP hD hS => ?_)
    obtain ⟨br_16, g_17, et_18, rfl⟩ := hw
    replace hR := tb hR et_18
    have hP : va_P V.1 vwCl [(z 1, aI V 3075 fz1), (z 15, aI V 900 fz15), (z 16, aI V 6 fz16), (z 17, aI V 7 fz17), (z 38, aI V 4 fz38), (z 39, aJ V 160 fz39), (z 0, .inr (10, mo z 0 pz0_5 pz0_6 pz0_7 pz0_8 pz0_9 pz0_10 pz0_11 pz0_12 pz0_13 pz0_14 pz0_18 pz0_19 pz0_22 pz0_23 pz0_29)), (z 37, aI V 4 fz37)] H := hP
    have hD := cpD hP hD
    refine lv_istore_n (lv' := [(3, .int r_16), (0, .ref (z 0)), (1, .int a1), (2, .int a2)]) hx hb dX10_judge_25 rfl hl (by decide) rfl (fun ls hl => ?_)
    refine lv_iload_n hx hb dX10_judge_26 rfl (lv_at hl 0 rfl) ?_
    refine lv_if_eq (tgt := 32) hx hb dX10_judge_27 (by decide) (fun c_20 => ?_) (fun c_20 => ?_)
    · replace hR := ti hR c_20
      have b_21 : iv 0 0 r_16 := iv_q c_20 (iv_c (0 : Int32) (a := 0) (b := 0) (by decide))
      have b_22 : iv 0 3 a1 := iv_cap (g_17 (iv_eqp b_21 (iv_c (0 : Int32) (by decide)))) (iv_top a1) (by decide)
      refine lv_aload_n hx hb dX10_judge_32 rfl (lv_at hl 1 rfl) ?_
      refine jnV (wr := [(z 15, aI V 900 fz15), (z 16, aI V 6 fz16), (z 38, aI V 4 fz38), (z 39, aJ V 160 fz39), (z 37, aI V 4 fz37)]) (rnV (rest := []) ⟨hx, hb, hml, hown, hg⟩ (k_X10_stores_0 l V z fz17 0 pz0_5 pz0_6 pz0_7 pz0_8 pz0_9 pz0_10 pz0_11 pz0_12 pz0_13 pz0_14 pz0_18 pz0_19 pz0_22 pz0_23 pz0_29 fz1 tfz17 bpz0_5 bpz0_6 bpz0_7 bpz0_8 bpz0_10 bpz0_11 bpz0_12 bpz0_13 bpz0_14 bpz0_18 bpz0_22 bpz0_29 tfz1) mt_X10_stores q_7_60 ⟨Nat.le_of_ble_eq_true rfl, Nat.le_of_ble_eq_true rfl⟩ hK hP hD hS hA hE [3, 6, 0] rfl rfl 6 rfl rfl rfl rfl hl.1 rfl (Nat.le_of_ble_eq_true rfl) dX10_judge_33 ⟨Nat.le_of_ble_eq_true rfl, Nat.le_of_ble_eq_true rfl⟩) hP hD hS hA [3, 6, 0] [1, 2, 4, 5, 7] rfl rfl rfl (by decide) (fun  w H locs hw hP hD hS => ?_)
      obtain ⟨f_23, tf_23, et_24, rfl⟩ := hw
      replace hR := tb hR et_24
      have hP : va_P V.1 vwCl [(z 15, aI V 900 fz15), (z 16, aI V 6 fz16), (z 38, aI V 4 fz38), (z 39, aJ V 160 fz39), (z 37, aI V 4 fz37), (z 17, aI V 7 f_23), (z 0, .inr (10, mo z 0 pz0_5 pz0_6 pz0_7 pz0_8 pz0_9 pz0_10 pz0_11 pz0_12 pz0_13 pz0_14 pz0_18 pz0_19 pz0_22 pz0_23 pz0_29)), (z 1, aI V 3075 fz1)] H := hP
      have hD := cpD hP hD
      refine lv_aload_n hx hb dX10_judge_36 rfl (lv_at hl 1 rfl) ?_
      refine lv_iload_n hx hb dX10_judge_37 rfl (lv_at hl 2 rfl) ?_
      refine jnI (wr := [(z 37, aI V 4 fz37), (z 17, aI V 7 f_23)]) (rnV (rest := []) ⟨hx, hb, hml, hown, hg⟩ (k_X10_tells_0 l V z a1 fz15 fz16 fz38 fz39 0 pz0_5 pz0_6 pz0_7 pz0_8 pz0_9 pz0_10 pz0_11 pz0_12 pz0_13 pz0_14 pz0_18 pz0_19 pz0_22 pz0_23 pz0_29 fz1 b_22 tfz16 tfz38 bpz0_5 bpz0_6 bpz0_7 bpz0_8 bpz0_10 bpz0_11 bpz0_12 bpz0_13 bpz0_14 bpz0_18 bpz0_22 bpz0_29 tfz1 hf0) mt_X10_tells q_7_112 ⟨Nat.le_of_ble_eq_true rfl, Nat.le_of_ble_eq_true rfl⟩ hK hP hD hS hA hE [0, 1, 2, 3, 6, 7] rfl rfl 6 rfl rfl rfl rfl hl.1 rfl (Nat.le_of_ble_eq_true rfl) dX10_judge_38 ⟨Nat.le_of_ble_eq_true rfl, Nat.le_of_ble_eq_true rfl⟩) hP hD hS hA [0, 1, 2, 3, 6, 7] [4, 5] rfl rfl rfl (by decide) (fun r_26 w H locs hw hP hD hS => ?_)
      obtain ⟨f_27, f_28, v_29, f_30, tf_28, bv_29, tf_30, br_26, g_31, et_32, et_33, et_34, et_35, et_36, rfl⟩ := hw
      replace hR := tb0 hR
      replace hR := tb hR et_32
      replace hR := tb hR et_33
      replace hR := tb hR et_34
      replace hR := tb hR et_35
      replace hR := tb hR et_36
      have hP : va_P V.1 vwCl [(z 37, aI V 4 fz37), (z 17, aI V 7 f_23), (z 15, aI V 900 f_27), (z 16, aI V 6 f_28), (z 38, aI V 4 fz38), (z 39, aJ V 160 fz39), (z 0, .inr (10, mo z 0 pz0_5 pz0_6 pz0_7 pz0_8 pz0_9 pz0_10 pz0_11 pz0_12 pz0_13 pz0_14 v_29 pz0_19 pz0_22 pz0_23 pz0_29)), (z 1, aI V 3075 f_30)] H := hP
      have hD := cpD hP hD
      refine lv_istore (lv' := [(4, .int r_26), (3, .int r_16), (0, .ref (z 0)), (1, .int a1), (2, .int a2)]) hx hb dX10_judge_41 hl (by decide) rfl (fun ls hl => ?_)
      refine lv_aload_n hx hb dX10_judge_43 rfl (lv_at hl 2 rfl) ?_
      refine jnI (wr := [(z 37, aI V 4 fz37), (z 17, aI V 7 f_23), (z 15, aI V 900 f_27), (z 16, aI V 6 f_28), (z 38, aI V 4 fz38), (z 39, aJ V 160 fz39)]) (rnV (rest := []) ⟨hx, hb, hml, hown, hg⟩ (k_X10_standNow_0 l V z 0 pz0_5 pz0_6 pz0_7 pz0_8 pz0_9 pz0_10 pz0_11 pz0_12 pz0_13 pz0_14 v_29 pz0_19 pz0_22 pz0_23 pz0_29 f_30 bpz0_5 bpz0_6 bpz0_7 bpz0_8 bpz0_10 bpz0_11 bpz0_12 bpz0_13 bpz0_14 bv_29 bpz0_22 bpz0_29 tf_30) mt_X10_standNow q_7_11 ⟨Nat.le_of_ble_eq_true rfl, Nat.le_of_ble_eq_true rfl⟩ hK hP hD hS hA hE [6, 7] rfl rfl 6 rfl rfl rfl rfl hl.1 rfl (Nat.le_of_ble_eq_true rfl) dX10_judge_44 ⟨Nat.le_of_ble_eq_true rfl, Nat.le_of_ble_eq_true rfl⟩) hP hD hS hA [6, 7] [0, 1, 2, 3, 4, 5] rfl rfl rfl (by decide) (fun r_38 w H locs hw hP hD hS => ?_)
      obtain ⟨br_38, er_38, et_39, rfl⟩ := hw
      replace hR := tb hR et_39
      have hP : va_P V.1 vwCl [(z 37, aI V 4 fz37), (z 17, aI V 7 f_23), (z 15, aI V 900 f_27), (z 16, aI V 6 f_28), (z 38, aI V 4 fz38), (z 39, aJ V 160 fz39), (z 0, .inr (10, mo z 0 pz0_5 pz0_6 pz0_7 pz0_8 pz0_9 pz0_10 pz0_11 pz0_12 pz0_13 pz0_14 v_29 pz0_19 pz0_22 pz0_23 pz0_29)), (z 1, aI V 3075 f_30)] H := hP
      have hD := cpD hP hD
      refine lv_istore (lv' := [(5, .int r_38), (4, .int r_26), (3, .int r_16), (0, .ref (z 0)), (1, .int a1), (2, .int a2)]) hx hb dX10_judge_47 hl (by decide) rfl (fun ls hl => ?_)
      refine lv_aload_n hx hb dX10_judge_49 rfl (lv_at hl 3 rfl) ?_
      refine jnV (wr := [(z 37, aI V 4 fz37), (z 15, aI V 900 f_27), (z 16, aI V 6 f_28), (z 38, aI V 4 fz38), (z 39, aJ V 160 fz39)]) (rnV (rest := []) ⟨hx, hb, hml, hown, hg⟩ (k_X10_isAgain_0 l V z f_23 0 pz0_5 pz0_6 pz0_7 pz0_8 pz0_9 pz0_10 pz0_11 pz0_12 pz0_13 pz0_14 v_29 pz0_19 pz0_22 pz0_23 pz0_29 f_30 tf_23 bpz0_5 bpz0_6 bpz0_7 bpz0_8 bpz0_10 bpz0_11 bpz0_12 bpz0_13 bpz0_14 bv_29 bpz0_22 bpz0_29 tf_30 g_31) mt_X10_isAgain q_7_127 ⟨Nat.le_of_ble_eq_true rfl, Nat.le_of_ble_eq_true rfl⟩ hK hP hD hS hA hE [1, 6, 7] rfl rfl 6 rfl rfl rfl rfl hl.1 rfl (Nat.le_of_ble_eq_true rfl) dX10_judge_50 ⟨Nat.le_of_ble_eq_true rfl, Nat.le_of_ble_eq_true rfl⟩) hP hD hS hA [1, 6, 7] [0, 2, 3, 4, 5] rfl rfl rfl (by decide) (fun  w H locs hw hP hD hS => ?_)
      obtain ⟨f_41, tf_41, g_42, et_43, rfl⟩ := hw
      replace hR := tb hR et_43
      have hP : va_P V.1 vwCl [(z 37, aI V 4 fz37), (z 15, aI V 900 f_27), (z 16, aI V 6 f_28), (z 38, aI V 4 fz38), (z 39, aJ V 160 fz39), (z 17, aI V 7 f_23), (z 0, .inr (10, mo z 0 pz0_5 pz0_6 pz0_7 pz0_8 pz0_9 pz0_10 pz0_11 pz0_12 pz0_13 pz0_14 v_29 pz0_19 pz0_22 pz0_23 pz0_29)), (z 1, aI V 3075 f_41)] H := hP
      have hD := cpD hP hD
      refine lv_iload_n hx hb dX10_judge_53 rfl (lv_at hl 5 rfl) ?_
      refine lv_if_ne (tgt := 73) hx hb dX10_judge_54 (by decide) (fun c_45 => ?_) (fun c_45 => ?_)
      · replace hR := te hR c_45
        have b_46 : iv 1 3 a2 := iv_n0 c_45 b_15 (iv_c (0 : Int32) (a := 0) (b := 0) (by decide)) (by decide)
        refine lv_iload_n hx hb dX10_judge_73 rfl (lv_at hl 5 rfl) ?_
        refine lv_iconst (v := 1) hx hb dX10_judge_74 (by decide) ?_
        refine lv_icmp_ne (tgt := 85) hx hb dX10_judge_75 (by decide) (fun c_47 => ?_) (fun c_47 => ?_)
        · replace hR := te hR c_47
          have b_48 : iv 2 3 a2 := iv_n0 c_47 b_46 (iv_c (1 : Int32) (a := 1) (b := 1) (by decide)) (by decide)
          refine lv_iload_n hx hb dX10_judge_85 rfl (lv_at hl 5 rfl) ?_
          refine lv_iconst (v := 2) hx hb dX10_judge_86 (by decide) ?_
          refine lv_icmp_ne (tgt := 99) hx hb dX10_judge_87 (by decide) (fun c_49 => ?_) (fun c_49 => ?_)
          · replace hR := te hR c_49
            have b_50 : iv 3 3 a2 := iv_n0 c_49 b_48 (iv_c (2 : Int32) (a := 2) (b := 2) (by decide)) (by decide)
            refine lv_iload hx hb dX10_judge_99 (lv_at hl 0 rfl) ?_
            refine jnI (wr := [(z 37, aI V 4 fz37), (z 15, aI V 900 f_27), (z 16, aI V 6 f_28), (z 38, aI V 4 fz38), (z 39, aJ V 160 fz39), (z 17, aI V 7 f_23), (z 0, .inr (10, mo z 0 pz0_5 pz0_6 pz0_7 pz0_8 pz0_9 pz0_10 pz0_11 pz0_12 pz0_13 pz0_14 v_29 pz0_19 pz0_22 pz0_23 pz0_29)), (z 1, aI V 3075 f_41)]) (rnS (rest := []) ⟨hx, hb, hml, hown, hg⟩ (k_X10_tookIn_0 l V r_38 br_38) mt_X10_tookIn q_7_29 ⟨Nat.le_of_ble_eq_true rfl, Nat.le_of_ble_eq_true rfl⟩ hK hP hD hS hA hE [] rfl rfl rfl hl.1 rfl (Nat.le_of_ble_eq_true rfl) dX10_judge_101 ⟨Nat.le_of_ble_eq_true rfl, Nat.le_of_ble_eq_true rfl⟩) hP hD hS hA [] [0, 1, 2, 3, 4, 5, 6, 7] rfl rfl rfl (by decide) (fun r_51 w H locs hw hP hD hS => ?_)
            obtain ⟨br_51, et_52, rfl⟩ := hw
            replace hR := tb hR et_52
            have hP : va_P V.1 vwCl [(z 37, aI V 4 fz37), (z 15, aI V 900 f_27), (z 16, aI V 6 f_28), (z 38, aI V 4 fz38), (z 39, aJ V 160 fz39), (z 17, aI V 7 f_23), (z 0, .inr (10, mo z 0 pz0_5 pz0_6 pz0_7 pz0_8 pz0_9 pz0_10 pz0_11 pz0_12 pz0_13 pz0_14 v_29 pz0_19 pz0_22 pz0_23 pz0_29)), (z 1, aI V 3075 f_41)] H := hP
            have hD := cpD hP hD
            have hP := subP (ws' := [(z 0, .inr (10, mo z 0 pz0_5 pz0_6 pz0_7 pz0_8 pz0_9 pz0_10 pz0_11 pz0_12 pz0_13 pz0_14 v_29 pz0_19 pz0_22 pz0_23 pz0_29)), (z 1, aI V 3075 f_41), (z 15, aI V 900 f_27), (z 16, aI V 6 f_28), (z 17, aI V 7 f_23), (z 37, aI V 4 fz37), (z 38, aI V 4 fz38), (z 39, aJ V 160 fz39)]) hP [6, 7, 1, 2, 5, 0, 3, 4] rfl
            have hD := subD hP hD [6, 7, 1, 2, 5, 0, 3, 4] rfl rfl
            exact fiI hx hb hr hlk hK hP hD hS dX10_judge_104 (Nat.le_of_ble_eq_true rfl) (Nat.le_of_ble_eq_true rfl) (⟨0, v_29, f_41, f_27, f_28, f_23, bv_29, tf_41, tf_28, tf_23, g_42, (congrArg Prod.fst (hR.symm.trans hT0)), (congrArg Prod.fst (congrArg Prod.snd (hR.symm.trans hT0))), (congrArg Prod.fst (congrArg Prod.snd (congrArg Prod.snd (hR.symm.trans hT0)))), (congrArg Prod.fst (congrArg Prod.snd (congrArg Prod.snd (congrArg Prod.snd (hR.symm.trans hT0))))), (congrArg Prod.fst (congrArg Prod.snd (congrArg Prod.snd (congrArg Prod.snd (congrArg Prod.snd (hR.symm.trans hT0)))))), (congrArg Prod.fst (congrArg Prod.snd (congrArg Prod.snd (congrArg Prod.snd (congrArg Prod.snd (congrArg Prod.snd (hR.symm.trans hT0))))))), (congrArg Prod.snd (congrArg Prod.snd (congrArg Prod.snd (congrArg Prod.snd (congrArg Prod.snd (congrArg Prod.snd (hR.symm.trans hT0))))))), rfl⟩)
          · replace hR := ti hR c_49
            have b_54 : iv 2 2 a2 := iv_q c_49 (iv_c (2 : Int32) (a := 2) (b := 2) (by decide))
            refine lv_aload_n hx hb dX10_judge_90 rfl (lv_at hl 3 rfl) ?_
            refine lv_iload hx hb dX10_judge_91 (lv_at hl 0 rfl) ?_
            refine jnI (wr := [(z 37, aI V 4 fz37), (z 15, aI V 900 f_27), (z 16, aI V 6 f_28), (z 38, aI V 4 fz38), (z 39, aJ V 160 fz39), (z 17, aI V 7 f_23)]) (rnV (rest := []) ⟨hx, hb, hml, hown, hg⟩ (k_X10_sumIn_0 l V z r_38 0 pz0_5 pz0_6 pz0_7 pz0_8 pz0_9 pz0_10 pz0_11 pz0_12 pz0_13 pz0_14 v_29 pz0_19 pz0_22 pz0_23 pz0_29 f_41 br_38 bpz0_5 bpz0_6 bpz0_7 bpz0_8 bpz0_10 bpz0_11 bpz0_12 bpz0_13 bpz0_14 bv_29 bpz0_22 bpz0_29 tf_41) mt_X10_sumIn q_7_131 ⟨Nat.le_of_ble_eq_true rfl, Nat.le_of_ble_eq_true rfl⟩ hK hP hD hS hA hE [6, 7] rfl rfl 6 rfl rfl rfl rfl hl.1 rfl (Nat.le_of_ble_eq_true rfl) dX10_judge_93 ⟨Nat.le_of_ble_eq_true rfl, Nat.le_of_ble_eq_true rfl⟩) hP hD hS hA [6, 7] [0, 1, 2, 3, 4, 5] rfl rfl rfl (by decide) (fun r_55 w H locs hw hP hD hS => ?_)
            obtain ⟨et_56, rfl⟩ := hw
            replace hR := tb hR et_56
            have hP : va_P V.1 vwCl [(z 37, aI V 4 fz37), (z 15, aI V 900 f_27), (z 16, aI V 6 f_28), (z 38, aI V 4 fz38), (z 39, aJ V 160 fz39), (z 17, aI V 7 f_23), (z 0, .inr (10, mo z 0 pz0_5 pz0_6 pz0_7 pz0_8 pz0_9 pz0_10 pz0_11 pz0_12 pz0_13 pz0_14 v_29 pz0_19 pz0_22 pz0_23 pz0_29)), (z 1, aI V 3075 f_41)] H := hP
            have hD := cpD hP hD
            refine lv_goto (tgt := 104) hx hb dX10_judge_96 (by decide) ?_
            have hP := subP (ws' := [(z 0, .inr (10, mo z 0 pz0_5 pz0_6 pz0_7 pz0_8 pz0_9 pz0_10 pz0_11 pz0_12 pz0_13 pz0_14 v_29 pz0_19 pz0_22 pz0_23 pz0_29)), (z 1, aI V 3075 f_41), (z 15, aI V 900 f_27), (z 16, aI V 6 f_28), (z 17, aI V 7 f_23), (z 37, aI V 4 fz37), (z 38, aI V 4 fz38), (z 39, aJ V 160 fz39)]) hP [6, 7, 1, 2, 5, 0, 3, 4] rfl
            have hD := subD hP hD [6, 7, 1, 2, 5, 0, 3, 4] rfl rfl
            exact fiI hx hb hr hlk hK hP hD hS dX10_judge_104 (Nat.le_of_ble_eq_true rfl) (Nat.le_of_ble_eq_true rfl) (⟨0, v_29, f_41, f_27, f_28, f_23, bv_29, tf_41, tf_28, tf_23, g_42, (congrArg Prod.fst (hR.symm.trans hT0)), (congrArg Prod.fst (congrArg Prod.snd (hR.symm.trans hT0))), (congrArg Prod.fst (congrArg Prod.snd (congrArg Prod.snd (hR.symm.trans hT0)))), (congrArg Prod.fst (congrArg Prod.snd (congrArg Prod.snd (congrArg Prod.snd (hR.symm.trans hT0))))), (congrArg Prod.fst (congrArg Prod.snd (congrArg Prod.snd (congrArg Prod.snd (congrArg Prod.snd (hR.symm.trans hT0)))))), (congrArg Prod.fst (congrArg Prod.snd (congrArg Prod.snd (congrArg Prod.snd (congrArg Prod.snd (congrArg Prod.snd (hR.symm.trans hT0))))))), (congrArg Prod.snd (congrArg Prod.snd (congrArg Prod.snd (congrArg Prod.snd (congrArg Prod.snd (congrArg Prod.snd (hR.symm.trans hT0))))))), rfl⟩)
        · replace hR := ti hR c_47
          have b_58 : iv 1 1 a2 := iv_q c_47 (iv_c (1 : Int32) (a := 1) (b := 1) (by decide))
          refine lv_aload_n hx hb dX10_judge_78 rfl (lv_at hl 3 rfl) ?_
          refine va_get (ci := 10) (v := .int v_29) (C := RX10) (T := TX10) (N := 40) hx hb hg inX10 hown hK hP 6 rfl rfl 18 (by decide) (hg _ q_6_2) (fun _ h9 => h9) rfl dX10_judge_79 ?_
          refine lv_goto (tgt := 104) hx hb dX10_judge_82 (by decide) ?_
          have hP := subP (ws' := [(z 0, .inr (10, mo z 0 pz0_5 pz0_6 pz0_7 pz0_8 pz0_9 pz0_10 pz0_11 pz0_12 pz0_13 pz0_14 v_29 pz0_19 pz0_22 pz0_23 pz0_29)), (z 1, aI V 3075 f_41), (z 15, aI V 900 f_27), (z 16, aI V 6 f_28), (z 17, aI V 7 f_23), (z 37, aI V 4 fz37), (z 38, aI V 4 fz38), (z 39, aJ V 160 fz39)]) hP [6, 7, 1, 2, 5, 0, 3, 4] rfl
          have hD := subD hP hD [6, 7, 1, 2, 5, 0, 3, 4] rfl rfl
          exact fiI hx hb hr hlk hK hP hD hS dX10_judge_104 (Nat.le_of_ble_eq_true rfl) (Nat.le_of_ble_eq_true rfl) (⟨0, v_29, f_41, f_27, f_28, f_23, bv_29, tf_41, tf_28, tf_23, g_42, (congrArg Prod.fst (hR.symm.trans hT0)), (congrArg Prod.fst (congrArg Prod.snd (hR.symm.trans hT0))), (congrArg Prod.fst (congrArg Prod.snd (congrArg Prod.snd (hR.symm.trans hT0)))), (congrArg Prod.fst (congrArg Prod.snd (congrArg Prod.snd (congrArg Prod.snd (hR.symm.trans hT0))))), (congrArg Prod.fst (congrArg Prod.snd (congrArg Prod.snd (congrArg Prod.snd (congrArg Prod.snd (hR.symm.trans hT0)))))), (congrArg Prod.fst (congrArg Prod.snd (congrArg Prod.snd (congrArg Prod.snd (congrArg Prod.snd (congrArg Prod.snd (hR.symm.trans hT0))))))), (congrArg Prod.snd (congrArg Prod.snd (congrArg Prod.snd (congrArg Prod.snd (congrArg Prod.snd (congrArg Prod.snd (hR.symm.trans hT0))))))), rfl⟩)
      · replace hR := ti hR c_45
        have b_59 : iv 0 0 a2 := iv_q c_45 (iv_c (0 : Int32) (a := 0) (b := 0) (by decide))
        refine lv_aload_n hx hb dX10_judge_57 rfl (lv_at hl 3 rfl) ?_
        refine va_get (ci := 10) (v := .int v_29) (C := RX10) (T := TX10) (N := 40) hx hb hg inX10 hown hK hP 6 rfl rfl 18 (by decide) (hg _ q_6_2) (fun _ h9 => h9) rfl dX10_judge_58 ?_
        refine lv_if_ne (tgt := 68) hx hb dX10_judge_61 (by decide) (fun c_60 => ?_) (fun c_60 => ?_)
        · replace hR := te hR c_60
          have b_61 : iv 1 2 v_29 := iv_n0 c_60 bv_29 (iv_c (0 : Int32) (a := 0) (b := 0) (by decide)) (by decide)
          refine lv_iload hx hb dX10_judge_68 (lv_at hl 1 rfl) ?_
          refine lv_goto (tgt := 104) hx hb dX10_judge_70 (by decide) ?_
          have hP := subP (ws' := [(z 0, .inr (10, mo z 0 pz0_5 pz0_6 pz0_7 pz0_8 pz0_9 pz0_10 pz0_11 pz0_12 pz0_13 pz0_14 v_29 pz0_19 pz0_22 pz0_23 pz0_29)), (z 1, aI V 3075 f_41), (z 15, aI V 900 f_27), (z 16, aI V 6 f_28), (z 17, aI V 7 f_23), (z 37, aI V 4 fz37), (z 38, aI V 4 fz38), (z 39, aJ V 160 fz39)]) hP [6, 7, 1, 2, 5, 0, 3, 4] rfl
          have hD := subD hP hD [6, 7, 1, 2, 5, 0, 3, 4] rfl rfl
          exact fiI hx hb hr hlk hK hP hD hS dX10_judge_104 (Nat.le_of_ble_eq_true rfl) (Nat.le_of_ble_eq_true rfl) (⟨0, v_29, f_41, f_27, f_28, f_23, (iv_w b_61 (by decide)), tf_41, tf_28, tf_23, g_42, (congrArg Prod.fst (hR.symm.trans hT0)), (congrArg Prod.fst (congrArg Prod.snd (hR.symm.trans hT0))), (congrArg Prod.fst (congrArg Prod.snd (congrArg Prod.snd (hR.symm.trans hT0)))), (congrArg Prod.fst (congrArg Prod.snd (congrArg Prod.snd (congrArg Prod.snd (hR.symm.trans hT0))))), (congrArg Prod.fst (congrArg Prod.snd (congrArg Prod.snd (congrArg Prod.snd (congrArg Prod.snd (hR.symm.trans hT0)))))), (congrArg Prod.fst (congrArg Prod.snd (congrArg Prod.snd (congrArg Prod.snd (congrArg Prod.snd (congrArg Prod.snd (hR.symm.trans hT0))))))), (congrArg Prod.snd (congrArg Prod.snd (congrArg Prod.snd (congrArg Prod.snd (congrArg Prod.snd (congrArg Prod.snd (hR.symm.trans hT0))))))), rfl⟩)
        · replace hR := ti hR c_60
          have b_62 : iv 0 0 v_29 := iv_q c_60 (iv_c (0 : Int32) (a := 0) (b := 0) (by decide))
          refine lv_iconst (v := (-1)) hx hb dX10_judge_64 (by decide) ?_
          refine lv_goto (tgt := 104) hx hb dX10_judge_65 (by decide) ?_
          have hP := subP (ws' := [(z 0, .inr (10, mo z 0 pz0_5 pz0_6 pz0_7 pz0_8 pz0_9 pz0_10 pz0_11 pz0_12 pz0_13 pz0_14 v_29 pz0_19 pz0_22 pz0_23 pz0_29)), (z 1, aI V 3075 f_41), (z 15, aI V 900 f_27), (z 16, aI V 6 f_28), (z 17, aI V 7 f_23), (z 37, aI V 4 fz37), (z 38, aI V 4 fz38), (z 39, aJ V 160 fz39)]) hP [6, 7, 1, 2, 5, 0, 3, 4] rfl
          have hD := subD hP hD [6, 7, 1, 2, 5, 0, 3, 4] rfl rfl
          exact fiI hx hb hr hlk hK hP hD hS dX10_judge_104 (Nat.le_of_ble_eq_true rfl) (Nat.le_of_ble_eq_true rfl) (⟨0, v_29, f_41, f_27, f_28, f_23, (iv_w b_62 (by decide)), tf_41, tf_28, tf_23, g_42, (congrArg Prod.fst (hR.symm.trans hT0)), (congrArg Prod.fst (congrArg Prod.snd (hR.symm.trans hT0))), (congrArg Prod.fst (congrArg Prod.snd (congrArg Prod.snd (hR.symm.trans hT0)))), (congrArg Prod.fst (congrArg Prod.snd (congrArg Prod.snd (congrArg Prod.snd (hR.symm.trans hT0))))), (congrArg Prod.fst (congrArg Prod.snd (congrArg Prod.snd (congrArg Prod.snd (congrArg Prod.snd (hR.symm.trans hT0)))))), (congrArg Prod.fst (congrArg Prod.snd (congrArg Prod.snd (congrArg Prod.snd (congrArg Prod.snd (congrArg Prod.snd (hR.symm.trans hT0))))))), (congrArg Prod.snd (congrArg Prod.snd (congrArg Prod.snd (congrArg Prod.snd (congrArg Prod.snd (congrArg Prod.snd (hR.symm.trans hT0))))))), rfl⟩)
    · replace hR := te hR c_20
      have b_63 : iv (-6) (-1) r_16 := iv_n1 c_20 br_16 (iv_c (0 : Int32) (a := 0) (b := 0) (by decide)) (by decide)
      refine lv_iload_n hx hb dX10_judge_30 rfl (lv_at hl 0 rfl) ?_
      have hP := subP (ws' := [(z 0, .inr (10, mo z 0 pz0_5 pz0_6 pz0_7 pz0_8 pz0_9 pz0_10 pz0_11 pz0_12 pz0_13 pz0_14 pz0_18 pz0_19 pz0_22 pz0_23 pz0_29)), (z 1, aI V 3075 fz1), (z 15, aI V 900 fz15), (z 16, aI V 6 fz16), (z 17, aI V 7 fz17), (z 37, aI V 4 fz37), (z 38, aI V 4 fz38), (z 39, aJ V 160 fz39)]) hP [6, 0, 1, 2, 3, 7, 4, 5] rfl
      have hD := subD hP hD [6, 0, 1, 2, 3, 7, 4, 5] rfl rfl
      exact fiI hx hb hr hlk hK hP hD hS dX10_judge_31 (Nat.le_of_ble_eq_true rfl) (Nat.le_of_ble_eq_true rfl) (⟨0, pz0_18, fz1, fz15, fz16, fz17, bpz0_18, tfz1, tfz16, tfz17, hf0, (congrArg Prod.fst (hR.symm.trans hT0)), (congrArg Prod.fst (congrArg Prod.snd (hR.symm.trans hT0))), (congrArg Prod.fst (congrArg Prod.snd (congrArg Prod.snd (hR.symm.trans hT0)))), (congrArg Prod.fst (congrArg Prod.snd (congrArg Prod.snd (congrArg Prod.snd (hR.symm.trans hT0))))), (congrArg Prod.fst (congrArg Prod.snd (congrArg Prod.snd (congrArg Prod.snd (congrArg Prod.snd (hR.symm.trans hT0)))))), (congrArg Prod.fst (congrArg Prod.snd (congrArg Prod.snd (congrArg Prod.snd (congrArg Prod.snd (congrArg Prod.snd (hR.symm.trans hT0))))))), (congrArg Prod.snd (congrArg Prod.snd (congrArg Prod.snd (congrArg Prod.snd (congrArg Prod.snd (congrArg Prod.snd (hR.symm.trans hT0))))))), rfl⟩)
  · replace hR := ti hR c_8
    have b_64 : iv 0 0 r_2 := iv_q c_8 (iv_c (0 : Int32) (a := 0) (b := 0) (by decide))
    refine lv_bipush (v := (-2)) hx hb dX10_judge_17 (by decide) ?_
    exact fiI hx hb hr hlk hK hP hD hS dX10_judge_19 (Nat.le_of_ble_eq_true rfl) (Nat.le_of_ble_eq_true rfl) (⟨0, pz0_18, fz1, fz15, fz16, fz17, bpz0_18, tfz1, tfz16, tfz17, hf0, (congrArg Prod.fst (hR.symm.trans hT0)), (congrArg Prod.fst (congrArg Prod.snd (hR.symm.trans hT0))), (congrArg Prod.fst (congrArg Prod.snd (congrArg Prod.snd (hR.symm.trans hT0)))), (congrArg Prod.fst (congrArg Prod.snd (congrArg Prod.snd (congrArg Prod.snd (hR.symm.trans hT0))))), (congrArg Prod.fst (congrArg Prod.snd (congrArg Prod.snd (congrArg Prod.snd (congrArg Prod.snd (hR.symm.trans hT0)))))), (congrArg Prod.fst (congrArg Prod.snd (congrArg Prod.snd (congrArg Prod.snd (congrArg Prod.snd (congrArg Prod.snd (hR.symm.trans hT0))))))), (congrArg Prod.snd (congrArg Prod.snd (congrArg Prod.snd (congrArg Prod.snd (congrArg Prod.snd (congrArg Prod.snd (hR.symm.trans hT0))))))), rfl⟩)
theorem dX10_perform_0 : decode cX10_perform 0 = .ok (.aload_n 0, 1) := by decide +kernel
theorem dX10_perform_1 : decode cX10_perform 1 = .ok (.iconst 0, 1) := by decide +kernel
theorem dX10_perform_2 : decode cX10_perform 2 = .ok (.putfield 1, 3) := by decide +kernel
theorem dX10_perform_5 : decode cX10_perform 5 = .ok (.aload_n 0, 1) := by decide +kernel
theorem dX10_perform_6 : decode cX10_perform 6 = .ok (.iload_n 1, 1) := by decide +kernel
theorem dX10_perform_7 : decode cX10_perform 7 = .ok (.invokevirtual 317, 3) := by decide +kernel
theorem dX10_perform_10 : decode cX10_perform 10 = .ok (.istore_n 2, 1) := by decide +kernel
theorem dX10_perform_11 : decode cX10_perform 11 = .ok (.iload_n 2, 1) := by decide +kernel
theorem dX10_perform_12 : decode cX10_perform 12 = .ok (.ifCond .eq 5, 3) := by decide +kernel
theorem dX10_perform_17 : decode cX10_perform 17 = .ok (.aload_n 0, 1) := by decide +kernel
theorem dX10_perform_18 : decode cX10_perform 18 = .ok (.invokevirtual 278, 3) := by decide +kernel
theorem dX10_perform_21 : decode cX10_perform 21 = .ok (.aload_n 0, 1) := by decide +kernel
theorem dX10_perform_22 : decode cX10_perform 22 = .ok (.iload_n 1, 1) := by decide +kernel
theorem dX10_perform_23 : decode cX10_perform 23 = .ok (.invokevirtual 320, 3) := by decide +kernel
theorem dX10_perform_26 : decode cX10_perform 26 = .ok (.istore_n 3, 1) := by decide +kernel
theorem dX10_perform_27 : decode cX10_perform 27 = .ok (.iload_n 3, 1) := by decide +kernel
theorem dX10_perform_28 : decode cX10_perform 28 = .ok (.ifCond .le 7, 3) := by decide +kernel
theorem dX10_perform_35 : decode cX10_perform 35 = .ok (.iload_n 3, 1) := by decide +kernel
theorem dX10_perform_36 : decode cX10_perform 36 = .ok (.ireturn, 1) := by decide +kernel
theorem dX10_perform_31 : decode cX10_perform 31 = .ok (.aload_n 0, 1) := by decide +kernel
theorem dX10_perform_32 : decode cX10_perform 32 = .ok (.invokevirtual 284, 3) := by decide +kernel
theorem dX10_perform_15 : decode cX10_perform 15 = .ok (.iload_n 2, 1) := by decide +kernel
theorem dX10_perform_16 : decode cX10_perform 16 = .ok (.ireturn, 1) := by decide +kernel
set_option maxRecDepth 100000 in
noncomputable def F_k_X10_perform_0 (a1 : Int32) (pz0_18 : Int32) (fz1 : Nat → Int32) (fz15 : Nat → Int32) (fz16 : Nat → Int32) (fz17 : Nat → Int32) (fz37 : Nat → Int32) (fz38 : Nat → Int32) (fz39 : Nat → Int64) : Int32 × Int32 × Int32 × (Nat → Int32) × (Nat → Int32) × (Nat → Int32) × (Nat → Int32) := bnd (F_k_X10_noTray_0 a1 fz37 : Int32) fun (r_1 : Int32) => if r_1 = (0 : Int32) then (bnd (F_k_X10_stores_0 fz17 fz1 : Nat → Int32) fun (f_8 : Nat → Int32) => bnd (F_k_X10_tells_0 a1 fz15 fz16 fz38 fz39 fz1 : Int32 × (Nat → Int32) × (Nat → Int32) × Int32 × (Nat → Int32)) fun (q_22 : Int32 × (Nat → Int32) × (Nat → Int32) × Int32 × (Nat → Int32)) => bnd (q_22.1 : Int32) fun (r_11 : Int32) => bnd (q_22.2.1 : Nat → Int32) fun (f_12 : Nat → Int32) => bnd (q_22.2.2.1 : Nat → Int32) fun (f_13 : Nat → Int32) => bnd (q_22.2.2.2.1 : Int32) fun (v_14 : Int32) => bnd (q_22.2.2.2.2 : Nat → Int32) fun (f_15 : Nat → Int32) => if r_11 ≤ (0 : Int32) then ((r_11, (0 : Int32), v_14, f_15, f_12, f_13, f_8)) else (bnd (F_k_X10_notes_0 f_8 f_15 : Nat → Int32) fun (f_26 : Nat → Int32) => (r_11, (0 : Int32), v_14, f_26, f_12, f_13, f_8))) else ((r_1, (0 : Int32), pz0_18, fz1, fz15, fz16, fz17))
set_option maxHeartbeats 4000000 in
set_option maxRecDepth 100000 in
theorem k_X10_perform_0 (l : Launch) (V : GV) (z : Nat → Nat) (a1 : Int32) (pz0_0 : Int32) (pz0_5 : Int32) (pz0_6 : Int32) (pz0_7 : Int32) (pz0_8 : Int32) (pz0_9 : Int32) (pz0_10 : Int32) (pz0_11 : Int32) (pz0_12 : Int32) (pz0_13 : Int32) (pz0_14 : Int32) (pz0_18 : Int32) (pz0_19 : Int32) (pz0_22 : Int32) (pz0_23 : Int32) (pz0_29 : Int32) (fz1 : Nat → Int32) (fz15 : Nat → Int32) (fz16 : Nat → Int32) (fz17 : Nat → Int32) (fz37 : Nat → Int32) (fz38 : Nat → Int32) (fz39 : Nat → Int64) (bpz0_5 : iv 0 900 pz0_5) (bpz0_6 : iv 0 900 pz0_6) (bpz0_7 : iv 0 900 pz0_7) (bpz0_8 : iv 0 900 pz0_8) (bpz0_10 : iv 0 999 pz0_10) (bpz0_11 : iv 0 4 pz0_11) (bpz0_12 : iv 0 900 pz0_12) (bpz0_13 : iv 0 4 pz0_13) (bpz0_14 : iv (-1) 900 pz0_14) (bpz0_18 : iv 0 2 pz0_18) (bpz0_22 : iv 0 9999 pz0_22) (bpz0_29 : iv 0 10000 pz0_29) (tfz1 : ivT tA fz1) (tfz16 : ivT tW fz16) (tfz17 : ivT tS fz17) (tfz37 : ∀ j, iv (-1) 3 (fz37 j)) (tfz38 : ∀ j, iv 0 40 (fz38 j)) (hf0 : RW fz1) : Ct l V yX10_perform (.code yX10_perform cX10_perform 4 (some .int)) 8 [.ref (z 0), .int a1] [(z 0, .inr (10, mo z pz0_0 pz0_5 pz0_6 pz0_7 pz0_8 pz0_9 pz0_10 pz0_11 pz0_12 pz0_13 pz0_14 pz0_18 pz0_19 pz0_22 pz0_23 pz0_29)), (z 1, aI V 3075 fz1), (z 15, aI V 900 fz15), (z 16, aI V 6 fz16), (z 17, aI V 7 fz17), (z 37, aI V 4 fz37), (z 38, aI V 4 fz38), (z 39, aJ V 160 fz39)] 0 0 (QI V (fun (r : Int32) (w : va_W) => ∃ (v0 : Int32) (v1 : Int32) (g2 : Nat → Int32) (g3 : Nat → Int32) (g4 : Nat → Int32) (g5 : Nat → Int32), iv 0 2 v1 ∧ (ivT tA g2) ∧ (ivT tW g4) ∧ (ivT tS g5) ∧ iv (-6) 40 r ∧ (RW g2) ∧ r = (F_k_X10_perform_0 a1 pz0_18 fz1 fz15 fz16 fz17 fz37 fz38 fz39).1 ∧ v0 = (F_k_X10_perform_0 a1 pz0_18 fz1 fz15 fz16 fz17 fz37 fz38 fz39).2.1 ∧ v1 = (F_k_X10_perform_0 a1 pz0_18 fz1 fz15 fz16 fz17 fz37 fz38 fz39).2.2.1 ∧ g2 = (F_k_X10_perform_0 a1 pz0_18 fz1 fz15 fz16 fz17 fz37 fz38 fz39).2.2.2.1 ∧ g3 = (F_k_X10_perform_0 a1 pz0_18 fz1 fz15 fz16 fz17 fz37 fz38 fz39).2.2.2.2.1 ∧ g4 = (F_k_X10_perform_0 a1 pz0_18 fz1 fz15 fz16 fz17 fz37 fz38 fz39).2.2.2.2.2.1 ∧ g5 = (F_k_X10_perform_0 a1 pz0_18 fz1 fz15 fz16 fz17 fz37 fz38 fz39).2.2.2.2.2.2 ∧ w = [(z 0, .inr (10, mo z v0 pz0_5 pz0_6 pz0_7 pz0_8 pz0_9 pz0_10 pz0_11 pz0_12 pz0_13 pz0_14 v1 pz0_19 pz0_22 pz0_23 pz0_29)), (z 1, aI V 3075 g2), (z 15, aI V 900 g3), (z 16, aI V 6 g4), (z 17, aI V 7 g5), (z 37, aI V 4 fz37), (z 38, aI V 4 fz38), (z 39, aJ V 160 fz39)])) := by
  refine Ct.of (by decide) (Nat.le_of_ble_eq_true rfl) (fun p e s m below meth c A ls hx hb hr hml hown hlk hnm hg hP hK hD hE hA hS hl => ?_)
  have hl : lv_has ls 4 [(0, .ref (z 0)), (1, .int a1)] := hl
  obtain ⟨T0, hT0⟩ : ∃ T9, T9 = F_k_X10_perform_0 a1 pz0_18 fz1 fz15 fz16 fz17 fz37 fz38 fz39 := ⟨_, rfl⟩
  have hR := hT0.trans (F_k_X10_perform_0.eq_1 ..)
  refine lv_aload_n hx hb dX10_perform_0 rfl (lv_at hl 0 rfl) ?_
  refine lv_iconst (v := 0) hx hb dX10_perform_1 (by decide) ?_
  refine va_put (ci := 10) (v := .int 0) (ty := .int) (C := RX10) (T := TX10) (N := 40) hx hb hg inX10 tyX10 tyX10_ok nmX10 hown hK hP hD hS 0 rfl rfl 0 (by decide) (hg _ q_5_224) (fun _ h9 => h9) rfl (by decide +kernel) rfl rfl (Nat.le_of_ble_eq_true rfl) dX10_perform_2 (fun H locs hP hD hS => ?_)
  have hP : va_P V.1 vwCl [(z 0, .inr (10, mo z 0 pz0_5 pz0_6 pz0_7 pz0_8 pz0_9 pz0_10 pz0_11 pz0_12 pz0_13 pz0_14 pz0_18 pz0_19 pz0_22 pz0_23 pz0_29)), (z 1, aI V 3075 fz1), (z 15, aI V 900 fz15), (z 16, aI V 6 fz16), (z 17, aI V 7 fz17), (z 37, aI V 4 fz37), (z 38, aI V 4 fz38), (z 39, aJ V 160 fz39)] H := hP
  have hD := cpD hP hD
  refine lv_aload_n hx hb dX10_perform_5 rfl (lv_at hl 0 rfl) ?_
  refine lv_iload_n hx hb dX10_perform_6 rfl (lv_at hl 1 rfl) ?_
  refine jnI (wr := [(z 1, aI V 3075 fz1), (z 15, aI V 900 fz15), (z 16, aI V 6 fz16), (z 17, aI V 7 fz17), (z 38, aI V 4 fz38), (z 39, aJ V 160 fz39)]) (rnV (rest := []) ⟨hx, hb, hml, hown, hg⟩ (k_X10_noTray_0 l V z a1 0 pz0_5 pz0_6 pz0_7 pz0_8 pz0_9 pz0_10 pz0_11 pz0_12 pz0_13 pz0_14 pz0_18 pz0_19 pz0_22 pz0_23 pz0_29 fz37 bpz0_5 bpz0_6 bpz0_7 bpz0_8 bpz0_10 bpz0_11 bpz0_12 bpz0_13 bpz0_14 bpz0_18 bpz0_22 bpz0_29 tfz37) mt_X10_noTray q_7_108 ⟨Nat.le_of_ble_eq_true rfl, Nat.le_of_ble_eq_true rfl⟩ hK hP hD hS hA hE [0, 5] rfl rfl 0 rfl rfl rfl rfl hl.1 rfl (Nat.le_of_ble_eq_true rfl) dX10_perform_7 ⟨Nat.le_of_ble_eq_true rfl, Nat.le_of_ble_eq_true rfl⟩) hP hD hS hA [0, 5] [1, 2, 3, 4, 6, 7] rfl rfl rfl (by decide) (fun r_1 w H locs hw hP hD hS => ?_)
  obtain ⟨br_1, g_2, et_3, rfl⟩ := hw
  replace hR := tb hR et_3
  have hP : va_P V.1 vwCl [(z 1, aI V 3075 fz1), (z 15, aI V 900 fz15), (z 16, aI V 6 fz16), (z 17, aI V 7 fz17), (z 38, aI V 4 fz38), (z 39, aJ V 160 fz39), (z 0, .inr (10, mo z 0 pz0_5 pz0_6 pz0_7 pz0_8 pz0_9 pz0_10 pz0_11 pz0_12 pz0_13 pz0_14 pz0_18 pz0_19 pz0_22 pz0_23 pz0_29)), (z 37, aI V 4 fz37)] H := hP
  have hD := cpD hP hD
  refine lv_istore_n (lv' := [(2, .int r_1), (0, .ref (z 0)), (1, .int a1)]) hx hb dX10_perform_10 rfl hl (by decide) rfl (fun ls hl => ?_)
  refine lv_iload_n hx hb dX10_perform_11 rfl (lv_at hl 0 rfl) ?_
  refine lv_if_eq (tgt := 17) hx hb dX10_perform_12 (by decide) (fun c_5 => ?_) (fun c_5 => ?_)
  · replace hR := ti hR c_5
    have b_6 : iv 0 0 r_1 := iv_q c_5 (iv_c (0 : Int32) (a := 0) (b := 0) (by decide))
    have b_7 : iv 0 3 a1 := iv_cap (g_2 (iv_eqp b_6 (iv_c (0 : Int32) (by decide)))) (iv_top a1) (by decide)
    refine lv_aload_n hx hb dX10_perform_17 rfl (lv_at hl 1 rfl) ?_
    refine jnV (wr := [(z 15, aI V 900 fz15), (z 16, aI V 6 fz16), (z 38, aI V 4 fz38), (z 39, aJ V 160 fz39), (z 37, aI V 4 fz37)]) (rnV (rest := []) ⟨hx, hb, hml, hown, hg⟩ (k_X10_stores_0 l V z fz17 0 pz0_5 pz0_6 pz0_7 pz0_8 pz0_9 pz0_10 pz0_11 pz0_12 pz0_13 pz0_14 pz0_18 pz0_19 pz0_22 pz0_23 pz0_29 fz1 tfz17 bpz0_5 bpz0_6 bpz0_7 bpz0_8 bpz0_10 bpz0_11 bpz0_12 bpz0_13 bpz0_14 bpz0_18 bpz0_22 bpz0_29 tfz1) mt_X10_stores q_7_60 ⟨Nat.le_of_ble_eq_true rfl, Nat.le_of_ble_eq_true rfl⟩ hK hP hD hS hA hE [3, 6, 0] rfl rfl 6 rfl rfl rfl rfl hl.1 rfl (Nat.le_of_ble_eq_true rfl) dX10_perform_18 ⟨Nat.le_of_ble_eq_true rfl, Nat.le_of_ble_eq_true rfl⟩) hP hD hS hA [3, 6, 0] [1, 2, 4, 5, 7] rfl rfl rfl (by decide) (fun  w H locs hw hP hD hS => ?_)
    obtain ⟨f_8, tf_8, et_9, rfl⟩ := hw
    replace hR := tb hR et_9
    have hP : va_P V.1 vwCl [(z 15, aI V 900 fz15), (z 16, aI V 6 fz16), (z 38, aI V 4 fz38), (z 39, aJ V 160 fz39), (z 37, aI V 4 fz37), (z 17, aI V 7 f_8), (z 0, .inr (10, mo z 0 pz0_5 pz0_6 pz0_7 pz0_8 pz0_9 pz0_10 pz0_11 pz0_12 pz0_13 pz0_14 pz0_18 pz0_19 pz0_22 pz0_23 pz0_29)), (z 1, aI V 3075 fz1)] H := hP
    have hD := cpD hP hD
    refine lv_aload_n hx hb dX10_perform_21 rfl (lv_at hl 1 rfl) ?_
    refine lv_iload_n hx hb dX10_perform_22 rfl (lv_at hl 2 rfl) ?_
    refine jnI (wr := [(z 37, aI V 4 fz37), (z 17, aI V 7 f_8)]) (rnV (rest := []) ⟨hx, hb, hml, hown, hg⟩ (k_X10_tells_0 l V z a1 fz15 fz16 fz38 fz39 0 pz0_5 pz0_6 pz0_7 pz0_8 pz0_9 pz0_10 pz0_11 pz0_12 pz0_13 pz0_14 pz0_18 pz0_19 pz0_22 pz0_23 pz0_29 fz1 b_7 tfz16 tfz38 bpz0_5 bpz0_6 bpz0_7 bpz0_8 bpz0_10 bpz0_11 bpz0_12 bpz0_13 bpz0_14 bpz0_18 bpz0_22 bpz0_29 tfz1 hf0) mt_X10_tells q_7_112 ⟨Nat.le_of_ble_eq_true rfl, Nat.le_of_ble_eq_true rfl⟩ hK hP hD hS hA hE [0, 1, 2, 3, 6, 7] rfl rfl 6 rfl rfl rfl rfl hl.1 rfl (Nat.le_of_ble_eq_true rfl) dX10_perform_23 ⟨Nat.le_of_ble_eq_true rfl, Nat.le_of_ble_eq_true rfl⟩) hP hD hS hA [0, 1, 2, 3, 6, 7] [4, 5] rfl rfl rfl (by decide) (fun r_11 w H locs hw hP hD hS => ?_)
    obtain ⟨f_12, f_13, v_14, f_15, tf_13, bv_14, tf_15, br_11, g_16, et_17, et_18, et_19, et_20, et_21, rfl⟩ := hw
    replace hR := tb0 hR
    replace hR := tb hR et_17
    replace hR := tb hR et_18
    replace hR := tb hR et_19
    replace hR := tb hR et_20
    replace hR := tb hR et_21
    have hP : va_P V.1 vwCl [(z 37, aI V 4 fz37), (z 17, aI V 7 f_8), (z 15, aI V 900 f_12), (z 16, aI V 6 f_13), (z 38, aI V 4 fz38), (z 39, aJ V 160 fz39), (z 0, .inr (10, mo z 0 pz0_5 pz0_6 pz0_7 pz0_8 pz0_9 pz0_10 pz0_11 pz0_12 pz0_13 pz0_14 v_14 pz0_19 pz0_22 pz0_23 pz0_29)), (z 1, aI V 3075 f_15)] H := hP
    have hD := cpD hP hD
    refine lv_istore_n (lv' := [(3, .int r_11), (2, .int r_1), (0, .ref (z 0)), (1, .int a1)]) hx hb dX10_perform_26 rfl hl (by decide) rfl (fun ls hl => ?_)
    refine lv_iload_n hx hb dX10_perform_27 rfl (lv_at hl 0 rfl) ?_
    refine lv_if_le (tgt := 35) hx hb dX10_perform_28 (by decide) (fun c_23 => ?_) (fun c_23 => ?_)
    · replace hR := ti hR c_23
      have b_24 : iv 0 0 r_11 := iv_e1 c_23 br_11 (iv_c (0 : Int32) (a := 0) (b := 0) (by decide)) (by decide)
      refine lv_iload_n hx hb dX10_perform_35 rfl (lv_at hl 0 rfl) ?_
      have hP := subP (ws' := [(z 0, .inr (10, mo z 0 pz0_5 pz0_6 pz0_7 pz0_8 pz0_9 pz0_10 pz0_11 pz0_12 pz0_13 pz0_14 v_14 pz0_19 pz0_22 pz0_23 pz0_29)), (z 1, aI V 3075 f_15), (z 15, aI V 900 f_12), (z 16, aI V 6 f_13), (z 17, aI V 7 f_8), (z 37, aI V 4 fz37), (z 38, aI V 4 fz38), (z 39, aJ V 160 fz39)]) hP [6, 7, 2, 3, 1, 0, 4, 5] rfl
      have hD := subD hP hD [6, 7, 2, 3, 1, 0, 4, 5] rfl rfl
      exact fiI hx hb hr hlk hK hP hD hS dX10_perform_36 (Nat.le_of_ble_eq_true rfl) (Nat.le_of_ble_eq_true rfl) (⟨0, v_14, f_15, f_12, f_13, f_8, bv_14, tf_15, tf_13, tf_8, (iv_w b_24 (by decide)), g_16, (congrArg Prod.fst (hR.symm.trans hT0)), (congrArg Prod.fst (congrArg Prod.snd (hR.symm.trans hT0))), (congrArg Prod.fst (congrArg Prod.snd (congrArg Prod.snd (hR.symm.trans hT0)))), (congrArg Prod.fst (congrArg Prod.snd (congrArg Prod.snd (congrArg Prod.snd (hR.symm.trans hT0))))), (congrArg Prod.fst (congrArg Prod.snd (congrArg Prod.snd (congrArg Prod.snd (congrArg Prod.snd (hR.symm.trans hT0)))))), (congrArg Prod.fst (congrArg Prod.snd (congrArg Prod.snd (congrArg Prod.snd (congrArg Prod.snd (congrArg Prod.snd (hR.symm.trans hT0))))))), (congrArg Prod.snd (congrArg Prod.snd (congrArg Prod.snd (congrArg Prod.snd (congrArg Prod.snd (congrArg Prod.snd (hR.symm.trans hT0))))))), rfl⟩)
    · replace hR := te hR c_23
      have b_25 : iv 1 40 r_11 := iv_l2 (Int32.not_le.mp c_23) (iv_c (0 : Int32) (a := 0) (b := 0) (by decide)) br_11 (by decide)
      refine lv_aload_n hx hb dX10_perform_31 rfl (lv_at hl 2 rfl) ?_
      refine jnV (wr := [(z 37, aI V 4 fz37), (z 15, aI V 900 f_12), (z 16, aI V 6 f_13), (z 38, aI V 4 fz38), (z 39, aJ V 160 fz39)]) (rnV (rest := []) ⟨hx, hb, hml, hown, hg⟩ (k_X10_notes_0 l V z f_8 0 pz0_5 pz0_6 pz0_7 pz0_8 pz0_9 pz0_10 pz0_11 pz0_12 pz0_13 pz0_14 v_14 pz0_19 pz0_22 pz0_23 pz0_29 f_15 tf_8 bpz0_5 bpz0_6 bpz0_7 bpz0_8 bpz0_10 bpz0_11 bpz0_12 bpz0_13 bpz0_14 bv_14 bpz0_22 bpz0_29 tf_15 g_16) mt_X10_notes q_7_72 ⟨Nat.le_of_ble_eq_true rfl, Nat.le_of_ble_eq_true rfl⟩ hK hP hD hS hA hE [1, 6, 7] rfl rfl 6 rfl rfl rfl rfl hl.1 rfl (Nat.le_of_ble_eq_true rfl) dX10_perform_32 ⟨Nat.le_of_ble_eq_true rfl, Nat.le_of_ble_eq_true rfl⟩) hP hD hS hA [1, 6, 7] [0, 2, 3, 4, 5] rfl rfl rfl (by decide) (fun  w H locs hw hP hD hS => ?_)
      obtain ⟨f_26, tf_26, g_27, et_28, rfl⟩ := hw
      replace hR := tb hR et_28
      have hP : va_P V.1 vwCl [(z 37, aI V 4 fz37), (z 15, aI V 900 f_12), (z 16, aI V 6 f_13), (z 38, aI V 4 fz38), (z 39, aJ V 160 fz39), (z 17, aI V 7 f_8), (z 0, .inr (10, mo z 0 pz0_5 pz0_6 pz0_7 pz0_8 pz0_9 pz0_10 pz0_11 pz0_12 pz0_13 pz0_14 v_14 pz0_19 pz0_22 pz0_23 pz0_29)), (z 1, aI V 3075 f_26)] H := hP
      have hD := cpD hP hD
      refine lv_iload_n hx hb dX10_perform_35 rfl (lv_at hl 0 rfl) ?_
      have hP := subP (ws' := [(z 0, .inr (10, mo z 0 pz0_5 pz0_6 pz0_7 pz0_8 pz0_9 pz0_10 pz0_11 pz0_12 pz0_13 pz0_14 v_14 pz0_19 pz0_22 pz0_23 pz0_29)), (z 1, aI V 3075 f_26), (z 15, aI V 900 f_12), (z 16, aI V 6 f_13), (z 17, aI V 7 f_8), (z 37, aI V 4 fz37), (z 38, aI V 4 fz38), (z 39, aJ V 160 fz39)]) hP [6, 7, 1, 2, 5, 0, 3, 4] rfl
      have hD := subD hP hD [6, 7, 1, 2, 5, 0, 3, 4] rfl rfl
      exact fiI hx hb hr hlk hK hP hD hS dX10_perform_36 (Nat.le_of_ble_eq_true rfl) (Nat.le_of_ble_eq_true rfl) (⟨0, v_14, f_26, f_12, f_13, f_8, bv_14, tf_26, tf_13, tf_8, (iv_w b_25 (by decide)), g_27, (congrArg Prod.fst (hR.symm.trans hT0)), (congrArg Prod.fst (congrArg Prod.snd (hR.symm.trans hT0))), (congrArg Prod.fst (congrArg Prod.snd (congrArg Prod.snd (hR.symm.trans hT0)))), (congrArg Prod.fst (congrArg Prod.snd (congrArg Prod.snd (congrArg Prod.snd (hR.symm.trans hT0))))), (congrArg Prod.fst (congrArg Prod.snd (congrArg Prod.snd (congrArg Prod.snd (congrArg Prod.snd (hR.symm.trans hT0)))))), (congrArg Prod.fst (congrArg Prod.snd (congrArg Prod.snd (congrArg Prod.snd (congrArg Prod.snd (congrArg Prod.snd (hR.symm.trans hT0))))))), (congrArg Prod.snd (congrArg Prod.snd (congrArg Prod.snd (congrArg Prod.snd (congrArg Prod.snd (congrArg Prod.snd (hR.symm.trans hT0))))))), rfl⟩)
  · replace hR := te hR c_5
    have b_30 : iv (-6) (-1) r_1 := iv_n1 c_5 br_1 (iv_c (0 : Int32) (a := 0) (b := 0) (by decide)) (by decide)
    refine lv_iload_n hx hb dX10_perform_15 rfl (lv_at hl 0 rfl) ?_
    have hP := subP (ws' := [(z 0, .inr (10, mo z 0 pz0_5 pz0_6 pz0_7 pz0_8 pz0_9 pz0_10 pz0_11 pz0_12 pz0_13 pz0_14 pz0_18 pz0_19 pz0_22 pz0_23 pz0_29)), (z 1, aI V 3075 fz1), (z 15, aI V 900 fz15), (z 16, aI V 6 fz16), (z 17, aI V 7 fz17), (z 37, aI V 4 fz37), (z 38, aI V 4 fz38), (z 39, aJ V 160 fz39)]) hP [6, 0, 1, 2, 3, 7, 4, 5] rfl
    have hD := subD hP hD [6, 0, 1, 2, 3, 7, 4, 5] rfl rfl
    exact fiI hx hb hr hlk hK hP hD hS dX10_perform_16 (Nat.le_of_ble_eq_true rfl) (Nat.le_of_ble_eq_true rfl) (⟨0, pz0_18, fz1, fz15, fz16, fz17, bpz0_18, tfz1, tfz16, tfz17, (iv_w b_30 (by decide)), hf0, (congrArg Prod.fst (hR.symm.trans hT0)), (congrArg Prod.fst (congrArg Prod.snd (hR.symm.trans hT0))), (congrArg Prod.fst (congrArg Prod.snd (congrArg Prod.snd (hR.symm.trans hT0)))), (congrArg Prod.fst (congrArg Prod.snd (congrArg Prod.snd (congrArg Prod.snd (hR.symm.trans hT0))))), (congrArg Prod.fst (congrArg Prod.snd (congrArg Prod.snd (congrArg Prod.snd (congrArg Prod.snd (hR.symm.trans hT0)))))), (congrArg Prod.fst (congrArg Prod.snd (congrArg Prod.snd (congrArg Prod.snd (congrArg Prod.snd (congrArg Prod.snd (hR.symm.trans hT0))))))), (congrArg Prod.snd (congrArg Prod.snd (congrArg Prod.snd (congrArg Prod.snd (congrArg Prod.snd (congrArg Prod.snd (hR.symm.trans hT0))))))), rfl⟩)
theorem dX10_draw_0 : decode cX10_draw 0 = .ok (.aload_n 0, 1) := by decide +kernel
theorem q_7_152 : Cond.constant "BeaconDelayModel" 329 (1103515245 : Int32) ∈ gw := gw_7 (i := 152) (by decide +kernel) rfl
theorem dX10_draw_1 : decode cX10_draw 1 = .ok (.ldc_w 329, 3) := by decide +kernel
theorem dX10_draw_4 : decode cX10_draw 4 = .ok (.aload_n 0, 1) := by decide +kernel
theorem q_6_3 : Cond.fieldLink "BeaconDelayModel" 330 "BeaconDelayModel" "x" "I" ∈ gw := gw_6 (i := 3) (by decide +kernel) rfl
theorem dX10_draw_5 : decode cX10_draw 5 = .ok (.getfield 330, 3) := by decide +kernel
theorem dX10_draw_8 : decode cX10_draw 8 = .ok (.imul, 1) := by decide +kernel
theorem dX10_draw_9 : decode cX10_draw 9 = .ok (.sipush 12345, 3) := by decide +kernel
theorem dX10_draw_12 : decode cX10_draw 12 = .ok (.iadd, 1) := by decide +kernel
theorem dX10_draw_13 : decode cX10_draw 13 = .ok (.putfield 330, 3) := by decide +kernel
theorem dX10_draw_16 : decode cX10_draw 16 = .ok (.aload_n 0, 1) := by decide +kernel
theorem dX10_draw_17 : decode cX10_draw 17 = .ok (.getfield 330, 3) := by decide +kernel
theorem dX10_draw_20 : decode cX10_draw 20 = .ok (.bipush 16, 2) := by decide +kernel
theorem dX10_draw_22 : decode cX10_draw 22 = .ok (.iushr, 1) := by decide +kernel
theorem dX10_draw_23 : decode cX10_draw 23 = .ok (.iload_n 1, 1) := by decide +kernel
theorem dX10_draw_24 : decode cX10_draw 24 = .ok (.irem, 1) := by decide +kernel
theorem dX10_draw_25 : decode cX10_draw 25 = .ok (.ireturn, 1) := by decide +kernel
set_option maxRecDepth 100000 in
noncomputable def F_k_X10_draw_0 (pz0_19 : Int32) : Int32 × Int32 := bnd ((1103515245 : Int32) * pz0_19 : Int32) fun (x_1 : Int32) => bnd (x_1 + (12345 : Int32) : Int32) fun (x_2 : Int32) => bnd ((x_2.toUInt32 >>> ((16 : Int32).toUInt32 &&& Int32.toUInt32 31)).toInt32 : Int32) fun (x_3 : Int32) => bnd (x_3 - x_3 / (6 : Int32) * (6 : Int32) : Int32) fun (x_4 : Int32) => (x_4, x_2)
set_option maxHeartbeats 4000000 in
set_option maxRecDepth 100000 in
theorem k_X10_draw_0 (l : Launch) (V : GV) (z : Nat → Nat) (pz0_0 : Int32) (pz0_5 : Int32) (pz0_6 : Int32) (pz0_7 : Int32) (pz0_8 : Int32) (pz0_9 : Int32) (pz0_10 : Int32) (pz0_11 : Int32) (pz0_12 : Int32) (pz0_13 : Int32) (pz0_14 : Int32) (pz0_18 : Int32) (pz0_19 : Int32) (pz0_22 : Int32) (pz0_23 : Int32) (pz0_29 : Int32) (bpz0_5 : iv 0 900 pz0_5) (bpz0_6 : iv 0 900 pz0_6) (bpz0_7 : iv 0 900 pz0_7) (bpz0_8 : iv 0 900 pz0_8) (bpz0_10 : iv 0 999 pz0_10) (bpz0_11 : iv 0 4 pz0_11) (bpz0_12 : iv 0 900 pz0_12) (bpz0_13 : iv 0 4 pz0_13) (bpz0_14 : iv (-1) 900 pz0_14) (bpz0_18 : iv 0 2 pz0_18) (bpz0_22 : iv 0 9999 pz0_22) (bpz0_29 : iv 0 10000 pz0_29) : Ct l V yX10_draw (.code yX10_draw cX10_draw 2 (some .int)) 1 [.ref (z 0), .int 6] [(z 0, .inr (10, mo z pz0_0 pz0_5 pz0_6 pz0_7 pz0_8 pz0_9 pz0_10 pz0_11 pz0_12 pz0_13 pz0_14 pz0_18 pz0_19 pz0_22 pz0_23 pz0_29))] 0 0 (QI V (fun (r : Int32) (w : va_W) => ∃ (v0 : Int32), iv 0 5 r ∧ r = (F_k_X10_draw_0 pz0_19).1 ∧ v0 = (F_k_X10_draw_0 pz0_19).2 ∧ w = [(z 0, .inr (10, mo z pz0_0 pz0_5 pz0_6 pz0_7 pz0_8 pz0_9 pz0_10 pz0_11 pz0_12 pz0_13 pz0_14 pz0_18 v0 pz0_22 pz0_23 pz0_29))])) := by
  refine Ct.of (by decide) (Nat.le_of_ble_eq_true rfl) (fun p e s m below meth c A ls hx hb hr hml hown hlk hnm hg hP hK hD hE hA hS hl => ?_)
  have hl : lv_has ls 2 [(0, .ref (z 0)), (1, .int 6)] := hl
  obtain ⟨T0, hT0⟩ : ∃ T9, T9 = F_k_X10_draw_0 pz0_19 := ⟨_, rfl⟩
  have hR := hT0.trans (F_k_X10_draw_0.eq_1 ..)
  refine lv_aload_n hx hb dX10_draw_0 rfl (lv_at hl 0 rfl) ?_
  refine lv_ldcw (v := 1103515245) hx hb hown (hg _ q_7_152) dX10_draw_1 ?_
  refine lv_aload_n hx hb dX10_draw_4 rfl (lv_at hl 0 rfl) ?_
  refine va_get (ci := 10) (v := .int pz0_19) (C := RX10) (T := TX10) (N := 40) hx hb hg inX10 hown hK hP 0 rfl rfl 19 (by decide) (hg _ q_6_3) (fun _ h9 => h9) rfl dX10_draw_5 ?_
  refine lv_imul hx hb dX10_draw_8 ?_
  refine lv_topi (fun x_1 ex_1 => ?_)
  replace hR := tb hR ex_1
  refine lv_sipush (v := 12345) hx hb dX10_draw_9 (by decide) ?_
  refine lv_iadd hx hb dX10_draw_12 ?_
  refine lv_topi (fun x_2 ex_2 => ?_)
  replace hR := tb hR ex_2
  refine va_put (ci := 10) (v := .int x_2) (ty := .int) (C := RX10) (T := TX10) (N := 40) hx hb hg inX10 tyX10 tyX10_ok nmX10 hown hK hP hD hS 0 rfl rfl 19 (by decide) (hg _ q_6_3) (fun _ h9 => h9) rfl (by decide +kernel) rfl rfl (Nat.le_of_ble_eq_true rfl) dX10_draw_13 (fun H locs hP hD hS => ?_)
  have hP : va_P V.1 vwCl [(z 0, .inr (10, mo z pz0_0 pz0_5 pz0_6 pz0_7 pz0_8 pz0_9 pz0_10 pz0_11 pz0_12 pz0_13 pz0_14 pz0_18 x_2 pz0_22 pz0_23 pz0_29))] H := hP
  have hD := cpD hP hD
  refine lv_aload_n hx hb dX10_draw_16 rfl (lv_at hl 0 rfl) ?_
  refine va_get (ci := 10) (v := .int x_2) (C := RX10) (T := TX10) (N := 40) hx hb hg inX10 hown hK hP 0 rfl rfl 19 (by decide) (hg _ q_6_3) (fun _ h9 => h9) rfl dX10_draw_17 ?_
  refine lv_bipush (v := 16) hx hb dX10_draw_20 (by decide) ?_
  refine lv_iushr hx hb dX10_draw_22 rfl ?_
  refine lv_topi (fun x_3 ex_3 => ?_)
  have bx_3 : iv 0 65535 x_3 := by rw [ex_3]; exact iv_ushr16 _
  replace hR := tb hR ex_3
  refine lv_iload_n hx hb dX10_draw_23 rfl (lv_at hl 1 rfl) ?_
  refine lv_irem hx hb dX10_draw_24 (by decide) ?_
  refine lv_topi (fun x_4 ex_4 => ?_)
  have bx_4 : iv 0 5 x_4 := by rw [ex_4]; exact iv_remp bx_3 (k := 6) (by decide) (by decide)
  replace hR := tb hR ex_4
  exact fiI hx hb hr hlk hK hP hD hS dX10_draw_25 (Nat.le_of_ble_eq_true rfl) (Nat.le_of_ble_eq_true rfl) (⟨x_2, bx_4, (congrArg Prod.fst (hR.symm.trans hT0)), (congrArg Prod.snd (hR.symm.trans hT0)), rfl⟩)
set_option maxRecDepth 100000 in
noncomputable def F_k_X10_draw_1 (pz0_19 : Int32) : Int32 × Int32 := bnd ((1103515245 : Int32) * pz0_19 : Int32) fun (x_1 : Int32) => bnd (x_1 + (12345 : Int32) : Int32) fun (x_2 : Int32) => bnd ((x_2.toUInt32 >>> ((16 : Int32).toUInt32 &&& Int32.toUInt32 31)).toInt32 : Int32) fun (x_3 : Int32) => bnd (x_3 - x_3 / (10 : Int32) * (10 : Int32) : Int32) fun (x_4 : Int32) => (x_4, x_2)
set_option maxHeartbeats 4000000 in
set_option maxRecDepth 100000 in
theorem k_X10_draw_1 (l : Launch) (V : GV) (z : Nat → Nat) (pz0_0 : Int32) (pz0_5 : Int32) (pz0_6 : Int32) (pz0_7 : Int32) (pz0_8 : Int32) (pz0_9 : Int32) (pz0_10 : Int32) (pz0_11 : Int32) (pz0_12 : Int32) (pz0_13 : Int32) (pz0_14 : Int32) (pz0_18 : Int32) (pz0_19 : Int32) (pz0_22 : Int32) (pz0_23 : Int32) (pz0_29 : Int32) (bpz0_5 : iv 0 900 pz0_5) (bpz0_6 : iv 0 900 pz0_6) (bpz0_7 : iv 0 900 pz0_7) (bpz0_8 : iv 0 900 pz0_8) (bpz0_10 : iv 0 999 pz0_10) (bpz0_11 : iv 0 4 pz0_11) (bpz0_12 : iv 0 900 pz0_12) (bpz0_13 : iv 0 4 pz0_13) (bpz0_14 : iv (-1) 900 pz0_14) (bpz0_18 : iv 0 2 pz0_18) (bpz0_22 : iv 0 9999 pz0_22) (bpz0_29 : iv 0 10000 pz0_29) : Ct l V yX10_draw (.code yX10_draw cX10_draw 2 (some .int)) 1 [.ref (z 0), .int 10] [(z 0, .inr (10, mo z pz0_0 pz0_5 pz0_6 pz0_7 pz0_8 pz0_9 pz0_10 pz0_11 pz0_12 pz0_13 pz0_14 pz0_18 pz0_19 pz0_22 pz0_23 pz0_29))] 0 0 (QI V (fun (r : Int32) (w : va_W) => ∃ (v0 : Int32), iv 0 9 r ∧ r = (F_k_X10_draw_1 pz0_19).1 ∧ v0 = (F_k_X10_draw_1 pz0_19).2 ∧ w = [(z 0, .inr (10, mo z pz0_0 pz0_5 pz0_6 pz0_7 pz0_8 pz0_9 pz0_10 pz0_11 pz0_12 pz0_13 pz0_14 pz0_18 v0 pz0_22 pz0_23 pz0_29))])) := by
  refine Ct.of (by decide) (Nat.le_of_ble_eq_true rfl) (fun p e s m below meth c A ls hx hb hr hml hown hlk hnm hg hP hK hD hE hA hS hl => ?_)
  have hl : lv_has ls 2 [(0, .ref (z 0)), (1, .int 10)] := hl
  obtain ⟨T0, hT0⟩ : ∃ T9, T9 = F_k_X10_draw_1 pz0_19 := ⟨_, rfl⟩
  have hR := hT0.trans (F_k_X10_draw_1.eq_1 ..)
  refine lv_aload_n hx hb dX10_draw_0 rfl (lv_at hl 0 rfl) ?_
  refine lv_ldcw (v := 1103515245) hx hb hown (hg _ q_7_152) dX10_draw_1 ?_
  refine lv_aload_n hx hb dX10_draw_4 rfl (lv_at hl 0 rfl) ?_
  refine va_get (ci := 10) (v := .int pz0_19) (C := RX10) (T := TX10) (N := 40) hx hb hg inX10 hown hK hP 0 rfl rfl 19 (by decide) (hg _ q_6_3) (fun _ h9 => h9) rfl dX10_draw_5 ?_
  refine lv_imul hx hb dX10_draw_8 ?_
  refine lv_topi (fun x_1 ex_1 => ?_)
  replace hR := tb hR ex_1
  refine lv_sipush (v := 12345) hx hb dX10_draw_9 (by decide) ?_
  refine lv_iadd hx hb dX10_draw_12 ?_
  refine lv_topi (fun x_2 ex_2 => ?_)
  replace hR := tb hR ex_2
  refine va_put (ci := 10) (v := .int x_2) (ty := .int) (C := RX10) (T := TX10) (N := 40) hx hb hg inX10 tyX10 tyX10_ok nmX10 hown hK hP hD hS 0 rfl rfl 19 (by decide) (hg _ q_6_3) (fun _ h9 => h9) rfl (by decide +kernel) rfl rfl (Nat.le_of_ble_eq_true rfl) dX10_draw_13 (fun H locs hP hD hS => ?_)
  have hP : va_P V.1 vwCl [(z 0, .inr (10, mo z pz0_0 pz0_5 pz0_6 pz0_7 pz0_8 pz0_9 pz0_10 pz0_11 pz0_12 pz0_13 pz0_14 pz0_18 x_2 pz0_22 pz0_23 pz0_29))] H := hP
  have hD := cpD hP hD
  refine lv_aload_n hx hb dX10_draw_16 rfl (lv_at hl 0 rfl) ?_
  refine va_get (ci := 10) (v := .int x_2) (C := RX10) (T := TX10) (N := 40) hx hb hg inX10 hown hK hP 0 rfl rfl 19 (by decide) (hg _ q_6_3) (fun _ h9 => h9) rfl dX10_draw_17 ?_
  refine lv_bipush (v := 16) hx hb dX10_draw_20 (by decide) ?_
  refine lv_iushr hx hb dX10_draw_22 rfl ?_
  refine lv_topi (fun x_3 ex_3 => ?_)
  have bx_3 : iv 0 65535 x_3 := by rw [ex_3]; exact iv_ushr16 _
  replace hR := tb hR ex_3
  refine lv_iload_n hx hb dX10_draw_23 rfl (lv_at hl 1 rfl) ?_
  refine lv_irem hx hb dX10_draw_24 (by decide) ?_
  refine lv_topi (fun x_4 ex_4 => ?_)
  have bx_4 : iv 0 9 x_4 := by rw [ex_4]; exact iv_remp bx_3 (k := 10) (by decide) (by decide)
  replace hR := tb hR ex_4
  exact fiI hx hb hr hlk hK hP hD hS dX10_draw_25 (Nat.le_of_ble_eq_true rfl) (Nat.le_of_ble_eq_true rfl) (⟨x_2, bx_4, (congrArg Prod.fst (hR.symm.trans hT0)), (congrArg Prod.snd (hR.symm.trans hT0)), rfl⟩)
set_option maxRecDepth 100000 in
noncomputable def F_k_X10_draw_2 (pz0_19 : Int32) : Int32 × Int32 := bnd ((1103515245 : Int32) * pz0_19 : Int32) fun (x_1 : Int32) => bnd (x_1 + (12345 : Int32) : Int32) fun (x_2 : Int32) => bnd ((x_2.toUInt32 >>> ((16 : Int32).toUInt32 &&& Int32.toUInt32 31)).toInt32 : Int32) fun (x_3 : Int32) => bnd (x_3 - x_3 / (4 : Int32) * (4 : Int32) : Int32) fun (x_4 : Int32) => (x_4, x_2)
set_option maxHeartbeats 4000000 in
set_option maxRecDepth 100000 in
theorem k_X10_draw_2 (l : Launch) (V : GV) (z : Nat → Nat) (pz0_0 : Int32) (pz0_5 : Int32) (pz0_6 : Int32) (pz0_7 : Int32) (pz0_8 : Int32) (pz0_9 : Int32) (pz0_10 : Int32) (pz0_11 : Int32) (pz0_12 : Int32) (pz0_13 : Int32) (pz0_14 : Int32) (pz0_18 : Int32) (pz0_19 : Int32) (pz0_22 : Int32) (pz0_23 : Int32) (pz0_29 : Int32) (bpz0_5 : iv 0 900 pz0_5) (bpz0_6 : iv 0 900 pz0_6) (bpz0_7 : iv 0 900 pz0_7) (bpz0_8 : iv 0 900 pz0_8) (bpz0_10 : iv 0 999 pz0_10) (bpz0_11 : iv 0 4 pz0_11) (bpz0_12 : iv 0 900 pz0_12) (bpz0_13 : iv 0 4 pz0_13) (bpz0_14 : iv (-1) 900 pz0_14) (bpz0_18 : iv 0 2 pz0_18) (bpz0_22 : iv 0 9999 pz0_22) (bpz0_29 : iv 0 10000 pz0_29) : Ct l V yX10_draw (.code yX10_draw cX10_draw 2 (some .int)) 1 [.ref (z 0), .int 4] [(z 0, .inr (10, mo z pz0_0 pz0_5 pz0_6 pz0_7 pz0_8 pz0_9 pz0_10 pz0_11 pz0_12 pz0_13 pz0_14 pz0_18 pz0_19 pz0_22 pz0_23 pz0_29))] 0 0 (QI V (fun (r : Int32) (w : va_W) => ∃ (v0 : Int32), iv 0 3 r ∧ r = (F_k_X10_draw_2 pz0_19).1 ∧ v0 = (F_k_X10_draw_2 pz0_19).2 ∧ w = [(z 0, .inr (10, mo z pz0_0 pz0_5 pz0_6 pz0_7 pz0_8 pz0_9 pz0_10 pz0_11 pz0_12 pz0_13 pz0_14 pz0_18 v0 pz0_22 pz0_23 pz0_29))])) := by
  refine Ct.of (by decide) (Nat.le_of_ble_eq_true rfl) (fun p e s m below meth c A ls hx hb hr hml hown hlk hnm hg hP hK hD hE hA hS hl => ?_)
  have hl : lv_has ls 2 [(0, .ref (z 0)), (1, .int 4)] := hl
  obtain ⟨T0, hT0⟩ : ∃ T9, T9 = F_k_X10_draw_2 pz0_19 := ⟨_, rfl⟩
  have hR := hT0.trans (F_k_X10_draw_2.eq_1 ..)
  refine lv_aload_n hx hb dX10_draw_0 rfl (lv_at hl 0 rfl) ?_
  refine lv_ldcw (v := 1103515245) hx hb hown (hg _ q_7_152) dX10_draw_1 ?_
  refine lv_aload_n hx hb dX10_draw_4 rfl (lv_at hl 0 rfl) ?_
  refine va_get (ci := 10) (v := .int pz0_19) (C := RX10) (T := TX10) (N := 40) hx hb hg inX10 hown hK hP 0 rfl rfl 19 (by decide) (hg _ q_6_3) (fun _ h9 => h9) rfl dX10_draw_5 ?_
  refine lv_imul hx hb dX10_draw_8 ?_
  refine lv_topi (fun x_1 ex_1 => ?_)
  replace hR := tb hR ex_1
  refine lv_sipush (v := 12345) hx hb dX10_draw_9 (by decide) ?_
  refine lv_iadd hx hb dX10_draw_12 ?_
  refine lv_topi (fun x_2 ex_2 => ?_)
  replace hR := tb hR ex_2
  refine va_put (ci := 10) (v := .int x_2) (ty := .int) (C := RX10) (T := TX10) (N := 40) hx hb hg inX10 tyX10 tyX10_ok nmX10 hown hK hP hD hS 0 rfl rfl 19 (by decide) (hg _ q_6_3) (fun _ h9 => h9) rfl (by decide +kernel) rfl rfl (Nat.le_of_ble_eq_true rfl) dX10_draw_13 (fun H locs hP hD hS => ?_)
  have hP : va_P V.1 vwCl [(z 0, .inr (10, mo z pz0_0 pz0_5 pz0_6 pz0_7 pz0_8 pz0_9 pz0_10 pz0_11 pz0_12 pz0_13 pz0_14 pz0_18 x_2 pz0_22 pz0_23 pz0_29))] H := hP
  have hD := cpD hP hD
  refine lv_aload_n hx hb dX10_draw_16 rfl (lv_at hl 0 rfl) ?_
  refine va_get (ci := 10) (v := .int x_2) (C := RX10) (T := TX10) (N := 40) hx hb hg inX10 hown hK hP 0 rfl rfl 19 (by decide) (hg _ q_6_3) (fun _ h9 => h9) rfl dX10_draw_17 ?_
  refine lv_bipush (v := 16) hx hb dX10_draw_20 (by decide) ?_
  refine lv_iushr hx hb dX10_draw_22 rfl ?_
  refine lv_topi (fun x_3 ex_3 => ?_)
  have bx_3 : iv 0 65535 x_3 := by rw [ex_3]; exact iv_ushr16 _
  replace hR := tb hR ex_3
  refine lv_iload_n hx hb dX10_draw_23 rfl (lv_at hl 1 rfl) ?_
  refine lv_irem hx hb dX10_draw_24 (by decide) ?_
  refine lv_topi (fun x_4 ex_4 => ?_)
  have bx_4 : iv 0 3 x_4 := by rw [ex_4]; exact iv_remp bx_3 (k := 4) (by decide) (by decide)
  replace hR := tb hR ex_4
  exact fiI hx hb hr hlk hK hP hD hS dX10_draw_25 (Nat.le_of_ble_eq_true rfl) (Nat.le_of_ble_eq_true rfl) (⟨x_2, bx_4, (congrArg Prod.fst (hR.symm.trans hT0)), (congrArg Prod.snd (hR.symm.trans hT0)), rfl⟩)
theorem dX10_drawn_0 : decode cX10_drawn 0 = .ok (.aload_n 0, 1) := by decide +kernel
theorem dX10_drawn_1 : decode cX10_drawn 1 = .ok (.bipush 6, 2) := by decide +kernel
theorem q_7_151 : Cond.code yX10_draw prog_12_method_73_code 2 (some FieldType.int) ∈ gw := gw_7 (i := 151) (rfl) rfl
theorem q_7_150 : Cond.instanceMethod yX10_draw ∈ gw := gw_7 (i := 150) (by decide +kernel) rfl
theorem q_s_100 : Cond.selects "BeaconDelayModel" yX10_draw yX10_draw ∈ gw := gw_s (i := 100) (by decide +kernel) rfl
theorem mt_X10_draw : MtV yX10_draw cX10_draw 2 (some .int) 1 := ⟨⟨q_7_151, q_1_9, by decide +kernel, by decide +kernel, by decide +kernel⟩, q_7_150, q_s_100⟩
theorem q_7_148 : Cond.methodLink "BeaconDelayModel" 333 yX10_draw ∈ gw := gw_7 (i := 148) (by decide +kernel) rfl
theorem dX10_drawn_3 : decode cX10_drawn 3 = .ok (.invokevirtual 333, 3) := by decide +kernel
theorem dX10_drawn_6 : decode cX10_drawn 6 = .ok (.istore_n 1, 1) := by decide +kernel
theorem dX10_drawn_7 : decode cX10_drawn 7 = .ok (.iload_n 1, 1) := by decide +kernel
theorem dX10_drawn_8 : decode cX10_drawn 8 = .ok (.iconst 3, 1) := by decide +kernel
theorem dX10_drawn_9 : decode cX10_drawn 9 = .ok (.if_icmp .ge 7, 3) := by decide +kernel
theorem dX10_drawn_16 : decode cX10_drawn 16 = .ok (.iload_n 1, 1) := by decide +kernel
theorem dX10_drawn_17 : decode cX10_drawn 17 = .ok (.iconst 3, 1) := by decide +kernel
theorem dX10_drawn_18 : decode cX10_drawn 18 = .ok (.if_icmp .ne 11, 3) := by decide +kernel
theorem dX10_drawn_29 : decode cX10_drawn 29 = .ok (.iload_n 1, 1) := by decide +kernel
theorem dX10_drawn_30 : decode cX10_drawn 30 = .ok (.iconst 4, 1) := by decide +kernel
theorem dX10_drawn_31 : decode cX10_drawn 31 = .ok (.if_icmp .ne 14, 3) := by decide +kernel
theorem dX10_drawn_45 : decode cX10_drawn 45 = .ok (.bipush 20, 2) := by decide +kernel
theorem dX10_drawn_47 : decode cX10_drawn 47 = .ok (.aload_n 0, 1) := by decide +kernel
theorem dX10_drawn_48 : decode cX10_drawn 48 = .ok (.bipush 10, 2) := by decide +kernel
theorem dX10_drawn_50 : decode cX10_drawn 50 = .ok (.invokevirtual 333, 3) := by decide +kernel
theorem dX10_drawn_53 : decode cX10_drawn 53 = .ok (.iadd, 1) := by decide +kernel
theorem dX10_drawn_54 : decode cX10_drawn 54 = .ok (.ireturn, 1) := by decide +kernel
theorem dX10_drawn_34 : decode cX10_drawn 34 = .ok (.bipush 10, 2) := by decide +kernel
theorem dX10_drawn_36 : decode cX10_drawn 36 = .ok (.aload_n 0, 1) := by decide +kernel
theorem dX10_drawn_37 : decode cX10_drawn 37 = .ok (.iconst 4, 1) := by decide +kernel
theorem dX10_drawn_38 : decode cX10_drawn 38 = .ok (.invokevirtual 333, 3) := by decide +kernel
theorem dX10_drawn_41 : decode cX10_drawn 41 = .ok (.iadd, 1) := by decide +kernel
theorem dX10_drawn_42 : decode cX10_drawn 42 = .ok (.goto 12, 3) := by decide +kernel
theorem dX10_drawn_21 : decode cX10_drawn 21 = .ok (.aload_n 0, 1) := by decide +kernel
theorem dX10_drawn_22 : decode cX10_drawn 22 = .ok (.iconst 4, 1) := by decide +kernel
theorem dX10_drawn_23 : decode cX10_drawn 23 = .ok (.invokevirtual 333, 3) := by decide +kernel
theorem dX10_drawn_26 : decode cX10_drawn 26 = .ok (.goto 28, 3) := by decide +kernel
theorem dX10_drawn_12 : decode cX10_drawn 12 = .ok (.iconst 0, 1) := by decide +kernel
theorem dX10_drawn_13 : decode cX10_drawn 13 = .ok (.goto 41, 3) := by decide +kernel
set_option maxRecDepth 100000 in
noncomputable def F_k_X10_drawn_0 (pz0_19 : Int32) : Int32 × Int32 := bnd (F_k_X10_draw_0 pz0_19 : Int32 × Int32) fun (q_5 : Int32 × Int32) => bnd (q_5.1 : Int32) fun (r_1 : Int32) => bnd (q_5.2 : Int32) fun (v_2 : Int32) => if (3 : Int32) ≤ r_1 then (if r_1 = (3 : Int32) then (bnd (F_k_X10_draw_2 v_2 : Int32 × Int32) fun (q_30 : Int32 × Int32) => bnd (q_30.1 : Int32) fun (r_26 : Int32) => bnd (q_30.2 : Int32) fun (v_27 : Int32) => (r_26, v_27)) else (if r_1 = (4 : Int32) then (bnd (F_k_X10_draw_2 v_2 : Int32 × Int32) fun (q_23 : Int32 × Int32) => bnd (q_23.1 : Int32) fun (r_19 : Int32) => bnd (q_23.2 : Int32) fun (v_20 : Int32) => bnd ((10 : Int32) + r_19 : Int32) fun (x_24 : Int32) => (x_24, v_20)) else (bnd (F_k_X10_draw_1 v_2 : Int32 × Int32) fun (q_16 : Int32 × Int32) => bnd (q_16.1 : Int32) fun (r_12 : Int32) => bnd (q_16.2 : Int32) fun (v_13 : Int32) => bnd ((20 : Int32) + r_12 : Int32) fun (x_17 : Int32) => (x_17, v_13)))) else (((0 : Int32), v_2))
set_option maxHeartbeats 4000000 in
set_option maxRecDepth 100000 in
theorem k_X10_drawn_0 (l : Launch) (V : GV) (z : Nat → Nat) (pz0_0 : Int32) (pz0_5 : Int32) (pz0_6 : Int32) (pz0_7 : Int32) (pz0_8 : Int32) (pz0_9 : Int32) (pz0_10 : Int32) (pz0_11 : Int32) (pz0_12 : Int32) (pz0_13 : Int32) (pz0_14 : Int32) (pz0_18 : Int32) (pz0_19 : Int32) (pz0_22 : Int32) (pz0_23 : Int32) (pz0_29 : Int32) (bpz0_5 : iv 0 900 pz0_5) (bpz0_6 : iv 0 900 pz0_6) (bpz0_7 : iv 0 900 pz0_7) (bpz0_8 : iv 0 900 pz0_8) (bpz0_10 : iv 0 999 pz0_10) (bpz0_11 : iv 0 4 pz0_11) (bpz0_12 : iv 0 900 pz0_12) (bpz0_13 : iv 0 4 pz0_13) (bpz0_14 : iv (-1) 900 pz0_14) (bpz0_18 : iv 0 2 pz0_18) (bpz0_22 : iv 0 9999 pz0_22) (bpz0_29 : iv 0 10000 pz0_29) : Ct l V yX10_drawn (.code yX10_drawn cX10_drawn 2 (some .int)) 2 [.ref (z 0)] [(z 0, .inr (10, mo z pz0_0 pz0_5 pz0_6 pz0_7 pz0_8 pz0_9 pz0_10 pz0_11 pz0_12 pz0_13 pz0_14 pz0_18 pz0_19 pz0_22 pz0_23 pz0_29))] 0 0 (QI V (fun (r : Int32) (w : va_W) => ∃ (v0 : Int32), iv 0 29 r ∧ r = (F_k_X10_drawn_0 pz0_19).1 ∧ v0 = (F_k_X10_drawn_0 pz0_19).2 ∧ w = [(z 0, .inr (10, mo z pz0_0 pz0_5 pz0_6 pz0_7 pz0_8 pz0_9 pz0_10 pz0_11 pz0_12 pz0_13 pz0_14 pz0_18 v0 pz0_22 pz0_23 pz0_29))])) := by
  refine Ct.of (by decide) (Nat.le_of_ble_eq_true rfl) (fun p e s m below meth c A ls hx hb hr hml hown hlk hnm hg hP hK hD hE hA hS hl => ?_)
  have hl : lv_has ls 2 [(0, .ref (z 0))] := hl
  obtain ⟨T0, hT0⟩ : ∃ T9, T9 = F_k_X10_drawn_0 pz0_19 := ⟨_, rfl⟩
  have hR := hT0.trans (F_k_X10_drawn_0.eq_1 ..)
  refine lv_aload_n hx hb dX10_drawn_0 rfl (lv_at hl 0 rfl) ?_
  refine lv_bipush (v := 6) hx hb dX10_drawn_1 (by decide) ?_
  refine jnI (wr := []) (rnV (rest := []) ⟨hx, hb, hml, hown, hg⟩ (k_X10_draw_0 l V z pz0_0 pz0_5 pz0_6 pz0_7 pz0_8 pz0_9 pz0_10 pz0_11 pz0_12 pz0_13 pz0_14 pz0_18 pz0_19 pz0_22 pz0_23 pz0_29 bpz0_5 bpz0_6 bpz0_7 bpz0_8 bpz0_10 bpz0_11 bpz0_12 bpz0_13 bpz0_14 bpz0_18 bpz0_22 bpz0_29) mt_X10_draw q_7_148 ⟨Nat.le_of_ble_eq_true rfl, Nat.le_of_ble_eq_true rfl⟩ hK hP hD hS hA hE [0] rfl rfl 0 rfl rfl rfl rfl hl.1 rfl (Nat.le_of_ble_eq_true rfl) dX10_drawn_3 ⟨Nat.le_of_ble_eq_true rfl, Nat.le_of_ble_eq_true rfl⟩) hP hD hS hA [0] [] rfl rfl rfl (by decide) (fun r_1 w H locs hw hP hD hS => ?_)
  obtain ⟨v_2, br_1, et_3, et_4, rfl⟩ := hw
  replace hR := tb0 hR
  replace hR := tb hR et_3
  replace hR := tb hR et_4
  have hP : va_P V.1 vwCl [(z 0, .inr (10, mo z pz0_0 pz0_5 pz0_6 pz0_7 pz0_8 pz0_9 pz0_10 pz0_11 pz0_12 pz0_13 pz0_14 pz0_18 v_2 pz0_22 pz0_23 pz0_29))] H := hP
  have hD := cpD hP hD
  refine lv_istore_n (lv' := [(1, .int r_1), (0, .ref (z 0))]) hx hb dX10_drawn_6 rfl hl (by decide) rfl (fun ls hl => ?_)
  refine lv_iload_n hx hb dX10_drawn_7 rfl (lv_at hl 0 rfl) ?_
  refine lv_iconst (v := 3) hx hb dX10_drawn_8 (by decide) ?_
  refine lv_icmp_ge (tgt := 16) hx hb dX10_drawn_9 (by decide) (fun c_6 => ?_) (fun c_6 => ?_)
  · replace hR := ti hR c_6
    have b_7 : iv 3 5 r_1 := iv_e2 c_6 (iv_c (3 : Int32) (a := 3) (b := 3) (by decide)) br_1 (by decide)
    refine lv_iload_n hx hb dX10_drawn_16 rfl (lv_at hl 0 rfl) ?_
    refine lv_iconst (v := 3) hx hb dX10_drawn_17 (by decide) ?_
    refine lv_icmp_ne (tgt := 29) hx hb dX10_drawn_18 (by decide) (fun c_8 => ?_) (fun c_8 => ?_)
    · replace hR := te hR c_8
      have b_9 : iv 4 5 r_1 := iv_n0 c_8 b_7 (iv_c (3 : Int32) (a := 3) (b := 3) (by decide)) (by decide)
      refine lv_iload_n hx hb dX10_drawn_29 rfl (lv_at hl 0 rfl) ?_
      refine lv_iconst (v := 4) hx hb dX10_drawn_30 (by decide) ?_
      refine lv_icmp_ne (tgt := 45) hx hb dX10_drawn_31 (by decide) (fun c_10 => ?_) (fun c_10 => ?_)
      · replace hR := te hR c_10
        have b_11 : iv 5 5 r_1 := iv_n0 c_10 b_9 (iv_c (4 : Int32) (a := 4) (b := 4) (by decide)) (by decide)
        refine lv_bipush (v := 20) hx hb dX10_drawn_45 (by decide) ?_
        refine lv_aload_n hx hb dX10_drawn_47 rfl (lv_at hl 1 rfl) ?_
        refine lv_bipush (v := 10) hx hb dX10_drawn_48 (by decide) ?_
        refine jnI (wr := []) (rnV (rest := [.int 20]) ⟨hx, hb, hml, hown, hg⟩ (k_X10_draw_1 l V z pz0_0 pz0_5 pz0_6 pz0_7 pz0_8 pz0_9 pz0_10 pz0_11 pz0_12 pz0_13 pz0_14 pz0_18 v_2 pz0_22 pz0_23 pz0_29 bpz0_5 bpz0_6 bpz0_7 bpz0_8 bpz0_10 bpz0_11 bpz0_12 bpz0_13 bpz0_14 bpz0_18 bpz0_22 bpz0_29) mt_X10_draw q_7_148 ⟨Nat.le_of_ble_eq_true rfl, Nat.le_of_ble_eq_true rfl⟩ hK hP hD hS hA hE [0] rfl rfl 0 rfl rfl rfl rfl hl.1 rfl (Nat.le_of_ble_eq_true rfl) dX10_drawn_50 ⟨Nat.le_of_ble_eq_true rfl, Nat.le_of_ble_eq_true rfl⟩) hP hD hS hA [0] [] rfl rfl rfl (by decide) (fun r_12 w H locs hw hP hD hS => ?_)
        obtain ⟨v_13, br_12, et_14, et_15, rfl⟩ := hw
        replace hR := tb0 hR
        replace hR := tb hR et_14
        replace hR := tb hR et_15
        have hP : va_P V.1 vwCl [(z 0, .inr (10, mo z pz0_0 pz0_5 pz0_6 pz0_7 pz0_8 pz0_9 pz0_10 pz0_11 pz0_12 pz0_13 pz0_14 pz0_18 v_13 pz0_22 pz0_23 pz0_29))] H := hP
        have hD := cpD hP hD
        refine lv_iadd hx hb dX10_drawn_53 ?_
        refine lv_topi (fun x_17 ex_17 => ?_)
        have bx_17 : iv 20 29 x_17 := by rw [ex_17]; exact iv_add (iv_c (20 : Int32) (a := 20) (b := 20) (by decide)) br_12 (by decide)
        replace hR := tb hR ex_17
        exact fiI hx hb hr hlk hK hP hD hS dX10_drawn_54 (Nat.le_of_ble_eq_true rfl) (Nat.le_of_ble_eq_true rfl) (⟨v_13, (iv_w bx_17 (by decide)), (congrArg Prod.fst (hR.symm.trans hT0)), (congrArg Prod.snd (hR.symm.trans hT0)), rfl⟩)
      · replace hR := ti hR c_10
        have b_18 : iv 4 4 r_1 := iv_q c_10 (iv_c (4 : Int32) (a := 4) (b := 4) (by decide))
        refine lv_bipush (v := 10) hx hb dX10_drawn_34 (by decide) ?_
        refine lv_aload_n hx hb dX10_drawn_36 rfl (lv_at hl 1 rfl) ?_
        refine lv_iconst (v := 4) hx hb dX10_drawn_37 (by decide) ?_
        refine jnI (wr := []) (rnV (rest := [.int 10]) ⟨hx, hb, hml, hown, hg⟩ (k_X10_draw_2 l V z pz0_0 pz0_5 pz0_6 pz0_7 pz0_8 pz0_9 pz0_10 pz0_11 pz0_12 pz0_13 pz0_14 pz0_18 v_2 pz0_22 pz0_23 pz0_29 bpz0_5 bpz0_6 bpz0_7 bpz0_8 bpz0_10 bpz0_11 bpz0_12 bpz0_13 bpz0_14 bpz0_18 bpz0_22 bpz0_29) mt_X10_draw q_7_148 ⟨Nat.le_of_ble_eq_true rfl, Nat.le_of_ble_eq_true rfl⟩ hK hP hD hS hA hE [0] rfl rfl 0 rfl rfl rfl rfl hl.1 rfl (Nat.le_of_ble_eq_true rfl) dX10_drawn_38 ⟨Nat.le_of_ble_eq_true rfl, Nat.le_of_ble_eq_true rfl⟩) hP hD hS hA [0] [] rfl rfl rfl (by decide) (fun r_19 w H locs hw hP hD hS => ?_)
        obtain ⟨v_20, br_19, et_21, et_22, rfl⟩ := hw
        replace hR := tb0 hR
        replace hR := tb hR et_21
        replace hR := tb hR et_22
        have hP : va_P V.1 vwCl [(z 0, .inr (10, mo z pz0_0 pz0_5 pz0_6 pz0_7 pz0_8 pz0_9 pz0_10 pz0_11 pz0_12 pz0_13 pz0_14 pz0_18 v_20 pz0_22 pz0_23 pz0_29))] H := hP
        have hD := cpD hP hD
        refine lv_iadd hx hb dX10_drawn_41 ?_
        refine lv_topi (fun x_24 ex_24 => ?_)
        have bx_24 : iv 10 13 x_24 := by rw [ex_24]; exact iv_add (iv_c (10 : Int32) (a := 10) (b := 10) (by decide)) br_19 (by decide)
        replace hR := tb hR ex_24
        refine lv_goto (tgt := 54) hx hb dX10_drawn_42 (by decide) ?_
        exact fiI hx hb hr hlk hK hP hD hS dX10_drawn_54 (Nat.le_of_ble_eq_true rfl) (Nat.le_of_ble_eq_true rfl) (⟨v_20, (iv_w bx_24 (by decide)), (congrArg Prod.fst (hR.symm.trans hT0)), (congrArg Prod.snd (hR.symm.trans hT0)), rfl⟩)
    · replace hR := ti hR c_8
      have b_25 : iv 3 3 r_1 := iv_q c_8 (iv_c (3 : Int32) (a := 3) (b := 3) (by decide))
      refine lv_aload_n hx hb dX10_drawn_21 rfl (lv_at hl 1 rfl) ?_
      refine lv_iconst (v := 4) hx hb dX10_drawn_22 (by decide) ?_
      refine jnI (wr := []) (rnV (rest := []) ⟨hx, hb, hml, hown, hg⟩ (k_X10_draw_2 l V z pz0_0 pz0_5 pz0_6 pz0_7 pz0_8 pz0_9 pz0_10 pz0_11 pz0_12 pz0_13 pz0_14 pz0_18 v_2 pz0_22 pz0_23 pz0_29 bpz0_5 bpz0_6 bpz0_7 bpz0_8 bpz0_10 bpz0_11 bpz0_12 bpz0_13 bpz0_14 bpz0_18 bpz0_22 bpz0_29) mt_X10_draw q_7_148 ⟨Nat.le_of_ble_eq_true rfl, Nat.le_of_ble_eq_true rfl⟩ hK hP hD hS hA hE [0] rfl rfl 0 rfl rfl rfl rfl hl.1 rfl (Nat.le_of_ble_eq_true rfl) dX10_drawn_23 ⟨Nat.le_of_ble_eq_true rfl, Nat.le_of_ble_eq_true rfl⟩) hP hD hS hA [0] [] rfl rfl rfl (by decide) (fun r_26 w H locs hw hP hD hS => ?_)
      obtain ⟨v_27, br_26, et_28, et_29, rfl⟩ := hw
      replace hR := tb0 hR
      replace hR := tb hR et_28
      replace hR := tb hR et_29
      have hP : va_P V.1 vwCl [(z 0, .inr (10, mo z pz0_0 pz0_5 pz0_6 pz0_7 pz0_8 pz0_9 pz0_10 pz0_11 pz0_12 pz0_13 pz0_14 pz0_18 v_27 pz0_22 pz0_23 pz0_29))] H := hP
      have hD := cpD hP hD
      refine lv_goto (tgt := 54) hx hb dX10_drawn_26 (by decide) ?_
      exact fiI hx hb hr hlk hK hP hD hS dX10_drawn_54 (Nat.le_of_ble_eq_true rfl) (Nat.le_of_ble_eq_true rfl) (⟨v_27, (iv_w br_26 (by decide)), (congrArg Prod.fst (hR.symm.trans hT0)), (congrArg Prod.snd (hR.symm.trans hT0)), rfl⟩)
  · replace hR := te hR c_6
    have b_31 : iv 0 2 r_1 := iv_l1 (Int32.not_le.mp c_6) br_1 (iv_c (3 : Int32) (a := 3) (b := 3) (by decide)) (by decide)
    refine lv_iconst (v := 0) hx hb dX10_drawn_12 (by decide) ?_
    refine lv_goto (tgt := 54) hx hb dX10_drawn_13 (by decide) ?_
    exact fiI hx hb hr hlk hK hP hD hS dX10_drawn_54 (Nat.le_of_ble_eq_true rfl) (Nat.le_of_ble_eq_true rfl) (⟨v_2, (iv_c (0 : Int32) (by decide)), (congrArg Prod.fst (hR.symm.trans hT0)), (congrArg Prod.snd (hR.symm.trans hT0)), rfl⟩)
theorem dX10_century_0 : decode cX10_century 0 = .ok (.aload_n 0, 1) := by decide +kernel
theorem dX10_century_1 : decode cX10_century 1 = .ok (.iconst 0, 1) := by decide +kernel
theorem dX10_century_2 : decode cX10_century 2 = .ok (.putfield 1, 3) := by decide +kernel
theorem dX10_century_5 : decode cX10_century 5 = .ok (.iload_n 2, 1) := by decide +kernel
theorem dX10_century_6 : decode cX10_century 6 = .ok (.i2l, 1) := by decide +kernel
theorem dX10_century_7 : decode cX10_century 7 = .ok (.lconst 1, 1) := by decide +kernel
theorem q_7_143 : Cond.constantLong "BeaconDelayModel" 336 (40 : Int64) ∈ gw := gw_7 (i := 143) (by decide +kernel) rfl
theorem dX10_century_8 : decode cX10_century 8 = .ok (.ldc2_w 336, 3) := by decide +kernel
theorem dX10_century_11 : decode cX10_century 11 = .ok (.invokestatic 159, 3) := by decide +kernel
theorem dX10_century_14 : decode cX10_century 14 = .ok (.ifCond .ne 6, 3) := by decide +kernel
theorem dX10_century_20 : decode cX10_century 20 = .ok (.aload_n 0, 1) := by decide +kernel
theorem dX10_century_21 : decode cX10_century 21 = .ok (.invokevirtual 278, 3) := by decide +kernel
theorem dX10_century_24 : decode cX10_century 24 = .ok (.aload_n 0, 1) := by decide +kernel
theorem dX10_century_25 : decode cX10_century 25 = .ok (.iload_n 1, 1) := by decide +kernel
theorem dX10_century_26 : decode cX10_century 26 = .ok (.putfield 330, 3) := by decide +kernel
theorem dX10_century_29 : decode cX10_century 29 = .ok (.iconst 0, 1) := by decide +kernel
theorem dX10_century_30 : decode cX10_century 30 = .ok (.istore_n 3, 1) := by decide +kernel
theorem dX10_century_31 : decode cX10_century 31 = .ok (.iconst 0, 1) := by decide +kernel
theorem dX10_century_32 : decode cX10_century 32 = .ok (.istore 4, 2) := by decide +kernel
theorem dX10_century_34 : decode cX10_century 34 = .ok (.iload 4, 2) := by decide +kernel
theorem dX10_century_36 : decode cX10_century 36 = .ok (.iload_n 2, 1) := by decide +kernel
theorem dX10_century_37 : decode cX10_century 37 = .ok (.if_icmp .ge 37, 3) := by decide +kernel
theorem dX10_century_74 : decode cX10_century 74 = .ok (.iload_n 3, 1) := by decide +kernel
theorem dX10_century_75 : decode cX10_century 75 = .ok (.ifCond .le 7, 3) := by decide +kernel
theorem dX10_century_82 : decode cX10_century 82 = .ok (.iload_n 3, 1) := by decide +kernel
theorem dX10_century_83 : decode cX10_century 83 = .ok (.ireturn, 1) := by decide +kernel
theorem dX10_century_78 : decode cX10_century 78 = .ok (.aload_n 0, 1) := by decide +kernel
theorem dX10_century_79 : decode cX10_century 79 = .ok (.invokevirtual 284, 3) := by decide +kernel
theorem dX10_century_40 : decode cX10_century 40 = .ok (.aload_n 0, 1) := by decide +kernel
theorem q_7_147 : Cond.code yX10_drawn prog_12_method_74_code 2 (some FieldType.int) ∈ gw := gw_7 (i := 147) (rfl) rfl
theorem q_7_146 : Cond.instanceMethod yX10_drawn ∈ gw := gw_7 (i := 146) (by decide +kernel) rfl
theorem q_s_99 : Cond.selects "BeaconDelayModel" yX10_drawn yX10_drawn ∈ gw := gw_s (i := 99) (by decide +kernel) rfl
theorem mt_X10_drawn : MtV yX10_drawn cX10_drawn 2 (some .int) 0 := ⟨⟨q_7_147, q_1_9, by decide +kernel, by decide +kernel, by decide +kernel⟩, q_7_146, q_s_99⟩
theorem q_7_144 : Cond.methodLink "BeaconDelayModel" 338 yX10_drawn ∈ gw := gw_7 (i := 144) (by decide +kernel) rfl
theorem dX10_century_41 : decode cX10_century 41 = .ok (.invokevirtual 338, 3) := by decide +kernel
theorem dX10_century_44 : decode cX10_century 44 = .ok (.istore 5, 2) := by decide +kernel
theorem dX10_century_46 : decode cX10_century 46 = .ok (.aload_n 0, 1) := by decide +kernel
theorem dX10_century_47 : decode cX10_century 47 = .ok (.iload 5, 2) := by decide +kernel
theorem dX10_century_49 : decode cX10_century 49 = .ok (.i2l, 1) := by decide +kernel
theorem dX10_century_50 : decode cX10_century 50 = .ok (.invokevirtual 309, 3) := by decide +kernel
theorem dX10_century_53 : decode cX10_century 53 = .ok (.ifCond .eq 6, 3) := by decide +kernel
theorem dX10_century_59 : decode cX10_century 59 = .ok (.aload_n 0, 1) := by decide +kernel
theorem dX10_century_60 : decode cX10_century 60 = .ok (.iload 5, 2) := by decide +kernel
theorem dX10_century_62 : decode cX10_century 62 = .ok (.invokevirtual 312, 3) := by decide +kernel
theorem dX10_century_65 : decode cX10_century 65 = .ok (.iinc 3 1, 3) := by decide +kernel
theorem dX10_century_68 : decode cX10_century 68 = .ok (.iinc 4 1, 3) := by decide +kernel
theorem dX10_century_71 : decode cX10_century 71 = .ok (.goto (-37), 3) := by decide +kernel
theorem dX10_century_56 : decode cX10_century 56 = .ok (.goto 12, 3) := by decide +kernel
theorem dX10_century_17 : decode cX10_century 17 = .ok (.bipush (-3), 2) := by decide +kernel
theorem dX10_century_19 : decode cX10_century 19 = .ok (.ireturn, 1) := by decide +kernel
set_option maxRecDepth 100000 in
noncomputable def B_k_X10_century_0_1 (a2 : Int32) (f_16 : Nat → Int32) (u_19 : Int32) (u_20 : Int32) (f_21 : Nat → Int32) (f_22 : Nat → Int32) (u_23 : Int32) (f_24 : Nat → Int32) : (Int32 × Int32 × (Nat → Int32) × (Nat → Int32) × Int32 × (Nat → Int32)) ⊕ (Int32 × Int32 × Int32 × (Nat → Int32) × (Nat → Int32) × (Nat → Int32) × (Nat → Int32)) := if a2 ≤ u_19 then (if u_20 ≤ (0 : Int32) then (Sum.inr ((u_20, (0 : Int32), u_23, f_24, f_21, f_22, f_16))) else (bnd (F_k_X10_notes_0 f_16 f_24 : Nat → Int32) fun (f_31 : Nat → Int32) => Sum.inr ((u_20, (0 : Int32), u_23, f_31, f_21, f_22, f_16)))) else (bnd (F_k_X10_drawn_0 u_23 : Int32 × Int32) fun (q_40 : Int32 × Int32) => bnd (q_40.1 : Int32) fun (r_36 : Int32) => bnd (q_40.2 : Int32) fun (v_37 : Int32) => bnd (r_36.toInt64 : Int64) fun (j_41 : Int64) => bnd (F_k_X10_whyNot_0 j_41 f_24 : Int32) fun (r_42 : Int32) => if r_42 = (0 : Int32) then (bnd (F_k_X10_does_0 r_36 f_21 f_22 f_24 : (Nat → Int32) × (Nat → Int32) × (Nat → Int32)) fun (q_56 : (Nat → Int32) × (Nat → Int32) × (Nat → Int32)) => bnd (q_56.1 : Nat → Int32) fun (f_49 : Nat → Int32) => bnd (q_56.2.1 : Nat → Int32) fun (f_50 : Nat → Int32) => bnd (q_56.2.2 : Nat → Int32) fun (f_51 : Nat → Int32) => bnd (u_20 + 1 : Int32) fun (x_57 : Int32) => bnd (u_19 + 1 : Int32) fun (x_58 : Int32) => Sum.inl (x_58, x_57, f_49, f_50, v_37, f_51)) else (bnd (u_19 + 1 : Int32) fun (x_60 : Int32) => Sum.inl (x_60, u_20, f_21, f_22, v_37, f_24)))
noncomputable def L_k_X10_century_0_1 (a2 : Int32) (f_16 : Nat → Int32) (q9 : Int32 × Int32 × (Nat → Int32) × (Nat → Int32) × Int32 × (Nat → Int32)) : (Int32 × Int32 × (Nat → Int32) × (Nat → Int32) × Int32 × (Nat → Int32)) ⊕ (Int32 × Int32 × Int32 × (Nat → Int32) × (Nat → Int32) × (Nat → Int32) × (Nat → Int32)) := B_k_X10_century_0_1 a2 f_16 q9.1 q9.2.1 q9.2.2.1 q9.2.2.2.1 q9.2.2.2.2.1 q9.2.2.2.2.2
set_option maxRecDepth 100000 in
noncomputable def F_k_X10_century_0 (a1 : Int32) (a2 : Int32) (pz0_19 : Int32) (fz1 : Nat → Int32) (fz15 : Nat → Int32) (fz16 : Nat → Int32) (fz17 : Nat → Int32) : Int32 × Int32 × Int32 × (Nat → Int32) × (Nat → Int32) × (Nat → Int32) × (Nat → Int32) := bnd (a2.toInt64 : Int64) fun (j_1 : Int64) => bnd (F_k_X10_within_0 j_1 (1 : Int64) (40 : Int64) : Int32) fun (r_2 : Int32) => if r_2 = (0 : Int32) then ((((-3) : Int32), (0 : Int32), pz0_19, fz1, fz15, fz16, fz17)) else (bnd (F_k_X10_stores_0 fz17 fz1 : Nat → Int32) fun (f_16 : Nat → Int32) => W9 (L_k_X10_century_0_1 a2 f_16) (0, 0, fz15, fz16, a1, fz1))
set_option maxHeartbeats 4000000 in
set_option maxRecDepth 100000 in
theorem k_X10_century_0 (l : Launch) (V : GV) (z : Nat → Nat) (a1 : Int32) (a2 : Int32) (pz0_0 : Int32) (pz0_5 : Int32) (pz0_6 : Int32) (pz0_7 : Int32) (pz0_8 : Int32) (pz0_9 : Int32) (pz0_10 : Int32) (pz0_11 : Int32) (pz0_12 : Int32) (pz0_13 : Int32) (pz0_14 : Int32) (pz0_18 : Int32) (pz0_19 : Int32) (pz0_22 : Int32) (pz0_23 : Int32) (pz0_29 : Int32) (fz1 : Nat → Int32) (fz15 : Nat → Int32) (fz16 : Nat → Int32) (fz17 : Nat → Int32) (bpz0_5 : iv 0 900 pz0_5) (bpz0_6 : iv 0 900 pz0_6) (bpz0_7 : iv 0 900 pz0_7) (bpz0_8 : iv 0 900 pz0_8) (bpz0_10 : iv 0 999 pz0_10) (bpz0_11 : iv 0 4 pz0_11) (bpz0_12 : iv 0 900 pz0_12) (bpz0_13 : iv 0 4 pz0_13) (bpz0_14 : iv (-1) 900 pz0_14) (bpz0_18 : iv 0 2 pz0_18) (bpz0_22 : iv 0 9999 pz0_22) (bpz0_29 : iv 0 10000 pz0_29) (tfz1 : ivT tA fz1) (tfz16 : ivT tW fz16) (tfz17 : ivT tS fz17) (hf0 : RW fz1) : Ct l V yX10_century (.code yX10_century cX10_century 6 (some .int)) 7 [.ref (z 0), .int a1, .int a2] [(z 0, .inr (10, mo z pz0_0 pz0_5 pz0_6 pz0_7 pz0_8 pz0_9 pz0_10 pz0_11 pz0_12 pz0_13 pz0_14 pz0_18 pz0_19 pz0_22 pz0_23 pz0_29)), (z 1, aI V 3075 fz1), (z 15, aI V 900 fz15), (z 16, aI V 6 fz16), (z 17, aI V 7 fz17)] 0 0 (QI V (fun (r : Int32) (w : va_W) => ∃ (v0 : Int32) (v1 : Int32) (g2 : Nat → Int32) (g3 : Nat → Int32) (g4 : Nat → Int32) (g5 : Nat → Int32), (ivT tA g2) ∧ (ivT tW g4) ∧ (ivT tS g5) ∧ (RW g2) ∧ r = (F_k_X10_century_0 a1 a2 pz0_19 fz1 fz15 fz16 fz17).1 ∧ v0 = (F_k_X10_century_0 a1 a2 pz0_19 fz1 fz15 fz16 fz17).2.1 ∧ v1 = (F_k_X10_century_0 a1 a2 pz0_19 fz1 fz15 fz16 fz17).2.2.1 ∧ g2 = (F_k_X10_century_0 a1 a2 pz0_19 fz1 fz15 fz16 fz17).2.2.2.1 ∧ g3 = (F_k_X10_century_0 a1 a2 pz0_19 fz1 fz15 fz16 fz17).2.2.2.2.1 ∧ g4 = (F_k_X10_century_0 a1 a2 pz0_19 fz1 fz15 fz16 fz17).2.2.2.2.2.1 ∧ g5 = (F_k_X10_century_0 a1 a2 pz0_19 fz1 fz15 fz16 fz17).2.2.2.2.2.2 ∧ w = [(z 0, .inr (10, mo z v0 pz0_5 pz0_6 pz0_7 pz0_8 pz0_9 pz0_10 pz0_11 pz0_12 pz0_13 pz0_14 pz0_18 v1 pz0_22 pz0_23 pz0_29)), (z 1, aI V 3075 g2), (z 15, aI V 900 g3), (z 16, aI V 6 g4), (z 17, aI V 7 g5)])) := by
  refine Ct.of (by decide) (Nat.le_of_ble_eq_true rfl) (fun p e s m below meth c A ls hx hb hr hml hown hlk hnm hg hP hK hD hE hA hS hl => ?_)
  have hl : lv_has ls 6 [(0, .ref (z 0)), (1, .int a1), (2, .int a2)] := hl
  obtain ⟨T0, hT0⟩ : ∃ T9, T9 = F_k_X10_century_0 a1 a2 pz0_19 fz1 fz15 fz16 fz17 := ⟨_, rfl⟩
  have hR := hT0.trans (F_k_X10_century_0.eq_1 ..)
  refine lv_aload_n hx hb dX10_century_0 rfl (lv_at hl 0 rfl) ?_
  refine lv_iconst (v := 0) hx hb dX10_century_1 (by decide) ?_
  refine va_put (ci := 10) (v := .int 0) (ty := .int) (C := RX10) (T := TX10) (N := 40) hx hb hg inX10 tyX10 tyX10_ok nmX10 hown hK hP hD hS 0 rfl rfl 0 (by decide) (hg _ q_5_224) (fun _ h9 => h9) rfl (by decide +kernel) rfl rfl (Nat.le_of_ble_eq_true rfl) dX10_century_2 (fun H locs hP hD hS => ?_)
  have hP : va_P V.1 vwCl [(z 0, .inr (10, mo z 0 pz0_5 pz0_6 pz0_7 pz0_8 pz0_9 pz0_10 pz0_11 pz0_12 pz0_13 pz0_14 pz0_18 pz0_19 pz0_22 pz0_23 pz0_29)), (z 1, aI V 3075 fz1), (z 15, aI V 900 fz15), (z 16, aI V 6 fz16), (z 17, aI V 7 fz17)] H := hP
  have hD := cpD hP hD
  refine lv_iload_n hx hb dX10_century_5 rfl (lv_at hl 2 rfl) ?_
  refine lv_i2l hx hb dX10_century_6 rfl ?_
  refine lv_topl (fun j_1 ej_1 => ?_)
  replace hR := tb hR ej_1
  refine lv_lconst (v := 1) hx hb dX10_century_7 (by decide) ?_
  refine lv_ldc2 (v := 40) hx hb hown (hg _ q_7_143) dX10_century_8 ?_
  refine jnI (wr := [(z 0, .inr (10, mo z 0 pz0_5 pz0_6 pz0_7 pz0_8 pz0_9 pz0_10 pz0_11 pz0_12 pz0_13 pz0_14 pz0_18 pz0_19 pz0_22 pz0_23 pz0_29)), (z 1, aI V 3075 fz1), (z 15, aI V 900 fz15), (z 16, aI V 6 fz16), (z 17, aI V 7 fz17)]) (rnS (rest := []) ⟨hx, hb, hml, hown, hg⟩ (k_X10_within_0 l V j_1 1 40) mt_X10_within q_6_114 ⟨Nat.le_of_ble_eq_true rfl, Nat.le_of_ble_eq_true rfl⟩ hK hP hD hS hA hE [] rfl rfl rfl hl.1 rfl (Nat.le_of_ble_eq_true rfl) dX10_century_11 ⟨Nat.le_of_ble_eq_true rfl, Nat.le_of_ble_eq_true rfl⟩) hP hD hS hA [] [0, 1, 2, 3, 4] rfl rfl rfl (by decide) (fun r_2 w H locs hw hP hD hS => ?_)
  obtain ⟨br_2, g_3, g_4, g_5, et_6, rfl⟩ := hw
  replace hR := tb hR et_6
  have hP : va_P V.1 vwCl [(z 0, .inr (10, mo z 0 pz0_5 pz0_6 pz0_7 pz0_8 pz0_9 pz0_10 pz0_11 pz0_12 pz0_13 pz0_14 pz0_18 pz0_19 pz0_22 pz0_23 pz0_29)), (z 1, aI V 3075 fz1), (z 15, aI V 900 fz15), (z 16, aI V 6 fz16), (z 17, aI V 7 fz17)] H := hP
  have hD := cpD hP hD
  refine lv_if_ne (tgt := 20) hx hb dX10_century_14 (by decide) (fun c_8 => ?_) (fun c_8 => ?_)
  · replace hR := te hR c_8
    have b_9 : iv 1 1 r_2 := iv_n0 c_8 br_2 (iv_c (0 : Int32) (a := 0) (b := 0) (by decide)) (by decide)
    have c_10 : (1 : Int64) ≤ j_1 := (g_4 (iv_eqp b_9 (iv_c (1 : Int32) (by decide))))
    have b_11 : ivL 1 9223372036854775807 j_1 := ivL_e2 c_10 (ivL_c (1 : Int64) (a := 1) (b := 1) (by decide)) (ivL_top j_1) (by decide)
    have b_12 : iv 1 2147483647 a2 := iv_cap (ivL_i ej_1 b_11) (iv_top a2) (by decide)
    have c_13 : j_1 ≤ 40 := (g_5 (iv_eqp b_9 (iv_c (1 : Int32) (by decide))))
    have b_14 : ivL 1 40 j_1 := ivL_e1 c_13 b_11 (ivL_c (40 : Int64) (a := 40) (b := 40) (by decide)) (by decide)
    have b_15 : iv 1 40 a2 := iv_cap (ivL_i ej_1 b_14) b_12 (by decide)
    refine lv_aload_n hx hb dX10_century_20 rfl (lv_at hl 0 rfl) ?_
    refine jnV (wr := [(z 15, aI V 900 fz15), (z 16, aI V 6 fz16)]) (rnV (rest := []) ⟨hx, hb, hml, hown, hg⟩ (k_X10_stores_0 l V z fz17 0 pz0_5 pz0_6 pz0_7 pz0_8 pz0_9 pz0_10 pz0_11 pz0_12 pz0_13 pz0_14 pz0_18 pz0_19 pz0_22 pz0_23 pz0_29 fz1 tfz17 bpz0_5 bpz0_6 bpz0_7 bpz0_8 bpz0_10 bpz0_11 bpz0_12 bpz0_13 bpz0_14 bpz0_18 bpz0_22 bpz0_29 tfz1) mt_X10_stores q_7_60 ⟨Nat.le_of_ble_eq_true rfl, Nat.le_of_ble_eq_true rfl⟩ hK hP hD hS hA hE [4, 0, 1] rfl rfl 0 rfl rfl rfl rfl hl.1 rfl (Nat.le_of_ble_eq_true rfl) dX10_century_21 ⟨Nat.le_of_ble_eq_true rfl, Nat.le_of_ble_eq_true rfl⟩) hP hD hS hA [4, 0, 1] [2, 3] rfl rfl rfl (by decide) (fun  w H locs hw hP hD hS => ?_)
    obtain ⟨f_16, tf_16, et_17, rfl⟩ := hw
    replace hR := tb hR et_17
    have hP : va_P V.1 vwCl [(z 15, aI V 900 fz15), (z 16, aI V 6 fz16), (z 17, aI V 7 f_16), (z 0, .inr (10, mo z 0 pz0_5 pz0_6 pz0_7 pz0_8 pz0_9 pz0_10 pz0_11 pz0_12 pz0_13 pz0_14 pz0_18 pz0_19 pz0_22 pz0_23 pz0_29)), (z 1, aI V 3075 fz1)] H := hP
    have hD := cpD hP hD
    refine lv_aload_n hx hb dX10_century_24 rfl (lv_at hl 0 rfl) ?_
    refine lv_iload_n hx hb dX10_century_25 rfl (lv_at hl 1 rfl) ?_
    refine va_put (ci := 10) (v := .int a1) (ty := .int) (C := RX10) (T := TX10) (N := 40) hx hb hg inX10 tyX10 tyX10_ok nmX10 hown hK hP hD hS 3 rfl rfl 19 (by decide) (hg _ q_6_3) (fun _ h9 => h9) rfl (by decide +kernel) rfl rfl (Nat.le_of_ble_eq_true rfl) dX10_century_26 (fun H locs hP hD hS => ?_)
    have hP : va_P V.1 vwCl [(z 15, aI V 900 fz15), (z 16, aI V 6 fz16), (z 17, aI V 7 f_16), (z 0, .inr (10, mo z 0 pz0_5 pz0_6 pz0_7 pz0_8 pz0_9 pz0_10 pz0_11 pz0_12 pz0_13 pz0_14 pz0_18 a1 pz0_22 pz0_23 pz0_29)), (z 1, aI V 3075 fz1)] H := hP
    have hD := cpD hP hD
    refine lv_iconst (v := 0) hx hb dX10_century_29 (by decide) ?_
    refine lv_istore_n (lv' := [(3, .int 0), (0, .ref (z 0)), (1, .int a1), (2, .int a2)]) hx hb dX10_century_30 rfl hl (by decide) rfl (fun ls hl => ?_)
    refine lv_iconst (v := 0) hx hb dX10_century_31 (by decide) ?_
    refine lv_istore (lv' := [(4, .int 0), (3, .int 0), (0, .ref (z 0)), (1, .int a1), (2, .int a2)]) hx hb dX10_century_32 hl (by decide) rfl (fun ls hl => ?_)
    refine loopF (X := fun (n_25 : Nat) (H : Heap) (locs : List Loc) (ls : Array Slot) => ∃ (u_19 : Int32) (u_20 : Int32) (f_21 : Nat → Int32) (f_22 : Nat → Int32) (u_23 : Int32) (f_24 : Nat → Int32), (iv 0 2147483647 u_19) ∧ (ivT tW f_22) ∧ (ivT tA f_24) ∧ (RW f_24) ∧ T0 = W9 (L_k_X10_century_0_1 a2 f_16) (u_19, u_20, f_21, f_22, u_23, f_24) ∧ n_25 = (2147483647 - (u_19 : Int32).toInt).toNat ∧ va_P V.1 vwCl [(z 15, aI V 900 f_21), (z 16, aI V 6 f_22), (z 17, aI V 7 f_16), (z 0, .inr (10, mo z 0 pz0_5 pz0_6 pz0_7 pz0_8 pz0_9 pz0_10 pz0_11 pz0_12 pz0_13 pz0_14 pz0_18 u_23 pz0_22 pz0_23 pz0_29)), (z 1, aI V 3075 f_24)] H ∧ va_D A [(z 15, aI V 900 f_21), (z 16, aI V 6 f_22), (z 17, aI V 7 f_16), (z 0, .inr (10, mo z 0 pz0_5 pz0_6 pz0_7 pz0_8 pz0_9 pz0_10 pz0_11 pz0_12 pz0_13 pz0_14 pz0_18 u_23 pz0_22 pz0_23 pz0_29)), (z 1, aI V 3075 f_24)] ∧ va_S A s.heap H locs ∧ lv_has ls 6 [(4, .int u_19), (3, .int u_20), (0, .ref (z 0)), (1, .int a1), (2, .int a2)]) (g := fun ls => F0 m 34 ls []) (fun n_25 H locs ls hX ihn_25 => ?_) _ ⟨0, 0, fz15, fz16, a1, fz1, (iv_c (0 : Int32) (by decide)), tfz16, tfz1, hf0, hR, rfl, hP, hD, hS, lv_sub hl [0, 1, 2, 3, 4] rfl⟩
    obtain ⟨u_19, u_20, f_21, f_22, u_23, f_24, bu_19, tf_22, tf_24, inn_25_0, hR, en_25, hP, hD, hS, hl⟩ := hX
    obtain ⟨Tn_25, hR, hAn_25⟩ := tw hR
    replace hR : Tn_25 = B_k_X10_century_0_1 a2 f_16 u_19 u_20 f_21 f_22 u_23 f_24 := hR
    replace hR := hR.trans (B_k_X10_century_0_1.eq_1 ..)
    refine lv_iload hx hb dX10_century_34 (lv_at hl 0 rfl) ?_
    refine lv_iload_n hx hb dX10_century_36 rfl (lv_at hl 4 rfl) ?_
    refine lv_icmp_ge (tgt := 74) hx hb dX10_century_37 (by decide) (fun c_26 => ?_) (fun c_26 => ?_)
    · replace hR := ti hR c_26
      have b_27 : iv 1 2147483647 u_19 := iv_e2 c_26 b_15 bu_19 (by decide)
      refine lv_iload_n hx hb dX10_century_74 rfl (lv_at hl 1 rfl) ?_
      refine lv_if_le (tgt := 82) hx hb dX10_century_75 (by decide) (fun c_28 => ?_) (fun c_28 => ?_)
      · replace hR := ti hR c_28
        have b_29 : iv (-2147483648) 0 u_20 := iv_e1 c_28 (iv_top u_20) (iv_c (0 : Int32) (a := 0) (b := 0) (by decide)) (by decide)
        refine lv_iload_n hx hb dX10_century_82 rfl (lv_at hl 1 rfl) ?_
        have hP := subP (ws' := [(z 0, .inr (10, mo z 0 pz0_5 pz0_6 pz0_7 pz0_8 pz0_9 pz0_10 pz0_11 pz0_12 pz0_13 pz0_14 pz0_18 u_23 pz0_22 pz0_23 pz0_29)), (z 1, aI V 3075 f_24), (z 15, aI V 900 f_21), (z 16, aI V 6 f_22), (z 17, aI V 7 f_16)]) hP [3, 4, 0, 1, 2] rfl
        have hD := subD hP hD [3, 4, 0, 1, 2] rfl rfl
        exact fiI hx hb hr hlk hK hP hD hS dX10_century_83 (Nat.le_of_ble_eq_true rfl) (Nat.le_of_ble_eq_true rfl) (⟨0, u_23, f_24, f_21, f_22, f_16, tf_24, tf_22, tf_16, inn_25_0, (congrArg Prod.fst ((tx hAn_25 hR).symm.trans hT0)), (congrArg Prod.fst (congrArg Prod.snd ((tx hAn_25 hR).symm.trans hT0))), (congrArg Prod.fst (congrArg Prod.snd (congrArg Prod.snd ((tx hAn_25 hR).symm.trans hT0)))), (congrArg Prod.fst (congrArg Prod.snd (congrArg Prod.snd (congrArg Prod.snd ((tx hAn_25 hR).symm.trans hT0))))), (congrArg Prod.fst (congrArg Prod.snd (congrArg Prod.snd (congrArg Prod.snd (congrArg Prod.snd ((tx hAn_25 hR).symm.trans hT0)))))), (congrArg Prod.fst (congrArg Prod.snd (congrArg Prod.snd (congrArg Prod.snd (congrArg Prod.snd (congrArg Prod.snd ((tx hAn_25 hR).symm.trans hT0))))))), (congrArg Prod.snd (congrArg Prod.snd (congrArg Prod.snd (congrArg Prod.snd (congrArg Prod.snd (congrArg Prod.snd ((tx hAn_25 hR).symm.trans hT0))))))), rfl⟩)
      · replace hR := te hR c_28
        have b_30 : iv 1 2147483647 u_20 := iv_l2 (Int32.not_le.mp c_28) (iv_c (0 : Int32) (a := 0) (b := 0) (by decide)) (iv_top u_20) (by decide)
        refine lv_aload_n hx hb dX10_century_78 rfl (lv_at hl 2 rfl) ?_
        refine jnV (wr := [(z 15, aI V 900 f_21), (z 16, aI V 6 f_22)]) (rnV (rest := []) ⟨hx, hb, hml, hown, hg⟩ (k_X10_notes_0 l V z f_16 0 pz0_5 pz0_6 pz0_7 pz0_8 pz0_9 pz0_10 pz0_11 pz0_12 pz0_13 pz0_14 pz0_18 u_23 pz0_22 pz0_23 pz0_29 f_24 tf_16 bpz0_5 bpz0_6 bpz0_7 bpz0_8 bpz0_10 bpz0_11 bpz0_12 bpz0_13 bpz0_14 bpz0_18 bpz0_22 bpz0_29 tf_24 inn_25_0) mt_X10_notes q_7_72 ⟨Nat.le_of_ble_eq_true rfl, Nat.le_of_ble_eq_true rfl⟩ hK hP hD hS hA hE [2, 3, 4] rfl rfl 3 rfl rfl rfl rfl hl.1 rfl (Nat.le_of_ble_eq_true rfl) dX10_century_79 ⟨Nat.le_of_ble_eq_true rfl, Nat.le_of_ble_eq_true rfl⟩) hP hD hS hA [2, 3, 4] [0, 1] rfl rfl rfl (by decide) (fun  w H locs hw hP hD hS => ?_)
        obtain ⟨f_31, tf_31, g_32, et_33, rfl⟩ := hw
        replace hR := tb hR et_33
        have hP : va_P V.1 vwCl [(z 15, aI V 900 f_21), (z 16, aI V 6 f_22), (z 17, aI V 7 f_16), (z 0, .inr (10, mo z 0 pz0_5 pz0_6 pz0_7 pz0_8 pz0_9 pz0_10 pz0_11 pz0_12 pz0_13 pz0_14 pz0_18 u_23 pz0_22 pz0_23 pz0_29)), (z 1, aI V 3075 f_31)] H := hP
        have hD := cpD hP hD
        refine lv_iload_n hx hb dX10_century_82 rfl (lv_at hl 1 rfl) ?_
        have hP := subP (ws' := [(z 0, .inr (10, mo z 0 pz0_5 pz0_6 pz0_7 pz0_8 pz0_9 pz0_10 pz0_11 pz0_12 pz0_13 pz0_14 pz0_18 u_23 pz0_22 pz0_23 pz0_29)), (z 1, aI V 3075 f_31), (z 15, aI V 900 f_21), (z 16, aI V 6 f_22), (z 17, aI V 7 f_16)]) hP [3, 4, 0, 1, 2] rfl
        have hD := subD hP hD [3, 4, 0, 1, 2] rfl rfl
        exact fiI hx hb hr hlk hK hP hD hS dX10_century_83 (Nat.le_of_ble_eq_true rfl) (Nat.le_of_ble_eq_true rfl) (⟨0, u_23, f_31, f_21, f_22, f_16, tf_31, tf_22, tf_16, g_32, (congrArg Prod.fst ((tx hAn_25 hR).symm.trans hT0)), (congrArg Prod.fst (congrArg Prod.snd ((tx hAn_25 hR).symm.trans hT0))), (congrArg Prod.fst (congrArg Prod.snd (congrArg Prod.snd ((tx hAn_25 hR).symm.trans hT0)))), (congrArg Prod.fst (congrArg Prod.snd (congrArg Prod.snd (congrArg Prod.snd ((tx hAn_25 hR).symm.trans hT0))))), (congrArg Prod.fst (congrArg Prod.snd (congrArg Prod.snd (congrArg Prod.snd (congrArg Prod.snd ((tx hAn_25 hR).symm.trans hT0)))))), (congrArg Prod.fst (congrArg Prod.snd (congrArg Prod.snd (congrArg Prod.snd (congrArg Prod.snd (congrArg Prod.snd ((tx hAn_25 hR).symm.trans hT0))))))), (congrArg Prod.snd (congrArg Prod.snd (congrArg Prod.snd (congrArg Prod.snd (congrArg Prod.snd (congrArg Prod.snd ((tx hAn_25 hR).symm.trans hT0))))))), rfl⟩)
    · replace hR := te hR c_26
      have b_35 : iv 0 39 u_19 := iv_l1 (Int32.not_le.mp c_26) bu_19 b_15 (by decide)
      refine lv_aload_n hx hb dX10_century_40 rfl (lv_at hl 2 rfl) ?_
      refine jnI (wr := [(z 15, aI V 900 f_21), (z 16, aI V 6 f_22), (z 17, aI V 7 f_16), (z 1, aI V 3075 f_24)]) (rnV (rest := []) ⟨hx, hb, hml, hown, hg⟩ (k_X10_drawn_0 l V z 0 pz0_5 pz0_6 pz0_7 pz0_8 pz0_9 pz0_10 pz0_11 pz0_12 pz0_13 pz0_14 pz0_18 u_23 pz0_22 pz0_23 pz0_29 bpz0_5 bpz0_6 bpz0_7 bpz0_8 bpz0_10 bpz0_11 bpz0_12 bpz0_13 bpz0_14 bpz0_18 bpz0_22 bpz0_29) mt_X10_drawn q_7_144 ⟨Nat.le_of_ble_eq_true rfl, Nat.le_of_ble_eq_true rfl⟩ hK hP hD hS hA hE [3] rfl rfl 3 rfl rfl rfl rfl hl.1 rfl (Nat.le_of_ble_eq_true rfl) dX10_century_41 ⟨Nat.le_of_ble_eq_true rfl, Nat.le_of_ble_eq_true rfl⟩) hP hD hS hA [3] [0, 1, 2, 4] rfl rfl rfl (by decide) (fun r_36 w H locs hw hP hD hS => ?_)
      obtain ⟨v_37, br_36, et_38, et_39, rfl⟩ := hw
      replace hR := tb0 hR
      replace hR := tb hR et_38
      replace hR := tb hR et_39
      have hP : va_P V.1 vwCl [(z 15, aI V 900 f_21), (z 16, aI V 6 f_22), (z 17, aI V 7 f_16), (z 1, aI V 3075 f_24), (z 0, .inr (10, mo z 0 pz0_5 pz0_6 pz0_7 pz0_8 pz0_9 pz0_10 pz0_11 pz0_12 pz0_13 pz0_14 pz0_18 v_37 pz0_22 pz0_23 pz0_29))] H := hP
      have hD := cpD hP hD
      refine lv_istore (lv' := [(5, .int r_36), (4, .int u_19), (3, .int u_20), (0, .ref (z 0)), (1, .int a1), (2, .int a2)]) hx hb dX10_century_44 hl (by decide) rfl (fun ls hl => ?_)
      refine lv_aload_n hx hb dX10_century_46 rfl (lv_at hl 3 rfl) ?_
      refine lv_iload hx hb dX10_century_47 (lv_at hl 0 rfl) ?_
      refine lv_i2l hx hb dX10_century_49 rfl ?_
      refine lv_topl (fun j_41 ej_41 => ?_)
      have bj_41 : ivL 0 29 j_41 := by rw [ej_41]; exact ivL_of br_36
      replace hR := tb hR ej_41
      refine jnI (wr := [(z 15, aI V 900 f_21), (z 16, aI V 6 f_22), (z 17, aI V 7 f_16)]) (rnV (rest := []) ⟨hx, hb, hml, hown, hg⟩ (k_X10_whyNot_0 l V z j_41 0 pz0_5 pz0_6 pz0_7 pz0_8 pz0_9 pz0_10 pz0_11 pz0_12 pz0_13 pz0_14 pz0_18 v_37 pz0_22 pz0_23 pz0_29 f_24 bpz0_5 bpz0_6 bpz0_7 bpz0_8 bpz0_10 bpz0_11 bpz0_12 bpz0_13 bpz0_14 bpz0_18 bpz0_22 bpz0_29 tf_24) mt_X10_whyNot q_7_116 ⟨Nat.le_of_ble_eq_true rfl, Nat.le_of_ble_eq_true rfl⟩ hK hP hD hS hA hE [4, 3] rfl rfl 4 rfl rfl rfl rfl hl.1 rfl (Nat.le_of_ble_eq_true rfl) dX10_century_50 ⟨Nat.le_of_ble_eq_true rfl, Nat.le_of_ble_eq_true rfl⟩) hP hD hS hA [4, 3] [0, 1, 2] rfl rfl rfl (by decide) (fun r_42 w H locs hw hP hD hS => ?_)
      obtain ⟨br_42, g_43, g_44, et_45, rfl⟩ := hw
      replace hR := tb hR et_45
      have hP : va_P V.1 vwCl [(z 15, aI V 900 f_21), (z 16, aI V 6 f_22), (z 17, aI V 7 f_16), (z 0, .inr (10, mo z 0 pz0_5 pz0_6 pz0_7 pz0_8 pz0_9 pz0_10 pz0_11 pz0_12 pz0_13 pz0_14 pz0_18 v_37 pz0_22 pz0_23 pz0_29)), (z 1, aI V 3075 f_24)] H := hP
      have hD := cpD hP hD
      refine lv_if_eq (tgt := 59) hx hb dX10_century_53 (by decide) (fun c_47 => ?_) (fun c_47 => ?_)
      · replace hR := ti hR c_47
        have b_48 : iv 0 0 r_42 := iv_q c_47 (iv_c (0 : Int32) (a := 0) (b := 0) (by decide))
        refine lv_aload_n hx hb dX10_century_59 rfl (lv_at hl 3 rfl) ?_
        refine lv_iload hx hb dX10_century_60 (lv_at hl 0 rfl) ?_
        refine jnV (wr := [(z 17, aI V 7 f_16)]) (rnV (rest := []) ⟨hx, hb, hml, hown, hg⟩ (k_X10_does_0 l V z r_36 f_21 f_22 0 pz0_5 pz0_6 pz0_7 pz0_8 pz0_9 pz0_10 pz0_11 pz0_12 pz0_13 pz0_14 pz0_18 v_37 pz0_22 pz0_23 pz0_29 f_24 br_36 tf_22 bpz0_5 bpz0_6 bpz0_7 bpz0_8 bpz0_10 bpz0_11 bpz0_12 bpz0_13 bpz0_14 bpz0_18 bpz0_22 bpz0_29 tf_24 inn_25_0 (by have q9 := (g_43 (iv_eqp b_48 (iv_c (0 : Int32) (by decide)))); rw [ej_41, toI64] at q9; exact q9)) mt_X10_does q_7_123 ⟨Nat.le_of_ble_eq_true rfl, Nat.le_of_ble_eq_true rfl⟩ hK hP hD hS hA hE [0, 1, 3, 4] rfl rfl 3 rfl rfl rfl rfl hl.1 rfl (Nat.le_of_ble_eq_true rfl) dX10_century_62 ⟨Nat.le_of_ble_eq_true rfl, Nat.le_of_ble_eq_true rfl⟩) hP hD hS hA [0, 1, 3, 4] [2] rfl rfl rfl (by decide) (fun  w H locs hw hP hD hS => ?_)
        obtain ⟨f_49, f_50, f_51, tf_50, tf_51, g_52, et_53, et_54, et_55, rfl⟩ := hw
        replace hR := tb0 hR
        replace hR := tb hR et_53
        replace hR := tb hR et_54
        replace hR := tb hR et_55
        have hP : va_P V.1 vwCl [(z 17, aI V 7 f_16), (z 15, aI V 900 f_49), (z 16, aI V 6 f_50), (z 0, .inr (10, mo z 0 pz0_5 pz0_6 pz0_7 pz0_8 pz0_9 pz0_10 pz0_11 pz0_12 pz0_13 pz0_14 pz0_18 v_37 pz0_22 pz0_23 pz0_29)), (z 1, aI V 3075 f_51)] H := hP
        have hD := cpD hP hD
        obtain ⟨x_57, ex_57⟩ : ∃ z9 : Int32, z9 = u_20 + 1 := ⟨_, rfl⟩
        replace hR := tb hR ex_57
        refine lv_iinc (v := x_57) (lv' := [(3, .int x_57), (5, .int r_36), (4, .int u_19), (0, .ref (z 0)), (1, .int a1), (2, .int a2)]) hx hb dX10_century_65 hl (k := 2) rfl (by rw [ex_57]; rfl) (by decide) rfl (fun ls hl => ?_)
        obtain ⟨x_58, ex_58⟩ : ∃ z9 : Int32, z9 = u_19 + 1 := ⟨_, rfl⟩
        have bx_58 : iv 1 40 x_58 := by rw [ex_58]; exact iv_add b_35 (iv_c (1 : Int32) (a := 1) (b := 1) (by decide)) (by decide)
        replace hR := tb hR ex_58
        refine lv_iinc (v := x_58) (lv' := [(4, .int x_58), (3, .int x_57), (5, .int r_36), (0, .ref (z 0)), (1, .int a1), (2, .int a2)]) hx hb dX10_century_68 hl (k := 2) rfl (by rw [ex_58]; rfl) (by decide) rfl (fun ls hl => ?_)
        refine lv_goto (tgt := 34) hx hb dX10_century_71 (by decide) ?_
        have hP := subP (ws' := [(z 15, aI V 900 f_49), (z 16, aI V 6 f_50), (z 17, aI V 7 f_16), (z 0, .inr (10, mo z 0 pz0_5 pz0_6 pz0_7 pz0_8 pz0_9 pz0_10 pz0_11 pz0_12 pz0_13 pz0_14 pz0_18 v_37 pz0_22 pz0_23 pz0_29)), (z 1, aI V 3075 f_51)]) hP [1, 2, 0, 3, 4] rfl
        have hD := subD hP hD [1, 2, 0, 3, 4] rfl rfl
        exact ihn_25 _ _ _ _ (by rw [en_25, ex_58]; exact mu_up b_35 (by decide)) ⟨x_58, x_57, f_49, f_50, v_37, f_51, (iv_w bx_58 (by decide)), tf_50, tf_51, g_52, (tbk hAn_25 hR), rfl, hP, hD, hS, lv_sub hl [0, 1, 3, 4, 5] rfl⟩
      · replace hR := te hR c_47
        have b_59 : iv 1 2 r_42 := iv_n0 c_47 br_42 (iv_c (0 : Int32) (a := 0) (b := 0) (by decide)) (by decide)
        refine lv_goto (tgt := 68) hx hb dX10_century_56 (by decide) ?_
        obtain ⟨x_60, ex_60⟩ : ∃ z9 : Int32, z9 = u_19 + 1 := ⟨_, rfl⟩
        have bx_60 : iv 1 40 x_60 := by rw [ex_60]; exact iv_add b_35 (iv_c (1 : Int32) (a := 1) (b := 1) (by decide)) (by decide)
        replace hR := tb hR ex_60
        refine lv_iinc (v := x_60) (lv' := [(4, .int x_60), (5, .int r_36), (3, .int u_20), (0, .ref (z 0)), (1, .int a1), (2, .int a2)]) hx hb dX10_century_68 hl (k := 1) rfl (by rw [ex_60]; rfl) (by decide) rfl (fun ls hl => ?_)
        refine lv_goto (tgt := 34) hx hb dX10_century_71 (by decide) ?_
        exact ihn_25 _ _ _ _ (by rw [en_25, ex_60]; exact mu_up b_35 (by decide)) ⟨x_60, u_20, f_21, f_22, v_37, f_24, (iv_w bx_60 (by decide)), tf_22, tf_24, inn_25_0, (tbk hAn_25 hR), rfl, hP, hD, hS, lv_sub hl [0, 2, 3, 4, 5] rfl⟩
  · replace hR := ti hR c_8
    have b_61 : iv 0 0 r_2 := iv_q c_8 (iv_c (0 : Int32) (a := 0) (b := 0) (by decide))
    refine lv_bipush (v := (-3)) hx hb dX10_century_17 (by decide) ?_
    exact fiI hx hb hr hlk hK hP hD hS dX10_century_19 (Nat.le_of_ble_eq_true rfl) (Nat.le_of_ble_eq_true rfl) (⟨0, pz0_19, fz1, fz15, fz16, fz17, tfz1, tfz16, tfz17, hf0, (congrArg Prod.fst (hR.symm.trans hT0)), (congrArg Prod.fst (congrArg Prod.snd (hR.symm.trans hT0))), (congrArg Prod.fst (congrArg Prod.snd (congrArg Prod.snd (hR.symm.trans hT0)))), (congrArg Prod.fst (congrArg Prod.snd (congrArg Prod.snd (congrArg Prod.snd (hR.symm.trans hT0))))), (congrArg Prod.fst (congrArg Prod.snd (congrArg Prod.snd (congrArg Prod.snd (congrArg Prod.snd (hR.symm.trans hT0)))))), (congrArg Prod.fst (congrArg Prod.snd (congrArg Prod.snd (congrArg Prod.snd (congrArg Prod.snd (congrArg Prod.snd (hR.symm.trans hT0))))))), (congrArg Prod.snd (congrArg Prod.snd (congrArg Prod.snd (congrArg Prod.snd (congrArg Prod.snd (congrArg Prod.snd (hR.symm.trans hT0))))))), rfl⟩)
theorem dX10_laysLine_0 : decode cX10_laysLine 0 = .ok (.iconst 0, 1) := by decide +kernel
theorem dX10_laysLine_1 : decode cX10_laysLine 1 = .ok (.istore_n 1, 1) := by decide +kernel
theorem dX10_laysLine_2 : decode cX10_laysLine 2 = .ok (.iload_n 1, 1) := by decide +kernel
theorem dX10_laysLine_3 : decode cX10_laysLine 3 = .ok (.sipush 10000, 3) := by decide +kernel
theorem dX10_laysLine_6 : decode cX10_laysLine 6 = .ok (.if_icmp .ge 16, 3) := by decide +kernel
theorem dX10_laysLine_22 : decode cX10_laysLine 22 = .ok (.aload_n 0, 1) := by decide +kernel
theorem dX10_laysLine_23 : decode cX10_laysLine 23 = .ok (.invokevirtual 269, 3) := by decide +kernel
theorem dX10_laysLine_26 : decode cX10_laysLine 26 = .ok (.istore_n 1, 1) := by decide +kernel
theorem dX10_laysLine_27 : decode cX10_laysLine 27 = .ok (.iconst 0, 1) := by decide +kernel
theorem dX10_laysLine_28 : decode cX10_laysLine 28 = .ok (.istore_n 2, 1) := by decide +kernel
theorem dX10_laysLine_29 : decode cX10_laysLine 29 = .ok (.aload_n 0, 1) := by decide +kernel
theorem q_6_5 : Cond.fieldLink "BeaconDelayModel" 42 "BeaconDelayModel" "placeIn" "[I" ∈ gw := gw_6 (i := 5) (by decide +kernel) rfl
theorem dX10_laysLine_30 : decode cX10_laysLine 30 = .ok (.getfield 42, 3) := by decide +kernel
theorem dX10_laysLine_33 : decode cX10_laysLine 33 = .ok (.iload_n 1, 1) := by decide +kernel
theorem dX10_laysLine_34 : decode cX10_laysLine 34 = .ok (.iaload, 1) := by decide +kernel
theorem dX10_laysLine_35 : decode cX10_laysLine 35 = .ok (.iconst (-1), 1) := by decide +kernel
theorem dX10_laysLine_36 : decode cX10_laysLine 36 = .ok (.if_icmp .ne 37, 3) := by decide +kernel
theorem dX10_laysLine_73 : decode cX10_laysLine 73 = .ok (.aload_n 0, 1) := by decide +kernel
theorem dX10_laysLine_74 : decode cX10_laysLine 74 = .ok (.aload_n 0, 1) := by decide +kernel
theorem dX10_laysLine_75 : decode cX10_laysLine 75 = .ok (.getfield 42, 3) := by decide +kernel
theorem dX10_laysLine_78 : decode cX10_laysLine 78 = .ok (.iload_n 1, 1) := by decide +kernel
theorem dX10_laysLine_79 : decode cX10_laysLine 79 = .ok (.iaload, 1) := by decide +kernel
theorem q_6_6 : Cond.fieldLink "BeaconDelayModel" 341 "BeaconDelayModel" "tail" "I" ∈ gw := gw_6 (i := 6) (by decide +kernel) rfl
theorem dX10_laysLine_80 : decode cX10_laysLine 80 = .ok (.putfield 341, 3) := by decide +kernel
theorem dX10_laysLine_83 : decode cX10_laysLine 83 = .ok (.aload_n 0, 1) := by decide +kernel
theorem dX10_laysLine_84 : decode cX10_laysLine 84 = .ok (.iload_n 2, 1) := by decide +kernel
theorem dX10_laysLine_85 : decode cX10_laysLine 85 = .ok (.aload_n 0, 1) := by decide +kernel
theorem dX10_laysLine_86 : decode cX10_laysLine 86 = .ok (.getfield 341, 3) := by decide +kernel
theorem dX10_laysLine_89 : decode cX10_laysLine 89 = .ok (.isub, 1) := by decide +kernel
theorem q_6_7 : Cond.fieldLink "BeaconDelayModel" 344 "BeaconDelayModel" "round1" "I" ∈ gw := gw_6 (i := 7) (by decide +kernel) rfl
theorem dX10_laysLine_90 : decode cX10_laysLine 90 = .ok (.putfield 344, 3) := by decide +kernel
theorem dX10_laysLine_93 : decode cX10_laysLine 93 = .ok (.return_, 1) := by decide +kernel
theorem dX10_laysLine_39 : decode cX10_laysLine 39 = .ok (.aload_n 0, 1) := by decide +kernel
theorem dX10_laysLine_40 : decode cX10_laysLine 40 = .ok (.getfield 42, 3) := by decide +kernel
theorem dX10_laysLine_43 : decode cX10_laysLine 43 = .ok (.iload_n 1, 1) := by decide +kernel
theorem dX10_laysLine_44 : decode cX10_laysLine 44 = .ok (.iload_n 2, 1) := by decide +kernel
theorem dX10_laysLine_45 : decode cX10_laysLine 45 = .ok (.iastore, 1) := by decide +kernel
theorem dX10_laysLine_46 : decode cX10_laysLine 46 = .ok (.aload_n 0, 1) := by decide +kernel
theorem q_6_4 : Cond.fieldLink "BeaconDelayModel" 39 "BeaconDelayModel" "line" "[I" ∈ gw := gw_6 (i := 4) (by decide +kernel) rfl
theorem dX10_laysLine_47 : decode cX10_laysLine 47 = .ok (.getfield 39, 3) := by decide +kernel
theorem dX10_laysLine_50 : decode cX10_laysLine 50 = .ok (.iload_n 2, 1) := by decide +kernel
theorem dX10_laysLine_51 : decode cX10_laysLine 51 = .ok (.iload_n 1, 1) := by decide +kernel
theorem dX10_laysLine_52 : decode cX10_laysLine 52 = .ok (.iastore, 1) := by decide +kernel
theorem dX10_laysLine_53 : decode cX10_laysLine 53 = .ok (.iinc 2 1, 3) := by decide +kernel
theorem dX10_laysLine_56 : decode cX10_laysLine 56 = .ok (.aload_n 0, 1) := by decide +kernel
theorem dX10_laysLine_57 : decode cX10_laysLine 57 = .ok (.iload_n 1, 1) := by decide +kernel
theorem dX10_laysLine_58 : decode cX10_laysLine 58 = .ok (.iconst 0, 1) := by decide +kernel
theorem dX10_laysLine_59 : decode cX10_laysLine 59 = .ok (.aload_n 0, 1) := by decide +kernel
theorem dX10_laysLine_60 : decode cX10_laysLine 60 = .ok (.getfield 13, 3) := by decide +kernel
theorem dX10_laysLine_63 : decode cX10_laysLine 63 = .ok (.bipush 51, 2) := by decide +kernel
theorem dX10_laysLine_65 : decode cX10_laysLine 65 = .ok (.iaload, 1) := by decide +kernel
theorem dX10_laysLine_66 : decode cX10_laysLine 66 = .ok (.invokevirtual 272, 3) := by decide +kernel
theorem dX10_laysLine_69 : decode cX10_laysLine 69 = .ok (.istore_n 1, 1) := by decide +kernel
theorem dX10_laysLine_70 : decode cX10_laysLine 70 = .ok (.goto (-41), 3) := by decide +kernel
theorem dX10_laysLine_9 : decode cX10_laysLine 9 = .ok (.aload_n 0, 1) := by decide +kernel
theorem dX10_laysLine_10 : decode cX10_laysLine 10 = .ok (.getfield 42, 3) := by decide +kernel
theorem dX10_laysLine_13 : decode cX10_laysLine 13 = .ok (.iload_n 1, 1) := by decide +kernel
theorem dX10_laysLine_14 : decode cX10_laysLine 14 = .ok (.iconst (-1), 1) := by decide +kernel
theorem dX10_laysLine_15 : decode cX10_laysLine 15 = .ok (.iastore, 1) := by decide +kernel
theorem dX10_laysLine_16 : decode cX10_laysLine 16 = .ok (.iinc 1 1, 3) := by decide +kernel
theorem dX10_laysLine_19 : decode cX10_laysLine 19 = .ok (.goto (-17), 3) := by decide +kernel
set_option maxHeartbeats 4000000 in
set_option maxRecDepth 100000 in
theorem k_X10_laysLine_0 (l : Launch) (V : GV) (z : Nat → Nat) (fz15 : Nat → Int32) (fz16 : Nat → Int32) (fz20 : Nat → Int32) (fz21 : Nat → Int32) (pz0_0 : Int32) (pz0_5 : Int32) (pz0_6 : Int32) (pz0_7 : Int32) (pz0_8 : Int32) (pz0_9 : Int32) (pz0_10 : Int32) (pz0_11 : Int32) (pz0_12 : Int32) (pz0_13 : Int32) (pz0_14 : Int32) (pz0_18 : Int32) (pz0_19 : Int32) (pz0_22 : Int32) (pz0_23 : Int32) (pz0_29 : Int32) (fz1 : Nat → Int32) (tfz16 : ivT tW fz16) (tfz20 : ∀ j, iv 0 9999 (fz20 j)) (tfz21 : ∀ j, iv (-1) 9999 (fz21 j)) (bpz0_5 : iv 0 900 pz0_5) (bpz0_6 : iv 0 900 pz0_6) (bpz0_7 : iv 0 900 pz0_7) (bpz0_8 : iv 0 900 pz0_8) (bpz0_10 : iv 0 999 pz0_10) (bpz0_11 : iv 0 4 pz0_11) (bpz0_12 : iv 0 900 pz0_12) (bpz0_13 : iv 0 4 pz0_13) (bpz0_14 : iv (-1) 900 pz0_14) (bpz0_18 : iv 0 2 pz0_18) (bpz0_22 : iv 0 9999 pz0_22) (bpz0_29 : iv 0 10000 pz0_29) (tfz1 : ivT tA fz1) (hf0 : RW fz1) : Ct l V yX10_laysLine (.code yX10_laysLine cX10_laysLine 3 none) 5 [.ref (z 0)] [(z 15, aI V 900 fz15), (z 16, aI V 6 fz16), (z 20, aI V 10001 fz20), (z 21, aI V 10000 fz21), (z 0, .inr (10, mo z pz0_0 pz0_5 pz0_6 pz0_7 pz0_8 pz0_9 pz0_10 pz0_11 pz0_12 pz0_13 pz0_14 pz0_18 pz0_19 pz0_22 pz0_23 pz0_29)), (z 1, aI V 3075 fz1)] 0 0 (QV V (fun (w : va_W) => ∃ (g0 : Nat → Int32) (g1 : Nat → Int32) (g2 : Nat → Int32) (g3 : Nat → Int32) (v4 : Int32) (v5 : Int32), (ivT tW g1) ∧ (∀ j, iv 0 9999 (g2 j)) ∧ (∀ j, iv (-1) 9999 (g3 j)) ∧ iv 0 9999 v4 ∧ (RW fz1) ∧ (1 ≤ (v5 : Int32).toInt ∧ 0 ≤ (v4 : Int32).toInt ∧ (v4 : Int32).toInt + (v5 : Int32).toInt ≤ 10000) ∧ w = [(z 15, aI V 900 g0), (z 16, aI V 6 g1), (z 20, aI V 10001 g2), (z 21, aI V 10000 g3), (z 0, .inr (10, mo z pz0_0 pz0_5 pz0_6 pz0_7 pz0_8 pz0_9 pz0_10 pz0_11 pz0_12 pz0_13 pz0_14 pz0_18 pz0_19 v4 v5 pz0_29)), (z 1, aI V 3075 fz1)])) := by
  refine Ct.of (by decide) (Nat.le_of_ble_eq_true rfl) (fun p e s m below meth c A ls hx hb hr hml hown hlk hnm hg hP hK hD hE hA hS hl => ?_)
  have hl : lv_has ls 3 [(0, .ref (z 0))] := hl
  refine lv_iconst (v := 0) hx hb dX10_laysLine_0 (by decide) ?_
  refine lv_istore_n (lv' := [(1, .int 0), (0, .ref (z 0))]) hx hb dX10_laysLine_1 rfl hl (by decide) rfl (fun ls hl => ?_)
  refine loopF (X := fun (n_3 : Nat) (H : Heap) (locs : List Loc) (ls : Array Slot) => ∃ (u_1 : Int32) (f_2 : Nat → Int32), (iv 0 10000 u_1) ∧ (∀ j, iv (-1) 9999 (f_2 j)) ∧ (∀ j : Nat, (j : Int) < (u_1 : Int32).toInt → f_2 j = -1) ∧ n_3 = (2147483647 - (u_1 : Int32).toInt).toNat ∧ va_P V.1 vwCl [(z 15, aI V 900 fz15), (z 16, aI V 6 fz16), (z 20, aI V 10001 fz20), (z 21, aI V 10000 f_2), (z 0, .inr (10, mo z pz0_0 pz0_5 pz0_6 pz0_7 pz0_8 pz0_9 pz0_10 pz0_11 pz0_12 pz0_13 pz0_14 pz0_18 pz0_19 pz0_22 pz0_23 pz0_29)), (z 1, aI V 3075 fz1)] H ∧ va_D A [(z 15, aI V 900 fz15), (z 16, aI V 6 fz16), (z 20, aI V 10001 fz20), (z 21, aI V 10000 f_2), (z 0, .inr (10, mo z pz0_0 pz0_5 pz0_6 pz0_7 pz0_8 pz0_9 pz0_10 pz0_11 pz0_12 pz0_13 pz0_14 pz0_18 pz0_19 pz0_22 pz0_23 pz0_29)), (z 1, aI V 3075 fz1)] ∧ va_S A s.heap H locs ∧ lv_has ls 3 [(1, .int u_1), (0, .ref (z 0))]) (g := fun ls => F0 m 2 ls []) (fun n_3 H locs ls hX ihn_3 => ?_) _ ⟨0, fz21, (iv_c (0 : Int32) (by decide)), tfz21, (fun j hj => absurd hj (by have h9 : (0 : Int32).toInt = 0 := (by decide); omega)), rfl, hP, hD, hS, lv_sub hl [0, 1] rfl⟩
  obtain ⟨u_1, f_2, bu_1, tf_2, inn_3_0, en_3, hP, hD, hS, hl⟩ := hX
  refine lv_iload_n hx hb dX10_laysLine_2 rfl (lv_at hl 0 rfl) ?_
  refine lv_sipush (v := 10000) hx hb dX10_laysLine_3 (by decide) ?_
  refine lv_icmp_ge (tgt := 22) hx hb dX10_laysLine_6 (by decide) (fun c_4 => ?_) (fun c_4 => ?_)
  · have b_5 : iv 10000 10000 u_1 := iv_e2 c_4 (iv_c (10000 : Int32) (a := 10000) (b := 10000) (by decide)) bu_1 (by decide)
    refine lv_aload_n hx hb dX10_laysLine_22 rfl (lv_at hl 1 rfl) ?_
    refine jnI (wr := [(z 15, aI V 900 fz15), (z 16, aI V 6 fz16), (z 20, aI V 10001 fz20), (z 21, aI V 10000 f_2)]) (rnV (rest := []) ⟨hx, hb, hml, hown, hg⟩ (k_X10_standNow_0 l V z pz0_0 pz0_5 pz0_6 pz0_7 pz0_8 pz0_9 pz0_10 pz0_11 pz0_12 pz0_13 pz0_14 pz0_18 pz0_19 pz0_22 pz0_23 pz0_29 fz1 bpz0_5 bpz0_6 bpz0_7 bpz0_8 bpz0_10 bpz0_11 bpz0_12 bpz0_13 bpz0_14 bpz0_18 bpz0_22 bpz0_29 tfz1) mt_X10_standNow q_7_11 ⟨Nat.le_of_ble_eq_true rfl, Nat.le_of_ble_eq_true rfl⟩ hK hP hD hS hA hE [4, 5] rfl rfl 4 rfl rfl rfl rfl hl.1 rfl (Nat.le_of_ble_eq_true rfl) dX10_laysLine_23 ⟨Nat.le_of_ble_eq_true rfl, Nat.le_of_ble_eq_true rfl⟩) hP hD hS hA [4, 5] [0, 1, 2, 3] rfl rfl rfl (by decide) (fun r_6 w H locs hw hP hD hS => ?_)
    obtain ⟨br_6, er_6, et_7, rfl⟩ := hw
    have hP : va_P V.1 vwCl [(z 15, aI V 900 fz15), (z 16, aI V 6 fz16), (z 20, aI V 10001 fz20), (z 21, aI V 10000 f_2), (z 0, .inr (10, mo z pz0_0 pz0_5 pz0_6 pz0_7 pz0_8 pz0_9 pz0_10 pz0_11 pz0_12 pz0_13 pz0_14 pz0_18 pz0_19 pz0_22 pz0_23 pz0_29)), (z 1, aI V 3075 fz1)] H := hP
    have hD := cpD hP hD
    refine lv_istore_n (lv' := [(1, .int r_6), (0, .ref (z 0))]) hx hb dX10_laysLine_26 rfl hl (by decide) rfl (fun ls hl => ?_)
    refine lv_iconst (v := 0) hx hb dX10_laysLine_27 (by decide) ?_
    refine lv_istore_n (lv' := [(2, .int 0), (1, .int r_6), (0, .ref (z 0))]) hx hb dX10_laysLine_28 rfl hl (by decide) rfl (fun ls hl => ?_)
    refine loopF (X := fun (n_14 : Nat) (H : Heap) (locs : List Loc) (ls : Array Slot) => ∃ (u_8 : Int32) (u_9 : Int32) (f_10 : Nat → Int32) (f_11 : Nat → Int32) (f_12 : Nat → Int32) (f_13 : Nat → Int32), (iv 0 10000 u_8) ∧ (iv 0 9999 u_9) ∧ (ivT tW f_11) ∧ (∀ j, iv 0 9999 (f_12 j)) ∧ (∀ j, iv (-1) 9999 (f_13 j)) ∧ (FN u_8 f_13 10000 10000) ∧ (PL u_8 f_13) ∧ (RW fz1) ∧ n_14 = nn f_13 10000 ∧ va_P V.1 vwCl [(z 15, aI V 900 f_10), (z 16, aI V 6 f_11), (z 20, aI V 10001 f_12), (z 21, aI V 10000 f_13), (z 0, .inr (10, mo z pz0_0 pz0_5 pz0_6 pz0_7 pz0_8 pz0_9 pz0_10 pz0_11 pz0_12 pz0_13 pz0_14 pz0_18 pz0_19 pz0_22 pz0_23 pz0_29)), (z 1, aI V 3075 fz1)] H ∧ va_D A [(z 15, aI V 900 f_10), (z 16, aI V 6 f_11), (z 20, aI V 10001 f_12), (z 21, aI V 10000 f_13), (z 0, .inr (10, mo z pz0_0 pz0_5 pz0_6 pz0_7 pz0_8 pz0_9 pz0_10 pz0_11 pz0_12 pz0_13 pz0_14 pz0_18 pz0_19 pz0_22 pz0_23 pz0_29)), (z 1, aI V 3075 fz1)] ∧ va_S A s.heap H locs ∧ lv_has ls 3 [(2, .int u_8), (1, .int u_9), (0, .ref (z 0))]) (g := fun ls => F0 m 29 ls []) (fun n_14 H locs ls hX ihn_14 => ?_) _ ⟨0, r_6, fz15, fz16, fz20, f_2, (iv_c (0 : Int32) (by decide)), br_6, tfz16, tfz20, tf_2, (FN_i (by decide) (by decide)), (PL_0 inn_3_0 (Int32.not_lt.mpr c_4) (by decide)), hf0, rfl, hP, hD, hS, lv_sub hl [0, 1, 2] rfl⟩
    obtain ⟨u_8, u_9, f_10, f_11, f_12, f_13, bu_8, bu_9, tf_11, tf_12, tf_13, inn_14_0, inn_14_1, inn_14_2, en_14, hP, hD, hS, hl⟩ := hX
    refine lv_aload_n hx hb dX10_laysLine_29 rfl (lv_at hl 2 rfl) ?_
    refine va_get (ci := 10) (v := .ref (z 21)) (C := RX10) (T := TX10) (N := 40) hx hb hg inX10 hown hK hP 4 rfl rfl 21 (by decide) (hg _ q_6_5) (fun _ h9 => h9) rfl dX10_laysLine_30 ?_
    refine lv_iload_n hx hb dX10_laysLine_33 rfl (lv_at hl 1 rfl) ?_
    refine va_iald hx hb hK hP 3 0 rfl rfl (iv_in bu_9 (by decide)) dX10_laysLine_34 ?_
    refine lv_topi (fun x_15 ex_15 => ?_)
    have bx_15 : iv (-1) 9999 x_15 := by rw [ex_15]; exact tf_13 _
    refine lv_iconst (v := (-1)) hx hb dX10_laysLine_35 (by decide) ?_
    refine lv_icmp_ne (tgt := 73) hx hb dX10_laysLine_36 (by decide) (fun c_16 => ?_) (fun c_16 => ?_)
    · have b_17 : iv 0 9999 x_15 := iv_n0 c_16 bx_15 (iv_c ((-1) : Int32) (a := (-1)) (b := (-1)) (by decide)) (by decide)
      refine lv_aload_n hx hb dX10_laysLine_73 rfl (lv_at hl 2 rfl) ?_
      refine lv_aload_n hx hb dX10_laysLine_74 rfl (lv_at hl 2 rfl) ?_
      refine va_get (ci := 10) (v := .ref (z 21)) (C := RX10) (T := TX10) (N := 40) hx hb hg inX10 hown hK hP 4 rfl rfl 21 (by decide) (hg _ q_6_5) (fun _ h9 => h9) rfl dX10_laysLine_75 ?_
      refine lv_iload_n hx hb dX10_laysLine_78 rfl (lv_at hl 1 rfl) ?_
      refine va_iald hx hb hK hP 3 0 rfl rfl (iv_in bu_9 (by decide)) dX10_laysLine_79 ?_
      refine tpi (y := x_15) ex_15.symm ?_
      refine va_put (ci := 10) (v := .int x_15) (ty := .int) (C := RX10) (T := TX10) (N := 40) hx hb hg inX10 tyX10 tyX10_ok nmX10 hown hK hP hD hS 4 rfl rfl 22 (by decide) (hg _ q_6_6) (fun _ h9 => h9) rfl (by decide +kernel) rfl rfl (Nat.le_of_ble_eq_true rfl) dX10_laysLine_80 (fun H locs hP hD hS => ?_)
      have hP : va_P V.1 vwCl [(z 15, aI V 900 f_10), (z 16, aI V 6 f_11), (z 20, aI V 10001 f_12), (z 21, aI V 10000 f_13), (z 0, .inr (10, mo z pz0_0 pz0_5 pz0_6 pz0_7 pz0_8 pz0_9 pz0_10 pz0_11 pz0_12 pz0_13 pz0_14 pz0_18 pz0_19 x_15 pz0_23 pz0_29)), (z 1, aI V 3075 fz1)] H := hP
      have hD := cpD hP hD
      refine lv_aload_n hx hb dX10_laysLine_83 rfl (lv_at hl 2 rfl) ?_
      refine lv_iload_n hx hb dX10_laysLine_84 rfl (lv_at hl 0 rfl) ?_
      refine lv_aload_n hx hb dX10_laysLine_85 rfl (lv_at hl 2 rfl) ?_
      refine va_get (ci := 10) (v := .int x_15) (C := RX10) (T := TX10) (N := 40) hx hb hg inX10 hown hK hP 4 rfl rfl 22 (by decide) (hg _ q_6_6) (fun _ h9 => h9) rfl dX10_laysLine_86 ?_
      refine lv_isub hx hb dX10_laysLine_89 ?_
      refine lv_topi (fun x_18 ex_18 => ?_)
      have bx_18 : iv (-9999) 10000 x_18 := by rw [ex_18]; exact iv_sub bu_8 b_17 (by decide)
      refine va_put (ci := 10) (v := .int x_18) (ty := .int) (C := RX10) (T := TX10) (N := 40) hx hb hg inX10 tyX10 tyX10_ok nmX10 hown hK hP hD hS 4 rfl rfl 23 (by decide) (hg _ q_6_7) (fun _ h9 => h9) rfl (by decide +kernel) rfl rfl (Nat.le_of_ble_eq_true rfl) dX10_laysLine_90 (fun H locs hP hD hS => ?_)
      have hP : va_P V.1 vwCl [(z 15, aI V 900 f_10), (z 16, aI V 6 f_11), (z 20, aI V 10001 f_12), (z 21, aI V 10000 f_13), (z 0, .inr (10, mo z pz0_0 pz0_5 pz0_6 pz0_7 pz0_8 pz0_9 pz0_10 pz0_11 pz0_12 pz0_13 pz0_14 pz0_18 pz0_19 x_15 x_18 pz0_29)), (z 1, aI V 3075 fz1)] H := hP
      have hD := cpD hP hD
      exact fiV hx hb hr hlk hK hP hD hS dX10_laysLine_93 (Nat.le_of_ble_eq_true rfl) (Nat.le_of_ble_eq_true rfl) (⟨f_10, f_11, f_12, f_13, x_15, x_18, tf_11, tf_12, tf_13, b_17, inn_14_2, (by have q1 := toInt_sub ex_18 bu_8 b_17 (by decide); have q2 := inn_14_1 (u_9 : Int32).toNatClampNeg (by have q9 := bu_9; have q8 := clampNat q9.1; unfold iv at q9; omega); rw [← ex_15] at q2; have q3 := bu_8; have q4 := b_17; unfold iv at q3 q4; omega), rfl⟩)
    · have b_19 : iv (-1) (-1) x_15 := iv_q c_16 (iv_c ((-1) : Int32) (a := (-1)) (b := (-1)) (by decide))
      have b_20 : iv 0 9999 u_8 := by have q9 := FN_lt inn_14_0 (ex_15.symm.trans c_16) (by have q9 := bu_9; have q8 := clampNat q9.1; unfold iv at q9; omega); have q8 := bu_8; unfold iv at *; omega
      refine lv_aload_n hx hb dX10_laysLine_39 rfl (lv_at hl 2 rfl) ?_
      refine va_get (ci := 10) (v := .ref (z 21)) (C := RX10) (T := TX10) (N := 40) hx hb hg inX10 hown hK hP 4 rfl rfl 21 (by decide) (hg _ q_6_5) (fun _ h9 => h9) rfl dX10_laysLine_40 ?_
      refine lv_iload_n hx hb dX10_laysLine_43 rfl (lv_at hl 1 rfl) ?_
      refine lv_iload_n hx hb dX10_laysLine_44 rfl (lv_at hl 0 rfl) ?_
      refine va_iast hx hb hK hP hD hS 3 0 rfl rfl (iv_in bu_9 (by decide)) dX10_laysLine_45 (fun H locs hP hD hS => ?_)
      obtain ⟨f_21, ef_21, tf_21, hP, hD⟩ : ∃ f_21 : Nat → Int32, f_21 = (upd f_13 (u_9 : Int32).toNatClampNeg u_8) ∧ (∀ j, iv (-1) 9999 (f_21 j)) ∧ va_P V.1 vwCl [(z 15, aI V 900 f_10), (z 16, aI V 6 f_11), (z 20, aI V 10001 f_12), (z 21, aI V 10000 f_21), (z 0, .inr (10, mo z pz0_0 pz0_5 pz0_6 pz0_7 pz0_8 pz0_9 pz0_10 pz0_11 pz0_12 pz0_13 pz0_14 pz0_18 pz0_19 pz0_22 pz0_23 pz0_29)), (z 1, aI V 3075 fz1)] H ∧ va_D A [(z 15, aI V 900 f_10), (z 16, aI V 6 f_11), (z 20, aI V 10001 f_12), (z 21, aI V 10000 f_21), (z 0, .inr (10, mo z pz0_0 pz0_5 pz0_6 pz0_7 pz0_8 pz0_9 pz0_10 pz0_11 pz0_12 pz0_13 pz0_14 pz0_18 pz0_19 pz0_22 pz0_23 pz0_29)), (z 1, aI V 3075 fz1)] := ⟨_, rfl, ivU tf_13 _ (iv_w b_20 (by decide)), hP, hD⟩
      refine lv_aload_n hx hb dX10_laysLine_46 rfl (lv_at hl 2 rfl) ?_
      refine va_get (ci := 10) (v := .ref (z 20)) (C := RX10) (T := TX10) (N := 40) hx hb hg inX10 hown hK hP 4 rfl rfl 20 (by decide) (hg _ q_6_4) (fun _ h9 => h9) rfl dX10_laysLine_47 ?_
      refine lv_iload_n hx hb dX10_laysLine_50 rfl (lv_at hl 0 rfl) ?_
      refine lv_iload_n hx hb dX10_laysLine_51 rfl (lv_at hl 1 rfl) ?_
      refine va_iast hx hb hK hP hD hS 2 0 rfl rfl (iv_in b_20 (by decide)) dX10_laysLine_52 (fun H locs hP hD hS => ?_)
      obtain ⟨f_22, ef_22, tf_22, hP, hD⟩ : ∃ f_22 : Nat → Int32, f_22 = (upd f_12 (u_8 : Int32).toNatClampNeg u_9) ∧ (∀ j, iv 0 9999 (f_22 j)) ∧ va_P V.1 vwCl [(z 15, aI V 900 f_10), (z 16, aI V 6 f_11), (z 20, aI V 10001 f_22), (z 21, aI V 10000 f_21), (z 0, .inr (10, mo z pz0_0 pz0_5 pz0_6 pz0_7 pz0_8 pz0_9 pz0_10 pz0_11 pz0_12 pz0_13 pz0_14 pz0_18 pz0_19 pz0_22 pz0_23 pz0_29)), (z 1, aI V 3075 fz1)] H ∧ va_D A [(z 15, aI V 900 f_10), (z 16, aI V 6 f_11), (z 20, aI V 10001 f_22), (z 21, aI V 10000 f_21), (z 0, .inr (10, mo z pz0_0 pz0_5 pz0_6 pz0_7 pz0_8 pz0_9 pz0_10 pz0_11 pz0_12 pz0_13 pz0_14 pz0_18 pz0_19 pz0_22 pz0_23 pz0_29)), (z 1, aI V 3075 fz1)] := ⟨_, rfl, ivU tf_12 _ bu_9, hP, hD⟩
      obtain ⟨x_23, ex_23⟩ : ∃ z9 : Int32, z9 = u_8 + 1 := ⟨_, rfl⟩
      have bx_23 : iv 1 10000 x_23 := by rw [ex_23]; exact iv_add b_20 (iv_c (1 : Int32) (a := 1) (b := 1) (by decide)) (by decide)
      refine lv_iinc (v := x_23) (lv' := [(2, .int x_23), (1, .int u_9), (0, .ref (z 0))]) hx hb dX10_laysLine_53 hl (k := 0) rfl (by rw [ex_23]; rfl) (by decide) rfl (fun ls hl => ?_)
      refine lv_aload_n hx hb dX10_laysLine_56 rfl (lv_at hl 2 rfl) ?_
      refine lv_iload_n hx hb dX10_laysLine_57 rfl (lv_at hl 1 rfl) ?_
      refine lv_iconst (v := 0) hx hb dX10_laysLine_58 (by decide) ?_
      refine lv_aload_n hx hb dX10_laysLine_59 rfl (lv_at hl 2 rfl) ?_
      refine va_get (ci := 10) (v := .ref (z 1)) (C := RX10) (T := TX10) (N := 40) hx hb hg inX10 hown hK hP 4 rfl rfl 1 (by decide) (hg _ q_5_225) (fun _ h9 => h9) rfl dX10_laysLine_60 ?_
      refine lv_bipush (v := 51) hx hb dX10_laysLine_63 (by decide) ?_
      refine va_iald hx hb hK hP 5 0 rfl rfl (vin (by decide +kernel)) dX10_laysLine_65 ?_
      refine lv_topi (fun x_24 ex_24 => ?_)
      have bx_24 : iv 0 9 x_24 := by rw [ex_24]; exact rdT (a := 51) (n := 1) tfz1 (iv_c (51 : Int32) (a := 51) (b := 51) (by decide)) (by decide) (by decide +kernel)
      refine jnI (wr := [(z 20, aI V 10001 f_22), (z 21, aI V 10000 f_21)]) (rnV (rest := []) ⟨hx, hb, hml, hown, hg⟩ (k_X10_nightTo_0 l V z u_9 0 x_24 f_10 f_11 pz0_0 pz0_5 pz0_6 pz0_7 pz0_8 pz0_9 pz0_10 pz0_11 pz0_12 pz0_13 pz0_14 pz0_18 pz0_19 pz0_22 pz0_23 pz0_29 fz1 bu_9 tf_11 bpz0_5 bpz0_6 bpz0_7 bpz0_8 bpz0_10 bpz0_11 bpz0_12 bpz0_13 bpz0_14 bpz0_18 bpz0_22 bpz0_29 tfz1 inn_14_2) mt_X10_nightTo q_7_18 ⟨Nat.le_of_ble_eq_true rfl, Nat.le_of_ble_eq_true rfl⟩ hK hP hD hS hA hE [0, 1, 4, 5] rfl rfl 4 rfl rfl rfl rfl hl.1 rfl (Nat.le_of_ble_eq_true rfl) dX10_laysLine_66 ⟨Nat.le_of_ble_eq_true rfl, Nat.le_of_ble_eq_true rfl⟩) hP hD hS hA [0, 1, 4, 5] [2, 3] rfl rfl rfl (by decide) (fun r_25 w H locs hw hP hD hS => ?_)
      obtain ⟨f_26, f_27, tf_27, br_25, g_28, et_29, et_30, et_31, rfl⟩ := hw
      have hP : va_P V.1 vwCl [(z 20, aI V 10001 f_22), (z 21, aI V 10000 f_21), (z 15, aI V 900 f_26), (z 16, aI V 6 f_27), (z 0, .inr (10, mo z pz0_0 pz0_5 pz0_6 pz0_7 pz0_8 pz0_9 pz0_10 pz0_11 pz0_12 pz0_13 pz0_14 pz0_18 pz0_19 pz0_22 pz0_23 pz0_29)), (z 1, aI V 3075 fz1)] H := hP
      have hD := cpD hP hD
      refine lv_istore_n (lv' := [(1, .int r_25), (2, .int x_23), (0, .ref (z 0))]) hx hb dX10_laysLine_69 rfl hl (by decide) rfl (fun ls hl => ?_)
      refine lv_goto (tgt := 29) hx hb dX10_laysLine_70 (by decide) ?_
      have hP := subP (ws' := [(z 15, aI V 900 f_26), (z 16, aI V 6 f_27), (z 20, aI V 10001 f_22), (z 21, aI V 10000 f_21), (z 0, .inr (10, mo z pz0_0 pz0_5 pz0_6 pz0_7 pz0_8 pz0_9 pz0_10 pz0_11 pz0_12 pz0_13 pz0_14 pz0_18 pz0_19 pz0_22 pz0_23 pz0_29)), (z 1, aI V 3075 fz1)]) hP [2, 3, 0, 1, 4, 5] rfl
      have hD := subD hP hD [2, 3, 0, 1, 4, 5] rfl rfl
      exact ihn_14 _ _ _ _ (by rw [en_14]; exact nn_dec ef_21 (by have q9 := bu_9; have q8 := clampNat q9.1; unfold iv at q9; omega) (ne_m1 b_20.1) (ex_15.symm.trans c_16)) ⟨x_23, r_25, f_26, f_27, f_22, f_21, (iv_w bx_23 (by decide)), (iv_w br_25 (by decide)), tf_27, tf_22, tf_21, (by rw [ef_21]; exact FN_s inn_14_0 (inc_toInt ex_23 b_20 (by decide)) (ex_15.symm.trans c_16) (by have q9 := bu_9; have q8 := clampNat q9.1; unfold iv at q9; omega) (ne_m1 b_20.1)), (PL_s inn_14_1 ef_21 (inc_toInt ex_23 b_20 (by decide))), g_28, rfl, hP, hD, hS, lv_sub hl [1, 0, 2] rfl⟩
  · have b_32 : iv 0 9999 u_1 := iv_l1 (Int32.not_le.mp c_4) bu_1 (iv_c (10000 : Int32) (a := 10000) (b := 10000) (by decide)) (by decide)
    refine lv_aload_n hx hb dX10_laysLine_9 rfl (lv_at hl 1 rfl) ?_
    refine va_get (ci := 10) (v := .ref (z 21)) (C := RX10) (T := TX10) (N := 40) hx hb hg inX10 hown hK hP 4 rfl rfl 21 (by decide) (hg _ q_6_5) (fun _ h9 => h9) rfl dX10_laysLine_10 ?_
    refine lv_iload_n hx hb dX10_laysLine_13 rfl (lv_at hl 0 rfl) ?_
    refine lv_iconst (v := (-1)) hx hb dX10_laysLine_14 (by decide) ?_
    refine va_iast hx hb hK hP hD hS 3 0 rfl rfl (iv_in b_32 (by decide)) dX10_laysLine_15 (fun H locs hP hD hS => ?_)
    obtain ⟨f_33, ef_33, tf_33, hP, hD⟩ : ∃ f_33 : Nat → Int32, f_33 = (upd f_2 (u_1 : Int32).toNatClampNeg (-1)) ∧ (∀ j, iv (-1) 9999 (f_33 j)) ∧ va_P V.1 vwCl [(z 15, aI V 900 fz15), (z 16, aI V 6 fz16), (z 20, aI V 10001 fz20), (z 21, aI V 10000 f_33), (z 0, .inr (10, mo z pz0_0 pz0_5 pz0_6 pz0_7 pz0_8 pz0_9 pz0_10 pz0_11 pz0_12 pz0_13 pz0_14 pz0_18 pz0_19 pz0_22 pz0_23 pz0_29)), (z 1, aI V 3075 fz1)] H ∧ va_D A [(z 15, aI V 900 fz15), (z 16, aI V 6 fz16), (z 20, aI V 10001 fz20), (z 21, aI V 10000 f_33), (z 0, .inr (10, mo z pz0_0 pz0_5 pz0_6 pz0_7 pz0_8 pz0_9 pz0_10 pz0_11 pz0_12 pz0_13 pz0_14 pz0_18 pz0_19 pz0_22 pz0_23 pz0_29)), (z 1, aI V 3075 fz1)] := ⟨_, rfl, ivU tf_2 _ (iv_c ((-1) : Int32) (by decide)), hP, hD⟩
    obtain ⟨x_34, ex_34⟩ : ∃ z9 : Int32, z9 = u_1 + 1 := ⟨_, rfl⟩
    have bx_34 : iv 1 10000 x_34 := by rw [ex_34]; exact iv_add b_32 (iv_c (1 : Int32) (a := 1) (b := 1) (by decide)) (by decide)
    refine lv_iinc (v := x_34) (lv' := [(1, .int x_34), (0, .ref (z 0))]) hx hb dX10_laysLine_16 hl (k := 0) rfl (by rw [ex_34]; rfl) (by decide) rfl (fun ls hl => ?_)
    refine lv_goto (tgt := 2) hx hb dX10_laysLine_19 (by decide) ?_
    exact ihn_3 _ _ _ _ (by rw [en_3, ex_34]; exact mu_up b_32 (by decide)) ⟨x_34, f_33, (iv_w bx_34 (by decide)), tf_33, (FL_s inn_3_0 b_32 (by decide) ef_33 ex_34), rfl, hP, hD, hS, lv_sub hl [0, 1] rfl⟩
theorem dX10_standAt_0 : decode cX10_standAt 0 = .ok (.aload_n 0, 1) := by decide +kernel
theorem dX10_standAt_1 : decode cX10_standAt 1 = .ok (.getfield 39, 3) := by decide +kernel
theorem dX10_standAt_4 : decode cX10_standAt 4 = .ok (.iload_n 1, 1) := by decide +kernel
theorem dX10_standAt_5 : decode cX10_standAt 5 = .ok (.aload_n 0, 1) := by decide +kernel
theorem dX10_standAt_6 : decode cX10_standAt 6 = .ok (.getfield 341, 3) := by decide +kernel
theorem dX10_standAt_9 : decode cX10_standAt 9 = .ok (.if_icmp .ge 7, 3) := by decide +kernel
theorem dX10_standAt_16 : decode cX10_standAt 16 = .ok (.aload_n 0, 1) := by decide +kernel
theorem dX10_standAt_17 : decode cX10_standAt 17 = .ok (.getfield 341, 3) := by decide +kernel
theorem dX10_standAt_20 : decode cX10_standAt 20 = .ok (.iload_n 1, 1) := by decide +kernel
theorem dX10_standAt_21 : decode cX10_standAt 21 = .ok (.aload_n 0, 1) := by decide +kernel
theorem dX10_standAt_22 : decode cX10_standAt 22 = .ok (.getfield 341, 3) := by decide +kernel
theorem dX10_standAt_25 : decode cX10_standAt 25 = .ok (.isub, 1) := by decide +kernel
theorem dX10_standAt_26 : decode cX10_standAt 26 = .ok (.aload_n 0, 1) := by decide +kernel
theorem dX10_standAt_27 : decode cX10_standAt 27 = .ok (.getfield 344, 3) := by decide +kernel
theorem dX10_standAt_30 : decode cX10_standAt 30 = .ok (.irem, 1) := by decide +kernel
theorem dX10_standAt_31 : decode cX10_standAt 31 = .ok (.iadd, 1) := by decide +kernel
theorem dX10_standAt_32 : decode cX10_standAt 32 = .ok (.iaload, 1) := by decide +kernel
theorem dX10_standAt_33 : decode cX10_standAt 33 = .ok (.ireturn, 1) := by decide +kernel
theorem dX10_standAt_12 : decode cX10_standAt 12 = .ok (.iload_n 1, 1) := by decide +kernel
theorem dX10_standAt_13 : decode cX10_standAt 13 = .ok (.goto 19, 3) := by decide +kernel
set_option maxHeartbeats 4000000 in
set_option maxRecDepth 100000 in
theorem k_X10_standAt_0 (l : Launch) (V : GV) (z : Nat → Nat) (a1 : Int32) (fz20 : Nat → Int32) (pz0_0 : Int32) (pz0_5 : Int32) (pz0_6 : Int32) (pz0_7 : Int32) (pz0_8 : Int32) (pz0_9 : Int32) (pz0_10 : Int32) (pz0_11 : Int32) (pz0_12 : Int32) (pz0_13 : Int32) (pz0_14 : Int32) (pz0_18 : Int32) (pz0_19 : Int32) (pz0_22 : Int32) (pz0_23 : Int32) (pz0_29 : Int32) (ba1 : iv 0 99999 a1) (tfz20 : ∀ j, iv 0 9999 (fz20 j)) (bpz0_5 : iv 0 900 pz0_5) (bpz0_6 : iv 0 900 pz0_6) (bpz0_7 : iv 0 900 pz0_7) (bpz0_8 : iv 0 900 pz0_8) (bpz0_10 : iv 0 999 pz0_10) (bpz0_11 : iv 0 4 pz0_11) (bpz0_12 : iv 0 900 pz0_12) (bpz0_13 : iv 0 4 pz0_13) (bpz0_14 : iv (-1) 900 pz0_14) (bpz0_18 : iv 0 2 pz0_18) (bpz0_22 : iv 0 9999 pz0_22) (bpz0_29 : iv 0 10000 pz0_29) (hf0 : 1 ≤ (pz0_23 : Int32).toInt ∧ 0 ≤ (pz0_22 : Int32).toInt ∧ (pz0_22 : Int32).toInt + (pz0_23 : Int32).toInt ≤ 10000) : Ct l V yX10_standAt (.code yX10_standAt cX10_standAt 2 (some .int)) 1 [.ref (z 0), .int a1] [(z 20, aI V 10001 fz20), (z 0, .inr (10, mo z pz0_0 pz0_5 pz0_6 pz0_7 pz0_8 pz0_9 pz0_10 pz0_11 pz0_12 pz0_13 pz0_14 pz0_18 pz0_19 pz0_22 pz0_23 pz0_29))] 0 0 (QI V (fun (r : Int32) (w : va_W) => iv 0 9999 r ∧ w = [(z 20, aI V 10001 fz20), (z 0, .inr (10, mo z pz0_0 pz0_5 pz0_6 pz0_7 pz0_8 pz0_9 pz0_10 pz0_11 pz0_12 pz0_13 pz0_14 pz0_18 pz0_19 pz0_22 pz0_23 pz0_29))])) := by
  refine Ct.of (by decide) (Nat.le_of_ble_eq_true rfl) (fun p e s m below meth c A ls hx hb hr hml hown hlk hnm hg hP hK hD hE hA hS hl => ?_)
  have hl : lv_has ls 2 [(0, .ref (z 0)), (1, .int a1)] := hl
  refine lv_aload_n hx hb dX10_standAt_0 rfl (lv_at hl 0 rfl) ?_
  refine va_get (ci := 10) (v := .ref (z 20)) (C := RX10) (T := TX10) (N := 40) hx hb hg inX10 hown hK hP 1 rfl rfl 20 (by decide) (hg _ q_6_4) (fun _ h9 => h9) rfl dX10_standAt_1 ?_
  refine lv_iload_n hx hb dX10_standAt_4 rfl (lv_at hl 1 rfl) ?_
  refine lv_aload_n hx hb dX10_standAt_5 rfl (lv_at hl 0 rfl) ?_
  refine va_get (ci := 10) (v := .int pz0_22) (C := RX10) (T := TX10) (N := 40) hx hb hg inX10 hown hK hP 1 rfl rfl 22 (by decide) (hg _ q_6_6) (fun _ h9 => h9) rfl dX10_standAt_6 ?_
  refine lv_icmp_ge (tgt := 16) hx hb dX10_standAt_9 (by decide) (fun c_1 => ?_) (fun c_1 => ?_)
  · refine lv_aload_n hx hb dX10_standAt_16 rfl (lv_at hl 0 rfl) ?_
    refine va_get (ci := 10) (v := .int pz0_22) (C := RX10) (T := TX10) (N := 40) hx hb hg inX10 hown hK hP 1 rfl rfl 22 (by decide) (hg _ q_6_6) (fun _ h9 => h9) rfl dX10_standAt_17 ?_
    refine lv_iload_n hx hb dX10_standAt_20 rfl (lv_at hl 1 rfl) ?_
    refine lv_aload_n hx hb dX10_standAt_21 rfl (lv_at hl 0 rfl) ?_
    refine va_get (ci := 10) (v := .int pz0_22) (C := RX10) (T := TX10) (N := 40) hx hb hg inX10 hown hK hP 1 rfl rfl 22 (by decide) (hg _ q_6_6) (fun _ h9 => h9) rfl dX10_standAt_22 ?_
    refine lv_isub hx hb dX10_standAt_25 ?_
    refine lv_topi (fun x_2 ex_2 => ?_)
    have bx_2 : iv 0 99999 x_2 := by rw [ex_2]; exact iv_subl c_1 ba1 bpz0_22 (by decide)
    refine lv_aload_n hx hb dX10_standAt_26 rfl (lv_at hl 0 rfl) ?_
    refine va_get (ci := 10) (v := .int pz0_23) (C := RX10) (T := TX10) (N := 40) hx hb hg inX10 hown hK hP 1 rfl rfl 23 (by decide) (hg _ q_6_7) (fun _ h9 => h9) rfl dX10_standAt_27 ?_
    have b_3 : iv 1 10000 pz0_23 := by have q9 := hf0; unfold iv; omega
    refine lv_irem hx hb dX10_standAt_30 (iv_nz b_3 (by decide)) ?_
    refine lv_topi (fun x_4 ex_4 => ?_)
    refine lv_iadd hx hb dX10_standAt_31 ?_
    refine lv_topi (fun x_5 ex_5 => ?_)
    have b_6 : iv 0 9999 x_5 := by have q9 := hf0; have q8 := rem_lt ex_4 bx_2 b_3 (by decide); have q7 := toInt_add ex_5 bpz0_22 (c := 0) (d := 10000) ⟨by omega, by omega⟩ (by decide); have q6 := bpz0_22; unfold iv at *; omega
    refine va_iald hx hb hK hP 0 0 rfl rfl (iv_in b_6 (by decide)) dX10_standAt_32 ?_
    refine lv_topi (fun x_7 ex_7 => ?_)
    have bx_7 : iv 0 9999 x_7 := by rw [ex_7]; exact tfz20 _
    exact fiI hx hb hr hlk hK hP hD hS dX10_standAt_33 (Nat.le_of_ble_eq_true rfl) (Nat.le_of_ble_eq_true rfl) (⟨bx_7, rfl⟩)
  · have b_8 : iv 0 9998 a1 := iv_l1 (Int32.not_le.mp c_1) ba1 bpz0_22 (by decide)
    have b_9 : iv 1 9999 pz0_22 := iv_l2 (Int32.not_le.mp c_1) ba1 bpz0_22 (by decide)
    refine lv_iload_n hx hb dX10_standAt_12 rfl (lv_at hl 1 rfl) ?_
    refine lv_goto (tgt := 32) hx hb dX10_standAt_13 (by decide) ?_
    refine va_iald hx hb hK hP 0 0 rfl rfl (iv_in b_8 (by decide)) dX10_standAt_32 ?_
    refine lv_topi (fun x_10 ex_10 => ?_)
    have bx_10 : iv 0 9999 x_10 := by rw [ex_10]; exact tfz20 _
    exact fiI hx hb hr hlk hK hP hD hS dX10_standAt_33 (Nat.le_of_ble_eq_true rfl) (Nat.le_of_ble_eq_true rfl) (⟨bx_10, rfl⟩)
