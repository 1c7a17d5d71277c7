theorem dX10_restore_0 : decode cX10_restore 0 = .ok (.aload_n 0, 1) := by decide +kernel
theorem dX10_restore_1 : decode cX10_restore 1 = .ok (.iconst 0, 1) := by decide +kernel
theorem dX10_restore_2 : decode cX10_restore 2 = .ok (.putfield 1, 3) := by decide +kernel
theorem dX10_restore_5 : decode cX10_restore 5 = .ok (.iload_n 1, 1) := by decide +kernel
theorem dX10_restore_6 : decode cX10_restore 6 = .ok (.i2l, 1) := by decide +kernel
theorem dX10_restore_7 : decode cX10_restore 7 = .ok (.lconst 0, 1) := by decide +kernel
theorem dX10_restore_8 : decode cX10_restore 8 = .ok (.lconst 1, 1) := by decide +kernel
theorem dX10_restore_9 : decode cX10_restore 9 = .ok (.invokestatic 159, 3) := by decide +kernel
theorem dX10_restore_12 : decode cX10_restore 12 = .ok (.ifCond .ne 6, 3) := by decide +kernel
theorem dX10_restore_18 : decode cX10_restore 18 = .ok (.aload_n 0, 1) := by decide +kernel
theorem dX10_restore_19 : decode cX10_restore 19 = .ok (.getfield 17, 3) := by decide +kernel
theorem dX10_restore_22 : decode cX10_restore 22 = .ok (.iload_n 1, 1) := by decide +kernel
theorem dX10_restore_23 : decode cX10_restore 23 = .ok (.baload, 1) := by decide +kernel
theorem dX10_restore_24 : decode cX10_restore 24 = .ok (.ifCond .ne 6, 3) := by decide +kernel
theorem dX10_restore_30 : decode cX10_restore 30 = .ok (.iconst 0, 1) := by decide +kernel
theorem dX10_restore_31 : decode cX10_restore 31 = .ok (.istore_n 2, 1) := by decide +kernel
theorem dX10_restore_32 : decode cX10_restore 32 = .ok (.iload_n 2, 1) := by decide +kernel
theorem dX10_restore_33 : decode cX10_restore 33 = .ok (.sipush 1025, 3) := by decide +kernel
theorem dX10_restore_36 : decode cX10_restore 36 = .ok (.if_icmp .ge 29, 3) := by decide +kernel
theorem dX10_restore_65 : decode cX10_restore 65 = .ok (.aload_n 0, 1) := by decide +kernel
theorem dX10_restore_66 : decode cX10_restore 66 = .ok (.getfield 13, 3) := by decide +kernel
theorem dX10_restore_69 : decode cX10_restore 69 = .ok (.bipush 53, 2) := by decide +kernel
theorem dX10_restore_71 : decode cX10_restore 71 = .ok (.iconst 0, 1) := by decide +kernel
theorem dX10_restore_72 : decode cX10_restore 72 = .ok (.iastore, 1) := by decide +kernel
theorem dX10_restore_73 : decode cX10_restore 73 = .ok (.iconst 0, 1) := by decide +kernel
theorem dX10_restore_74 : decode cX10_restore 74 = .ok (.ireturn, 1) := by decide +kernel
theorem dX10_restore_39 : decode cX10_restore 39 = .ok (.aload_n 0, 1) := by decide +kernel
theorem dX10_restore_40 : decode cX10_restore 40 = .ok (.getfield 13, 3) := by decide +kernel
theorem dX10_restore_43 : decode cX10_restore 43 = .ok (.iload_n 2, 1) := by decide +kernel
theorem dX10_restore_44 : decode cX10_restore 44 = .ok (.aload_n 0, 1) := by decide +kernel
theorem dX10_restore_45 : decode cX10_restore 45 = .ok (.getfield 13, 3) := by decide +kernel
theorem dX10_restore_48 : decode cX10_restore 48 = .ok (.sipush 1025, 3) := by decide +kernel
theorem dX10_restore_51 : decode cX10_restore 51 = .ok (.iload_n 1, 1) := by decide +kernel
theorem dX10_restore_52 : decode cX10_restore 52 = .ok (.iconst 1, 1) := by decide +kernel
theorem dX10_restore_53 : decode cX10_restore 53 = .ok (.iadd, 1) := by decide +kernel
theorem dX10_restore_54 : decode cX10_restore 54 = .ok (.imul, 1) := by decide +kernel
theorem dX10_restore_55 : decode cX10_restore 55 = .ok (.iload_n 2, 1) := by decide +kernel
theorem dX10_restore_56 : decode cX10_restore 56 = .ok (.iadd, 1) := by decide +kernel
theorem dX10_restore_57 : decode cX10_restore 57 = .ok (.iaload, 1) := by decide +kernel
theorem dX10_restore_58 : decode cX10_restore 58 = .ok (.iastore, 1) := by decide +kernel
theorem dX10_restore_59 : decode cX10_restore 59 = .ok (.iinc 2 1, 3) := by decide +kernel
theorem dX10_restore_62 : decode cX10_restore 62 = .ok (.goto (-30), 3) := by decide +kernel
theorem dX10_restore_27 : decode cX10_restore 27 = .ok (.bipush (-5), 2) := by decide +kernel
theorem dX10_restore_29 : decode cX10_restore 29 = .ok (.ireturn, 1) := by decide +kernel
theorem dX10_restore_15 : decode cX10_restore 15 = .ok (.bipush (-2), 2) := by decide +kernel
theorem dX10_restore_17 : decode cX10_restore 17 = .ok (.ireturn, 1) := by decide +kernel
set_option maxHeartbeats 4000000 in
set_option maxRecDepth 100000 in
theorem k_X10_restore_0 (l : Launch) (V : GV) (z : Nat → Nat) (a1 : Int32) (pz0_0 : Int32) (pz0_5 : Int32) (pz0_6 : Int32) (pz0_7 : Int32) (pz0_8 : Int32) (pz0_9 : Int32) (pz0_10 : Int32) (pz0_11 : Int32) (pz0_12 : Int32) (pz0_13 : Int32) (pz0_14 : Int32) (pz0_18 : Int32) (pz0_19 : Int32) (pz0_22 : Int32) (pz0_23 : Int32) (pz0_29 : Int32) (fz1 : Nat → Int32) (fz2 : Nat → Int32) (bpz0_5 : iv 0 900 pz0_5) (bpz0_6 : iv 0 900 pz0_6) (bpz0_7 : iv 0 900 pz0_7) (bpz0_8 : iv 0 900 pz0_8) (bpz0_10 : iv 0 999 pz0_10) (bpz0_11 : iv 0 4 pz0_11) (bpz0_12 : iv 0 900 pz0_12) (bpz0_13 : iv 0 4 pz0_13) (bpz0_14 : iv (-1) 900 pz0_14) (bpz0_18 : iv 0 2 pz0_18) (bpz0_22 : iv 0 9999 pz0_22) (bpz0_29 : iv 0 10000 pz0_29) (tfz1 : ivT tA fz1) (hf0 : RW fz1) : Ct l V yX10_restore (.code yX10_restore cX10_restore 3 (some .int)) 2 [.ref (z 0), .int a1] [(z 0, .inr (10, mo z pz0_0 pz0_5 pz0_6 pz0_7 pz0_8 pz0_9 pz0_10 pz0_11 pz0_12 pz0_13 pz0_14 pz0_18 pz0_19 pz0_22 pz0_23 pz0_29)), (z 1, aI V 3075 fz1), (z 2, aZ V 2 fz2)] 0 0 (QI V (fun (r : Int32) (w : va_W) => ∃ (v0 : Int32) (g1 : Nat → Int32), (ivT tA g1) ∧ iv (-5) 0 r ∧ (RW g1) ∧ w = [(z 0, .inr (10, mo z v0 pz0_5 pz0_6 pz0_7 pz0_8 pz0_9 pz0_10 pz0_11 pz0_12 pz0_13 pz0_14 pz0_18 pz0_19 pz0_22 pz0_23 pz0_29)), (z 1, aI V 3075 g1), (z 2, aZ V 2 fz2)])) := by
  refine Ct.of (by decide) (Nat.le_of_ble_eq_true rfl) (fun p e s m below meth c A ls hx hb hr hml hown hlk hnm hg hP hK hD hE hA hS hl => ?_)
  have hl : lv_has ls 3 [(0, .ref (z 0)), (1, .int a1)] := hl
  refine lv_aload_n hx hb dX10_restore_0 rfl (lv_at hl 0 rfl) ?_
  refine lv_iconst (v := 0) hx hb dX10_restore_1 (by decide) ?_
  refine va_put (ci := 10) (v := .int 0) (ty := .int) (C := RX10) (T := TX10) (N := 40) hx hb hg inX10 tyX10 tyX10_ok nmX10 hown hK hP hD hS 0 rfl rfl 0 (by decide) (hg _ q_5_224) (fun _ h9 => h9) rfl (by decide +kernel) rfl rfl (Nat.le_of_ble_eq_true rfl) dX10_restore_2 (fun H locs hP hD hS => ?_)
  have hP : va_P V.1 vwCl [(z 0, .inr (10, mo z 0 pz0_5 pz0_6 pz0_7 pz0_8 pz0_9 pz0_10 pz0_11 pz0_12 pz0_13 pz0_14 pz0_18 pz0_19 pz0_22 pz0_23 pz0_29)), (z 1, aI V 3075 fz1), (z 2, aZ V 2 fz2)] H := hP
  have hD : va_D A [(z 0, .inr (10, mo z 0 pz0_5 pz0_6 pz0_7 pz0_8 pz0_9 pz0_10 pz0_11 pz0_12 pz0_13 pz0_14 pz0_18 pz0_19 pz0_22 pz0_23 pz0_29)), (z 1, aI V 3075 fz1), (z 2, aZ V 2 fz2)] := hD
  refine lv_iload_n hx hb dX10_restore_5 rfl (lv_at hl 1 rfl) ?_
  refine lv_i2l hx hb dX10_restore_6 rfl ?_
  refine lv_topl (fun j_1 ej_1 => ?_)
  refine lv_lconst (v := 0) hx hb dX10_restore_7 (by decide) ?_
  refine lv_lconst (v := 1) hx hb dX10_restore_8 (by decide) ?_
  refine jnI (wr := [(z 0, .inr (10, mo z 0 pz0_5 pz0_6 pz0_7 pz0_8 pz0_9 pz0_10 pz0_11 pz0_12 pz0_13 pz0_14 pz0_18 pz0_19 pz0_22 pz0_23 pz0_29)), (z 1, aI V 3075 fz1), (z 2, aZ V 2 fz2)]) (rnS (rest := []) ⟨hx, hb, hml, hown, hg⟩ (k_X10_within_0 l V j_1 0 1) mt_X10_within q_6_114 ⟨Nat.le_of_ble_eq_true rfl, Nat.le_of_ble_eq_true rfl⟩ hK hP hD hS hA hE [] rfl rfl rfl hl.1 rfl (Nat.le_of_ble_eq_true rfl) dX10_restore_9 ⟨Nat.le_of_ble_eq_true rfl, Nat.le_of_ble_eq_true rfl⟩) hP hD hS hA [] [0, 1, 2] rfl rfl rfl (by decide) (fun r_2 w H locs hw hP hD hS => ?_)
  obtain ⟨br_2, g_3, g_4, g_5, rfl⟩ := hw
  have hP : va_P V.1 vwCl [(z 0, .inr (10, mo z 0 pz0_5 pz0_6 pz0_7 pz0_8 pz0_9 pz0_10 pz0_11 pz0_12 pz0_13 pz0_14 pz0_18 pz0_19 pz0_22 pz0_23 pz0_29)), (z 1, aI V 3075 fz1), (z 2, aZ V 2 fz2)] H := hP
  have hD : va_D A [(z 0, .inr (10, mo z 0 pz0_5 pz0_6 pz0_7 pz0_8 pz0_9 pz0_10 pz0_11 pz0_12 pz0_13 pz0_14 pz0_18 pz0_19 pz0_22 pz0_23 pz0_29)), (z 1, aI V 3075 fz1), (z 2, aZ V 2 fz2)] := hD
  refine lv_if_ne (tgt := 18) hx hb dX10_restore_12 (by decide) (fun c_6 => ?_) (fun c_6 => ?_)
  · have b_7 : iv 1 1 r_2 := iv_n0 c_6 br_2 (iv_c (0 : Int32) (a := 0) (b := 0) (by decide)) (by decide)
    have c_8 : (0 : Int64) ≤ j_1 := (g_4 (iv_eqp b_7 (iv_c (1 : Int32) (by decide))))
    have b_9 : ivL 0 9223372036854775807 j_1 := ivL_e2 c_8 (ivL_c (0 : Int64) (a := 0) (b := 0) (by decide)) (ivL_top j_1) (by decide)
    have b_10 : iv 0 2147483647 a1 := iv_cap (ivL_i ej_1 b_9) (iv_top a1) (by decide)
    have c_11 : j_1 ≤ 1 := (g_5 (iv_eqp b_7 (iv_c (1 : Int32) (by decide))))
    have b_12 : ivL 0 1 j_1 := ivL_e1 c_11 b_9 (ivL_c (1 : Int64) (a := 1) (b := 1) (by decide)) (by decide)
    have b_13 : iv 0 1 a1 := iv_cap (ivL_i ej_1 b_12) b_10 (by decide)
    have c_14 : a1 = 0 ∨ a1 = 1 := by have q9 := b_13; unfold iv at q9; simp only [tI_eq, (by decide : (0 : Int32).toInt = 0), (by decide : (1 : Int32).toInt = 1)]; omega
    rcases c_14 with rfl | rfl
    · refine lv_aload_n hx hb dX10_restore_18 rfl (lv_at hl 0 rfl) ?_
      refine va_get (ci := 10) (v := .ref (z 2)) (C := RX10) (T := TX10) (N := 40) hx hb hg inX10 hown hK hP 0 rfl rfl 2 (by decide) (hg _ q_5_226) (fun _ h9 => h9) rfl dX10_restore_19 ?_
      refine lv_iload_n hx hb dX10_restore_22 rfl (lv_at hl 1 rfl) ?_
      refine va_zald hx hb hK hP 2 3 rfl rfl (vin (by decide +kernel)) dX10_restore_23 ?_
      refine lv_topi (fun x_15 ex_15 => ?_)
      refine lv_if_ne (tgt := 30) hx hb dX10_restore_24 (by decide) (fun c_16 => ?_) (fun c_16 => ?_)
      · refine lv_iconst (v := 0) hx hb dX10_restore_30 (by decide) ?_
        refine lv_istore_n (lv' := [(2, .int 0), (0, .ref (z 0)), (1, .int 0)]) hx hb dX10_restore_31 rfl hl (by decide) rfl (fun ls hl => ?_)
        refine loopF (X := fun (n_19 : Nat) (H : Heap) (locs : List Loc) (ls : Array Slot) => ∃ (u_17 : Int32) (f_18 : Nat → Int32), (iv 0 2147483647 u_17) ∧ (ivT tA f_18) ∧ (RST 1025 u_17 f_18) ∧ n_19 = (2147483647 - (u_17 : Int32).toInt).toNat ∧ va_P V.1 vwCl [(z 0, .inr (10, mo z 0 pz0_5 pz0_6 pz0_7 pz0_8 pz0_9 pz0_10 pz0_11 pz0_12 pz0_13 pz0_14 pz0_18 pz0_19 pz0_22 pz0_23 pz0_29)), (z 1, aI V 3075 f_18), (z 2, aZ V 2 fz2)] H ∧ va_D A [(z 0, .inr (10, mo z 0 pz0_5 pz0_6 pz0_7 pz0_8 pz0_9 pz0_10 pz0_11 pz0_12 pz0_13 pz0_14 pz0_18 pz0_19 pz0_22 pz0_23 pz0_29)), (z 1, aI V 3075 f_18), (z 2, aZ V 2 fz2)] ∧ va_S A s.heap H locs ∧ lv_has ls 3 [(2, .int u_17), (0, .ref (z 0)), (1, .int 0)]) (g := fun ls => F0 m 32 ls []) (fun n_19 H locs ls hX ihn_19 => ?_) _ ⟨0, fz1, (iv_c (0 : Int32) (by decide)), tfz1, (RST_0 hf0 (by decide)), rfl, hP, hD, hS, lv_sub hl [0, 1, 2] rfl⟩
        obtain ⟨u_17, f_18, bu_17, tf_18, inn_19_0, en_19, hP, hD, hS, hl⟩ := hX
        refine lv_iload_n hx hb dX10_restore_32 rfl (lv_at hl 0 rfl) ?_
        refine lv_sipush (v := 1025) hx hb dX10_restore_33 (by decide) ?_
        refine lv_icmp_ge (tgt := 65) hx hb dX10_restore_36 (by decide) (fun c_20 => ?_) (fun c_20 => ?_)
        · have b_21 : iv 1025 2147483647 u_17 := iv_e2 c_20 (iv_c (1025 : Int32) (a := 1025) (b := 1025) (by decide)) bu_17 (by decide)
          have hRW := RST_e inn_19_0 (Or.inl rfl) (Int32.not_lt.mpr c_20)
          refine lv_aload_n hx hb dX10_restore_65 rfl (lv_at hl 1 rfl) ?_
          refine va_get (ci := 10) (v := .ref (z 1)) (C := RX10) (T := TX10) (N := 40) hx hb hg inX10 hown hK hP 0 rfl rfl 1 (by decide) (hg _ q_5_225) (fun _ h9 => h9) rfl dX10_restore_66 ?_
          refine lv_bipush (v := 53) hx hb dX10_restore_69 (by decide) ?_
          refine lv_iconst (v := 0) hx hb dX10_restore_71 (by decide) ?_
          refine va_iast hx hb hK hP hD hS 1 0 rfl rfl (vin (by decide +kernel)) dX10_restore_72 (fun H locs hP hD hS => ?_)
          obtain ⟨f_22, ef_22, tf_22, hP, hD⟩ : ∃ f_22 : Nat → Int32, f_22 = (upd f_18 (53 : Int32).toNatClampNeg 0) ∧ (ivT tA f_22) ∧ va_P V.1 vwCl [(z 0, .inr (10, mo z 0 pz0_5 pz0_6 pz0_7 pz0_8 pz0_9 pz0_10 pz0_11 pz0_12 pz0_13 pz0_14 pz0_18 pz0_19 pz0_22 pz0_23 pz0_29)), (z 1, aI V 3075 f_22), (z 2, aZ V 2 fz2)] H ∧ va_D A [(z 0, .inr (10, mo z 0 pz0_5 pz0_6 pz0_7 pz0_8 pz0_9 pz0_10 pz0_11 pz0_12 pz0_13 pz0_14 pz0_18 pz0_19 pz0_22 pz0_23 pz0_29)), (z 1, aI V 3075 f_22), (z 2, aZ V 2 fz2)] := ⟨_, rfl, upT (lo := 0) (hi := 10) (a := 53) (n := 1) tf_18 (iv_c (53 : Int32) (a := 53) (b := 53) (by decide)) (by decide) (iv_c (0 : Int32) (by decide)) (by decide +kernel), hP, hD⟩
          refine lv_iconst (v := 0) hx hb dX10_restore_73 (by decide) ?_
          exact fiI hx hb hr hlk hK hP hD hS dX10_restore_74 (Nat.le_of_ble_eq_true rfl) (Nat.le_of_ble_eq_true rfl) (⟨0, f_22, tf_22, (iv_c (0 : Int32) (by decide)), (RW_up hRW (iv_c (53 : Int32) (a := 53) (b := 53) (by decide)) (by decide) ef_22), rfl⟩)
        · have b_23 : iv 0 1024 u_17 := iv_l1 (Int32.not_le.mp c_20) bu_17 (iv_c (1025 : Int32) (a := 1025) (b := 1025) (by decide)) (by decide)
          refine lv_aload_n hx hb dX10_restore_39 rfl (lv_at hl 1 rfl) ?_
          refine va_get (ci := 10) (v := .ref (z 1)) (C := RX10) (T := TX10) (N := 40) hx hb hg inX10 hown hK hP 0 rfl rfl 1 (by decide) (hg _ q_5_225) (fun _ h9 => h9) rfl dX10_restore_40 ?_
          refine lv_iload_n hx hb dX10_restore_43 rfl (lv_at hl 0 rfl) ?_
          refine lv_aload_n hx hb dX10_restore_44 rfl (lv_at hl 1 rfl) ?_
          refine va_get (ci := 10) (v := .ref (z 1)) (C := RX10) (T := TX10) (N := 40) hx hb hg inX10 hown hK hP 0 rfl rfl 1 (by decide) (hg _ q_5_225) (fun _ h9 => h9) rfl dX10_restore_45 ?_
          refine lv_sipush (v := 1025) hx hb dX10_restore_48 (by decide) ?_
          refine lv_iload_n hx hb dX10_restore_51 rfl (lv_at hl 2 rfl) ?_
          refine lv_iconst (v := 1) hx hb dX10_restore_52 (by decide) ?_
          refine lv_iadd hx hb dX10_restore_53 ?_
          refine tpi (y := 1) (by decide +kernel) ?_
          refine lv_imul hx hb dX10_restore_54 ?_
          refine tpi (y := 1025) (by decide +kernel) ?_
          refine lv_iload_n hx hb dX10_restore_55 rfl (lv_at hl 0 rfl) ?_
          refine lv_iadd hx hb dX10_restore_56 ?_
          refine lv_topi (fun x_24 ex_24 => ?_)
          have bx_24 : iv 1025 2049 x_24 := by rw [ex_24]; exact iv_add (iv_c (1025 : Int32) (a := 1025) (b := 1025) (by decide)) b_23 (by decide)
          refine va_iald hx hb hK hP 1 0 rfl rfl (iv_in bx_24 (by decide)) dX10_restore_57 ?_
          refine lv_topi (fun x_25 ex_25 => ?_)
          refine va_iast hx hb hK hP hD hS 1 0 rfl rfl (iv_in b_23 (by decide)) dX10_restore_58 (fun H locs hP hD hS => ?_)
          obtain ⟨f_26, ef_26, tf_26, hP, hD⟩ : ∃ f_26 : Nat → Int32, f_26 = (upd f_18 (u_17 : Int32).toNatClampNeg x_25) ∧ (ivT tA f_26) ∧ va_P V.1 vwCl [(z 0, .inr (10, mo z 0 pz0_5 pz0_6 pz0_7 pz0_8 pz0_9 pz0_10 pz0_11 pz0_12 pz0_13 pz0_14 pz0_18 pz0_19 pz0_22 pz0_23 pz0_29)), (z 1, aI V 3075 f_26), (z 2, aZ V 2 fz2)] H ∧ va_D A [(z 0, .inr (10, mo z 0 pz0_5 pz0_6 pz0_7 pz0_8 pz0_9 pz0_10 pz0_11 pz0_12 pz0_13 pz0_14 pz0_18 pz0_19 pz0_22 pz0_23 pz0_29)), (z 1, aI V 3075 f_26), (z 2, aZ V 2 fz2)] := ⟨_, rfl, tA_cp (c := 0) (d := 1025) tf_18 (show (u_17 : Int32).toInt = ((0 : Nat) : Int) + (u_17 : Int32).toInt from (by omega)) (show (x_24 : Int32).toInt = ((1025 : Nat) : Int) + (u_17 : Int32).toInt from (by have q_x_24 := toInt_add ex_24 (iv_c (1025 : Int32) (a := 1025) (b := 1025) (by decide)) b_23 (by decide); have k_x_24 : (1025 : Int32).toInt = 1025 := (by decide); omega)) b_23 (by decide) (by decide) ex_25, hP, hD⟩
          obtain ⟨x_27, ex_27⟩ : ∃ z9 : Int32, z9 = u_17 + 1 := ⟨_, rfl⟩
          have bx_27 : iv 1 1025 x_27 := by rw [ex_27]; exact iv_add b_23 (iv_c (1 : Int32) (a := 1) (b := 1) (by decide)) (by decide)
          refine lv_iinc (v := x_27) (lv' := [(2, .int x_27), (0, .ref (z 0)), (1, .int 0)]) hx hb dX10_restore_59 hl (k := 0) rfl (by rw [ex_27]; rfl) (by decide) rfl (fun ls hl => ?_)
          refine lv_goto (tgt := 32) hx hb dX10_restore_62 (by decide) ?_
          exact ihn_19 _ _ _ _ (by rw [en_19, ex_27]; exact mu_up b_23 (by decide)) ⟨x_27, f_26, (iv_w bx_27 (by decide)), tf_26, (RST_s inn_19_0 (Or.inl rfl) b_23 (by decide) (show (x_24 : Int32).toInt = ((1025 : Nat) : Int) + (u_17 : Int32).toInt from (by have q_x_24 := toInt_add ex_24 (iv_c (1025 : Int32) (a := 1025) (b := 1025) (by decide)) b_23 (by decide); have k_x_24 : (1025 : Int32).toInt = 1025 := (by decide); omega)) ex_25 ef_26 ex_27), rfl, hP, hD, hS, lv_sub hl [0, 1, 2] rfl⟩
      · have b_28 : iv 0 0 x_15 := iv_q c_16 (iv_c (0 : Int32) (a := 0) (b := 0) (by decide))
        refine lv_bipush (v := (-5)) hx hb dX10_restore_27 (by decide) ?_
        exact fiI hx hb hr hlk hK hP hD hS dX10_restore_29 (Nat.le_of_ble_eq_true rfl) (Nat.le_of_ble_eq_true rfl) (⟨0, fz1, tfz1, (iv_c ((-5) : Int32) (by decide)), hf0, rfl⟩)
    · refine lv_aload_n hx hb dX10_restore_18 rfl (lv_at hl 0 rfl) ?_
      refine va_get (ci := 10) (v := .ref (z 2)) (C := RX10) (T := TX10) (N := 40) hx hb hg inX10 hown hK hP 0 rfl rfl 2 (by decide) (hg _ q_5_226) (fun _ h9 => h9) rfl dX10_restore_19 ?_
      refine lv_iload_n hx hb dX10_restore_22 rfl (lv_at hl 1 rfl) ?_
      refine va_zald hx hb hK hP 2 3 rfl rfl (vin (by decide +kernel)) dX10_restore_23 ?_
      refine lv_topi (fun x_29 ex_29 => ?_)
      refine lv_if_ne (tgt := 30) hx hb dX10_restore_24 (by decide) (fun c_30 => ?_) (fun c_30 => ?_)
      · refine lv_iconst (v := 0) hx hb dX10_restore_30 (by decide) ?_
        refine lv_istore_n (lv' := [(2, .int 0), (0, .ref (z 0)), (1, .int 1)]) hx hb dX10_restore_31 rfl hl (by decide) rfl (fun ls hl => ?_)
        refine loopF (X := fun (n_33 : Nat) (H : Heap) (locs : List Loc) (ls : Array Slot) => ∃ (u_31 : Int32) (f_32 : Nat → Int32), (iv 0 2147483647 u_31) ∧ (ivT tA f_32) ∧ (RST 2050 u_31 f_32) ∧ n_33 = (2147483647 - (u_31 : Int32).toInt).toNat ∧ va_P V.1 vwCl [(z 0, .inr (10, mo z 0 pz0_5 pz0_6 pz0_7 pz0_8 pz0_9 pz0_10 pz0_11 pz0_12 pz0_13 pz0_14 pz0_18 pz0_19 pz0_22 pz0_23 pz0_29)), (z 1, aI V 3075 f_32), (z 2, aZ V 2 fz2)] H ∧ va_D A [(z 0, .inr (10, mo z 0 pz0_5 pz0_6 pz0_7 pz0_8 pz0_9 pz0_10 pz0_11 pz0_12 pz0_13 pz0_14 pz0_18 pz0_19 pz0_22 pz0_23 pz0_29)), (z 1, aI V 3075 f_32), (z 2, aZ V 2 fz2)] ∧ va_S A s.heap H locs ∧ lv_has ls 3 [(2, .int u_31), (0, .ref (z 0)), (1, .int 1)]) (g := fun ls => F0 m 32 ls []) (fun n_33 H locs ls hX ihn_33 => ?_) _ ⟨0, fz1, (iv_c (0 : Int32) (by decide)), tfz1, (RST_0 hf0 (by decide)), rfl, hP, hD, hS, lv_sub hl [0, 1, 2] rfl⟩
        obtain ⟨u_31, f_32, bu_31, tf_32, inn_33_0, en_33, hP, hD, hS, hl⟩ := hX
        refine lv_iload_n hx hb dX10_restore_32 rfl (lv_at hl 0 rfl) ?_
        refine lv_sipush (v := 1025) hx hb dX10_restore_33 (by decide) ?_
        refine lv_icmp_ge (tgt := 65) hx hb dX10_restore_36 (by decide) (fun c_34 => ?_) (fun c_34 => ?_)
        · have b_35 : iv 1025 2147483647 u_31 := iv_e2 c_34 (iv_c (1025 : Int32) (a := 1025) (b := 1025) (by decide)) bu_31 (by decide)
          have hRW := RST_e inn_33_0 (Or.inr rfl) (Int32.not_lt.mpr c_34)
          refine lv_aload_n hx hb dX10_restore_65 rfl (lv_at hl 1 rfl) ?_
          refine va_get (ci := 10) (v := .ref (z 1)) (C := RX10) (T := TX10) (N := 40) hx hb hg inX10 hown hK hP 0 rfl rfl 1 (by decide) (hg _ q_5_225) (fun _ h9 => h9) rfl dX10_restore_66 ?_
          refine lv_bipush (v := 53) hx hb dX10_restore_69 (by decide) ?_
          refine lv_iconst (v := 0) hx hb dX10_restore_71 (by decide) ?_
          refine va_iast hx hb hK hP hD hS 1 0 rfl rfl (vin (by decide +kernel)) dX10_restore_72 (fun H locs hP hD hS => ?_)
          obtain ⟨f_36, ef_36, tf_36, hP, hD⟩ : ∃ f_36 : Nat → Int32, f_36 = (upd f_32 (53 : Int32).toNatClampNeg 0) ∧ (ivT tA f_36) ∧ va_P V.1 vwCl [(z 0, .inr (10, mo z 0 pz0_5 pz0_6 pz0_7 pz0_8 pz0_9 pz0_10 pz0_11 pz0_12 pz0_13 pz0_14 pz0_18 pz0_19 pz0_22 pz0_23 pz0_29)), (z 1, aI V 3075 f_36), (z 2, aZ V 2 fz2)] H ∧ va_D A [(z 0, .inr (10, mo z 0 pz0_5 pz0_6 pz0_7 pz0_8 pz0_9 pz0_10 pz0_11 pz0_12 pz0_13 pz0_14 pz0_18 pz0_19 pz0_22 pz0_23 pz0_29)), (z 1, aI V 3075 f_36), (z 2, aZ V 2 fz2)] := ⟨_, rfl, upT (lo := 0) (hi := 10) (a := 53) (n := 1) tf_32 (iv_c (53 : Int32) (a := 53) (b := 53) (by decide)) (by decide) (iv_c (0 : Int32) (by decide)) (by decide +kernel), hP, hD⟩
          refine lv_iconst (v := 0) hx hb dX10_restore_73 (by decide) ?_
          exact fiI hx hb hr hlk hK hP hD hS dX10_restore_74 (Nat.le_of_ble_eq_true rfl) (Nat.le_of_ble_eq_true rfl) (⟨0, f_36, tf_36, (iv_c (0 : Int32) (by decide)), (RW_up hRW (iv_c (53 : Int32) (a := 53) (b := 53) (by decide)) (by decide) ef_36), rfl⟩)
        · have b_37 : iv 0 1024 u_31 := iv_l1 (Int32.not_le.mp c_34) bu_31 (iv_c (1025 : Int32) (a := 1025) (b := 1025) (by decide)) (by decide)
          refine lv_aload_n hx hb dX10_restore_39 rfl (lv_at hl 1 rfl) ?_
          refine va_get (ci := 10) (v := .ref (z 1)) (C := RX10) (T := TX10) (N := 40) hx hb hg inX10 hown hK hP 0 rfl rfl 1 (by decide) (hg _ q_5_225) (fun _ h9 => h9) rfl dX10_restore_40 ?_
          refine lv_iload_n hx hb dX10_restore_43 rfl (lv_at hl 0 rfl) ?_
          refine lv_aload_n hx hb dX10_restore_44 rfl (lv_at hl 1 rfl) ?_
          refine va_get (ci := 10) (v := .ref (z 1)) (C := RX10) (T := TX10) (N := 40) hx hb hg inX10 hown hK hP 0 rfl rfl 1 (by decide) (hg _ q_5_225) (fun _ h9 => h9) rfl dX10_restore_45 ?_
          refine lv_sipush (v := 1025) hx hb dX10_restore_48 (by decide) ?_
          refine lv_iload_n hx hb dX10_restore_51 rfl (lv_at hl 2 rfl) ?_
          refine lv_iconst (v := 1) hx hb dX10_restore_52 (by decide) ?_
          refine lv_iadd hx hb dX10_restore_53 ?_
          refine tpi (y := 2) (by decide +kernel) ?_
          refine lv_imul hx hb dX10_restore_54 ?_
          refine tpi (y := 2050) (by decide +kernel) ?_
          refine lv_iload_n hx hb dX10_restore_55 rfl (lv_at hl 0 rfl) ?_
          refine lv_iadd hx hb dX10_restore_56 ?_
          refine lv_topi (fun x_38 ex_38 => ?_)
          have bx_38 : iv 2050 3074 x_38 := by rw [ex_38]; exact iv_add (iv_c (2050 : Int32) (a := 2050) (b := 2050) (by decide)) b_37 (by decide)
          refine va_iald hx hb hK hP 1 0 rfl rfl (iv_in bx_38 (by decide)) dX10_restore_57 ?_
          refine lv_topi (fun x_39 ex_39 => ?_)
          refine va_iast hx hb hK hP hD hS 1 0 rfl rfl (iv_in b_37 (by decide)) dX10_restore_58 (fun H locs hP hD hS => ?_)
          obtain ⟨f_40, ef_40, tf_40, hP, hD⟩ : ∃ f_40 : Nat → Int32, f_40 = (upd f_32 (u_31 : Int32).toNatClampNeg x_39) ∧ (ivT tA f_40) ∧ va_P V.1 vwCl [(z 0, .inr (10, mo z 0 pz0_5 pz0_6 pz0_7 pz0_8 pz0_9 pz0_10 pz0_11 pz0_12 pz0_13 pz0_14 pz0_18 pz0_19 pz0_22 pz0_23 pz0_29)), (z 1, aI V 3075 f_40), (z 2, aZ V 2 fz2)] H ∧ va_D A [(z 0, .inr (10, mo z 0 pz0_5 pz0_6 pz0_7 pz0_8 pz0_9 pz0_10 pz0_11 pz0_12 pz0_13 pz0_14 pz0_18 pz0_19 pz0_22 pz0_23 pz0_29)), (z 1, aI V 3075 f_40), (z 2, aZ V 2 fz2)] := ⟨_, rfl, tA_cp (c := 0) (d := 2050) tf_32 (show (u_31 : Int32).toInt = ((0 : Nat) : Int) + (u_31 : Int32).toInt from (by omega)) (show (x_38 : Int32).toInt = ((2050 : Nat) : Int) + (u_31 : Int32).toInt from (by have q_x_38 := toInt_add ex_38 (iv_c (2050 : Int32) (a := 2050) (b := 2050) (by decide)) b_37 (by decide); have k_x_38 : (2050 : Int32).toInt = 2050 := (by decide); omega)) b_37 (by decide) (by decide) ex_39, hP, hD⟩
          obtain ⟨x_41, ex_41⟩ : ∃ z9 : Int32, z9 = u_31 + 1 := ⟨_, rfl⟩
          have bx_41 : iv 1 1025 x_41 := by rw [ex_41]; exact iv_add b_37 (iv_c (1 : Int32) (a := 1) (b := 1) (by decide)) (by decide)
          refine lv_iinc (v := x_41) (lv' := [(2, .int x_41), (0, .ref (z 0)), (1, .int 1)]) hx hb dX10_restore_59 hl (k := 0) rfl (by rw [ex_41]; rfl) (by decide) rfl (fun ls hl => ?_)
          refine lv_goto (tgt := 32) hx hb dX10_restore_62 (by decide) ?_
          exact ihn_33 _ _ _ _ (by rw [en_33, ex_41]; exact mu_up b_37 (by decide)) ⟨x_41, f_40, (iv_w bx_41 (by decide)), tf_40, (RST_s inn_33_0 (Or.inr rfl) b_37 (by decide) (show (x_38 : Int32).toInt = ((2050 : Nat) : Int) + (u_31 : Int32).toInt from (by have q_x_38 := toInt_add ex_38 (iv_c (2050 : Int32) (a := 2050) (b := 2050) (by decide)) b_37 (by decide); have k_x_38 : (2050 : Int32).toInt = 2050 := (by decide); omega)) ex_39 ef_40 ex_41), rfl, hP, hD, hS, lv_sub hl [0, 1, 2] rfl⟩
      · have b_42 : iv 0 0 x_29 := iv_q c_30 (iv_c (0 : Int32) (a := 0) (b := 0) (by decide))
        refine lv_bipush (v := (-5)) hx hb dX10_restore_27 (by decide) ?_
        exact fiI hx hb hr hlk hK hP hD hS dX10_restore_29 (Nat.le_of_ble_eq_true rfl) (Nat.le_of_ble_eq_true rfl) (⟨0, fz1, tfz1, (iv_c ((-5) : Int32) (by decide)), hf0, rfl⟩)
  · have b_43 : iv 0 0 r_2 := iv_q c_6 (iv_c (0 : Int32) (a := 0) (b := 0) (by decide))
    refine lv_bipush (v := (-2)) hx hb dX10_restore_15 (by decide) ?_
    exact fiI hx hb hr hlk hK hP hD hS dX10_restore_17 (Nat.le_of_ble_eq_true rfl) (Nat.le_of_ble_eq_true rfl) (⟨0, fz1, tfz1, (iv_c ((-2) : Int32) (by decide)), hf0, rfl⟩)
theorem dX10_count_0 : decode cX10_count 0 = .ok (.aload_n 0, 1) := by decide +kernel
theorem dX10_count_1 : decode cX10_count 1 = .ok (.iconst 0, 1) := by decide +kernel
theorem dX10_count_2 : decode cX10_count 2 = .ok (.putfield 1, 3) := by decide +kernel
theorem dX10_count_5 : decode cX10_count 5 = .ok (.iload_n 1, 1) := by decide +kernel
theorem dX10_count_6 : decode cX10_count 6 = .ok (.tableswitch 128 0 9 #[54, 61, 68, 75, 83, 92, 100, 108, 116, 121], 54) := by decide +kernel
theorem dX10_count_60 : decode cX10_count 60 = .ok (.aload_n 0, 1) := by decide +kernel
theorem dX10_count_61 : decode cX10_count 61 = .ok (.getfield 13, 3) := by decide +kernel
theorem dX10_count_64 : decode cX10_count 64 = .ok (.iconst 1, 1) := by decide +kernel
theorem dX10_count_65 : decode cX10_count 65 = .ok (.iaload, 1) := by decide +kernel
theorem dX10_count_66 : decode cX10_count 66 = .ok (.ireturn, 1) := by decide +kernel
theorem dX10_count_67 : decode cX10_count 67 = .ok (.aload_n 0, 1) := by decide +kernel
theorem dX10_count_68 : decode cX10_count 68 = .ok (.getfield 13, 3) := by decide +kernel
theorem dX10_count_71 : decode cX10_count 71 = .ok (.iconst 2, 1) := by decide +kernel
theorem dX10_count_72 : decode cX10_count 72 = .ok (.iaload, 1) := by decide +kernel
theorem dX10_count_73 : decode cX10_count 73 = .ok (.ireturn, 1) := by decide +kernel
theorem dX10_count_74 : decode cX10_count 74 = .ok (.aload_n 0, 1) := by decide +kernel
theorem dX10_count_75 : decode cX10_count 75 = .ok (.getfield 13, 3) := by decide +kernel
theorem dX10_count_78 : decode cX10_count 78 = .ok (.iconst 3, 1) := by decide +kernel
theorem dX10_count_79 : decode cX10_count 79 = .ok (.iaload, 1) := by decide +kernel
theorem dX10_count_80 : decode cX10_count 80 = .ok (.ireturn, 1) := by decide +kernel
theorem dX10_count_81 : decode cX10_count 81 = .ok (.aload_n 0, 1) := by decide +kernel
theorem dX10_count_82 : decode cX10_count 82 = .ok (.getfield 13, 3) := by decide +kernel
theorem dX10_count_85 : decode cX10_count 85 = .ok (.bipush 51, 2) := by decide +kernel
theorem dX10_count_87 : decode cX10_count 87 = .ok (.iaload, 1) := by decide +kernel
theorem dX10_count_88 : decode cX10_count 88 = .ok (.ireturn, 1) := by decide +kernel
theorem dX10_count_89 : decode cX10_count 89 = .ok (.aload_n 0, 1) := by decide +kernel
theorem dX10_count_90 : decode cX10_count 90 = .ok (.aload_n 0, 1) := by decide +kernel
theorem dX10_count_91 : decode cX10_count 91 = .ok (.invokevirtual 269, 3) := by decide +kernel
theorem dX10_count_94 : decode cX10_count 94 = .ok (.invokevirtual 326, 3) := by decide +kernel
theorem dX10_count_97 : decode cX10_count 97 = .ok (.ireturn, 1) := by decide +kernel
theorem dX10_count_98 : decode cX10_count 98 = .ok (.aload_n 0, 1) := by decide +kernel
theorem dX10_count_99 : decode cX10_count 99 = .ok (.getfield 13, 3) := by decide +kernel
theorem dX10_count_102 : decode cX10_count 102 = .ok (.bipush 50, 2) := by decide +kernel
theorem dX10_count_104 : decode cX10_count 104 = .ok (.iaload, 1) := by decide +kernel
theorem dX10_count_105 : decode cX10_count 105 = .ok (.ireturn, 1) := by decide +kernel
theorem dX10_count_106 : decode cX10_count 106 = .ok (.aload_n 0, 1) := by decide +kernel
theorem dX10_count_107 : decode cX10_count 107 = .ok (.getfield 13, 3) := by decide +kernel
theorem dX10_count_110 : decode cX10_count 110 = .ok (.bipush 52, 2) := by decide +kernel
theorem dX10_count_112 : decode cX10_count 112 = .ok (.iaload, 1) := by decide +kernel
theorem dX10_count_113 : decode cX10_count 113 = .ok (.ireturn, 1) := by decide +kernel
theorem dX10_count_114 : decode cX10_count 114 = .ok (.aload_n 0, 1) := by decide +kernel
theorem dX10_count_115 : decode cX10_count 115 = .ok (.getfield 13, 3) := by decide +kernel
theorem dX10_count_118 : decode cX10_count 118 = .ok (.bipush 53, 2) := by decide +kernel
theorem dX10_count_120 : decode cX10_count 120 = .ok (.iaload, 1) := by decide +kernel
theorem dX10_count_121 : decode cX10_count 121 = .ok (.ireturn, 1) := by decide +kernel
theorem dX10_count_122 : decode cX10_count 122 = .ok (.aload_n 0, 1) := by decide +kernel
theorem dX10_count_123 : decode cX10_count 123 = .ok (.getfield 97, 3) := by decide +kernel
theorem dX10_count_126 : decode cX10_count 126 = .ok (.ireturn, 1) := by decide +kernel
theorem dX10_count_127 : decode cX10_count 127 = .ok (.aload_n 0, 1) := by decide +kernel
theorem dX10_count_128 : decode cX10_count 128 = .ok (.getfield 13, 3) := by decide +kernel
theorem dX10_count_131 : decode cX10_count 131 = .ok (.iconst 0, 1) := by decide +kernel
theorem dX10_count_132 : decode cX10_count 132 = .ok (.iaload, 1) := by decide +kernel
theorem dX10_count_133 : decode cX10_count 133 = .ok (.ireturn, 1) := by decide +kernel
theorem dX10_count_134 : decode cX10_count 134 = .ok (.iconst (-1), 1) := by decide +kernel
theorem dX10_count_135 : decode cX10_count 135 = .ok (.ireturn, 1) := by decide +kernel
set_option maxHeartbeats 4000000 in
set_option maxRecDepth 100000 in
theorem k_X10_count_0 (l : Launch) (V : GV) (z : Nat → Nat) (a1 : Int32) (pz0_0 : Int32) (pz0_5 : Int32) (pz0_6 : Int32) (pz0_7 : Int32) (pz0_8 : Int32) (pz0_9 : Int32) (pz0_10 : Int32) (pz0_11 : Int32) (pz0_12 : Int32) (pz0_13 : Int32) (pz0_14 : Int32) (pz0_18 : Int32) (pz0_19 : Int32) (pz0_22 : Int32) (pz0_23 : Int32) (pz0_29 : Int32) (fz1 : Nat → Int32) (bpz0_5 : iv 0 900 pz0_5) (bpz0_6 : iv 0 900 pz0_6) (bpz0_7 : iv 0 900 pz0_7) (bpz0_8 : iv 0 900 pz0_8) (bpz0_10 : iv 0 999 pz0_10) (bpz0_11 : iv 0 4 pz0_11) (bpz0_12 : iv 0 900 pz0_12) (bpz0_13 : iv 0 4 pz0_13) (bpz0_14 : iv (-1) 900 pz0_14) (bpz0_18 : iv 0 2 pz0_18) (bpz0_22 : iv 0 9999 pz0_22) (bpz0_29 : iv 0 10000 pz0_29) (tfz1 : ivT tA fz1) : Ct l V yX10_count (.code yX10_count cX10_count 2 (some .int)) 4 [.ref (z 0), .int a1] [(z 0, .inr (10, mo z pz0_0 pz0_5 pz0_6 pz0_7 pz0_8 pz0_9 pz0_10 pz0_11 pz0_12 pz0_13 pz0_14 pz0_18 pz0_19 pz0_22 pz0_23 pz0_29)), (z 1, aI V 3075 fz1)] 0 0 (QI V (fun (r : Int32) (w : va_W) => ∃ (v0 : Int32), w = [(z 0, .inr (10, mo z v0 pz0_5 pz0_6 pz0_7 pz0_8 pz0_9 pz0_10 pz0_11 pz0_12 pz0_13 pz0_14 pz0_18 pz0_19 pz0_22 pz0_23 pz0_29)), (z 1, aI V 3075 fz1)])) := by
  refine Ct.of (by decide) (Nat.le_of_ble_eq_true rfl) (fun p e s m below meth c A ls hx hb hr hml hown hlk hnm hg hP hK hD hE hA hS hl => ?_)
  have hl : lv_has ls 2 [(0, .ref (z 0)), (1, .int a1)] := hl
  refine lv_aload_n hx hb dX10_count_0 rfl (lv_at hl 0 rfl) ?_
  refine lv_iconst (v := 0) hx hb dX10_count_1 (by decide) ?_
  refine va_put (ci := 10) (v := .int 0) (ty := .int) (C := RX10) (T := TX10) (N := 40) hx hb hg inX10 tyX10 tyX10_ok nmX10 hown hK hP hD hS 0 rfl rfl 0 (by decide) (hg _ q_5_224) (fun _ h9 => h9) rfl (by decide +kernel) rfl rfl (Nat.le_of_ble_eq_true rfl) dX10_count_2 (fun H locs hP hD hS => ?_)
  have hP : va_P V.1 vwCl [(z 0, .inr (10, mo z 0 pz0_5 pz0_6 pz0_7 pz0_8 pz0_9 pz0_10 pz0_11 pz0_12 pz0_13 pz0_14 pz0_18 pz0_19 pz0_22 pz0_23 pz0_29)), (z 1, aI V 3075 fz1)] H := hP
  have hD : va_D A [(z 0, .inr (10, mo z 0 pz0_5 pz0_6 pz0_7 pz0_8 pz0_9 pz0_10 pz0_11 pz0_12 pz0_13 pz0_14 pz0_18 pz0_19 pz0_22 pz0_23 pz0_29)), (z 1, aI V 3075 fz1)] := hD
  refine lv_iload_n hx hb dX10_count_5 rfl (lv_at hl 1 rfl) ?_
  by_cases c_1 : a1 = 0
  · refine lv_tableIn (off := 54) (tgt := 60) hx hb dX10_count_6 (by rw [c_1]; decide) (by rw [c_1]; decide) (by rw [c_1]; rfl) (by decide) ?_
    refine lv_aload_n hx hb dX10_count_60 rfl (lv_at hl 0 rfl) ?_
    refine va_get (ci := 10) (v := .ref (z 1)) (C := RX10) (T := TX10) (N := 40) hx hb hg inX10 hown hK hP 0 rfl rfl 1 (by decide) (hg _ q_5_225) (fun _ h9 => h9) rfl dX10_count_61 ?_
    refine lv_iconst (v := 1) hx hb dX10_count_64 (by decide) ?_
    refine va_iald hx hb hK hP 1 0 rfl rfl (vin (by decide +kernel)) dX10_count_65 ?_
    refine lv_topi (fun x_2 ex_2 => ?_)
    have bx_2 : iv 0 4 x_2 := by rw [ex_2]; exact rdT (a := 1) (n := 1) tfz1 (iv_c (1 : Int32) (a := 1) (b := 1) (by decide)) (by decide) (by decide +kernel)
    exact fiI hx hb hr hlk hK hP hD hS dX10_count_66 (Nat.le_of_ble_eq_true rfl) (Nat.le_of_ble_eq_true rfl) (⟨0, rfl⟩)
  · by_cases c_3 : a1 = 1
    · refine lv_tableIn (off := 61) (tgt := 67) hx hb dX10_count_6 (by rw [c_3]; decide) (by rw [c_3]; decide) (by rw [c_3]; rfl) (by decide) ?_
      refine lv_aload_n hx hb dX10_count_67 rfl (lv_at hl 0 rfl) ?_
      refine va_get (ci := 10) (v := .ref (z 1)) (C := RX10) (T := TX10) (N := 40) hx hb hg inX10 hown hK hP 0 rfl rfl 1 (by decide) (hg _ q_5_225) (fun _ h9 => h9) rfl dX10_count_68 ?_
      refine lv_iconst (v := 2) hx hb dX10_count_71 (by decide) ?_
      refine va_iald hx hb hK hP 1 0 rfl rfl (vin (by decide +kernel)) dX10_count_72 ?_
      refine lv_topi (fun x_4 ex_4 => ?_)
      have bx_4 : iv 0 4 x_4 := by rw [ex_4]; exact rdT (a := 2) (n := 1) tfz1 (iv_c (2 : Int32) (a := 2) (b := 2) (by decide)) (by decide) (by decide +kernel)
      exact fiI hx hb hr hlk hK hP hD hS dX10_count_73 (Nat.le_of_ble_eq_true rfl) (Nat.le_of_ble_eq_true rfl) (⟨0, rfl⟩)
    · by_cases c_5 : a1 = 2
      · refine lv_tableIn (off := 68) (tgt := 74) hx hb dX10_count_6 (by rw [c_5]; decide) (by rw [c_5]; decide) (by rw [c_5]; rfl) (by decide) ?_
        refine lv_aload_n hx hb dX10_count_74 rfl (lv_at hl 0 rfl) ?_
        refine va_get (ci := 10) (v := .ref (z 1)) (C := RX10) (T := TX10) (N := 40) hx hb hg inX10 hown hK hP 0 rfl rfl 1 (by decide) (hg _ q_5_225) (fun _ h9 => h9) rfl dX10_count_75 ?_
        refine lv_iconst (v := 3) hx hb dX10_count_78 (by decide) ?_
        refine va_iald hx hb hK hP 1 0 rfl rfl (vin (by decide +kernel)) dX10_count_79 ?_
        refine lv_topi (fun x_6 ex_6 => ?_)
        have bx_6 : iv 0 8 x_6 := by rw [ex_6]; exact rdT (a := 3) (n := 1) tfz1 (iv_c (3 : Int32) (a := 3) (b := 3) (by decide)) (by decide) (by decide +kernel)
        exact fiI hx hb hr hlk hK hP hD hS dX10_count_80 (Nat.le_of_ble_eq_true rfl) (Nat.le_of_ble_eq_true rfl) (⟨0, rfl⟩)
      · by_cases c_7 : a1 = 3
        · refine lv_tableIn (off := 75) (tgt := 81) hx hb dX10_count_6 (by rw [c_7]; decide) (by rw [c_7]; decide) (by rw [c_7]; rfl) (by decide) ?_
          refine lv_aload_n hx hb dX10_count_81 rfl (lv_at hl 0 rfl) ?_
          refine va_get (ci := 10) (v := .ref (z 1)) (C := RX10) (T := TX10) (N := 40) hx hb hg inX10 hown hK hP 0 rfl rfl 1 (by decide) (hg _ q_5_225) (fun _ h9 => h9) rfl dX10_count_82 ?_
          refine lv_bipush (v := 51) hx hb dX10_count_85 (by decide) ?_
          refine va_iald hx hb hK hP 1 0 rfl rfl (vin (by decide +kernel)) dX10_count_87 ?_
          refine lv_topi (fun x_8 ex_8 => ?_)
          have bx_8 : iv 0 9 x_8 := by rw [ex_8]; exact rdT (a := 51) (n := 1) tfz1 (iv_c (51 : Int32) (a := 51) (b := 51) (by decide)) (by decide) (by decide +kernel)
          exact fiI hx hb hr hlk hK hP hD hS dX10_count_88 (Nat.le_of_ble_eq_true rfl) (Nat.le_of_ble_eq_true rfl) (⟨0, rfl⟩)
        · by_cases c_9 : a1 = 4
          · refine lv_tableIn (off := 83) (tgt := 89) hx hb dX10_count_6 (by rw [c_9]; decide) (by rw [c_9]; decide) (by rw [c_9]; rfl) (by decide) ?_
            refine lv_aload_n hx hb dX10_count_89 rfl (lv_at hl 0 rfl) ?_
            refine lv_aload_n hx hb dX10_count_90 rfl (lv_at hl 0 rfl) ?_
            refine jnI (wr := []) (rnV (rest := [.ref (z 0)]) ⟨hx, hb, hml, hown, hg⟩ (k_X10_standNow_0 l V z 0 pz0_5 pz0_6 pz0_7 pz0_8 pz0_9 pz0_10 pz0_11 pz0_12 pz0_13 pz0_14 pz0_18 pz0_19 pz0_22 pz0_23 pz0_29 fz1 bpz0_5 bpz0_6 bpz0_7 bpz0_8 bpz0_10 bpz0_11 bpz0_12 bpz0_13 bpz0_14 bpz0_18 bpz0_22 bpz0_29 tfz1) mt_X10_standNow q_7_11 ⟨Nat.le_of_ble_eq_true rfl, Nat.le_of_ble_eq_true rfl⟩ hK hP hD hS hA hE [0, 1] rfl rfl 0 rfl rfl rfl rfl hl.1 rfl (Nat.le_of_ble_eq_true rfl) dX10_count_91 ⟨Nat.le_of_ble_eq_true rfl, Nat.le_of_ble_eq_true rfl⟩) hP hD hS hA [0, 1] [] rfl rfl rfl (by decide) (fun r_10 w H locs hw hP hD hS => ?_)
            obtain ⟨br_10, er_10, rfl⟩ := hw
            have hP : va_P V.1 vwCl [(z 0, .inr (10, mo z 0 pz0_5 pz0_6 pz0_7 pz0_8 pz0_9 pz0_10 pz0_11 pz0_12 pz0_13 pz0_14 pz0_18 pz0_19 pz0_22 pz0_23 pz0_29)), (z 1, aI V 3075 fz1)] H := hP
            have hD : va_D A [(z 0, .inr (10, mo z 0 pz0_5 pz0_6 pz0_7 pz0_8 pz0_9 pz0_10 pz0_11 pz0_12 pz0_13 pz0_14 pz0_18 pz0_19 pz0_22 pz0_23 pz0_29)), (z 1, aI V 3075 fz1)] := hD
            refine jnI (wr := []) (rnV (rest := []) ⟨hx, hb, hml, hown, hg⟩ (k_X10_sumIn_0 l V z r_10 0 pz0_5 pz0_6 pz0_7 pz0_8 pz0_9 pz0_10 pz0_11 pz0_12 pz0_13 pz0_14 pz0_18 pz0_19 pz0_22 pz0_23 pz0_29 fz1 br_10 bpz0_5 bpz0_6 bpz0_7 bpz0_8 bpz0_10 bpz0_11 bpz0_12 bpz0_13 bpz0_14 bpz0_18 bpz0_22 bpz0_29 tfz1) mt_X10_sumIn q_7_131 ⟨Nat.le_of_ble_eq_true rfl, Nat.le_of_ble_eq_true rfl⟩ hK hP hD hS hA hE [0, 1] rfl rfl 0 rfl rfl rfl rfl hl.1 rfl (Nat.le_of_ble_eq_true rfl) dX10_count_94 ⟨Nat.le_of_ble_eq_true rfl, Nat.le_of_ble_eq_true rfl⟩) hP hD hS hA [0, 1] [] rfl rfl rfl (by decide) (fun r_11 w H locs hw hP hD hS => ?_)
            subst hw
            have hP : va_P V.1 vwCl [(z 0, .inr (10, mo z 0 pz0_5 pz0_6 pz0_7 pz0_8 pz0_9 pz0_10 pz0_11 pz0_12 pz0_13 pz0_14 pz0_18 pz0_19 pz0_22 pz0_23 pz0_29)), (z 1, aI V 3075 fz1)] H := hP
            have hD : va_D A [(z 0, .inr (10, mo z 0 pz0_5 pz0_6 pz0_7 pz0_8 pz0_9 pz0_10 pz0_11 pz0_12 pz0_13 pz0_14 pz0_18 pz0_19 pz0_22 pz0_23 pz0_29)), (z 1, aI V 3075 fz1)] := hD
            exact fiI hx hb hr hlk hK hP hD hS dX10_count_97 (Nat.le_of_ble_eq_true rfl) (Nat.le_of_ble_eq_true rfl) (⟨0, rfl⟩)
          · by_cases c_12 : a1 = 5
            · refine lv_tableIn (off := 92) (tgt := 98) hx hb dX10_count_6 (by rw [c_12]; decide) (by rw [c_12]; decide) (by rw [c_12]; rfl) (by decide) ?_
              refine lv_aload_n hx hb dX10_count_98 rfl (lv_at hl 0 rfl) ?_
              refine va_get (ci := 10) (v := .ref (z 1)) (C := RX10) (T := TX10) (N := 40) hx hb hg inX10 hown hK hP 0 rfl rfl 1 (by decide) (hg _ q_5_225) (fun _ h9 => h9) rfl dX10_count_99 ?_
              refine lv_bipush (v := 50) hx hb dX10_count_102 (by decide) ?_
              refine va_iald hx hb hK hP 1 0 rfl rfl (vin (by decide +kernel)) dX10_count_104 ?_
              refine lv_topi (fun x_13 ex_13 => ?_)
              have bx_13 : iv 0 15 x_13 := by rw [ex_13]; exact rdT (a := 50) (n := 1) tfz1 (iv_c (50 : Int32) (a := 50) (b := 50) (by decide)) (by decide) (by decide +kernel)
              exact fiI hx hb hr hlk hK hP hD hS dX10_count_105 (Nat.le_of_ble_eq_true rfl) (Nat.le_of_ble_eq_true rfl) (⟨0, rfl⟩)
            · by_cases c_14 : a1 = 6
              · refine lv_tableIn (off := 100) (tgt := 106) hx hb dX10_count_6 (by rw [c_14]; decide) (by rw [c_14]; decide) (by rw [c_14]; rfl) (by decide) ?_
                refine lv_aload_n hx hb dX10_count_106 rfl (lv_at hl 0 rfl) ?_
                refine va_get (ci := 10) (v := .ref (z 1)) (C := RX10) (T := TX10) (N := 40) hx hb hg inX10 hown hK hP 0 rfl rfl 1 (by decide) (hg _ q_5_225) (fun _ h9 => h9) rfl dX10_count_107 ?_
                refine lv_bipush (v := 52) hx hb dX10_count_110 (by decide) ?_
                refine va_iald hx hb hK hP 1 0 rfl rfl (vin (by decide +kernel)) dX10_count_112 ?_
                refine lv_topi (fun x_15 ex_15 => ?_)
                exact fiI hx hb hr hlk hK hP hD hS dX10_count_113 (Nat.le_of_ble_eq_true rfl) (Nat.le_of_ble_eq_true rfl) (⟨0, rfl⟩)
              · by_cases c_16 : a1 = 7
                · refine lv_tableIn (off := 108) (tgt := 114) hx hb dX10_count_6 (by rw [c_16]; decide) (by rw [c_16]; decide) (by rw [c_16]; rfl) (by decide) ?_
                  refine lv_aload_n hx hb dX10_count_114 rfl (lv_at hl 0 rfl) ?_
                  refine va_get (ci := 10) (v := .ref (z 1)) (C := RX10) (T := TX10) (N := 40) hx hb hg inX10 hown hK hP 0 rfl rfl 1 (by decide) (hg _ q_5_225) (fun _ h9 => h9) rfl dX10_count_115 ?_
                  refine lv_bipush (v := 53) hx hb dX10_count_118 (by decide) ?_
                  refine va_iald hx hb hK hP 1 0 rfl rfl (vin (by decide +kernel)) dX10_count_120 ?_
                  refine lv_topi (fun x_17 ex_17 => ?_)
                  have bx_17 : iv 0 10 x_17 := by rw [ex_17]; exact rdT (a := 53) (n := 1) tfz1 (iv_c (53 : Int32) (a := 53) (b := 53) (by decide)) (by decide) (by decide +kernel)
                  exact fiI hx hb hr hlk hK hP hD hS dX10_count_121 (Nat.le_of_ble_eq_true rfl) (Nat.le_of_ble_eq_true rfl) (⟨0, rfl⟩)
                · by_cases c_18 : a1 = 8
                  · refine lv_tableIn (off := 116) (tgt := 122) hx hb dX10_count_6 (by rw [c_18]; decide) (by rw [c_18]; decide) (by rw [c_18]; rfl) (by decide) ?_
                    refine lv_aload_n hx hb dX10_count_122 rfl (lv_at hl 0 rfl) ?_
                    refine va_get (ci := 10) (v := .int pz0_5) (C := RX10) (T := TX10) (N := 40) hx hb hg inX10 hown hK hP 0 rfl rfl 5 (by decide) (hg _ q_5_229) (fun _ h9 => h9) rfl dX10_count_123 ?_
                    exact fiI hx hb hr hlk hK hP hD hS dX10_count_126 (Nat.le_of_ble_eq_true rfl) (Nat.le_of_ble_eq_true rfl) (⟨0, rfl⟩)
                  · by_cases c_19 : a1 = 9
                    · refine lv_tableIn (off := 121) (tgt := 127) hx hb dX10_count_6 (by rw [c_19]; decide) (by rw [c_19]; decide) (by rw [c_19]; rfl) (by decide) ?_
                      refine lv_aload_n hx hb dX10_count_127 rfl (lv_at hl 0 rfl) ?_
                      refine va_get (ci := 10) (v := .ref (z 1)) (C := RX10) (T := TX10) (N := 40) hx hb hg inX10 hown hK hP 0 rfl rfl 1 (by decide) (hg _ q_5_225) (fun _ h9 => h9) rfl dX10_count_128 ?_
                      refine lv_iconst (v := 0) hx hb dX10_count_131 (by decide) ?_
                      refine va_iald hx hb hK hP 1 0 rfl rfl (vin (by decide +kernel)) dX10_count_132 ?_
                      refine lv_topi (fun x_20 ex_20 => ?_)
                      exact fiI hx hb hr hlk hK hP hD hS dX10_count_133 (Nat.le_of_ble_eq_true rfl) (Nat.le_of_ble_eq_true rfl) (⟨0, rfl⟩)
                    · refine lv_tableOut (tgt := 134) hx hb dX10_count_6 ((Int.lt_or_le a1.toInt 0).elim Or.inl (fun c_21 => Or.inr (by simp only [tI_eq, (by decide : (0 : Int32).toInt = 0), (by decide : (1 : Int32).toInt = 1), (by decide : (2 : Int32).toInt = 2), (by decide : (3 : Int32).toInt = 3), (by decide : (4 : Int32).toInt = 4), (by decide : (5 : Int32).toInt = 5), (by decide : (6 : Int32).toInt = 6), (by decide : (7 : Int32).toInt = 7), (by decide : (8 : Int32).toInt = 8), (by decide : (9 : Int32).toInt = 9)] at c_1 c_3 c_5 c_7 c_9 c_12 c_14 c_16 c_18 c_19; omega))) (by decide) ?_
                      refine lv_iconst (v := (-1)) hx hb dX10_count_134 (by decide) ?_
                      exact fiI hx hb hr hlk hK hP hD hS dX10_count_135 (Nat.le_of_ble_eq_true rfl) (Nat.le_of_ble_eq_true rfl) (⟨0, rfl⟩)
