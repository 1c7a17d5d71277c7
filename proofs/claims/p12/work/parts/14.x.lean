def o8_iirrriirrrrrrriii (x0 : Int32) (x1 : Int32) (x2 : Nat) (x3 : Nat) (x4 : Nat) (x5 : Int32) (x6 : Int32) (x7 : Nat) (x8 : Nat) (x9 : Nat) (x10 : Nat) (x11 : Nat) (x12 : Nat) (x13 : Nat) (x14 : Int32) (x15 : Int32) (x16 : Int32) : List Value := [.int x0, .int x1, .ref x2, .ref x3, .ref x4, .int x5, .int x6, .ref x7, .ref x8, .ref x9, .ref x10, .ref x11, .ref x12, .ref x13, .int x14, .int x15, .int x16]
theorem dX8_forget_0 : decode cX8_forget 0 = .ok (.iconst 0, 1) := by decide +kernel
theorem dX8_forget_1 : decode cX8_forget 1 = .ok (.istore_n 1, 1) := by decide +kernel
theorem dX8_forget_2 : decode cX8_forget 2 = .ok (.iload_n 1, 1) := by decide +kernel
theorem dX8_forget_3 : decode cX8_forget 3 = .ok (.aload_n 0, 1) := by decide +kernel
theorem q_4_76 : Cond.fieldLink "BeaconDelay$Ways" 56 "BeaconDelay$Ways" "count" "I" ∈ gw := gw_4 (i := 76) (by decide +kernel) rfl
theorem dX8_forget_4 : decode cX8_forget 4 = .ok (.getfield 56, 3) := by decide +kernel
theorem dX8_forget_7 : decode cX8_forget 7 = .ok (.if_icmp .ge 21, 3) := by decide +kernel
theorem dX8_forget_28 : decode cX8_forget 28 = .ok (.aload_n 0, 1) := by decide +kernel
theorem dX8_forget_29 : decode cX8_forget 29 = .ok (.iconst 0, 1) := by decide +kernel
theorem dX8_forget_30 : decode cX8_forget 30 = .ok (.putfield 56, 3) := by decide +kernel
theorem dX8_forget_33 : decode cX8_forget 33 = .ok (.aload_n 0, 1) := by decide +kernel
theorem dX8_forget_34 : decode cX8_forget 34 = .ok (.iconst 0, 1) := by decide +kernel
theorem q_4_90 : Cond.fieldLink "BeaconDelay$Ways" 59 "BeaconDelay$Ways" "opened" "I" ∈ gw := gw_4 (i := 90) (by decide +kernel) rfl
theorem dX8_forget_35 : decode cX8_forget 35 = .ok (.putfield 59, 3) := by decide +kernel
theorem dX8_forget_38 : decode cX8_forget 38 = .ok (.return_, 1) := by decide +kernel
theorem dX8_forget_10 : decode cX8_forget 10 = .ok (.aload_n 0, 1) := by decide +kernel
theorem q_4_82 : Cond.fieldLink "BeaconDelay$Ways" 38 "BeaconDelay$Ways" "numberOf" "[I" ∈ gw := gw_4 (i := 82) (by decide +kernel) rfl
theorem dX8_forget_11 : decode cX8_forget 11 = .ok (.getfield 38, 3) := by decide +kernel
theorem dX8_forget_14 : decode cX8_forget 14 = .ok (.aload_n 0, 1) := by decide +kernel
theorem q_4_69 : Cond.fieldLink "BeaconDelay$Ways" 29 "BeaconDelay$Ways" "met" "[I" ∈ gw := gw_4 (i := 69) (by decide +kernel) rfl
theorem dX8_forget_15 : decode cX8_forget 15 = .ok (.getfield 29, 3) := by decide +kernel
theorem dX8_forget_18 : decode cX8_forget 18 = .ok (.iload_n 1, 1) := by decide +kernel
theorem dX8_forget_19 : decode cX8_forget 19 = .ok (.iaload, 1) := by decide +kernel
theorem dX8_forget_20 : decode cX8_forget 20 = .ok (.iconst 0, 1) := by decide +kernel
theorem dX8_forget_21 : decode cX8_forget 21 = .ok (.iastore, 1) := by decide +kernel
theorem dX8_forget_22 : decode cX8_forget 22 = .ok (.iinc 1 1, 3) := by decide +kernel
theorem dX8_forget_25 : decode cX8_forget 25 = .ok (.goto (-23), 3) := by decide +kernel
set_option maxRecDepth 100000 in
noncomputable def B_k_X8_forget_0_1 (fYw1 : Nat → Int32) (pYw0_5 : Int32) (u_1 : Int32) (f_2 : Nat → Int32) : (Int32 × (Nat → Int32)) ⊕ (Int32 × Int32 × (Nat → Int32)) := if pYw0_5 ≤ u_1 then (Sum.inr (((0 : Int32), (0 : Int32), f_2))) else (bnd (fYw1 (u_1 : Int32).toNatClampNeg : Int32) fun (x_7 : Int32) => bnd ((upd f_2 (x_7 : Int32).toNatClampNeg 0) : Nat → Int32) fun (f_8 : Nat → Int32) => bnd (u_1 + 1 : Int32) fun (x_9 : Int32) => Sum.inl (x_9, f_8))
noncomputable def L_k_X8_forget_0_1 (fYw1 : Nat → Int32) (pYw0_5 : Int32) (q9 : Int32 × (Nat → Int32)) : (Int32 × (Nat → Int32)) ⊕ (Int32 × Int32 × (Nat → Int32)) := B_k_X8_forget_0_1 fYw1 pYw0_5 q9.1 q9.2
set_option maxRecDepth 100000 in
noncomputable def F_k_X8_forget_0 (pYw0_5 : Int32) (fYw1 : Nat → Int32) (fYw4 : Nat → Int32) : Int32 × Int32 × (Nat → Int32) := W9 (L_k_X8_forget_0_1 fYw1 pYw0_5) (0, fYw4)
set_option maxHeartbeats 4000000 in
set_option maxRecDepth 100000 in
theorem k_X8_forget_0 (l : Launch) (V : GV) (n : Nat) (L : Nat) (Yw : Nat → Nat) (y : Nat → Nat) (pYw0_0 : Int32) (wa : Nat) (pYw0_5 : Int32) (pYw0_6 : Int32) (wb : Nat) (pYw0_14 : Int32) (pYw0_15 : Int32) (pYw0_16 : Int32) (fYw1 : Nat → Int32) (fYw2 : Nat → Int32) (fYw4 : Nat → Int32) (fYw6 : Nat → Int32) (hn : 1 ≤ n ∧ n ≤ 3646) (hL : 1 ≤ L ∧ L ≤ 10000) (bpYw0_0 : iv 0 4 pYw0_0) (bpYw0_5 : iv 0 ((n : Int)) pYw0_5) (bpYw0_6 : iv 0 4 pYw0_6) (bpYw0_14 : iv 0 4 pYw0_14) (bpYw0_15 : iv 0 9 pYw0_15) (bpYw0_16 : iv 0 ((n : Int)) pYw0_16) (tfYw1 : ∀ j, iv 0 ((L : Int) - 1) (fYw1 j)) (tfYw4 : ∀ j, iv 0 ((n : Int)) (fYw4 j)) (tfYw6 : ∀ j, iv 0 ((n : Int) - 1) (fYw6 j)) (hf0 : WA pYw0_5 fYw4 fYw1) (hf1 : WB pYw0_16 pYw0_6 pYw0_5 fYw6) (hf2 : WC pYw0_5 fYw2) : Ct l V yX8_forget (.code yX8_forget cX8_forget 2 none) 1 [.ref (Yw 0)] [(Yw 0, .inr (8, o8_iirrriirrrrrrriii pYw0_0 (nI n) (Yw 1) (Yw 2) wa pYw0_5 pYw0_6 (y 19) (Yw 4) (Yw 5) (Yw 6) (Yw 7) (Yw 8) wb pYw0_14 pYw0_15 pYw0_16)), (Yw 1, aI V n fYw1), (Yw 2, aI V n fYw2), (Yw 4, aI V L fYw4), (Yw 6, aI V (n * 4) fYw6)] 0 0 (QV V (fun (w : va_W) => ∃ (v0 : Int32) (v1 : Int32) (g2 : Nat → Int32), iv 0 ((n : Int)) v0 ∧ iv 0 ((n : Int)) v1 ∧ (∀ j, iv 0 ((n : Int)) (g2 j)) ∧ (WA v0 g2 fYw1) ∧ (WB v1 pYw0_6 v0 fYw6) ∧ (WC v0 fYw2) ∧ ((v0 : Int32).toInt = 0) ∧ ((v1 : Int32).toInt = 0) ∧ v0 = (F_k_X8_forget_0 pYw0_5 fYw1 fYw4).1 ∧ v1 = (F_k_X8_forget_0 pYw0_5 fYw1 fYw4).2.1 ∧ g2 = (F_k_X8_forget_0 pYw0_5 fYw1 fYw4).2.2 ∧ w = [(Yw 0, .inr (8, o8_iirrriirrrrrrriii pYw0_0 (nI n) (Yw 1) (Yw 2) wa v0 pYw0_6 (y 19) (Yw 4) (Yw 5) (Yw 6) (Yw 7) (Yw 8) wb pYw0_14 pYw0_15 v1)), (Yw 1, aI V n fYw1), (Yw 2, aI V n fYw2), (Yw 4, aI V L g2), (Yw 6, aI V (n * 4) fYw6)])) := by
  refine Ct.of (by decide) (Nat.le_of_ble_eq_true rfl) (fun p e s m below meth c A ls hx hb hr hml hown hlk hnm hg hP hK hD hE hA hS hl => ?_)
  have hl : lv_has ls 2 [(0, .ref (Yw 0))] := hl
  obtain ⟨T0, hT0⟩ : ∃ T9, T9 = F_k_X8_forget_0 pYw0_5 fYw1 fYw4 := ⟨_, rfl⟩
  have hR := hT0.trans (F_k_X8_forget_0.eq_1 ..)
  refine lv_iconst (v := 0) hx hb dX8_forget_0 (by decide) ?_
  refine lv_istore_n (lv' := [(1, .int 0), (0, .ref (Yw 0))]) hx hb dX8_forget_1 rfl hl (by decide) rfl (fun ls hl => ?_)
  refine loopF (X := fun (n_3 : Nat) (H : Heap) (locs : List Loc) (ls : Array Slot) => ∃ (u_1 : Int32) (f_2 : Nat → Int32), (iv 0 2147483647 u_1) ∧ (∀ j, iv 0 ((n : Int)) (f_2 j)) ∧ (WAf u_1 pYw0_5 f_2 fYw1) ∧ T0 = W9 (L_k_X8_forget_0_1 fYw1 pYw0_5) (u_1, f_2) ∧ n_3 = (2147483647 - (u_1 : Int32).toInt).toNat ∧ va_P V.1 vwCl [(Yw 0, .inr (8, o8_iirrriirrrrrrriii pYw0_0 (nI n) (Yw 1) (Yw 2) wa pYw0_5 pYw0_6 (y 19) (Yw 4) (Yw 5) (Yw 6) (Yw 7) (Yw 8) wb pYw0_14 pYw0_15 pYw0_16)), (Yw 1, aI V n fYw1), (Yw 2, aI V n fYw2), (Yw 4, aI V L f_2), (Yw 6, aI V (n * 4) fYw6)] H ∧ va_D A [(Yw 0, .inr (8, o8_iirrriirrrrrrriii pYw0_0 (nI n) (Yw 1) (Yw 2) wa pYw0_5 pYw0_6 (y 19) (Yw 4) (Yw 5) (Yw 6) (Yw 7) (Yw 8) wb pYw0_14 pYw0_15 pYw0_16)), (Yw 1, aI V n fYw1), (Yw 2, aI V n fYw2), (Yw 4, aI V L f_2), (Yw 6, aI V (n * 4) fYw6)] ∧ va_S A s.heap H locs ∧ lv_has ls 2 [(1, .int u_1), (0, .ref (Yw 0))]) (g := fun ls => F0 m 2 ls []) (fun n_3 H locs ls hX ihn_3 => ?_) _ ⟨0, fYw4, (iv_c (0 : Int32) (by decide)), tfYw4, (WAf_0 hf0 tfYw4 (by decide)), hR, rfl, hP, hD, hS, lv_sub hl [0, 1] rfl⟩
  obtain ⟨u_1, f_2, bu_1, tf_2, inn_3_0, hR, en_3, hP, hD, hS, hl⟩ := hX
  obtain ⟨Tn_3, hR, hAn_3⟩ := tw hR
  replace hR : Tn_3 = B_k_X8_forget_0_1 fYw1 pYw0_5 u_1 f_2 := hR
  replace hR := hR.trans (B_k_X8_forget_0_1.eq_1 ..)
  refine lv_iload_n hx hb dX8_forget_2 rfl (lv_at hl 0 rfl) ?_
  refine lv_aload_n hx hb dX8_forget_3 rfl (lv_at hl 1 rfl) ?_
  refine va_get (ci := 8) (v := .int pYw0_5) (C := RX8) (T := TX8) (N := 17) hx hb hg inX8 hown hK hP 0 rfl rfl 5 (by decide) (hg _ q_4_76) (fun _ h9 => h9) rfl dX8_forget_4 ?_
  refine lv_icmp_ge (tgt := 28) hx hb dX8_forget_7 (by decide) (fun c_4 => ?_) (fun c_4 => ?_)
  · replace hR := ti hR c_4
    refine lv_aload_n hx hb dX8_forget_28 rfl (lv_at hl 1 rfl) ?_
    refine lv_iconst (v := 0) hx hb dX8_forget_29 (by decide) ?_
    refine va_put (ci := 8) (v := .int 0) (ty := .int) (C := RX8) (T := TX8) (N := 17) hx hb hg inX8 tyX8 tyX8_ok nmX8 hown hK hP hD hS 0 rfl rfl 5 (by decide) (hg _ q_4_76) (fun _ h9 => h9) rfl (by decide +kernel) rfl rfl (Nat.le_of_ble_eq_true rfl) dX8_forget_30 (fun H locs hP hD hS => ?_)
    have hP : va_P V.1 vwCl [(Yw 0, .inr (8, o8_iirrriirrrrrrriii pYw0_0 (nI n) (Yw 1) (Yw 2) wa 0 pYw0_6 (y 19) (Yw 4) (Yw 5) (Yw 6) (Yw 7) (Yw 8) wb pYw0_14 pYw0_15 pYw0_16)), (Yw 1, aI V n fYw1), (Yw 2, aI V n fYw2), (Yw 4, aI V L f_2), (Yw 6, aI V (n * 4) fYw6)] H := hP
    have hD := cpD hP hD
    refine lv_aload_n hx hb dX8_forget_33 rfl (lv_at hl 1 rfl) ?_
    refine lv_iconst (v := 0) hx hb dX8_forget_34 (by decide) ?_
    refine va_put (ci := 8) (v := .int 0) (ty := .int) (C := RX8) (T := TX8) (N := 17) hx hb hg inX8 tyX8 tyX8_ok nmX8 hown hK hP hD hS 0 rfl rfl 16 (by decide) (hg _ q_4_90) (fun _ h9 => h9) rfl (by decide +kernel) rfl rfl (Nat.le_of_ble_eq_true rfl) dX8_forget_35 (fun H locs hP hD hS => ?_)
    have hP : va_P V.1 vwCl [(Yw 0, .inr (8, o8_iirrriirrrrrrriii pYw0_0 (nI n) (Yw 1) (Yw 2) wa 0 pYw0_6 (y 19) (Yw 4) (Yw 5) (Yw 6) (Yw 7) (Yw 8) wb pYw0_14 pYw0_15 0)), (Yw 1, aI V n fYw1), (Yw 2, aI V n fYw2), (Yw 4, aI V L f_2), (Yw 6, aI V (n * 4) fYw6)] H := hP
    have hD := cpD hP hD
    exact fiV hx hb hr hlk hK hP hD hS dX8_forget_38 (Nat.le_of_ble_eq_true rfl) (Nat.le_of_ble_eq_true rfl) (⟨0, 0, f_2, (iv_w (iv_c (0 : Int32) (a := 0) (b := 0) (by decide)) (by first | decide | omega)), (iv_w (iv_c (0 : Int32) (a := 0) (b := 0) (by decide)) (by first | decide | omega)), tf_2, (WAf_e inn_3_0 (Int32.not_lt.mpr c_4) (by decide)), (WB_0 (by decide)), (WC_0 (by decide)), (by decide), (by decide), (congrArg Prod.fst ((tx hAn_3 hR).symm.trans hT0)), (congrArg Prod.fst (congrArg Prod.snd ((tx hAn_3 hR).symm.trans hT0))), (congrArg Prod.snd (congrArg Prod.snd ((tx hAn_3 hR).symm.trans hT0))), rfl⟩)
  · replace hR := te hR c_4
    have b_5 : iv 0 ((n : Int) - 1) u_1 := iv_l1 (Int32.not_le.mp c_4) bu_1 bpYw0_5 (by first | decide | omega)
    have b_6 : iv 1 ((n : Int)) pYw0_5 := iv_l2 (Int32.not_le.mp c_4) bu_1 bpYw0_5 (by first | decide | omega)
    refine lv_aload_n hx hb dX8_forget_10 rfl (lv_at hl 1 rfl) ?_
    refine va_get (ci := 8) (v := .ref (Yw 4)) (C := RX8) (T := TX8) (N := 17) hx hb hg inX8 hown hK hP 0 rfl rfl 8 (by decide) (hg _ q_4_82) (fun _ h9 => h9) rfl dX8_forget_11 ?_
    refine lv_aload_n hx hb dX8_forget_14 rfl (lv_at hl 1 rfl) ?_
    refine va_get (ci := 8) (v := .ref (Yw 1)) (C := RX8) (T := TX8) (N := 17) hx hb hg inX8 hown hK hP 0 rfl rfl 2 (by decide) (hg _ q_4_69) (fun _ h9 => h9) rfl dX8_forget_15 ?_
    refine lv_iload_n hx hb dX8_forget_18 rfl (lv_at hl 0 rfl) ?_
    refine va_iald hx hb hK hP 1 0 rfl rfl (iv_in b_5 (by first | decide | omega)) dX8_forget_19 ?_
    refine lv_topi (fun x_7 ex_7 => ?_)
    have bx_7 : iv 0 ((L : Int) - 1) x_7 := by rw [ex_7]; exact tfYw1 _
    replace hR := tb hR ex_7
    refine lv_iconst (v := 0) hx hb dX8_forget_20 (by decide) ?_
    refine va_iast hx hb hK hP hD hS 3 0 rfl rfl (iv_in bx_7 (by first | decide | omega)) dX8_forget_21 (fun H locs hP hD hS => ?_)
    obtain ⟨f_8, ef_8, tf_8, hP, hD⟩ : ∃ f_8 : Nat → Int32, f_8 = (upd f_2 (x_7 : Int32).toNatClampNeg 0) ∧ (∀ j, iv 0 ((n : Int)) (f_8 j)) ∧ va_P V.1 vwCl [(Yw 0, .inr (8, o8_iirrriirrrrrrriii pYw0_0 (nI n) (Yw 1) (Yw 2) wa pYw0_5 pYw0_6 (y 19) (Yw 4) (Yw 5) (Yw 6) (Yw 7) (Yw 8) wb pYw0_14 pYw0_15 pYw0_16)), (Yw 1, aI V n fYw1), (Yw 2, aI V n fYw2), (Yw 4, aI V L f_8), (Yw 6, aI V (n * 4) fYw6)] H ∧ va_D A [(Yw 0, .inr (8, o8_iirrriirrrrrrriii pYw0_0 (nI n) (Yw 1) (Yw 2) wa pYw0_5 pYw0_6 (y 19) (Yw 4) (Yw 5) (Yw 6) (Yw 7) (Yw 8) wb pYw0_14 pYw0_15 pYw0_16)), (Yw 1, aI V n fYw1), (Yw 2, aI V n fYw2), (Yw 4, aI V L f_8), (Yw 6, aI V (n * 4) fYw6)] := ⟨_, rfl, ivU tf_2 _ (iv_w (iv_c (0 : Int32) (a := 0) (b := 0) (by decide)) (by first | decide | omega)), hP, hD⟩
    replace hR := tb hR ef_8
    obtain ⟨x_9, ex_9⟩ : ∃ z9 : Int32, z9 = u_1 + 1 := ⟨_, rfl⟩
    have bx_9 : iv 1 ((n : Int)) x_9 := by rw [ex_9]; exact iv_add b_5 (iv_c (1 : Int32) (a := 1) (b := 1) (by first | decide | omega)) (by first | decide | omega)
    replace hR := tb hR ex_9
    refine lv_iinc (v := x_9) (lv' := [(1, .int x_9), (0, .ref (Yw 0))]) hx hb dX8_forget_22 hl (k := 0) rfl (by rw [ex_9]; rfl) (by decide) rfl (fun ls hl => ?_)
    refine lv_goto (tgt := 2) hx hb dX8_forget_25 (by decide) ?_
    exact ihn_3 _ _ _ _ (by rw [en_3, ex_9]; exact mu_up b_5 (by first | decide | omega)) ⟨x_9, f_8, (iv_w bx_9 (by first | decide | omega)), tf_8, (WAf_s inn_3_0 ex_9 b_5 (by omega) ex_7 ef_8 (by have q9 := b_6; unfold iv at q9; omega)), (tbk hAn_3 hR), rfl, hP, hD, hS, lv_sub hl [0, 1] rfl⟩
theorem dX8_behind_0 : decode cX8_behind 0 = .ok (.aload_n 0, 1) := by decide +kernel
theorem q_4_84 : Cond.fieldLink "BeaconDelay$Ways" 44 "BeaconDelay$Ways" "next" "[I" ∈ gw := gw_4 (i := 84) (by decide +kernel) rfl
theorem dX8_behind_1 : decode cX8_behind 1 = .ok (.getfield 44, 3) := by decide +kernel
theorem dX8_behind_4 : decode cX8_behind 4 = .ok (.iload_n 1, 1) := by decide +kernel
theorem dX8_behind_5 : decode cX8_behind 5 = .ok (.iconst 4, 1) := by decide +kernel
theorem dX8_behind_6 : decode cX8_behind 6 = .ok (.imul, 1) := by decide +kernel
theorem dX8_behind_7 : decode cX8_behind 7 = .ok (.iload_n 2, 1) := by decide +kernel
theorem dX8_behind_8 : decode cX8_behind 8 = .ok (.iadd, 1) := by decide +kernel
theorem dX8_behind_9 : decode cX8_behind 9 = .ok (.iaload, 1) := by decide +kernel
theorem dX8_behind_10 : decode cX8_behind 10 = .ok (.ireturn, 1) := by decide +kernel
set_option maxHeartbeats 4000000 in
set_option maxRecDepth 100000 in
theorem k_X8_behind_0 (l : Launch) (V : GV) (n : Nat) (Yw : Nat → Nat) (y : Nat → Nat) (a1 : Int32) (a2 : Int32) (pYw0_0 : Int32) (wa : Nat) (pYw0_5 : Int32) (pYw0_6 : Int32) (wb : Nat) (pYw0_14 : Int32) (pYw0_15 : Int32) (pYw0_16 : Int32) (fYw6 : Nat → Int32) (hn : 1 ≤ n ∧ n ≤ 3646) (ba1 : iv 0 ((n : Int) - 1) a1) (ba2 : iv 0 3 a2) (bpYw0_0 : iv 0 4 pYw0_0) (bpYw0_5 : iv 0 ((n : Int)) pYw0_5) (bpYw0_6 : iv 0 4 pYw0_6) (bpYw0_14 : iv 0 4 pYw0_14) (bpYw0_15 : iv 0 9 pYw0_15) (bpYw0_16 : iv 0 ((n : Int)) pYw0_16) (tfYw6 : ∀ j, iv 0 ((n : Int) - 1) (fYw6 j)) : Ct l V yX8_behind (.code yX8_behind cX8_behind 3 (some .int)) 1 [.ref (Yw 0), .int a1, .int a2] [(Yw 0, .inr (8, o8_iirrriirrrrrrriii pYw0_0 (nI n) (Yw 1) (Yw 2) wa pYw0_5 pYw0_6 (y 19) (Yw 4) (Yw 5) (Yw 6) (Yw 7) (Yw 8) wb pYw0_14 pYw0_15 pYw0_16)), (Yw 6, aI V (n * 4) fYw6)] 0 0 (QI V (fun (r : Int32) (w : va_W) => iv 0 ((n : Int) - 1) r ∧ r = fYw6 (a1 * 4 + a2).toNatClampNeg ∧ w = [(Yw 0, .inr (8, o8_iirrriirrrrrrriii pYw0_0 (nI n) (Yw 1) (Yw 2) wa pYw0_5 pYw0_6 (y 19) (Yw 4) (Yw 5) (Yw 6) (Yw 7) (Yw 8) wb pYw0_14 pYw0_15 pYw0_16)), (Yw 6, aI V (n * 4) fYw6)])) := by
  refine Ct.of (by decide) (Nat.le_of_ble_eq_true rfl) (fun p e s m below meth c A ls hx hb hr hml hown hlk hnm hg hP hK hD hE hA hS hl => ?_)
  have hl : lv_has ls 3 [(0, .ref (Yw 0)), (1, .int a1), (2, .int a2)] := hl
  refine lv_aload_n hx hb dX8_behind_0 rfl (lv_at hl 0 rfl) ?_
  refine va_get (ci := 8) (v := .ref (Yw 6)) (C := RX8) (T := TX8) (N := 17) hx hb hg inX8 hown hK hP 0 rfl rfl 10 (by decide) (hg _ q_4_84) (fun _ h9 => h9) rfl dX8_behind_1 ?_
  refine lv_iload_n hx hb dX8_behind_4 rfl (lv_at hl 1 rfl) ?_
  refine lv_iconst (v := 4) hx hb dX8_behind_5 (by decide) ?_
  refine lv_imul hx hb dX8_behind_6 ?_
  refine lv_topi (fun x_1 ex_1 => ?_)
  have bx_1 : iv 0 (4 * (n : Int) - 4) x_1 := by rw [ex_1]; exact iv_mulc ba1 (iv_c (4 : Int32) (a := 4) (b := 4) (by decide)) (by first | decide | omega)
  refine lv_iload_n hx hb dX8_behind_7 rfl (lv_at hl 2 rfl) ?_
  refine lv_iadd hx hb dX8_behind_8 ?_
  refine lv_topi (fun x_2 ex_2 => ?_)
  have bx_2 : iv 0 (4 * (n : Int) - 1) x_2 := by rw [ex_2]; exact iv_add bx_1 ba2 (by first | decide | omega)
  refine va_iald hx hb hK hP 1 0 rfl rfl (iv_in bx_2 (by first | decide | omega)) dX8_behind_9 ?_
  refine lv_topi (fun x_3 ex_3 => ?_)
  have bx_3 : iv 0 ((n : Int) - 1) x_3 := by rw [ex_3]; exact tfYw6 _
  exact fiI hx hb hr hlk hK hP hD hS dX8_behind_10 (Nat.le_of_ble_eq_true rfl) (Nat.le_of_ble_eq_true rfl) (⟨bx_3, (by rw [ex_3, ex_2, ex_1]), rfl⟩)
theorem dX8_meet_0 : decode cX8_meet 0 = .ok (.iload_n 1, 1) := by decide +kernel
theorem dX8_meet_1 : decode cX8_meet 1 = .ok (.ifCond .lt 12, 3) := by decide +kernel
theorem dX8_meet_13 : decode cX8_meet 13 = .ok (.iconst 0, 1) := by decide +kernel
theorem dX8_meet_14 : decode cX8_meet 14 = .ok (.ireturn, 1) := by decide +kernel
theorem dX8_meet_4 : decode cX8_meet 4 = .ok (.iload_n 1, 1) := by decide +kernel
theorem dX8_meet_5 : decode cX8_meet 5 = .ok (.aload_n 0, 1) := by decide +kernel
theorem dX8_meet_6 : decode cX8_meet 6 = .ok (.getfield 38, 3) := by decide +kernel
theorem dX8_meet_9 : decode cX8_meet 9 = .ok (.arraylength, 1) := by decide +kernel
theorem dX8_meet_10 : decode cX8_meet 10 = .ok (.if_icmp .lt 5, 3) := by decide +kernel
theorem dX8_meet_15 : decode cX8_meet 15 = .ok (.aload_n 0, 1) := by decide +kernel
theorem dX8_meet_16 : decode cX8_meet 16 = .ok (.getfield 38, 3) := by decide +kernel
theorem dX8_meet_19 : decode cX8_meet 19 = .ok (.iload_n 1, 1) := by decide +kernel
theorem dX8_meet_20 : decode cX8_meet 20 = .ok (.iaload, 1) := by decide +kernel
theorem dX8_meet_21 : decode cX8_meet 21 = .ok (.ifCond .ne 69, 3) := by decide +kernel
theorem dX8_meet_90 : decode cX8_meet 90 = .ok (.iconst 0, 1) := by decide +kernel
theorem dX8_meet_91 : decode cX8_meet 91 = .ok (.aload_n 0, 1) := by decide +kernel
theorem dX8_meet_92 : decode cX8_meet 92 = .ok (.getfield 38, 3) := by decide +kernel
theorem dX8_meet_95 : decode cX8_meet 95 = .ok (.iload_n 1, 1) := by decide +kernel
theorem dX8_meet_96 : decode cX8_meet 96 = .ok (.iaload, 1) := by decide +kernel
theorem dX8_meet_97 : decode cX8_meet 97 = .ok (.iconst 1, 1) := by decide +kernel
theorem dX8_meet_98 : decode cX8_meet 98 = .ok (.isub, 1) := by decide +kernel
theorem q_4_131 : Cond.methodLink "BeaconDelay$Ways" 71 Lib.Math.max.name ∈ gw := gw_4 (i := 131) (by decide +kernel) rfl
theorem dX8_meet_99 : decode cX8_meet 99 = .ok (.invokestatic 71, 3) := by decide +kernel
theorem dX8_meet_102 : decode cX8_meet 102 = .ok (.ireturn, 1) := by decide +kernel
theorem dX8_meet_24 : decode cX8_meet 24 = .ok (.aload_n 0, 1) := by decide +kernel
theorem dX8_meet_25 : decode cX8_meet 25 = .ok (.getfield 56, 3) := by decide +kernel
theorem dX8_meet_28 : decode cX8_meet 28 = .ok (.aload_n 0, 1) := by decide +kernel
theorem q_4_67 : Cond.fieldLink "BeaconDelay$Ways" 26 "BeaconDelay$Ways" "size" "I" ∈ gw := gw_4 (i := 67) (by decide +kernel) rfl
theorem dX8_meet_29 : decode cX8_meet 29 = .ok (.getfield 26, 3) := by decide +kernel
theorem dX8_meet_32 : decode cX8_meet 32 = .ok (.if_icmp .ge 58, 3) := by decide +kernel
theorem dX8_meet_35 : decode cX8_meet 35 = .ok (.aload_n 0, 1) := by decide +kernel
theorem dX8_meet_36 : decode cX8_meet 36 = .ok (.getfield 29, 3) := by decide +kernel
theorem dX8_meet_39 : decode cX8_meet 39 = .ok (.aload_n 0, 1) := by decide +kernel
theorem dX8_meet_40 : decode cX8_meet 40 = .ok (.getfield 56, 3) := by decide +kernel
theorem dX8_meet_43 : decode cX8_meet 43 = .ok (.iload_n 1, 1) := by decide +kernel
theorem dX8_meet_44 : decode cX8_meet 44 = .ok (.iastore, 1) := by decide +kernel
theorem dX8_meet_45 : decode cX8_meet 45 = .ok (.aload_n 0, 1) := by decide +kernel
theorem q_4_83 : Cond.fieldLink "BeaconDelay$Ways" 41 "BeaconDelay$Ways" "from" "[I" ∈ gw := gw_4 (i := 83) (by decide +kernel) rfl
theorem dX8_meet_46 : decode cX8_meet 46 = .ok (.getfield 41, 3) := by decide +kernel
theorem dX8_meet_49 : decode cX8_meet 49 = .ok (.aload_n 0, 1) := by decide +kernel
theorem dX8_meet_50 : decode cX8_meet 50 = .ok (.getfield 56, 3) := by decide +kernel
theorem dX8_meet_53 : decode cX8_meet 53 = .ok (.iload_n 2, 1) := by decide +kernel
theorem dX8_meet_54 : decode cX8_meet 54 = .ok (.iconst 4, 1) := by decide +kernel
theorem dX8_meet_55 : decode cX8_meet 55 = .ok (.imul, 1) := by decide +kernel
theorem dX8_meet_56 : decode cX8_meet 56 = .ok (.iload_n 3, 1) := by decide +kernel
theorem dX8_meet_57 : decode cX8_meet 57 = .ok (.iadd, 1) := by decide +kernel
theorem dX8_meet_58 : decode cX8_meet 58 = .ok (.iastore, 1) := by decide +kernel
theorem dX8_meet_59 : decode cX8_meet 59 = .ok (.aload_n 0, 1) := by decide +kernel
theorem q_4_72 : Cond.fieldLink "BeaconDelay$Ways" 32 "BeaconDelay$Ways" "level" "[I" ∈ gw := gw_4 (i := 72) (by decide +kernel) rfl
theorem dX8_meet_60 : decode cX8_meet 60 = .ok (.getfield 32, 3) := by decide +kernel
theorem dX8_meet_63 : decode cX8_meet 63 = .ok (.aload_n 0, 1) := by decide +kernel
theorem dX8_meet_64 : decode cX8_meet 64 = .ok (.getfield 56, 3) := by decide +kernel
theorem dX8_meet_67 : decode cX8_meet 67 = .ok (.iload 4, 2) := by decide +kernel
theorem dX8_meet_69 : decode cX8_meet 69 = .ok (.iastore, 1) := by decide +kernel
theorem dX8_meet_70 : decode cX8_meet 70 = .ok (.aload_n 0, 1) := by decide +kernel
theorem dX8_meet_71 : decode cX8_meet 71 = .ok (.dup, 1) := by decide +kernel
theorem dX8_meet_72 : decode cX8_meet 72 = .ok (.getfield 56, 3) := by decide +kernel
theorem dX8_meet_75 : decode cX8_meet 75 = .ok (.iconst 1, 1) := by decide +kernel
theorem dX8_meet_76 : decode cX8_meet 76 = .ok (.iadd, 1) := by decide +kernel
theorem dX8_meet_77 : decode cX8_meet 77 = .ok (.putfield 56, 3) := by decide +kernel
theorem dX8_meet_80 : decode cX8_meet 80 = .ok (.aload_n 0, 1) := by decide +kernel
theorem dX8_meet_81 : decode cX8_meet 81 = .ok (.getfield 38, 3) := by decide +kernel
theorem dX8_meet_84 : decode cX8_meet 84 = .ok (.iload_n 1, 1) := by decide +kernel
theorem dX8_meet_85 : decode cX8_meet 85 = .ok (.aload_n 0, 1) := by decide +kernel
theorem dX8_meet_86 : decode cX8_meet 86 = .ok (.getfield 56, 3) := by decide +kernel
theorem dX8_meet_89 : decode cX8_meet 89 = .ok (.iastore, 1) := by decide +kernel
set_option maxHeartbeats 4000000 in
set_option maxRecDepth 100000 in
theorem k_X8_meet_0 (l : Launch) (V : GV) (n : Nat) (L : Nat) (Yw : Nat → Nat) (y : Nat → Nat) (a1 : Int32) (a2 : Int32) (a3 : Int32) (a4 : Int32) (pYw0_0 : Int32) (wa : Nat) (pYw0_5 : Int32) (pYw0_6 : Int32) (wb : Nat) (pYw0_14 : Int32) (pYw0_15 : Int32) (pYw0_16 : Int32) (fYw1 : Nat → Int32) (fYw2 : Nat → Int32) (fYw4 : Nat → Int32) (fYw5 : Nat → Int32) (fYw6 : Nat → Int32) (hn : 1 ≤ n ∧ n ≤ 3646) (hL : 1 ≤ L ∧ L ≤ 10000) (ba2 : iv 0 ((n : Int) - 1) a2) (ba3 : iv 0 3 a3) (bpYw0_0 : iv 0 4 pYw0_0) (bpYw0_5 : iv 0 ((n : Int)) pYw0_5) (bpYw0_6 : iv 0 4 pYw0_6) (bpYw0_14 : iv 0 4 pYw0_14) (bpYw0_15 : iv 0 9 pYw0_15) (bpYw0_16 : iv 0 ((n : Int)) pYw0_16) (tfYw1 : ∀ j, iv 0 ((L : Int) - 1) (fYw1 j)) (tfYw4 : ∀ j, iv 0 ((n : Int)) (fYw4 j)) (tfYw5 : ∀ j, iv 0 (4 * (n : Int) - 1) (fYw5 j)) (tfYw6 : ∀ j, iv 0 ((n : Int) - 1) (fYw6 j)) (hf0 : WA pYw0_5 fYw4 fYw1) (hf1 : WB pYw0_16 pYw0_6 pYw0_5 fYw6) (hf2 : WC pYw0_5 fYw2) (hf3 : (a4 : Int32).toInt ≤ (pYw0_5 : Int32).toInt) : Ct l V yX8_meet (.code yX8_meet cX8_meet 5 (some .int)) 1 [.ref (Yw 0), .int a1, .int a2, .int a3, .int a4] [(Yw 0, .inr (8, o8_iirrriirrrrrrriii pYw0_0 (nI n) (Yw 1) (Yw 2) wa pYw0_5 pYw0_6 (y 19) (Yw 4) (Yw 5) (Yw 6) (Yw 7) (Yw 8) wb pYw0_14 pYw0_15 pYw0_16)), (Yw 1, aI V n fYw1), (Yw 2, aI V n fYw2), (Yw 4, aI V L fYw4), (Yw 5, aI V n fYw5), (Yw 6, aI V (n * 4) fYw6)] 0 0 (QI V (fun (r : Int32) (w : va_W) => ∃ (v0 : Int32) (g1 : Nat → Int32) (g2 : Nat → Int32) (g3 : Nat → Int32) (g4 : Nat → Int32), iv 0 ((n : Int)) v0 ∧ (∀ j, iv 0 ((L : Int) - 1) (g1 j)) ∧ (∀ j, iv 0 ((n : Int)) (g3 j)) ∧ (∀ j, iv 0 (4 * (n : Int) - 1) (g4 j)) ∧ iv 0 ((n : Int) - 1) r ∧ (WA v0 g3 g1) ∧ (WB pYw0_16 pYw0_6 v0 fYw6) ∧ (WC v0 g2) ∧ (0 < (v0 : Int32).toInt → (r : Int32).toInt < (v0 : Int32).toInt) ∧ ((pYw0_5 : Int32).toInt ≤ (v0 : Int32).toInt) ∧ w = [(Yw 0, .inr (8, o8_iirrriirrrrrrriii pYw0_0 (nI n) (Yw 1) (Yw 2) wa v0 pYw0_6 (y 19) (Yw 4) (Yw 5) (Yw 6) (Yw 7) (Yw 8) wb pYw0_14 pYw0_15 pYw0_16)), (Yw 1, aI V n g1), (Yw 2, aI V n g2), (Yw 4, aI V L g3), (Yw 5, aI V n g4), (Yw 6, aI V (n * 4) fYw6)])) := by
  refine Ct.of (by decide) (Nat.le_of_ble_eq_true rfl) (fun p e s m below meth c A ls hx hb hr hml hown hlk hnm hg hP hK hD hE hA hS hl => ?_)
  have hl : lv_has ls 5 [(0, .ref (Yw 0)), (1, .int a1), (2, .int a2), (3, .int a3), (4, .int a4)] := hl
  refine lv_iload_n hx hb dX8_meet_0 rfl (lv_at hl 1 rfl) ?_
  refine lv_if_lt (tgt := 13) hx hb dX8_meet_1 (by decide) (fun c_1 => ?_) (fun c_1 => ?_)
  · have b_2 : iv (-2147483648) (-1) a1 := iv_l1 c_1 (iv_top a1) (iv_c (0 : Int32) (a := 0) (b := 0) (by decide)) (by first | decide | omega)
    refine lv_iconst (v := 0) hx hb dX8_meet_13 (by decide) ?_
    exact fiI hx hb hr hlk hK hP hD hS dX8_meet_14 (Nat.le_of_ble_eq_true rfl) (Nat.le_of_ble_eq_true rfl) (⟨pYw0_5, fYw1, fYw2, fYw4, fYw5, bpYw0_5, tfYw1, tfYw4, tfYw5, (iv_w (iv_c (0 : Int32) (a := 0) (b := 0) (by decide)) (by first | decide | omega)), hf0, hf1, hf2, (fun q9 => q9), (Int.le_refl _), rfl⟩)
  · have b_3 : iv 0 2147483647 a1 := iv_e2 (Int32.not_lt.mp c_1) (iv_c (0 : Int32) (a := 0) (b := 0) (by decide)) (iv_top a1) (by first | decide | omega)
    refine lv_iload_n hx hb dX8_meet_4 rfl (lv_at hl 1 rfl) ?_
    refine lv_aload_n hx hb dX8_meet_5 rfl (lv_at hl 0 rfl) ?_
    refine va_get (ci := 8) (v := .ref (Yw 4)) (C := RX8) (T := TX8) (N := 17) hx hb hg inX8 hown hK hP 0 rfl rfl 8 (by decide) (hg _ q_4_82) (fun _ h9 => h9) rfl dX8_meet_6 ?_
    refine va_alen (v := (nI L)) hx hb hK hP 3 0 rfl rfl rfl dX8_meet_9 ?_
    refine lv_icmp_lt (tgt := 15) hx hb dX8_meet_10 (by decide) (fun c_4 => ?_) (fun c_4 => ?_)
    · have b_5 : iv 0 ((L : Int) - 1) a1 := iv_l1 c_4 b_3 (iv_nI (by omega)) (by first | decide | omega)
      refine lv_aload_n hx hb dX8_meet_15 rfl (lv_at hl 0 rfl) ?_
      refine va_get (ci := 8) (v := .ref (Yw 4)) (C := RX8) (T := TX8) (N := 17) hx hb hg inX8 hown hK hP 0 rfl rfl 8 (by decide) (hg _ q_4_82) (fun _ h9 => h9) rfl dX8_meet_16 ?_
      refine lv_iload_n hx hb dX8_meet_19 rfl (lv_at hl 1 rfl) ?_
      refine va_iald hx hb hK hP 3 0 rfl rfl (iv_in b_5 (by first | decide | omega)) dX8_meet_20 ?_
      refine lv_topi (fun x_6 ex_6 => ?_)
      have bx_6 : iv 0 ((n : Int)) x_6 := by rw [ex_6]; exact tfYw4 _
      refine lv_if_ne (tgt := 90) hx hb dX8_meet_21 (by decide) (fun c_7 => ?_) (fun c_7 => ?_)
      · have b_8 : iv 1 ((n : Int)) x_6 := iv_n0 c_7 bx_6 (iv_c (0 : Int32) (a := 0) (b := 0) (by decide)) (by first | decide | omega)
        refine lv_iconst (v := 0) hx hb dX8_meet_90 (by decide) ?_
        refine lv_aload_n hx hb dX8_meet_91 rfl (lv_at hl 0 rfl) ?_
        refine va_get (ci := 8) (v := .ref (Yw 4)) (C := RX8) (T := TX8) (N := 17) hx hb hg inX8 hown hK hP 0 rfl rfl 8 (by decide) (hg _ q_4_82) (fun _ h9 => h9) rfl dX8_meet_92 ?_
        refine lv_iload_n hx hb dX8_meet_95 rfl (lv_at hl 1 rfl) ?_
        refine va_iald hx hb hK hP 3 0 rfl rfl (iv_in b_5 (by first | decide | omega)) dX8_meet_96 ?_
        refine tpi (y := x_6) ex_6.symm ?_
        refine lv_iconst (v := 1) hx hb dX8_meet_97 (by decide) ?_
        refine lv_isub hx hb dX8_meet_98 ?_
        refine lv_topi (fun x_9 ex_9 => ?_)
        have bx_9 : iv 0 ((n : Int) - 1) x_9 := by rw [ex_9]; exact iv_sub b_8 (iv_c (1 : Int32) (a := 1) (b := 1) (by decide)) (by first | decide | omega)
        refine va_mmax hx hb (hml.trans hl.1.symm) hown (hg _ q_4_131) (hg _ q_2_102) (hg _ q_1_10) (hg _ q_2_103) (Nat.le_of_ble_eq_true rfl) (Nat.le_of_ble_eq_true rfl) (Nat.le_of_ble_eq_true rfl) (Nat.le_of_ble_eq_true rfl) dX8_meet_99 ?_
        refine lv_topi (fun x_10 ex_10 => ?_)
        have bx_10 : iv 0 ((n : Int) - 1) x_10 := by rw [ex_10]; exact iv_max (iv_c (0 : Int32) (a := 0) (b := 0) (by decide)) bx_9 (by first | decide | omega)
        exact fiI hx hb hr hlk hK hP hD hS dX8_meet_102 (Nat.le_of_ble_eq_true rfl) (Nat.le_of_ble_eq_true rfl) (⟨pYw0_5, fYw1, fYw2, fYw4, fYw5, bpYw0_5, tfYw1, tfYw4, tfYw5, bx_10, hf0, hf1, hf2, (meet_r hf0 tfYw4 ex_6 ex_9 ex_10), (Int.le_refl _), rfl⟩)
      · have b_11 : iv 0 0 x_6 := iv_q c_7 (iv_c (0 : Int32) (a := 0) (b := 0) (by decide))
        refine lv_aload_n hx hb dX8_meet_24 rfl (lv_at hl 0 rfl) ?_
        refine va_get (ci := 8) (v := .int pYw0_5) (C := RX8) (T := TX8) (N := 17) hx hb hg inX8 hown hK hP 0 rfl rfl 5 (by decide) (hg _ q_4_76) (fun _ h9 => h9) rfl dX8_meet_25 ?_
        refine lv_aload_n hx hb dX8_meet_28 rfl (lv_at hl 0 rfl) ?_
        refine va_get (ci := 8) (v := .int (nI n)) (C := RX8) (T := TX8) (N := 17) hx hb hg inX8 hown hK hP 0 rfl rfl 1 (by decide) (hg _ q_4_67) (fun _ h9 => h9) rfl dX8_meet_29 ?_
        refine lv_icmp_ge (tgt := 90) hx hb dX8_meet_32 (by decide) (fun c_12 => ?_) (fun c_12 => ?_)
        · have b_13 : iv ((n : Int)) ((n : Int)) pYw0_5 := iv_e2 c_12 (iv_nI (by omega)) bpYw0_5 (by first | decide | omega)
          refine lv_iconst (v := 0) hx hb dX8_meet_90 (by decide) ?_
          refine lv_aload_n hx hb dX8_meet_91 rfl (lv_at hl 0 rfl) ?_
          refine va_get (ci := 8) (v := .ref (Yw 4)) (C := RX8) (T := TX8) (N := 17) hx hb hg inX8 hown hK hP 0 rfl rfl 8 (by decide) (hg _ q_4_82) (fun _ h9 => h9) rfl dX8_meet_92 ?_
          refine lv_iload_n hx hb dX8_meet_95 rfl (lv_at hl 1 rfl) ?_
          refine va_iald hx hb hK hP 3 0 rfl rfl (iv_in b_5 (by first | decide | omega)) dX8_meet_96 ?_
          refine tpi (y := x_6) ex_6.symm ?_
          refine lv_iconst (v := 1) hx hb dX8_meet_97 (by decide) ?_
          refine lv_isub hx hb dX8_meet_98 ?_
          refine lv_topi (fun x_14 ex_14 => ?_)
          have bx_14 : iv (-1) (-1) x_14 := by rw [ex_14]; exact iv_sub b_11 (iv_c (1 : Int32) (a := 1) (b := 1) (by decide)) (by first | decide | omega)
          refine va_mmax hx hb (hml.trans hl.1.symm) hown (hg _ q_4_131) (hg _ q_2_102) (hg _ q_1_10) (hg _ q_2_103) (Nat.le_of_ble_eq_true rfl) (Nat.le_of_ble_eq_true rfl) (Nat.le_of_ble_eq_true rfl) (Nat.le_of_ble_eq_true rfl) dX8_meet_99 ?_
          refine lv_topi (fun x_15 ex_15 => ?_)
          have bx_15 : iv 0 0 x_15 := by rw [ex_15]; exact iv_max (iv_c (0 : Int32) (a := 0) (b := 0) (by decide)) bx_14 (by first | decide | omega)
          exact fiI hx hb hr hlk hK hP hD hS dX8_meet_102 (Nat.le_of_ble_eq_true rfl) (Nat.le_of_ble_eq_true rfl) (⟨pYw0_5, fYw1, fYw2, fYw4, fYw5, (iv_w b_13 (by first | decide | omega)), tfYw1, tfYw4, tfYw5, (iv_w bx_15 (by first | decide | omega)), hf0, hf1, hf2, (meet_r hf0 tfYw4 ex_6 ex_14 ex_15), (Int.le_refl _), rfl⟩)
        · have b_16 : iv 0 ((n : Int) - 1) pYw0_5 := iv_l1 (Int32.not_le.mp c_12) bpYw0_5 (iv_nI (by omega)) (by first | decide | omega)
          refine lv_aload_n hx hb dX8_meet_35 rfl (lv_at hl 0 rfl) ?_
          refine va_get (ci := 8) (v := .ref (Yw 1)) (C := RX8) (T := TX8) (N := 17) hx hb hg inX8 hown hK hP 0 rfl rfl 2 (by decide) (hg _ q_4_69) (fun _ h9 => h9) rfl dX8_meet_36 ?_
          refine lv_aload_n hx hb dX8_meet_39 rfl (lv_at hl 0 rfl) ?_
          refine va_get (ci := 8) (v := .int pYw0_5) (C := RX8) (T := TX8) (N := 17) hx hb hg inX8 hown hK hP 0 rfl rfl 5 (by decide) (hg _ q_4_76) (fun _ h9 => h9) rfl dX8_meet_40 ?_
          refine lv_iload_n hx hb dX8_meet_43 rfl (lv_at hl 1 rfl) ?_
          refine va_iast hx hb hK hP hD hS 1 0 rfl rfl (iv_in b_16 (by first | decide | omega)) dX8_meet_44 (fun H locs hP hD hS => ?_)
          obtain ⟨f_17, ef_17, tf_17, hP, hD⟩ : ∃ f_17 : Nat → Int32, f_17 = (upd fYw1 (pYw0_5 : Int32).toNatClampNeg a1) ∧ (∀ j, iv 0 ((L : Int) - 1) (f_17 j)) ∧ va_P V.1 vwCl [(Yw 0, .inr (8, o8_iirrriirrrrrrriii pYw0_0 (nI n) (Yw 1) (Yw 2) wa pYw0_5 pYw0_6 (y 19) (Yw 4) (Yw 5) (Yw 6) (Yw 7) (Yw 8) wb pYw0_14 pYw0_15 pYw0_16)), (Yw 1, aI V n f_17), (Yw 2, aI V n fYw2), (Yw 4, aI V L fYw4), (Yw 5, aI V n fYw5), (Yw 6, aI V (n * 4) fYw6)] H ∧ va_D A [(Yw 0, .inr (8, o8_iirrriirrrrrrriii pYw0_0 (nI n) (Yw 1) (Yw 2) wa pYw0_5 pYw0_6 (y 19) (Yw 4) (Yw 5) (Yw 6) (Yw 7) (Yw 8) wb pYw0_14 pYw0_15 pYw0_16)), (Yw 1, aI V n f_17), (Yw 2, aI V n fYw2), (Yw 4, aI V L fYw4), (Yw 5, aI V n fYw5), (Yw 6, aI V (n * 4) fYw6)] := ⟨_, rfl, ivU tfYw1 _ b_5, hP, hD⟩
          refine lv_aload_n hx hb dX8_meet_45 rfl (lv_at hl 0 rfl) ?_
          refine va_get (ci := 8) (v := .ref (Yw 5)) (C := RX8) (T := TX8) (N := 17) hx hb hg inX8 hown hK hP 0 rfl rfl 9 (by decide) (hg _ q_4_83) (fun _ h9 => h9) rfl dX8_meet_46 ?_
          refine lv_aload_n hx hb dX8_meet_49 rfl (lv_at hl 0 rfl) ?_
          refine va_get (ci := 8) (v := .int pYw0_5) (C := RX8) (T := TX8) (N := 17) hx hb hg inX8 hown hK hP 0 rfl rfl 5 (by decide) (hg _ q_4_76) (fun _ h9 => h9) rfl dX8_meet_50 ?_
          refine lv_iload_n hx hb dX8_meet_53 rfl (lv_at hl 2 rfl) ?_
          refine lv_iconst (v := 4) hx hb dX8_meet_54 (by decide) ?_
          refine lv_imul hx hb dX8_meet_55 ?_
          refine lv_topi (fun x_18 ex_18 => ?_)
          have bx_18 : iv 0 (4 * (n : Int) - 4) x_18 := by rw [ex_18]; exact iv_mulc ba2 (iv_c (4 : Int32) (a := 4) (b := 4) (by decide)) (by first | decide | omega)
          refine lv_iload_n hx hb dX8_meet_56 rfl (lv_at hl 3 rfl) ?_
          refine lv_iadd hx hb dX8_meet_57 ?_
          refine lv_topi (fun x_19 ex_19 => ?_)
          have bx_19 : iv 0 (4 * (n : Int) - 1) x_19 := by rw [ex_19]; exact iv_add bx_18 ba3 (by first | decide | omega)
          refine va_iast hx hb hK hP hD hS 4 0 rfl rfl (iv_in b_16 (by first | decide | omega)) dX8_meet_58 (fun H locs hP hD hS => ?_)
          obtain ⟨f_20, tf_20, hP, hD⟩ : ∃ f_20 : Nat → Int32, (∀ j, iv 0 (4 * (n : Int) - 1) (f_20 j)) ∧ va_P V.1 vwCl [(Yw 0, .inr (8, o8_iirrriirrrrrrriii pYw0_0 (nI n) (Yw 1) (Yw 2) wa pYw0_5 pYw0_6 (y 19) (Yw 4) (Yw 5) (Yw 6) (Yw 7) (Yw 8) wb pYw0_14 pYw0_15 pYw0_16)), (Yw 1, aI V n f_17), (Yw 2, aI V n fYw2), (Yw 4, aI V L fYw4), (Yw 5, aI V n f_20), (Yw 6, aI V (n * 4) fYw6)] H ∧ va_D A [(Yw 0, .inr (8, o8_iirrriirrrrrrriii pYw0_0 (nI n) (Yw 1) (Yw 2) wa pYw0_5 pYw0_6 (y 19) (Yw 4) (Yw 5) (Yw 6) (Yw 7) (Yw 8) wb pYw0_14 pYw0_15 pYw0_16)), (Yw 1, aI V n f_17), (Yw 2, aI V n fYw2), (Yw 4, aI V L fYw4), (Yw 5, aI V n f_20), (Yw 6, aI V (n * 4) fYw6)] := ⟨_, ivU tfYw5 _ bx_19, hP, hD⟩
          refine lv_aload_n hx hb dX8_meet_59 rfl (lv_at hl 0 rfl) ?_
          refine va_get (ci := 8) (v := .ref (Yw 2)) (C := RX8) (T := TX8) (N := 17) hx hb hg inX8 hown hK hP 0 rfl rfl 3 (by decide) (hg _ q_4_72) (fun _ h9 => h9) rfl dX8_meet_60 ?_
          refine lv_aload_n hx hb dX8_meet_63 rfl (lv_at hl 0 rfl) ?_
          refine va_get (ci := 8) (v := .int pYw0_5) (C := RX8) (T := TX8) (N := 17) hx hb hg inX8 hown hK hP 0 rfl rfl 5 (by decide) (hg _ q_4_76) (fun _ h9 => h9) rfl dX8_meet_64 ?_
          refine lv_iload hx hb dX8_meet_67 (lv_at hl 4 rfl) ?_
          refine va_iast hx hb hK hP hD hS 2 0 rfl rfl (iv_in b_16 (by first | decide | omega)) dX8_meet_69 (fun H locs hP hD hS => ?_)
          obtain ⟨f_21, ef_21, hP, hD⟩ : ∃ f_21 : Nat → Int32, f_21 = (upd fYw2 (pYw0_5 : Int32).toNatClampNeg a4) ∧ va_P V.1 vwCl [(Yw 0, .inr (8, o8_iirrriirrrrrrriii pYw0_0 (nI n) (Yw 1) (Yw 2) wa pYw0_5 pYw0_6 (y 19) (Yw 4) (Yw 5) (Yw 6) (Yw 7) (Yw 8) wb pYw0_14 pYw0_15 pYw0_16)), (Yw 1, aI V n f_17), (Yw 2, aI V n f_21), (Yw 4, aI V L fYw4), (Yw 5, aI V n f_20), (Yw 6, aI V (n * 4) fYw6)] H ∧ va_D A [(Yw 0, .inr (8, o8_iirrriirrrrrrriii pYw0_0 (nI n) (Yw 1) (Yw 2) wa pYw0_5 pYw0_6 (y 19) (Yw 4) (Yw 5) (Yw 6) (Yw 7) (Yw 8) wb pYw0_14 pYw0_15 pYw0_16)), (Yw 1, aI V n f_17), (Yw 2, aI V n f_21), (Yw 4, aI V L fYw4), (Yw 5, aI V n f_20), (Yw 6, aI V (n * 4) fYw6)] := ⟨_, rfl, hP, hD⟩
          refine lv_aload_n hx hb dX8_meet_70 rfl (lv_at hl 0 rfl) ?_
          refine lv_dup hx hb dX8_meet_71 rfl ?_
          refine va_get (ci := 8) (v := .int pYw0_5) (C := RX8) (T := TX8) (N := 17) hx hb hg inX8 hown hK hP 0 rfl rfl 5 (by decide) (hg _ q_4_76) (fun _ h9 => h9) rfl dX8_meet_72 ?_
          refine lv_iconst (v := 1) hx hb dX8_meet_75 (by decide) ?_
          refine lv_iadd hx hb dX8_meet_76 ?_
          refine lv_topi (fun x_22 ex_22 => ?_)
          have bx_22 : iv 1 ((n : Int)) x_22 := by rw [ex_22]; exact iv_add b_16 (iv_c (1 : Int32) (a := 1) (b := 1) (by decide)) (by first | decide | omega)
          refine va_put (ci := 8) (v := .int x_22) (ty := .int) (C := RX8) (T := TX8) (N := 17) hx hb hg inX8 tyX8 tyX8_ok nmX8 hown hK hP hD hS 0 rfl rfl 5 (by decide) (hg _ q_4_76) (fun _ h9 => h9) rfl (by decide +kernel) rfl rfl (Nat.le_of_ble_eq_true rfl) dX8_meet_77 (fun H locs hP hD hS => ?_)
          have hP : va_P V.1 vwCl [(Yw 0, .inr (8, o8_iirrriirrrrrrriii pYw0_0 (nI n) (Yw 1) (Yw 2) wa x_22 pYw0_6 (y 19) (Yw 4) (Yw 5) (Yw 6) (Yw 7) (Yw 8) wb pYw0_14 pYw0_15 pYw0_16)), (Yw 1, aI V n f_17), (Yw 2, aI V n f_21), (Yw 4, aI V L fYw4), (Yw 5, aI V n f_20), (Yw 6, aI V (n * 4) fYw6)] H := hP
          have hD := cpD hP hD
          refine lv_aload_n hx hb dX8_meet_80 rfl (lv_at hl 0 rfl) ?_
          refine va_get (ci := 8) (v := .ref (Yw 4)) (C := RX8) (T := TX8) (N := 17) hx hb hg inX8 hown hK hP 0 rfl rfl 8 (by decide) (hg _ q_4_82) (fun _ h9 => h9) rfl dX8_meet_81 ?_
          refine lv_iload_n hx hb dX8_meet_84 rfl (lv_at hl 1 rfl) ?_
          refine lv_aload_n hx hb dX8_meet_85 rfl (lv_at hl 0 rfl) ?_
          refine va_get (ci := 8) (v := .int x_22) (C := RX8) (T := TX8) (N := 17) hx hb hg inX8 hown hK hP 0 rfl rfl 5 (by decide) (hg _ q_4_76) (fun _ h9 => h9) rfl dX8_meet_86 ?_
          refine va_iast hx hb hK hP hD hS 3 0 rfl rfl (iv_in b_5 (by first | decide | omega)) dX8_meet_89 (fun H locs hP hD hS => ?_)
          obtain ⟨f_23, ef_23, tf_23, hP, hD⟩ : ∃ f_23 : Nat → Int32, f_23 = (upd fYw4 (a1 : Int32).toNatClampNeg x_22) ∧ (∀ j, iv 0 ((n : Int)) (f_23 j)) ∧ va_P V.1 vwCl [(Yw 0, .inr (8, o8_iirrriirrrrrrriii pYw0_0 (nI n) (Yw 1) (Yw 2) wa x_22 pYw0_6 (y 19) (Yw 4) (Yw 5) (Yw 6) (Yw 7) (Yw 8) wb pYw0_14 pYw0_15 pYw0_16)), (Yw 1, aI V n f_17), (Yw 2, aI V n f_21), (Yw 4, aI V L f_23), (Yw 5, aI V n f_20), (Yw 6, aI V (n * 4) fYw6)] H ∧ va_D A [(Yw 0, .inr (8, o8_iirrriirrrrrrriii pYw0_0 (nI n) (Yw 1) (Yw 2) wa x_22 pYw0_6 (y 19) (Yw 4) (Yw 5) (Yw 6) (Yw 7) (Yw 8) wb pYw0_14 pYw0_15 pYw0_16)), (Yw 1, aI V n f_17), (Yw 2, aI V n f_21), (Yw 4, aI V L f_23), (Yw 5, aI V n f_20), (Yw 6, aI V (n * 4) fYw6)] := ⟨_, rfl, ivU tfYw4 _ (iv_w bx_22 (by first | decide | omega)), hP, hD⟩
          refine lv_iconst (v := 0) hx hb dX8_meet_90 (by decide) ?_
          refine lv_aload_n hx hb dX8_meet_91 rfl (lv_at hl 0 rfl) ?_
          refine va_get (ci := 8) (v := .ref (Yw 4)) (C := RX8) (T := TX8) (N := 17) hx hb hg inX8 hown hK hP 0 rfl rfl 8 (by decide) (hg _ q_4_82) (fun _ h9 => h9) rfl dX8_meet_92 ?_
          refine lv_iload_n hx hb dX8_meet_95 rfl (lv_at hl 1 rfl) ?_
          refine va_iald hx hb hK hP 3 0 rfl rfl (iv_in b_5 (by first | decide | omega)) dX8_meet_96 ?_
          refine lv_topi (fun x_24 ex_24 => ?_)
          have bx_24 : iv 0 ((n : Int)) x_24 := by rw [ex_24]; exact tf_23 _
          refine lv_iconst (v := 1) hx hb dX8_meet_97 (by decide) ?_
          refine lv_isub hx hb dX8_meet_98 ?_
          refine lv_topi (fun x_25 ex_25 => ?_)
          have bx_25 : iv (-1) ((n : Int) - 1) x_25 := by rw [ex_25]; exact iv_sub bx_24 (iv_c (1 : Int32) (a := 1) (b := 1) (by decide)) (by first | decide | omega)
          refine va_mmax hx hb (hml.trans hl.1.symm) hown (hg _ q_4_131) (hg _ q_2_102) (hg _ q_1_10) (hg _ q_2_103) (Nat.le_of_ble_eq_true rfl) (Nat.le_of_ble_eq_true rfl) (Nat.le_of_ble_eq_true rfl) (Nat.le_of_ble_eq_true rfl) dX8_meet_99 ?_
          refine lv_topi (fun x_26 ex_26 => ?_)
          have bx_26 : iv 0 ((n : Int) - 1) x_26 := by rw [ex_26]; exact iv_max (iv_c (0 : Int32) (a := 0) (b := 0) (by decide)) bx_25 (by first | decide | omega)
          exact fiI hx hb hr hlk hK hP hD hS dX8_meet_102 (Nat.le_of_ble_eq_true rfl) (Nat.le_of_ble_eq_true rfl) (⟨x_22, f_17, f_21, f_23, f_20, (iv_w bx_22 (by first | decide | omega)), tf_17, tf_23, tf_20, bx_26, (WA_meet hf0 tfYw4 ex_22 b_16 (by omega) b_5 ef_23 ef_17), (WB_meet hf1 ex_22 b_16 (by omega)), (WC_meet hf2 ex_22 b_16 (by omega) ef_21 hf3), (meet_r (WA_meet hf0 tfYw4 ex_22 b_16 (by omega) b_5 ef_23 ef_17) tf_23 ex_24 ex_25 ex_26), (by have q9 := inc_toInt ex_22 b_16 (by omega); omega), rfl⟩)
    · have b_27 : iv ((L : Int)) 2147483647 a1 := iv_e2 (Int32.not_lt.mp c_4) (iv_nI (by omega)) b_3 (by first | decide | omega)
      refine lv_iconst (v := 0) hx hb dX8_meet_13 (by decide) ?_
      exact fiI hx hb hr hlk hK hP hD hS dX8_meet_14 (Nat.le_of_ble_eq_true rfl) (Nat.le_of_ble_eq_true rfl) (⟨pYw0_5, fYw1, fYw2, fYw4, fYw5, bpYw0_5, tfYw1, tfYw4, tfYw5, (iv_w (iv_c (0 : Int32) (a := 0) (b := 0) (by decide)) (by first | decide | omega)), hf0, hf1, hf2, (fun q9 => q9), (Int.le_refl _), rfl⟩)
theorem dX8_begin_0 : decode cX8_begin 0 = .ok (.aload_n 0, 1) := by decide +kernel
theorem dX8_begin_1 : decode cX8_begin 1 = .ok (.getfield 56, 3) := by decide +kernel
theorem dX8_begin_4 : decode cX8_begin 4 = .ok (.ifCond .le 22, 3) := by decide +kernel
theorem dX8_begin_26 : decode cX8_begin 26 = .ok (.aload_n 0, 1) := by decide +kernel
theorem q_3_113 : Cond.code yX8_forget prog_10_method_2_code 2 none ∈ gw := gw_3 (i := 113) (rfl) rfl
theorem q_1_18 : Cond.initialized "BeaconDelay$Ways" ∈ gw := gw_1 (i := 18) (by decide +kernel) rfl
theorem q_3_111 : Cond.instanceMethod yX8_forget ∈ gw := gw_3 (i := 111) (by decide +kernel) rfl
theorem q_3_112 : Cond.selects "BeaconDelay$Ways" yX8_forget yX8_forget ∈ gw := gw_3 (i := 112) (by decide +kernel) rfl
theorem mt_X8_forget : MtV yX8_forget cX8_forget 2 none 0 := ⟨⟨q_3_113, q_1_18, by decide +kernel, by decide +kernel, by decide +kernel⟩, q_3_111, q_3_112⟩
theorem q_4_130 : Cond.methodLink "BeaconDelay$Ways" 65 yX8_forget ∈ gw := gw_4 (i := 130) (by decide +kernel) rfl
theorem dX8_begin_27 : decode cX8_begin 27 = .ok (.invokevirtual 65, 3) := by decide +kernel
theorem dX8_begin_30 : decode cX8_begin 30 = .ok (.aload_n 0, 1) := by decide +kernel
theorem dX8_begin_31 : decode cX8_begin 31 = .ok (.iload_n 1, 1) := by decide +kernel
theorem q_4_88 : Cond.fieldLink "BeaconDelay$Ways" 68 "BeaconDelay$Ways" "hills" "I" ∈ gw := gw_4 (i := 88) (by decide +kernel) rfl
theorem dX8_begin_32 : decode cX8_begin 32 = .ok (.putfield 68, 3) := by decide +kernel
theorem dX8_begin_35 : decode cX8_begin 35 = .ok (.aload_n 0, 1) := by decide +kernel
theorem dX8_begin_36 : decode cX8_begin 36 = .ok (.iconst 1, 1) := by decide +kernel
theorem dX8_begin_37 : decode cX8_begin 37 = .ok (.iload_n 1, 1) := by decide +kernel
theorem dX8_begin_38 : decode cX8_begin 38 = .ok (.invokestatic 71, 3) := by decide +kernel
theorem q_4_80 : Cond.fieldLink "BeaconDelay$Ways" 77 "BeaconDelay$Ways" "deeds" "I" ∈ gw := gw_4 (i := 80) (by decide +kernel) rfl
theorem dX8_begin_41 : decode cX8_begin 41 = .ok (.putfield 77, 3) := by decide +kernel
theorem dX8_begin_44 : decode cX8_begin 44 = .ok (.aload_n 0, 1) := by decide +kernel
theorem dX8_begin_45 : decode cX8_begin 45 = .ok (.iload_n 3, 1) := by decide +kernel
theorem q_4_89 : Cond.fieldLink "BeaconDelay$Ways" 62 "BeaconDelay$Ways" "weather" "I" ∈ gw := gw_4 (i := 89) (by decide +kernel) rfl
theorem dX8_begin_46 : decode cX8_begin 46 = .ok (.putfield 62, 3) := by decide +kernel
theorem dX8_begin_49 : decode cX8_begin 49 = .ok (.aload_n 0, 1) := by decide +kernel
theorem dX8_begin_50 : decode cX8_begin 50 = .ok (.iload_n 2, 1) := by decide +kernel
theorem dX8_begin_51 : decode cX8_begin 51 = .ok (.iconst 0, 1) := by decide +kernel
theorem dX8_begin_52 : decode cX8_begin 52 = .ok (.iconst 0, 1) := by decide +kernel
theorem dX8_begin_53 : decode cX8_begin 53 = .ok (.iconst 0, 1) := by decide +kernel
theorem q_4_135 : Cond.code yX8_meet prog_10_method_4_code 5 (some FieldType.int) ∈ gw := gw_4 (i := 135) (rfl) rfl
theorem q_4_134 : Cond.instanceMethod yX8_meet ∈ gw := gw_4 (i := 134) (by decide +kernel) rfl
theorem q_s_33 : Cond.selects "BeaconDelay$Ways" yX8_meet yX8_meet ∈ gw := gw_s (i := 33) (by decide +kernel) rfl
theorem mt_X8_meet : MtV yX8_meet cX8_meet 5 (some .int) 4 := ⟨⟨q_4_135, q_1_18, by decide +kernel, by decide +kernel, by decide +kernel⟩, q_4_134, q_s_33⟩
theorem q_4_132 : Cond.methodLink "BeaconDelay$Ways" 80 yX8_meet ∈ gw := gw_4 (i := 132) (by decide +kernel) rfl
theorem dX8_begin_54 : decode cX8_begin 54 = .ok (.invokevirtual 80, 3) := by decide +kernel
theorem dX8_begin_57 : decode cX8_begin 57 = .ok (.pop, 1) := by decide +kernel
theorem dX8_begin_58 : decode cX8_begin 58 = .ok (.return_, 1) := by decide +kernel
theorem dX8_begin_7 : decode cX8_begin 7 = .ok (.aload_n 0, 1) := by decide +kernel
theorem dX8_begin_8 : decode cX8_begin 8 = .ok (.getfield 29, 3) := by decide +kernel
theorem dX8_begin_11 : decode cX8_begin 11 = .ok (.iconst 0, 1) := by decide +kernel
theorem dX8_begin_12 : decode cX8_begin 12 = .ok (.iaload, 1) := by decide +kernel
theorem dX8_begin_13 : decode cX8_begin 13 = .ok (.iload_n 2, 1) := by decide +kernel
theorem dX8_begin_14 : decode cX8_begin 14 = .ok (.if_icmp .ne 12, 3) := by decide +kernel
theorem dX8_begin_17 : decode cX8_begin 17 = .ok (.aload_n 0, 1) := by decide +kernel
theorem dX8_begin_18 : decode cX8_begin 18 = .ok (.getfield 62, 3) := by decide +kernel
theorem dX8_begin_21 : decode cX8_begin 21 = .ok (.iload_n 3, 1) := by decide +kernel
theorem dX8_begin_22 : decode cX8_begin 22 = .ok (.if_icmp .ne 4, 3) := by decide +kernel
theorem dX8_begin_25 : decode cX8_begin 25 = .ok (.return_, 1) := by decide +kernel
set_option maxHeartbeats 4000000 in
set_option maxRecDepth 100000 in
theorem k_X8_begin_0 (l : Launch) (V : GV) (n : Nat) (L : Nat) (Yw : Nat → Nat) (y : Nat → Nat) (a1 : Int32) (a2 : Int32) (a3 : Int32) (pYw0_0 : Int32) (wa : Nat) (pYw0_5 : Int32) (pYw0_6 : Int32) (wb : Nat) (pYw0_14 : Int32) (pYw0_15 : Int32) (pYw0_16 : Int32) (fYw1 : Nat → Int32) (fYw2 : Nat → Int32) (fYw4 : Nat → Int32) (fYw5 : Nat → Int32) (fYw6 : Nat → Int32) (hn : 1 ≤ n ∧ n ≤ 3646) (hL : 1 ≤ L ∧ L ≤ 10000) (ba1 : iv 0 4 a1) (ba2 : iv 0 9999 a2) (ba3 : iv 0 9 a3) (bpYw0_0 : iv 0 4 pYw0_0) (bpYw0_5 : iv 0 ((n : Int)) pYw0_5) (bpYw0_6 : iv 0 4 pYw0_6) (bpYw0_14 : iv 0 4 pYw0_14) (bpYw0_15 : iv 0 9 pYw0_15) (bpYw0_16 : iv 0 ((n : Int)) pYw0_16) (tfYw1 : ∀ j, iv 0 ((L : Int) - 1) (fYw1 j)) (tfYw4 : ∀ j, iv 0 ((n : Int)) (fYw4 j)) (tfYw5 : ∀ j, iv 0 (4 * (n : Int) - 1) (fYw5 j)) (tfYw6 : ∀ j, iv 0 ((n : Int) - 1) (fYw6 j)) (hf0 : WA pYw0_5 fYw4 fYw1) (hf1 : WB pYw0_16 pYw0_6 pYw0_5 fYw6) (hf2 : WC pYw0_5 fYw2) : Ct l V yX8_begin (.code yX8_begin cX8_begin 4 none) 2 [.ref (Yw 0), .int a1, .int a2, .int a3] [(Yw 0, .inr (8, o8_iirrriirrrrrrriii pYw0_0 (nI n) (Yw 1) (Yw 2) wa pYw0_5 pYw0_6 (y 19) (Yw 4) (Yw 5) (Yw 6) (Yw 7) (Yw 8) wb pYw0_14 pYw0_15 pYw0_16)), (Yw 1, aI V n fYw1), (Yw 2, aI V n fYw2), (Yw 4, aI V L fYw4), (Yw 5, aI V n fYw5), (Yw 6, aI V (n * 4) fYw6)] 0 0 (QV V (fun (w : va_W) => ∃ (v0 : Int32) (v1 : Int32) (v2 : Int32) (v3 : Int32) (v4 : Int32) (g5 : Nat → Int32) (g6 : Nat → Int32) (g7 : Nat → Int32) (g8 : Nat → Int32), iv 0 ((n : Int)) v0 ∧ iv 0 4 v1 ∧ iv 0 4 v2 ∧ iv 0 9 v3 ∧ iv 0 ((n : Int)) v4 ∧ (∀ j, iv 0 ((L : Int) - 1) (g5 j)) ∧ (∀ j, iv 0 ((n : Int)) (g7 j)) ∧ (∀ j, iv 0 (4 * (n : Int) - 1) (g8 j)) ∧ (WA v0 g7 g5) ∧ (WB v4 v1 v0 fYw6) ∧ (WC v0 g6) ∧ w = [(Yw 0, .inr (8, o8_iirrriirrrrrrriii pYw0_0 (nI n) (Yw 1) (Yw 2) wa v0 v1 (y 19) (Yw 4) (Yw 5) (Yw 6) (Yw 7) (Yw 8) wb v2 v3 v4)), (Yw 1, aI V n g5), (Yw 2, aI V n g6), (Yw 4, aI V L g7), (Yw 5, aI V n g8), (Yw 6, aI V (n * 4) fYw6)])) := by
  refine Ct.of (by decide) (Nat.le_of_ble_eq_true rfl) (fun p e s m below meth c A ls hx hb hr hml hown hlk hnm hg hP hK hD hE hA hS hl => ?_)
  have hl : lv_has ls 4 [(0, .ref (Yw 0)), (1, .int a1), (2, .int a2), (3, .int a3)] := hl
  refine lv_aload_n hx hb dX8_begin_0 rfl (lv_at hl 0 rfl) ?_
  refine va_get (ci := 8) (v := .int pYw0_5) (C := RX8) (T := TX8) (N := 17) hx hb hg inX8 hown hK hP 0 rfl rfl 5 (by decide) (hg _ q_4_76) (fun _ h9 => h9) rfl dX8_begin_1 ?_
  refine lv_if_le (tgt := 26) hx hb dX8_begin_4 (by decide) (fun c_1 => ?_) (fun c_1 => ?_)
  · have b_2 : iv 0 0 pYw0_5 := iv_e1 c_1 bpYw0_5 (iv_c (0 : Int32) (a := 0) (b := 0) (by decide)) (by first | decide | omega)
    refine lv_aload_n hx hb dX8_begin_26 rfl (lv_at hl 0 rfl) ?_
    refine jnV (wr := [(Yw 5, aI V n fYw5)]) (rnV (rest := []) ⟨hx, hb, hml, hown, hg⟩ (k_X8_forget_0 l V n L Yw y pYw0_0 wa pYw0_5 pYw0_6 wb pYw0_14 pYw0_15 pYw0_16 fYw1 fYw2 fYw4 fYw6 hn hL bpYw0_0 (iv_w b_2 (by first | decide | omega)) bpYw0_6 bpYw0_14 bpYw0_15 bpYw0_16 tfYw1 tfYw4 tfYw6 hf0 hf1 hf2) mt_X8_forget q_4_130 ⟨Nat.le_of_ble_eq_true rfl, Nat.le_of_ble_eq_true rfl⟩ hK hP hD hS hA hE [0, 1, 2, 3, 5] rfl rfl 0 rfl rfl rfl rfl hl.1 rfl (Nat.le_of_ble_eq_true rfl) dX8_begin_27 ⟨Nat.le_of_ble_eq_true rfl, Nat.le_of_ble_eq_true rfl⟩) hP hD hS hA [0, 1, 2, 3, 5] [4] rfl rfl rfl (by decide) (fun  w H locs hw hP hD hS => ?_)
    obtain ⟨v_3, v_4, f_5, bv_3, bv_4, tf_5, g_6, g_7, g_8, g_9, g_10, et_11, et_12, et_13, rfl⟩ := hw
    have hP : va_P V.1 vwCl [(Yw 5, aI V n fYw5), (Yw 0, .inr (8, o8_iirrriirrrrrrriii pYw0_0 (nI n) (Yw 1) (Yw 2) wa v_3 pYw0_6 (y 19) (Yw 4) (Yw 5) (Yw 6) (Yw 7) (Yw 8) wb pYw0_14 pYw0_15 v_4)), (Yw 1, aI V n fYw1), (Yw 2, aI V n fYw2), (Yw 4, aI V L f_5), (Yw 6, aI V (n * 4) fYw6)] H := hP
    have hD := cpD hP hD
    refine lv_aload_n hx hb dX8_begin_30 rfl (lv_at hl 0 rfl) ?_
    refine lv_iload_n hx hb dX8_begin_31 rfl (lv_at hl 1 rfl) ?_
    refine va_put (ci := 8) (v := .int a1) (ty := .int) (C := RX8) (T := TX8) (N := 17) hx hb hg inX8 tyX8 tyX8_ok nmX8 hown hK hP hD hS 1 rfl rfl 14 (by decide) (hg _ q_4_88) (fun _ h9 => h9) rfl (by decide +kernel) rfl rfl (Nat.le_of_ble_eq_true rfl) dX8_begin_32 (fun H locs hP hD hS => ?_)
    have hP : va_P V.1 vwCl [(Yw 5, aI V n fYw5), (Yw 0, .inr (8, o8_iirrriirrrrrrriii pYw0_0 (nI n) (Yw 1) (Yw 2) wa v_3 pYw0_6 (y 19) (Yw 4) (Yw 5) (Yw 6) (Yw 7) (Yw 8) wb a1 pYw0_15 v_4)), (Yw 1, aI V n fYw1), (Yw 2, aI V n fYw2), (Yw 4, aI V L f_5), (Yw 6, aI V (n * 4) fYw6)] H := hP
    have hD := cpD hP hD
    refine lv_aload_n hx hb dX8_begin_35 rfl (lv_at hl 0 rfl) ?_
    refine lv_iconst (v := 1) hx hb dX8_begin_36 (by decide) ?_
    refine lv_iload_n hx hb dX8_begin_37 rfl (lv_at hl 1 rfl) ?_
    refine va_mmax hx hb (hml.trans hl.1.symm) hown (hg _ q_4_131) (hg _ q_2_102) (hg _ q_1_10) (hg _ q_2_103) (Nat.le_of_ble_eq_true rfl) (Nat.le_of_ble_eq_true rfl) (Nat.le_of_ble_eq_true rfl) (Nat.le_of_ble_eq_true rfl) dX8_begin_38 ?_
    refine lv_topi (fun x_14 ex_14 => ?_)
    have bx_14 : iv 1 4 x_14 := by rw [ex_14]; exact iv_max (iv_c (1 : Int32) (a := 1) (b := 1) (by decide)) ba1 (by first | decide | omega)
    refine va_put (ci := 8) (v := .int x_14) (ty := .int) (C := RX8) (T := TX8) (N := 17) hx hb hg inX8 tyX8 tyX8_ok nmX8 hown hK hP hD hS 1 rfl rfl 6 (by decide) (hg _ q_4_80) (fun _ h9 => h9) rfl (by decide +kernel) rfl rfl (Nat.le_of_ble_eq_true rfl) dX8_begin_41 (fun H locs hP hD hS => ?_)
    have hP : va_P V.1 vwCl [(Yw 5, aI V n fYw5), (Yw 0, .inr (8, o8_iirrriirrrrrrriii pYw0_0 (nI n) (Yw 1) (Yw 2) wa v_3 x_14 (y 19) (Yw 4) (Yw 5) (Yw 6) (Yw 7) (Yw 8) wb a1 pYw0_15 v_4)), (Yw 1, aI V n fYw1), (Yw 2, aI V n fYw2), (Yw 4, aI V L f_5), (Yw 6, aI V (n * 4) fYw6)] H := hP
    have hD := cpD hP hD
    refine lv_aload_n hx hb dX8_begin_44 rfl (lv_at hl 0 rfl) ?_
    refine lv_iload_n hx hb dX8_begin_45 rfl (lv_at hl 3 rfl) ?_
    refine va_put (ci := 8) (v := .int a3) (ty := .int) (C := RX8) (T := TX8) (N := 17) hx hb hg inX8 tyX8 tyX8_ok nmX8 hown hK hP hD hS 1 rfl rfl 15 (by decide) (hg _ q_4_89) (fun _ h9 => h9) rfl (by decide +kernel) rfl rfl (Nat.le_of_ble_eq_true rfl) dX8_begin_46 (fun H locs hP hD hS => ?_)
    have hP : va_P V.1 vwCl [(Yw 5, aI V n fYw5), (Yw 0, .inr (8, o8_iirrriirrrrrrriii pYw0_0 (nI n) (Yw 1) (Yw 2) wa v_3 x_14 (y 19) (Yw 4) (Yw 5) (Yw 6) (Yw 7) (Yw 8) wb a1 a3 v_4)), (Yw 1, aI V n fYw1), (Yw 2, aI V n fYw2), (Yw 4, aI V L f_5), (Yw 6, aI V (n * 4) fYw6)] H := hP
    have hD := cpD hP hD
    refine lv_aload_n hx hb dX8_begin_49 rfl (lv_at hl 0 rfl) ?_
    refine lv_iload_n hx hb dX8_begin_50 rfl (lv_at hl 2 rfl) ?_
    refine lv_iconst (v := 0) hx hb dX8_begin_51 (by decide) ?_
    refine lv_iconst (v := 0) hx hb dX8_begin_52 (by decide) ?_
    refine lv_iconst (v := 0) hx hb dX8_begin_53 (by decide) ?_
    refine jnI (wr := []) (rnV (rest := []) ⟨hx, hb, hml, hown, hg⟩ (k_X8_meet_0 l V n L Yw y a2 0 0 0 pYw0_0 wa v_3 x_14 wb a1 a3 v_4 fYw1 fYw2 f_5 fYw5 fYw6 hn hL (iv_w (iv_c (0 : Int32) (a := 0) (b := 0) (by decide)) (by first | decide | omega)) (iv_c (0 : Int32) (by decide)) bpYw0_0 bv_3 (iv_w bx_14 (by first | decide | omega)) ba1 ba3 bv_4 tfYw1 tf_5 tfYw5 tfYw6 g_6 (WB_0 g_10) g_8 (by have q9 := bv_3; unfold iv at q9; have h9 : (0 : Int32).toInt = 0 := (by decide); omega)) mt_X8_meet q_4_132 ⟨Nat.le_of_ble_eq_true rfl, Nat.le_of_ble_eq_true rfl⟩ hK hP hD hS hA hE [1, 2, 3, 4, 0, 5] rfl rfl 1 rfl rfl rfl rfl hl.1 rfl (Nat.le_of_ble_eq_true rfl) dX8_begin_54 ⟨Nat.le_of_ble_eq_true rfl, Nat.le_of_ble_eq_true rfl⟩) hP hD hS hA [1, 2, 3, 4, 0, 5] [] rfl rfl rfl (by decide) (fun r_15 w H locs hw hP hD hS => ?_)
    obtain ⟨v_16, f_17, f_18, f_19, f_20, bv_16, tf_17, tf_19, tf_20, br_15, g_21, g_22, g_23, g_24, g_25, rfl⟩ := hw
    have hP : va_P V.1 vwCl [(Yw 0, .inr (8, o8_iirrriirrrrrrriii pYw0_0 (nI n) (Yw 1) (Yw 2) wa v_16 x_14 (y 19) (Yw 4) (Yw 5) (Yw 6) (Yw 7) (Yw 8) wb a1 a3 v_4)), (Yw 1, aI V n f_17), (Yw 2, aI V n f_18), (Yw 4, aI V L f_19), (Yw 5, aI V n f_20), (Yw 6, aI V (n * 4) fYw6)] H := hP
    have hD := cpD hP hD
    refine lv_pop hx hb dX8_begin_57 rfl ?_
    exact fiV hx hb hr hlk hK hP hD hS dX8_begin_58 (Nat.le_of_ble_eq_true rfl) (Nat.le_of_ble_eq_true rfl) (⟨v_16, x_14, a1, a3, v_4, f_17, f_18, f_19, f_20, bv_16, (iv_w bx_14 (by first | decide | omega)), ba1, ba3, bv_4, tf_17, tf_19, tf_20, g_21, g_22, g_23, rfl⟩)
  · have b_26 : iv 1 ((n : Int)) pYw0_5 := iv_l2 (Int32.not_le.mp c_1) (iv_c (0 : Int32) (a := 0) (b := 0) (by decide)) bpYw0_5 (by first | decide | omega)
    refine lv_aload_n hx hb dX8_begin_7 rfl (lv_at hl 0 rfl) ?_
    refine va_get (ci := 8) (v := .ref (Yw 1)) (C := RX8) (T := TX8) (N := 17) hx hb hg inX8 hown hK hP 0 rfl rfl 2 (by decide) (hg _ q_4_69) (fun _ h9 => h9) rfl dX8_begin_8 ?_
    refine lv_iconst (v := 0) hx hb dX8_begin_11 (by decide) ?_
    refine va_iald hx hb hK hP 1 0 rfl rfl (iv_in (iv_c (0 : Int32) (a := 0) (b := 0) (by decide)) (by first | decide | omega)) dX8_begin_12 ?_
    refine lv_topi (fun x_27 ex_27 => ?_)
    have bx_27 : iv 0 ((L : Int) - 1) x_27 := by rw [ex_27]; exact tfYw1 _
    refine lv_iload_n hx hb dX8_begin_13 rfl (lv_at hl 2 rfl) ?_
    refine lv_icmp_ne (tgt := 26) hx hb dX8_begin_14 (by decide) (fun c_28 => ?_) (fun c_28 => ?_)
    · refine lv_aload_n hx hb dX8_begin_26 rfl (lv_at hl 0 rfl) ?_
      refine jnV (wr := [(Yw 5, aI V n fYw5)]) (rnV (rest := []) ⟨hx, hb, hml, hown, hg⟩ (k_X8_forget_0 l V n L Yw y pYw0_0 wa pYw0_5 pYw0_6 wb pYw0_14 pYw0_15 pYw0_16 fYw1 fYw2 fYw4 fYw6 hn hL bpYw0_0 (iv_w b_26 (by first | decide | omega)) bpYw0_6 bpYw0_14 bpYw0_15 bpYw0_16 tfYw1 tfYw4 tfYw6 hf0 hf1 hf2) mt_X8_forget q_4_130 ⟨Nat.le_of_ble_eq_true rfl, Nat.le_of_ble_eq_true rfl⟩ hK hP hD hS hA hE [0, 1, 2, 3, 5] rfl rfl 0 rfl rfl rfl rfl hl.1 rfl (Nat.le_of_ble_eq_true rfl) dX8_begin_27 ⟨Nat.le_of_ble_eq_true rfl, Nat.le_of_ble_eq_true rfl⟩) hP hD hS hA [0, 1, 2, 3, 5] [4] rfl rfl rfl (by decide) (fun  w H locs hw hP hD hS => ?_)
      obtain ⟨v_29, v_30, f_31, bv_29, bv_30, tf_31, g_32, g_33, g_34, g_35, g_36, et_37, et_38, et_39, rfl⟩ := hw
      have hP : va_P V.1 vwCl [(Yw 5, aI V n fYw5), (Yw 0, .inr (8, o8_iirrriirrrrrrriii pYw0_0 (nI n) (Yw 1) (Yw 2) wa v_29 pYw0_6 (y 19) (Yw 4) (Yw 5) (Yw 6) (Yw 7) (Yw 8) wb pYw0_14 pYw0_15 v_30)), (Yw 1, aI V n fYw1), (Yw 2, aI V n fYw2), (Yw 4, aI V L f_31), (Yw 6, aI V (n * 4) fYw6)] H := hP
      have hD := cpD hP hD
      refine lv_aload_n hx hb dX8_begin_30 rfl (lv_at hl 0 rfl) ?_
      refine lv_iload_n hx hb dX8_begin_31 rfl (lv_at hl 1 rfl) ?_
      refine va_put (ci := 8) (v := .int a1) (ty := .int) (C := RX8) (T := TX8) (N := 17) hx hb hg inX8 tyX8 tyX8_ok nmX8 hown hK hP hD hS 1 rfl rfl 14 (by decide) (hg _ q_4_88) (fun _ h9 => h9) rfl (by decide +kernel) rfl rfl (Nat.le_of_ble_eq_true rfl) dX8_begin_32 (fun H locs hP hD hS => ?_)
      have hP : va_P V.1 vwCl [(Yw 5, aI V n fYw5), (Yw 0, .inr (8, o8_iirrriirrrrrrriii pYw0_0 (nI n) (Yw 1) (Yw 2) wa v_29 pYw0_6 (y 19) (Yw 4) (Yw 5) (Yw 6) (Yw 7) (Yw 8) wb a1 pYw0_15 v_30)), (Yw 1, aI V n fYw1), (Yw 2, aI V n fYw2), (Yw 4, aI V L f_31), (Yw 6, aI V (n * 4) fYw6)] H := hP
      have hD := cpD hP hD
      refine lv_aload_n hx hb dX8_begin_35 rfl (lv_at hl 0 rfl) ?_
      refine lv_iconst (v := 1) hx hb dX8_begin_36 (by decide) ?_
      refine lv_iload_n hx hb dX8_begin_37 rfl (lv_at hl 1 rfl) ?_
      refine va_mmax hx hb (hml.trans hl.1.symm) hown (hg _ q_4_131) (hg _ q_2_102) (hg _ q_1_10) (hg _ q_2_103) (Nat.le_of_ble_eq_true rfl) (Nat.le_of_ble_eq_true rfl) (Nat.le_of_ble_eq_true rfl) (Nat.le_of_ble_eq_true rfl) dX8_begin_38 ?_
      refine lv_topi (fun x_40 ex_40 => ?_)
      have bx_40 : iv 1 4 x_40 := by rw [ex_40]; exact iv_max (iv_c (1 : Int32) (a := 1) (b := 1) (by decide)) ba1 (by first | decide | omega)
      refine va_put (ci := 8) (v := .int x_40) (ty := .int) (C := RX8) (T := TX8) (N := 17) hx hb hg inX8 tyX8 tyX8_ok nmX8 hown hK hP hD hS 1 rfl rfl 6 (by decide) (hg _ q_4_80) (fun _ h9 => h9) rfl (by decide +kernel) rfl rfl (Nat.le_of_ble_eq_true rfl) dX8_begin_41 (fun H locs hP hD hS => ?_)
      have hP : va_P V.1 vwCl [(Yw 5, aI V n fYw5), (Yw 0, .inr (8, o8_iirrriirrrrrrriii pYw0_0 (nI n) (Yw 1) (Yw 2) wa v_29 x_40 (y 19) (Yw 4) (Yw 5) (Yw 6) (Yw 7) (Yw 8) wb a1 pYw0_15 v_30)), (Yw 1, aI V n fYw1), (Yw 2, aI V n fYw2), (Yw 4, aI V L f_31), (Yw 6, aI V (n * 4) fYw6)] H := hP
      have hD := cpD hP hD
      refine lv_aload_n hx hb dX8_begin_44 rfl (lv_at hl 0 rfl) ?_
      refine lv_iload_n hx hb dX8_begin_45 rfl (lv_at hl 3 rfl) ?_
      refine va_put (ci := 8) (v := .int a3) (ty := .int) (C := RX8) (T := TX8) (N := 17) hx hb hg inX8 tyX8 tyX8_ok nmX8 hown hK hP hD hS 1 rfl rfl 15 (by decide) (hg _ q_4_89) (fun _ h9 => h9) rfl (by decide +kernel) rfl rfl (Nat.le_of_ble_eq_true rfl) dX8_begin_46 (fun H locs hP hD hS => ?_)
      have hP : va_P V.1 vwCl [(Yw 5, aI V n fYw5), (Yw 0, .inr (8, o8_iirrriirrrrrrriii pYw0_0 (nI n) (Yw 1) (Yw 2) wa v_29 x_40 (y 19) (Yw 4) (Yw 5) (Yw 6) (Yw 7) (Yw 8) wb a1 a3 v_30)), (Yw 1, aI V n fYw1), (Yw 2, aI V n fYw2), (Yw 4, aI V L f_31), (Yw 6, aI V (n * 4) fYw6)] H := hP
      have hD := cpD hP hD
      refine lv_aload_n hx hb dX8_begin_49 rfl (lv_at hl 0 rfl) ?_
      refine lv_iload_n hx hb dX8_begin_50 rfl (lv_at hl 2 rfl) ?_
      refine lv_iconst (v := 0) hx hb dX8_begin_51 (by decide) ?_
      refine lv_iconst (v := 0) hx hb dX8_begin_52 (by decide) ?_
      refine lv_iconst (v := 0) hx hb dX8_begin_53 (by decide) ?_
      refine jnI (wr := []) (rnV (rest := []) ⟨hx, hb, hml, hown, hg⟩ (k_X8_meet_0 l V n L Yw y a2 0 0 0 pYw0_0 wa v_29 x_40 wb a1 a3 v_30 fYw1 fYw2 f_31 fYw5 fYw6 hn hL (iv_w (iv_c (0 : Int32) (a := 0) (b := 0) (by decide)) (by first | decide | omega)) (iv_c (0 : Int32) (by decide)) bpYw0_0 bv_29 (iv_w bx_40 (by first | decide | omega)) ba1 ba3 bv_30 tfYw1 tf_31 tfYw5 tfYw6 g_32 (WB_0 g_36) g_34 (by have q9 := bv_29; unfold iv at q9; have h9 : (0 : Int32).toInt = 0 := (by decide); omega)) mt_X8_meet q_4_132 ⟨Nat.le_of_ble_eq_true rfl, Nat.le_of_ble_eq_true rfl⟩ hK hP hD hS hA hE [1, 2, 3, 4, 0, 5] rfl rfl 1 rfl rfl rfl rfl hl.1 rfl (Nat.le_of_ble_eq_true rfl) dX8_begin_54 ⟨Nat.le_of_ble_eq_true rfl, Nat.le_of_ble_eq_true rfl⟩) hP hD hS hA [1, 2, 3, 4, 0, 5] [] rfl rfl rfl (by decide) (fun r_41 w H locs hw hP hD hS => ?_)
      obtain ⟨v_42, f_43, f_44, f_45, f_46, bv_42, tf_43, tf_45, tf_46, br_41, g_47, g_48, g_49, g_50, g_51, rfl⟩ := hw
      have hP : va_P V.1 vwCl [(Yw 0, .inr (8, o8_iirrriirrrrrrriii pYw0_0 (nI n) (Yw 1) (Yw 2) wa v_42 x_40 (y 19) (Yw 4) (Yw 5) (Yw 6) (Yw 7) (Yw 8) wb a1 a3 v_30)), (Yw 1, aI V n f_43), (Yw 2, aI V n f_44), (Yw 4, aI V L f_45), (Yw 5, aI V n f_46), (Yw 6, aI V (n * 4) fYw6)] H := hP
      have hD := cpD hP hD
      refine lv_pop hx hb dX8_begin_57 rfl ?_
      exact fiV hx hb hr hlk hK hP hD hS dX8_begin_58 (Nat.le_of_ble_eq_true rfl) (Nat.le_of_ble_eq_true rfl) (⟨v_42, x_40, a1, a3, v_30, f_43, f_44, f_45, f_46, bv_42, (iv_w bx_40 (by first | decide | omega)), ba1, ba3, bv_30, tf_43, tf_45, tf_46, g_47, g_48, g_49, rfl⟩)
    · refine lv_aload_n hx hb dX8_begin_17 rfl (lv_at hl 0 rfl) ?_
      refine va_get (ci := 8) (v := .int pYw0_15) (C := RX8) (T := TX8) (N := 17) hx hb hg inX8 hown hK hP 0 rfl rfl 15 (by decide) (hg _ q_4_89) (fun _ h9 => h9) rfl dX8_begin_18 ?_
      refine lv_iload_n hx hb dX8_begin_21 rfl (lv_at hl 3 rfl) ?_
      refine lv_icmp_ne (tgt := 26) hx hb dX8_begin_22 (by decide) (fun c_52 => ?_) (fun c_52 => ?_)
      · refine lv_aload_n hx hb dX8_begin_26 rfl (lv_at hl 0 rfl) ?_
        refine jnV (wr := [(Yw 5, aI V n fYw5)]) (rnV (rest := []) ⟨hx, hb, hml, hown, hg⟩ (k_X8_forget_0 l V n L Yw y pYw0_0 wa pYw0_5 pYw0_6 wb pYw0_14 pYw0_15 pYw0_16 fYw1 fYw2 fYw4 fYw6 hn hL bpYw0_0 (iv_w b_26 (by first | decide | omega)) bpYw0_6 bpYw0_14 bpYw0_15 bpYw0_16 tfYw1 tfYw4 tfYw6 hf0 hf1 hf2) mt_X8_forget q_4_130 ⟨Nat.le_of_ble_eq_true rfl, Nat.le_of_ble_eq_true rfl⟩ hK hP hD hS hA hE [0, 1, 2, 3, 5] rfl rfl 0 rfl rfl rfl rfl hl.1 rfl (Nat.le_of_ble_eq_true rfl) dX8_begin_27 ⟨Nat.le_of_ble_eq_true rfl, Nat.le_of_ble_eq_true rfl⟩) hP hD hS hA [0, 1, 2, 3, 5] [4] rfl rfl rfl (by decide) (fun  w H locs hw hP hD hS => ?_)
        obtain ⟨v_53, v_54, f_55, bv_53, bv_54, tf_55, g_56, g_57, g_58, g_59, g_60, et_61, et_62, et_63, rfl⟩ := hw
        have hP : va_P V.1 vwCl [(Yw 5, aI V n fYw5), (Yw 0, .inr (8, o8_iirrriirrrrrrriii pYw0_0 (nI n) (Yw 1) (Yw 2) wa v_53 pYw0_6 (y 19) (Yw 4) (Yw 5) (Yw 6) (Yw 7) (Yw 8) wb pYw0_14 pYw0_15 v_54)), (Yw 1, aI V n fYw1), (Yw 2, aI V n fYw2), (Yw 4, aI V L f_55), (Yw 6, aI V (n * 4) fYw6)] H := hP
        have hD := cpD hP hD
        refine lv_aload_n hx hb dX8_begin_30 rfl (lv_at hl 0 rfl) ?_
        refine lv_iload_n hx hb dX8_begin_31 rfl (lv_at hl 1 rfl) ?_
        refine va_put (ci := 8) (v := .int a1) (ty := .int) (C := RX8) (T := TX8) (N := 17) hx hb hg inX8 tyX8 tyX8_ok nmX8 hown hK hP hD hS 1 rfl rfl 14 (by decide) (hg _ q_4_88) (fun _ h9 => h9) rfl (by decide +kernel) rfl rfl (Nat.le_of_ble_eq_true rfl) dX8_begin_32 (fun H locs hP hD hS => ?_)
        have hP : va_P V.1 vwCl [(Yw 5, aI V n fYw5), (Yw 0, .inr (8, o8_iirrriirrrrrrriii pYw0_0 (nI n) (Yw 1) (Yw 2) wa v_53 pYw0_6 (y 19) (Yw 4) (Yw 5) (Yw 6) (Yw 7) (Yw 8) wb a1 pYw0_15 v_54)), (Yw 1, aI V n fYw1), (Yw 2, aI V n fYw2), (Yw 4, aI V L f_55), (Yw 6, aI V (n * 4) fYw6)] H := hP
        have hD := cpD hP hD
        refine lv_aload_n hx hb dX8_begin_35 rfl (lv_at hl 0 rfl) ?_
        refine lv_iconst (v := 1) hx hb dX8_begin_36 (by decide) ?_
        refine lv_iload_n hx hb dX8_begin_37 rfl (lv_at hl 1 rfl) ?_
        refine va_mmax hx hb (hml.trans hl.1.symm) hown (hg _ q_4_131) (hg _ q_2_102) (hg _ q_1_10) (hg _ q_2_103) (Nat.le_of_ble_eq_true rfl) (Nat.le_of_ble_eq_true rfl) (Nat.le_of_ble_eq_true rfl) (Nat.le_of_ble_eq_true rfl) dX8_begin_38 ?_
        refine lv_topi (fun x_64 ex_64 => ?_)
        have bx_64 : iv 1 4 x_64 := by rw [ex_64]; exact iv_max (iv_c (1 : Int32) (a := 1) (b := 1) (by decide)) ba1 (by first | decide | omega)
        refine va_put (ci := 8) (v := .int x_64) (ty := .int) (C := RX8) (T := TX8) (N := 17) hx hb hg inX8 tyX8 tyX8_ok nmX8 hown hK hP hD hS 1 rfl rfl 6 (by decide) (hg _ q_4_80) (fun _ h9 => h9) rfl (by decide +kernel) rfl rfl (Nat.le_of_ble_eq_true rfl) dX8_begin_41 (fun H locs hP hD hS => ?_)
        have hP : va_P V.1 vwCl [(Yw 5, aI V n fYw5), (Yw 0, .inr (8, o8_iirrriirrrrrrriii pYw0_0 (nI n) (Yw 1) (Yw 2) wa v_53 x_64 (y 19) (Yw 4) (Yw 5) (Yw 6) (Yw 7) (Yw 8) wb a1 pYw0_15 v_54)), (Yw 1, aI V n fYw1), (Yw 2, aI V n fYw2), (Yw 4, aI V L f_55), (Yw 6, aI V (n * 4) fYw6)] H := hP
        have hD := cpD hP hD
        refine lv_aload_n hx hb dX8_begin_44 rfl (lv_at hl 0 rfl) ?_
        refine lv_iload_n hx hb dX8_begin_45 rfl (lv_at hl 3 rfl) ?_
        refine va_put (ci := 8) (v := .int a3) (ty := .int) (C := RX8) (T := TX8) (N := 17) hx hb hg inX8 tyX8 tyX8_ok nmX8 hown hK hP hD hS 1 rfl rfl 15 (by decide) (hg _ q_4_89) (fun _ h9 => h9) rfl (by decide +kernel) rfl rfl (Nat.le_of_ble_eq_true rfl) dX8_begin_46 (fun H locs hP hD hS => ?_)
        have hP : va_P V.1 vwCl [(Yw 5, aI V n fYw5), (Yw 0, .inr (8, o8_iirrriirrrrrrriii pYw0_0 (nI n) (Yw 1) (Yw 2) wa v_53 x_64 (y 19) (Yw 4) (Yw 5) (Yw 6) (Yw 7) (Yw 8) wb a1 a3 v_54)), (Yw 1, aI V n fYw1), (Yw 2, aI V n fYw2), (Yw 4, aI V L f_55), (Yw 6, aI V (n * 4) fYw6)] H := hP
        have hD := cpD hP hD
        refine lv_aload_n hx hb dX8_begin_49 rfl (lv_at hl 0 rfl) ?_
        refine lv_iload_n hx hb dX8_begin_50 rfl (lv_at hl 2 rfl) ?_
        refine lv_iconst (v := 0) hx hb dX8_begin_51 (by decide) ?_
        refine lv_iconst (v := 0) hx hb dX8_begin_52 (by decide) ?_
        refine lv_iconst (v := 0) hx hb dX8_begin_53 (by decide) ?_
        refine jnI (wr := []) (rnV (rest := []) ⟨hx, hb, hml, hown, hg⟩ (k_X8_meet_0 l V n L Yw y a2 0 0 0 pYw0_0 wa v_53 x_64 wb a1 a3 v_54 fYw1 fYw2 f_55 fYw5 fYw6 hn hL (iv_w (iv_c (0 : Int32) (a := 0) (b := 0) (by decide)) (by first | decide | omega)) (iv_c (0 : Int32) (by decide)) bpYw0_0 bv_53 (iv_w bx_64 (by first | decide | omega)) ba1 ba3 bv_54 tfYw1 tf_55 tfYw5 tfYw6 g_56 (WB_0 g_60) g_58 (by have q9 := bv_53; unfold iv at q9; have h9 : (0 : Int32).toInt = 0 := (by decide); omega)) mt_X8_meet q_4_132 ⟨Nat.le_of_ble_eq_true rfl, Nat.le_of_ble_eq_true rfl⟩ hK hP hD hS hA hE [1, 2, 3, 4, 0, 5] rfl rfl 1 rfl rfl rfl rfl hl.1 rfl (Nat.le_of_ble_eq_true rfl) dX8_begin_54 ⟨Nat.le_of_ble_eq_true rfl, Nat.le_of_ble_eq_true rfl⟩) hP hD hS hA [1, 2, 3, 4, 0, 5] [] rfl rfl rfl (by decide) (fun r_65 w H locs hw hP hD hS => ?_)
        obtain ⟨v_66, f_67, f_68, f_69, f_70, bv_66, tf_67, tf_69, tf_70, br_65, g_71, g_72, g_73, g_74, g_75, rfl⟩ := hw
        have hP : va_P V.1 vwCl [(Yw 0, .inr (8, o8_iirrriirrrrrrriii pYw0_0 (nI n) (Yw 1) (Yw 2) wa v_66 x_64 (y 19) (Yw 4) (Yw 5) (Yw 6) (Yw 7) (Yw 8) wb a1 a3 v_54)), (Yw 1, aI V n f_67), (Yw 2, aI V n f_68), (Yw 4, aI V L f_69), (Yw 5, aI V n f_70), (Yw 6, aI V (n * 4) fYw6)] H := hP
        have hD := cpD hP hD
        refine lv_pop hx hb dX8_begin_57 rfl ?_
        exact fiV hx hb hr hlk hK hP hD hS dX8_begin_58 (Nat.le_of_ble_eq_true rfl) (Nat.le_of_ble_eq_true rfl) (⟨v_66, x_64, a1, a3, v_54, f_67, f_68, f_69, f_70, bv_66, (iv_w bx_64 (by first | decide | omega)), ba1, ba3, bv_54, tf_67, tf_69, tf_70, g_71, g_72, g_73, rfl⟩)
      · exact fiV hx hb hr hlk hK hP hD hS dX8_begin_25 (Nat.le_of_ble_eq_true rfl) (Nat.le_of_ble_eq_true rfl) (⟨pYw0_5, pYw0_6, pYw0_14, pYw0_15, pYw0_16, fYw1, fYw2, fYw4, fYw5, (iv_w b_26 (by first | decide | omega)), bpYw0_6, bpYw0_14, bpYw0_15, bpYw0_16, tfYw1, tfYw4, tfYw5, hf0, hf1, hf2, rfl⟩)
theorem dX8_open_0 : decode cX8_open 0 = .ok (.aload_n 0, 1) := by decide +kernel
theorem dX8_open_1 : decode cX8_open 1 = .ok (.getfield 29, 3) := by decide +kernel
theorem dX8_open_4 : decode cX8_open 4 = .ok (.iload_n 1, 1) := by decide +kernel
theorem dX8_open_5 : decode cX8_open 5 = .ok (.iaload, 1) := by decide +kernel
theorem dX8_open_6 : decode cX8_open 6 = .ok (.istore_n 2, 1) := by decide +kernel
theorem dX8_open_7 : decode cX8_open 7 = .ok (.iconst 0, 1) := by decide +kernel
theorem dX8_open_8 : decode cX8_open 8 = .ok (.istore_n 3, 1) := by decide +kernel
theorem dX8_open_9 : decode cX8_open 9 = .ok (.iconst 0, 1) := by decide +kernel
theorem dX8_open_10 : decode cX8_open 10 = .ok (.istore 4, 2) := by decide +kernel
theorem dX8_open_12 : decode cX8_open 12 = .ok (.iconst 0, 1) := by decide +kernel
theorem dX8_open_13 : decode cX8_open 13 = .ok (.istore 5, 2) := by decide +kernel
theorem dX8_open_15 : decode cX8_open 15 = .ok (.iload 5, 2) := by decide +kernel
theorem dX8_open_17 : decode cX8_open 17 = .ok (.aload_n 0, 1) := by decide +kernel
theorem dX8_open_18 : decode cX8_open 18 = .ok (.getfield 68, 3) := by decide +kernel
theorem dX8_open_21 : decode cX8_open 21 = .ok (.if_icmp .ge 122, 3) := by decide +kernel
theorem dX8_open_143 : decode cX8_open 143 = .ok (.aload_n 0, 1) := by decide +kernel
theorem q_4_86 : Cond.fieldLink "BeaconDelay$Ways" 9 "BeaconDelay$Ways" "shift" "[I" ∈ gw := gw_4 (i := 86) (by decide +kernel) rfl
theorem dX8_open_144 : decode cX8_open 144 = .ok (.getfield 9, 3) := by decide +kernel
theorem dX8_open_147 : decode cX8_open 147 = .ok (.iconst 0, 1) := by decide +kernel
theorem dX8_open_148 : decode cX8_open 148 = .ok (.iconst 0, 1) := by decide +kernel
theorem dX8_open_149 : decode cX8_open 149 = .ok (.iastore, 1) := by decide +kernel
theorem dX8_open_150 : decode cX8_open 150 = .ok (.iconst 0, 1) := by decide +kernel
theorem dX8_open_151 : decode cX8_open 151 = .ok (.istore 5, 2) := by decide +kernel
theorem dX8_open_153 : decode cX8_open 153 = .ok (.iload 5, 2) := by decide +kernel
theorem dX8_open_155 : decode cX8_open 155 = .ok (.aload_n 0, 1) := by decide +kernel
theorem dX8_open_156 : decode cX8_open 156 = .ok (.getfield 77, 3) := by decide +kernel
theorem dX8_open_159 : decode cX8_open 159 = .ok (.if_icmp .ge 44, 3) := by decide +kernel
theorem dX8_open_203 : decode cX8_open 203 = .ok (.aload_n 0, 1) := by decide +kernel
theorem dX8_open_204 : decode cX8_open 204 = .ok (.iload_n 1, 1) := by decide +kernel
theorem dX8_open_205 : decode cX8_open 205 = .ok (.iconst 1, 1) := by decide +kernel
theorem dX8_open_206 : decode cX8_open 206 = .ok (.iadd, 1) := by decide +kernel
theorem dX8_open_207 : decode cX8_open 207 = .ok (.putfield 59, 3) := by decide +kernel
theorem dX8_open_210 : decode cX8_open 210 = .ok (.return_, 1) := by decide +kernel
theorem dX8_open_162 : decode cX8_open 162 = .ok (.aload_n 0, 1) := by decide +kernel
theorem dX8_open_163 : decode cX8_open 163 = .ok (.getfield 44, 3) := by decide +kernel
theorem dX8_open_166 : decode cX8_open 166 = .ok (.iload_n 1, 1) := by decide +kernel
theorem dX8_open_167 : decode cX8_open 167 = .ok (.iconst 4, 1) := by decide +kernel
theorem dX8_open_168 : decode cX8_open 168 = .ok (.imul, 1) := by decide +kernel
theorem dX8_open_169 : decode cX8_open 169 = .ok (.iload 5, 2) := by decide +kernel
theorem dX8_open_171 : decode cX8_open 171 = .ok (.iadd, 1) := by decide +kernel
theorem dX8_open_172 : decode cX8_open 172 = .ok (.aload_n 0, 1) := by decide +kernel
theorem dX8_open_173 : decode cX8_open 173 = .ok (.iload_n 3, 1) := by decide +kernel
theorem dX8_open_174 : decode cX8_open 174 = .ok (.aload_n 0, 1) := by decide +kernel
theorem dX8_open_175 : decode cX8_open 175 = .ok (.getfield 9, 3) := by decide +kernel
theorem dX8_open_178 : decode cX8_open 178 = .ok (.iload 5, 2) := by decide +kernel
theorem dX8_open_180 : decode cX8_open 180 = .ok (.iaload, 1) := by decide +kernel
theorem dX8_open_181 : decode cX8_open 181 = .ok (.iadd, 1) := by decide +kernel
theorem dX8_open_182 : decode cX8_open 182 = .ok (.iload_n 1, 1) := by decide +kernel
theorem dX8_open_183 : decode cX8_open 183 = .ok (.iload 5, 2) := by decide +kernel
theorem dX8_open_185 : decode cX8_open 185 = .ok (.aload_n 0, 1) := by decide +kernel
theorem dX8_open_186 : decode cX8_open 186 = .ok (.getfield 32, 3) := by decide +kernel
theorem dX8_open_189 : decode cX8_open 189 = .ok (.iload_n 1, 1) := by decide +kernel
theorem dX8_open_190 : decode cX8_open 190 = .ok (.iaload, 1) := by decide +kernel
theorem dX8_open_191 : decode cX8_open 191 = .ok (.iconst 1, 1) := by decide +kernel
theorem dX8_open_192 : decode cX8_open 192 = .ok (.iadd, 1) := by decide +kernel
theorem dX8_open_193 : decode cX8_open 193 = .ok (.invokevirtual 80, 3) := by decide +kernel
theorem dX8_open_196 : decode cX8_open 196 = .ok (.iastore, 1) := by decide +kernel
theorem dX8_open_197 : decode cX8_open 197 = .ok (.iinc 5 1, 3) := by decide +kernel
theorem dX8_open_200 : decode cX8_open 200 = .ok (.goto (-47), 3) := by decide +kernel
theorem dX8_open_24 : decode cX8_open 24 = .ok (.iload_n 2, 1) := by decide +kernel
theorem dX8_open_25 : decode cX8_open 25 = .ok (.getstatic 35, 3) := by decide +kernel
theorem dX8_open_28 : decode cX8_open 28 = .ok (.iload 5, 2) := by decide +kernel
theorem dX8_open_30 : decode cX8_open 30 = .ok (.iaload, 1) := by decide +kernel
theorem dX8_open_31 : decode cX8_open 31 = .ok (.idiv, 1) := by decide +kernel
theorem dX8_open_32 : decode cX8_open 32 = .ok (.bipush 10, 2) := by decide +kernel
theorem dX8_open_34 : decode cX8_open 34 = .ok (.irem, 1) := by decide +kernel
theorem dX8_open_35 : decode cX8_open 35 = .ok (.istore 6, 2) := by decide +kernel
theorem dX8_open_37 : decode cX8_open 37 = .ok (.iload 4, 2) := by decide +kernel
theorem dX8_open_39 : decode cX8_open 39 = .ok (.iconst 2, 1) := by decide +kernel
theorem dX8_open_40 : decode cX8_open 40 = .ok (.irem, 1) := by decide +kernel
theorem dX8_open_41 : decode cX8_open 41 = .ok (.istore 7, 2) := by decide +kernel
theorem dX8_open_43 : decode cX8_open 43 = .ok (.aload_n 0, 1) := by decide +kernel
theorem q_4_81 : Cond.fieldLink "BeaconDelay$Ways" 15 "BeaconDelay$Ways" "laws" "LBeaconDelay$Laws;" ∈ gw := gw_4 (i := 81) (by decide +kernel) rfl
theorem dX8_open_44 : decode cX8_open 44 = .ok (.getfield 15, 3) := by decide +kernel
theorem dX8_open_47 : decode cX8_open 47 = .ok (.aload_n 0, 1) := by decide +kernel
theorem dX8_open_48 : decode cX8_open 48 = .ok (.getfield 62, 3) := by decide +kernel
theorem dX8_open_51 : decode cX8_open 51 = .ok (.iload 5, 2) := by decide +kernel
theorem dX8_open_53 : decode cX8_open 53 = .ok (.iload 6, 2) := by decide +kernel
theorem dX8_open_55 : decode cX8_open 55 = .ok (.iconst 2, 1) := by decide +kernel
theorem dX8_open_56 : decode cX8_open 56 = .ok (.idiv, 1) := by decide +kernel
theorem dX8_open_57 : decode cX8_open 57 = .ok (.iload 4, 2) := by decide +kernel
theorem dX8_open_59 : decode cX8_open 59 = .ok (.iconst 2, 1) := by decide +kernel
theorem dX8_open_60 : decode cX8_open 60 = .ok (.idiv, 1) := by decide +kernel
theorem dX8_open_61 : decode cX8_open 61 = .ok (.iload 7, 2) := by decide +kernel
theorem q_4_144 : Cond.methodLink "BeaconDelay$Ways" 88 yX4_digitBehind ∈ gw := gw_4 (i := 144) (by decide +kernel) rfl
theorem dX8_open_63 : decode cX8_open 63 = .ok (.invokevirtual 88, 3) := by decide +kernel
theorem dX8_open_66 : decode cX8_open 66 = .ok (.istore 8, 2) := by decide +kernel
theorem dX8_open_68 : decode cX8_open 68 = .ok (.iload 8, 2) := by decide +kernel
theorem dX8_open_70 : decode cX8_open 70 = .ok (.istore 9, 2) := by decide +kernel
theorem dX8_open_72 : decode cX8_open 72 = .ok (.iload 7, 2) := by decide +kernel
theorem dX8_open_74 : decode cX8_open 74 = .ok (.iconst 1, 1) := by decide +kernel
theorem dX8_open_75 : decode cX8_open 75 = .ok (.if_icmp .ne 27, 3) := by decide +kernel
theorem dX8_open_102 : decode cX8_open 102 = .ok (.iload_n 3, 1) := by decide +kernel
theorem dX8_open_103 : decode cX8_open 103 = .ok (.iload 8, 2) := by decide +kernel
theorem dX8_open_105 : decode cX8_open 105 = .ok (.getstatic 35, 3) := by decide +kernel
theorem dX8_open_108 : decode cX8_open 108 = .ok (.iload 5, 2) := by decide +kernel
theorem dX8_open_110 : decode cX8_open 110 = .ok (.iaload, 1) := by decide +kernel
theorem dX8_open_111 : decode cX8_open 111 = .ok (.imul, 1) := by decide +kernel
theorem dX8_open_112 : decode cX8_open 112 = .ok (.iadd, 1) := by decide +kernel
theorem dX8_open_113 : decode cX8_open 113 = .ok (.istore_n 3, 1) := by decide +kernel
theorem dX8_open_114 : decode cX8_open 114 = .ok (.aload_n 0, 1) := by decide +kernel
theorem dX8_open_115 : decode cX8_open 115 = .ok (.getfield 9, 3) := by decide +kernel
theorem dX8_open_118 : decode cX8_open 118 = .ok (.iload 5, 2) := by decide +kernel
theorem dX8_open_120 : decode cX8_open 120 = .ok (.iload 9, 2) := by decide +kernel
theorem dX8_open_122 : decode cX8_open 122 = .ok (.iload 8, 2) := by decide +kernel
theorem dX8_open_124 : decode cX8_open 124 = .ok (.isub, 1) := by decide +kernel
theorem dX8_open_125 : decode cX8_open 125 = .ok (.getstatic 35, 3) := by decide +kernel
theorem dX8_open_128 : decode cX8_open 128 = .ok (.iload 5, 2) := by decide +kernel
theorem dX8_open_130 : decode cX8_open 130 = .ok (.iaload, 1) := by decide +kernel
theorem dX8_open_131 : decode cX8_open 131 = .ok (.imul, 1) := by decide +kernel
theorem dX8_open_132 : decode cX8_open 132 = .ok (.iastore, 1) := by decide +kernel
theorem dX8_open_133 : decode cX8_open 133 = .ok (.iload 6, 2) := by decide +kernel
theorem dX8_open_135 : decode cX8_open 135 = .ok (.istore 4, 2) := by decide +kernel
theorem dX8_open_137 : decode cX8_open 137 = .ok (.iinc 5 1, 3) := by decide +kernel
theorem dX8_open_140 : decode cX8_open 140 = .ok (.goto (-125), 3) := by decide +kernel
theorem dX8_open_78 : decode cX8_open 78 = .ok (.aload_n 0, 1) := by decide +kernel
theorem dX8_open_79 : decode cX8_open 79 = .ok (.getfield 15, 3) := by decide +kernel
theorem dX8_open_82 : decode cX8_open 82 = .ok (.aload_n 0, 1) := by decide +kernel
theorem dX8_open_83 : decode cX8_open 83 = .ok (.getfield 62, 3) := by decide +kernel
theorem dX8_open_86 : decode cX8_open 86 = .ok (.iload 5, 2) := by decide +kernel
theorem dX8_open_88 : decode cX8_open 88 = .ok (.iload 6, 2) := by decide +kernel
theorem dX8_open_90 : decode cX8_open 90 = .ok (.iconst 2, 1) := by decide +kernel
theorem dX8_open_91 : decode cX8_open 91 = .ok (.idiv, 1) := by decide +kernel
theorem dX8_open_92 : decode cX8_open 92 = .ok (.iload 4, 2) := by decide +kernel
theorem dX8_open_94 : decode cX8_open 94 = .ok (.iconst 2, 1) := by decide +kernel
theorem dX8_open_95 : decode cX8_open 95 = .ok (.idiv, 1) := by decide +kernel
theorem dX8_open_96 : decode cX8_open 96 = .ok (.iconst 0, 1) := by decide +kernel
theorem dX8_open_97 : decode cX8_open 97 = .ok (.invokevirtual 88, 3) := by decide +kernel
theorem dX8_open_100 : decode cX8_open 100 = .ok (.istore 9, 2) := by decide +kernel
set_option maxHeartbeats 4000000 in
set_option maxRecDepth 100000 in
theorem k_X8_open_0 (l : Launch) (V : GV) (n : Nat) (L : Nat) (Yw : Nat → Nat) (y : Nat → Nat) (D9 : Nat → Int32) (a1 : Int32) (py2_0 : Int32) (py2_1 : Int32) (py2_2 : Int32) (py2_3 : Int32) (py2_4 : Int32) (py2_5 : Int32) (py2_13 : Int32) (py2_14 : Int32) (py2_15 : Int32) (py2_16 : Int32) (py2_17 : Int32) (fy3 : Nat → Int32) (fy9 : Nat → Int32) (fy20 : Nat → Int32) (fy21 : Nat → Int32) (fy22 : Nat → Int32) (pYw0_0 : Int32) (wa : Nat) (pYw0_5 : Int32) (pYw0_6 : Int32) (wb : Nat) (pYw0_14 : Int32) (pYw0_15 : Int32) (pYw0_16 : Int32) (fYw1 : Nat → Int32) (fYw2 : Nat → Int32) (fYw4 : Nat → Int32) (fYw5 : Nat → Int32) (fYw6 : Nat → Int32) (fYw8 : Nat → Int32) (hn : 1 ≤ n ∧ n ≤ 3646) (hL : 1 ≤ L ∧ L ≤ 10000) (ba1 : iv 0 ((n : Int) - 1) a1) (bpy2_1 : iv 0 4 py2_1) (bpy2_2 : iv 0 4 py2_2) (bpy2_3 : iv 0 8 py2_3) (bpy2_4 : iv 0 9999 py2_4) (bpy2_5 : iv 0 9 py2_5) (bpy2_13 : iv 0 900 py2_13) (bpy2_14 : iv 0 900 py2_14) (bpy2_15 : iv 0 900 py2_15) (bpy2_16 : iv 0 900 py2_16) (bpy2_17 : iv 0 900 py2_17) (tfy20 : ∀ j, iv 0 10 (fy20 j)) (bpYw0_0 : iv 0 4 pYw0_0) (bpYw0_5 : iv 0 ((n : Int)) pYw0_5) (bpYw0_6 : iv 0 4 pYw0_6) (bpYw0_14 : iv 0 4 pYw0_14) (bpYw0_15 : iv 0 9 pYw0_15) (bpYw0_16 : iv 0 ((n : Int)) pYw0_16) (tfYw1 : ∀ j, iv 0 ((L : Int) - 1) (fYw1 j)) (tfYw4 : ∀ j, iv 0 ((n : Int)) (fYw4 j)) (tfYw5 : ∀ j, iv 0 (4 * (n : Int) - 1) (fYw5 j)) (tfYw6 : ∀ j, iv 0 ((n : Int) - 1) (fYw6 j)) (hf0 : WA pYw0_5 fYw4 fYw1) (hf1 : WB pYw0_16 pYw0_6 pYw0_5 fYw6) (hf2 : WC pYw0_5 fYw2) (hf3 : (a1 : Int32).toInt ≤ (pYw0_16 : Int32).toInt) (hf4 : (a1 : Int32).toInt < (pYw0_5 : Int32).toInt) (hL9 : LW D9 fy3 fy9 py2_14 py2_15 py2_16 py2_17) (hK9 : KN D9 fy20) : Ct l V yX8_open (.code yX8_open cX8_open 10 none) 5 [.ref (Yw 0), .int a1] [(y 2, .inr (1, o1_iiiiiirrrrrrriiiii py2_0 py2_1 py2_2 py2_3 py2_4 py2_5 (y 3) (y 4) (y 5) (y 6) (y 7) (y 8) (y 9) py2_13 py2_14 py2_15 py2_16 py2_17)), (y 3, aI V 4 fy3), (y 9, aI V 900 fy9), (y 19, .inr (4, o4_rrrrrr (y 2) (y 20) (y 21) (y 22) (y 23) (y 24))), (y 20, aI V 2000 fy20), (y 21, aI V 6 fy21), (y 22, aI V 64 fy22), (Yw 0, .inr (8, o8_iirrriirrrrrrriii pYw0_0 (nI n) (Yw 1) (Yw 2) wa pYw0_5 pYw0_6 (y 19) (Yw 4) (Yw 5) (Yw 6) (Yw 7) (Yw 8) wb pYw0_14 pYw0_15 pYw0_16)), (Yw 1, aI V n fYw1), (Yw 2, aI V n fYw2), (Yw 4, aI V L fYw4), (Yw 5, aI V n fYw5), (Yw 6, aI V (n * 4) fYw6), (Yw 8, aI V 4 fYw8)] 0 0 (QV V (fun (w : va_W) => ∃ (g0 : Nat → Int32) (g1 : Nat → Int32) (g2 : Nat → Int32) (v3 : Int32) (v4 : Int32) (g5 : Nat → Int32) (g6 : Nat → Int32) (g7 : Nat → Int32) (g8 : Nat → Int32) (g9 : Nat → Int32) (g10 : Nat → Int32), (∀ j, iv 0 10 (g0 j)) ∧ iv 0 ((n : Int)) v3 ∧ iv 0 ((n : Int)) v4 ∧ (∀ j, iv 0 ((L : Int) - 1) (g5 j)) ∧ (∀ j, iv 0 ((n : Int)) (g7 j)) ∧ (∀ j, iv 0 (4 * (n : Int) - 1) (g8 j)) ∧ (∀ j, iv 0 ((n : Int) - 1) (g9 j)) ∧ (WA v3 g7 g5) ∧ (WB v4 pYw0_6 v3 g9) ∧ (WC v3 g6) ∧ ((v4 : Int32).toInt = (a1 : Int32).toInt + 1) ∧ ((pYw0_5 : Int32).toInt ≤ (v3 : Int32).toInt) ∧ KN D9 g0 ∧ w = [(y 2, .inr (1, o1_iiiiiirrrrrrriiiii py2_0 py2_1 py2_2 py2_3 py2_4 py2_5 (y 3) (y 4) (y 5) (y 6) (y 7) (y 8) (y 9) py2_13 py2_14 py2_15 py2_16 py2_17)), (y 3, aI V 4 fy3), (y 9, aI V 900 fy9), (y 19, .inr (4, o4_rrrrrr (y 2) (y 20) (y 21) (y 22) (y 23) (y 24))), (y 20, aI V 2000 g0), (y 21, aI V 6 g1), (y 22, aI V 64 g2), (Yw 0, .inr (8, o8_iirrriirrrrrrriii pYw0_0 (nI n) (Yw 1) (Yw 2) wa v3 pYw0_6 (y 19) (Yw 4) (Yw 5) (Yw 6) (Yw 7) (Yw 8) wb pYw0_14 pYw0_15 v4)), (Yw 1, aI V n g5), (Yw 2, aI V n g6), (Yw 4, aI V L g7), (Yw 5, aI V n g8), (Yw 6, aI V (n * 4) g9), (Yw 8, aI V 4 g10)])) := by
  refine Ct.of (by decide) (Nat.le_of_ble_eq_true rfl) (fun p e s m below meth c A ls hx hb hr hml hown hlk hnm hg hP hK hD hE hA hS hl => ?_)
  have hl : lv_has ls 10 [(0, .ref (Yw 0)), (1, .int a1)] := hl
  refine lv_aload_n hx hb dX8_open_0 rfl (lv_at hl 0 rfl) ?_
  refine va_get (ci := 8) (v := .ref (Yw 1)) (C := RX8) (T := TX8) (N := 17) hx hb hg inX8 hown hK hP 7 rfl rfl 2 (by decide) (hg _ q_4_69) (fun _ h9 => h9) rfl dX8_open_1 ?_
  refine lv_iload_n hx hb dX8_open_4 rfl (lv_at hl 1 rfl) ?_
  refine va_iald hx hb hK hP 8 0 rfl rfl (iv_in ba1 (by first | decide | omega)) dX8_open_5 ?_
  refine lv_topi (fun x_1 ex_1 => ?_)
  have bx_1 : iv 0 ((L : Int) - 1) x_1 := by rw [ex_1]; exact tfYw1 _
  refine lv_istore_n (lv' := [(2, .int x_1), (0, .ref (Yw 0)), (1, .int a1)]) hx hb dX8_open_6 rfl hl (by decide) rfl (fun ls hl => ?_)
  refine lv_iconst (v := 0) hx hb dX8_open_7 (by decide) ?_
  refine lv_istore_n (lv' := [(3, .int 0), (2, .int x_1), (0, .ref (Yw 0)), (1, .int a1)]) hx hb dX8_open_8 rfl hl (by decide) rfl (fun ls hl => ?_)
  refine lv_iconst (v := 0) hx hb dX8_open_9 (by decide) ?_
  refine lv_istore (lv' := [(4, .int 0), (3, .int 0), (2, .int x_1), (0, .ref (Yw 0)), (1, .int a1)]) hx hb dX8_open_10 hl (by decide) rfl (fun ls hl => ?_)
  refine lv_iconst (v := 0) hx hb dX8_open_12 (by decide) ?_
  refine lv_istore (lv' := [(5, .int 0), (4, .int 0), (3, .int 0), (2, .int x_1), (0, .ref (Yw 0)), (1, .int a1)]) hx hb dX8_open_13 hl (by decide) rfl (fun ls hl => ?_)
  refine loopF (X := fun (n_9 : Nat) (H : Heap) (locs : List Loc) (ls : Array Slot) => ∃ (u_2 : Int32) (u_3 : Int32) (u_4 : Int32) (f_5 : Nat → Int32) (f_6 : Nat → Int32) (f_7 : Nat → Int32) (f_8 : Nat → Int32), (iv 0 2147483647 u_2) ∧ (iv 0 9 u_3) ∧ (∀ j, iv 0 10 (f_5 j)) ∧ KN D9 f_5 ∧ n_9 = (2147483647 - (u_2 : Int32).toInt).toNat ∧ va_P V.1 vwCl [(y 2, .inr (1, o1_iiiiiirrrrrrriiiii py2_0 py2_1 py2_2 py2_3 py2_4 py2_5 (y 3) (y 4) (y 5) (y 6) (y 7) (y 8) (y 9) py2_13 py2_14 py2_15 py2_16 py2_17)), (y 3, aI V 4 fy3), (y 9, aI V 900 fy9), (y 19, .inr (4, o4_rrrrrr (y 2) (y 20) (y 21) (y 22) (y 23) (y 24))), (y 20, aI V 2000 f_5), (y 21, aI V 6 f_6), (y 22, aI V 64 f_7), (Yw 0, .inr (8, o8_iirrriirrrrrrriii pYw0_0 (nI n) (Yw 1) (Yw 2) wa pYw0_5 pYw0_6 (y 19) (Yw 4) (Yw 5) (Yw 6) (Yw 7) (Yw 8) wb pYw0_14 pYw0_15 pYw0_16)), (Yw 1, aI V n fYw1), (Yw 2, aI V n fYw2), (Yw 4, aI V L fYw4), (Yw 5, aI V n fYw5), (Yw 6, aI V (n * 4) fYw6), (Yw 8, aI V 4 f_8)] H ∧ va_D A [(y 2, .inr (1, o1_iiiiiirrrrrrriiiii py2_0 py2_1 py2_2 py2_3 py2_4 py2_5 (y 3) (y 4) (y 5) (y 6) (y 7) (y 8) (y 9) py2_13 py2_14 py2_15 py2_16 py2_17)), (y 3, aI V 4 fy3), (y 9, aI V 900 fy9), (y 19, .inr (4, o4_rrrrrr (y 2) (y 20) (y 21) (y 22) (y 23) (y 24))), (y 20, aI V 2000 f_5), (y 21, aI V 6 f_6), (y 22, aI V 64 f_7), (Yw 0, .inr (8, o8_iirrriirrrrrrriii pYw0_0 (nI n) (Yw 1) (Yw 2) wa pYw0_5 pYw0_6 (y 19) (Yw 4) (Yw 5) (Yw 6) (Yw 7) (Yw 8) wb pYw0_14 pYw0_15 pYw0_16)), (Yw 1, aI V n fYw1), (Yw 2, aI V n fYw2), (Yw 4, aI V L fYw4), (Yw 5, aI V n fYw5), (Yw 6, aI V (n * 4) fYw6), (Yw 8, aI V 4 f_8)] ∧ va_S A s.heap H locs ∧ lv_has ls 10 [(5, .int u_2), (4, .int u_3), (3, .int u_4), (2, .int x_1), (0, .ref (Yw 0)), (1, .int a1)]) (g := fun ls => F0 m 15 ls []) (fun n_9 H locs ls hX ihn_9 => ?_) _ ⟨0, 0, 0, fy20, fy21, fy22, fYw8, (iv_c (0 : Int32) (by decide)), (iv_c (0 : Int32) (by decide)), tfy20, hK9, rfl, hP, hD, hS, lv_sub hl [0, 1, 2, 3, 4, 5] rfl⟩
  obtain ⟨u_2, u_3, u_4, f_5, f_6, f_7, f_8, bu_2, bu_3, tf_5, knn_9, en_9, hP, hD, hS, hl⟩ := hX
  refine lv_iload hx hb dX8_open_15 (lv_at hl 0 rfl) ?_
  refine lv_aload_n hx hb dX8_open_17 rfl (lv_at hl 4 rfl) ?_
  refine va_get (ci := 8) (v := .int pYw0_14) (C := RX8) (T := TX8) (N := 17) hx hb hg inX8 hown hK hP 7 rfl rfl 14 (by decide) (hg _ q_4_88) (fun _ h9 => h9) rfl dX8_open_18 ?_
  refine lv_icmp_ge (tgt := 143) hx hb dX8_open_21 (by decide) (fun c_10 => ?_) (fun c_10 => ?_)
  · refine lv_aload_n hx hb dX8_open_143 rfl (lv_at hl 4 rfl) ?_
    refine va_get (ci := 8) (v := .ref (Yw 8)) (C := RX8) (T := TX8) (N := 17) hx hb hg inX8 hown hK hP 7 rfl rfl 12 (by decide) (hg _ q_4_86) (fun _ h9 => h9) rfl dX8_open_144 ?_
    refine lv_iconst (v := 0) hx hb dX8_open_147 (by decide) ?_
    refine lv_iconst (v := 0) hx hb dX8_open_148 (by decide) ?_
    refine va_iast hx hb hK hP hD hS 13 0 rfl rfl (vin (by decide +kernel)) dX8_open_149 (fun H locs hP hD hS => ?_)
    obtain ⟨f_11, hP, hD⟩ : ∃ f_11 : Nat → Int32, va_P V.1 vwCl [(y 2, .inr (1, o1_iiiiiirrrrrrriiiii py2_0 py2_1 py2_2 py2_3 py2_4 py2_5 (y 3) (y 4) (y 5) (y 6) (y 7) (y 8) (y 9) py2_13 py2_14 py2_15 py2_16 py2_17)), (y 3, aI V 4 fy3), (y 9, aI V 900 fy9), (y 19, .inr (4, o4_rrrrrr (y 2) (y 20) (y 21) (y 22) (y 23) (y 24))), (y 20, aI V 2000 f_5), (y 21, aI V 6 f_6), (y 22, aI V 64 f_7), (Yw 0, .inr (8, o8_iirrriirrrrrrriii pYw0_0 (nI n) (Yw 1) (Yw 2) wa pYw0_5 pYw0_6 (y 19) (Yw 4) (Yw 5) (Yw 6) (Yw 7) (Yw 8) wb pYw0_14 pYw0_15 pYw0_16)), (Yw 1, aI V n fYw1), (Yw 2, aI V n fYw2), (Yw 4, aI V L fYw4), (Yw 5, aI V n fYw5), (Yw 6, aI V (n * 4) fYw6), (Yw 8, aI V 4 f_11)] H ∧ va_D A [(y 2, .inr (1, o1_iiiiiirrrrrrriiiii py2_0 py2_1 py2_2 py2_3 py2_4 py2_5 (y 3) (y 4) (y 5) (y 6) (y 7) (y 8) (y 9) py2_13 py2_14 py2_15 py2_16 py2_17)), (y 3, aI V 4 fy3), (y 9, aI V 900 fy9), (y 19, .inr (4, o4_rrrrrr (y 2) (y 20) (y 21) (y 22) (y 23) (y 24))), (y 20, aI V 2000 f_5), (y 21, aI V 6 f_6), (y 22, aI V 64 f_7), (Yw 0, .inr (8, o8_iirrriirrrrrrriii pYw0_0 (nI n) (Yw 1) (Yw 2) wa pYw0_5 pYw0_6 (y 19) (Yw 4) (Yw 5) (Yw 6) (Yw 7) (Yw 8) wb pYw0_14 pYw0_15 pYw0_16)), (Yw 1, aI V n fYw1), (Yw 2, aI V n fYw2), (Yw 4, aI V L fYw4), (Yw 5, aI V n fYw5), (Yw 6, aI V (n * 4) fYw6), (Yw 8, aI V 4 f_11)] := ⟨_, hP, hD⟩
    refine lv_iconst (v := 0) hx hb dX8_open_150 (by decide) ?_
    refine lv_istore (lv' := [(5, .int 0), (4, .int u_3), (3, .int u_4), (2, .int x_1), (0, .ref (Yw 0)), (1, .int a1)]) hx hb dX8_open_151 hl (by decide) rfl (fun ls hl => ?_)
    refine loopF (X := fun (n_19 : Nat) (H : Heap) (locs : List Loc) (ls : Array Slot) => ∃ (u_12 : Int32) (u_13 : Int32) (f_14 : Nat → Int32) (f_15 : Nat → Int32) (f_16 : Nat → Int32) (f_17 : Nat → Int32) (f_18 : Nat → Int32), (iv 0 2147483647 u_12) ∧ (iv 0 ((n : Int)) u_13) ∧ (∀ j, iv 0 ((L : Int) - 1) (f_14 j)) ∧ (∀ j, iv 0 ((n : Int)) (f_16 j)) ∧ (∀ j, iv 0 (4 * (n : Int) - 1) (f_17 j)) ∧ (∀ j, iv 0 ((n : Int) - 1) (f_18 j)) ∧ ((a1 : Int32).toInt < (u_13 : Int32).toInt) ∧ ((pYw0_5 : Int32).toInt ≤ (u_13 : Int32).toInt) ∧ (WR u_12 a1 u_13 f_18) ∧ (WA u_13 f_16 f_14) ∧ (WB pYw0_16 pYw0_6 u_13 f_18) ∧ (WC u_13 f_15) ∧ KN D9 f_5 ∧ n_19 = (2147483647 - (u_12 : Int32).toInt).toNat ∧ va_P V.1 vwCl [(y 2, .inr (1, o1_iiiiiirrrrrrriiiii py2_0 py2_1 py2_2 py2_3 py2_4 py2_5 (y 3) (y 4) (y 5) (y 6) (y 7) (y 8) (y 9) py2_13 py2_14 py2_15 py2_16 py2_17)), (y 3, aI V 4 fy3), (y 9, aI V 900 fy9), (y 19, .inr (4, o4_rrrrrr (y 2) (y 20) (y 21) (y 22) (y 23) (y 24))), (y 20, aI V 2000 f_5), (y 21, aI V 6 f_6), (y 22, aI V 64 f_7), (Yw 0, .inr (8, o8_iirrriirrrrrrriii pYw0_0 (nI n) (Yw 1) (Yw 2) wa u_13 pYw0_6 (y 19) (Yw 4) (Yw 5) (Yw 6) (Yw 7) (Yw 8) wb pYw0_14 pYw0_15 pYw0_16)), (Yw 1, aI V n f_14), (Yw 2, aI V n f_15), (Yw 4, aI V L f_16), (Yw 5, aI V n f_17), (Yw 6, aI V (n * 4) f_18), (Yw 8, aI V 4 f_11)] H ∧ va_D A [(y 2, .inr (1, o1_iiiiiirrrrrrriiiii py2_0 py2_1 py2_2 py2_3 py2_4 py2_5 (y 3) (y 4) (y 5) (y 6) (y 7) (y 8) (y 9) py2_13 py2_14 py2_15 py2_16 py2_17)), (y 3, aI V 4 fy3), (y 9, aI V 900 fy9), (y 19, .inr (4, o4_rrrrrr (y 2) (y 20) (y 21) (y 22) (y 23) (y 24))), (y 20, aI V 2000 f_5), (y 21, aI V 6 f_6), (y 22, aI V 64 f_7), (Yw 0, .inr (8, o8_iirrriirrrrrrriii pYw0_0 (nI n) (Yw 1) (Yw 2) wa u_13 pYw0_6 (y 19) (Yw 4) (Yw 5) (Yw 6) (Yw 7) (Yw 8) wb pYw0_14 pYw0_15 pYw0_16)), (Yw 1, aI V n f_14), (Yw 2, aI V n f_15), (Yw 4, aI V L f_16), (Yw 5, aI V n f_17), (Yw 6, aI V (n * 4) f_18), (Yw 8, aI V 4 f_11)] ∧ va_S A s.heap H locs ∧ lv_has ls 10 [(5, .int u_12), (4, .int u_3), (3, .int u_4), (2, .int x_1), (0, .ref (Yw 0)), (1, .int a1)]) (g := fun ls => F0 m 153 ls []) (fun n_19 H locs ls hX ihn_19 => ?_) _ ⟨0, pYw0_5, fYw1, fYw2, fYw4, fYw5, fYw6, (iv_c (0 : Int32) (by decide)), bpYw0_5, tfYw1, tfYw4, tfYw5, tfYw6, hf4, (Int.le_refl _), (WR_0 (by decide)), hf0, hf1, hf2, knn_9, rfl, hP, hD, hS, lv_sub hl [0, 1, 2, 3, 4, 5] rfl⟩
    obtain ⟨u_12, u_13, f_14, f_15, f_16, f_17, f_18, bu_12, bu_13, tf_14, tf_16, tf_17, tf_18, inn_19_0, inn_19_1, inn_19_2, inn_19_3, inn_19_4, inn_19_5, knn_19, en_19, hP, hD, hS, hl⟩ := hX
    refine lv_iload hx hb dX8_open_153 (lv_at hl 0 rfl) ?_
    refine lv_aload_n hx hb dX8_open_155 rfl (lv_at hl 4 rfl) ?_
    refine va_get (ci := 8) (v := .int pYw0_6) (C := RX8) (T := TX8) (N := 17) hx hb hg inX8 hown hK hP 7 rfl rfl 6 (by decide) (hg _ q_4_80) (fun _ h9 => h9) rfl dX8_open_156 ?_
    refine lv_icmp_ge (tgt := 203) hx hb dX8_open_159 (by decide) (fun c_20 => ?_) (fun c_20 => ?_)
    · refine lv_aload_n hx hb dX8_open_203 rfl (lv_at hl 4 rfl) ?_
      refine lv_iload_n hx hb dX8_open_204 rfl (lv_at hl 5 rfl) ?_
      refine lv_iconst (v := 1) hx hb dX8_open_205 (by decide) ?_
      refine lv_iadd hx hb dX8_open_206 ?_
      refine lv_topi (fun x_21 ex_21 => ?_)
      have bx_21 : iv 1 ((n : Int)) x_21 := by rw [ex_21]; exact iv_add ba1 (iv_c (1 : Int32) (a := 1) (b := 1) (by decide)) (by first | decide | omega)
      refine va_put (ci := 8) (v := .int x_21) (ty := .int) (C := RX8) (T := TX8) (N := 17) hx hb hg inX8 tyX8 tyX8_ok nmX8 hown hK hP hD hS 7 rfl rfl 16 (by decide) (hg _ q_4_90) (fun _ h9 => h9) rfl (by decide +kernel) rfl rfl (Nat.le_of_ble_eq_true rfl) dX8_open_207 (fun H locs hP hD hS => ?_)
      have hP : va_P V.1 vwCl [(y 2, .inr (1, o1_iiiiiirrrrrrriiiii py2_0 py2_1 py2_2 py2_3 py2_4 py2_5 (y 3) (y 4) (y 5) (y 6) (y 7) (y 8) (y 9) py2_13 py2_14 py2_15 py2_16 py2_17)), (y 3, aI V 4 fy3), (y 9, aI V 900 fy9), (y 19, .inr (4, o4_rrrrrr (y 2) (y 20) (y 21) (y 22) (y 23) (y 24))), (y 20, aI V 2000 f_5), (y 21, aI V 6 f_6), (y 22, aI V 64 f_7), (Yw 0, .inr (8, o8_iirrriirrrrrrriii pYw0_0 (nI n) (Yw 1) (Yw 2) wa u_13 pYw0_6 (y 19) (Yw 4) (Yw 5) (Yw 6) (Yw 7) (Yw 8) wb pYw0_14 pYw0_15 x_21)), (Yw 1, aI V n f_14), (Yw 2, aI V n f_15), (Yw 4, aI V L f_16), (Yw 5, aI V n f_17), (Yw 6, aI V (n * 4) f_18), (Yw 8, aI V 4 f_11)] H := hP
      have hD := cpD hP hD
      exact fiV hx hb hr hlk hK hP hD hS dX8_open_210 (Nat.le_of_ble_eq_true rfl) (Nat.le_of_ble_eq_true rfl) (⟨f_5, f_6, f_7, u_13, x_21, f_14, f_15, f_16, f_17, f_18, f_11, tf_5, bu_13, (iv_w bx_21 (by first | decide | omega)), tf_14, tf_16, tf_17, tf_18, inn_19_3, (WB_open inn_19_4 inn_19_2 (Int32.not_lt.mpr c_20) ba1 (by omega) hf3 ex_21), inn_19_5, (inc_toInt ex_21 ba1 (by omega)), inn_19_1, knn_19, rfl⟩)
    · have b_22 : iv 0 3 u_12 := iv_l1 (Int32.not_le.mp c_20) bu_12 bpYw0_6 (by first | decide | omega)
      have b_23 : iv 1 4 pYw0_6 := iv_l2 (Int32.not_le.mp c_20) bu_12 bpYw0_6 (by first | decide | omega)
      refine lv_aload_n hx hb dX8_open_162 rfl (lv_at hl 4 rfl) ?_
      refine va_get (ci := 8) (v := .ref (Yw 6)) (C := RX8) (T := TX8) (N := 17) hx hb hg inX8 hown hK hP 7 rfl rfl 10 (by decide) (hg _ q_4_84) (fun _ h9 => h9) rfl dX8_open_163 ?_
      refine lv_iload_n hx hb dX8_open_166 rfl (lv_at hl 5 rfl) ?_
      refine lv_iconst (v := 4) hx hb dX8_open_167 (by decide) ?_
      refine lv_imul hx hb dX8_open_168 ?_
      refine lv_topi (fun x_24 ex_24 => ?_)
      have bx_24 : iv 0 (4 * (n : Int) - 4) x_24 := by rw [ex_24]; exact iv_mulc ba1 (iv_c (4 : Int32) (a := 4) (b := 4) (by decide)) (by first | decide | omega)
      refine lv_iload hx hb dX8_open_169 (lv_at hl 0 rfl) ?_
      refine lv_iadd hx hb dX8_open_171 ?_
      refine lv_topi (fun x_25 ex_25 => ?_)
      have bx_25 : iv 0 (4 * (n : Int) - 1) x_25 := by rw [ex_25]; exact iv_add bx_24 b_22 (by first | decide | omega)
      refine lv_aload_n hx hb dX8_open_172 rfl (lv_at hl 4 rfl) ?_
      refine lv_iload_n hx hb dX8_open_173 rfl (lv_at hl 2 rfl) ?_
      refine lv_aload_n hx hb dX8_open_174 rfl (lv_at hl 4 rfl) ?_
      refine va_get (ci := 8) (v := .ref (Yw 8)) (C := RX8) (T := TX8) (N := 17) hx hb hg inX8 hown hK hP 7 rfl rfl 12 (by decide) (hg _ q_4_86) (fun _ h9 => h9) rfl dX8_open_175 ?_
      refine lv_iload hx hb dX8_open_178 (lv_at hl 0 rfl) ?_
      refine va_iald hx hb hK hP 13 0 rfl rfl (iv_in b_22 (by first | decide | omega)) dX8_open_180 ?_
      refine lv_topi (fun x_26 ex_26 => ?_)
      refine lv_iadd hx hb dX8_open_181 ?_
      refine lv_topi (fun x_27 ex_27 => ?_)
      refine lv_iload_n hx hb dX8_open_182 rfl (lv_at hl 5 rfl) ?_
      refine lv_iload hx hb dX8_open_183 (lv_at hl 0 rfl) ?_
      refine lv_aload_n hx hb dX8_open_185 rfl (lv_at hl 4 rfl) ?_
      refine va_get (ci := 8) (v := .ref (Yw 2)) (C := RX8) (T := TX8) (N := 17) hx hb hg inX8 hown hK hP 7 rfl rfl 3 (by decide) (hg _ q_4_72) (fun _ h9 => h9) rfl dX8_open_186 ?_
      refine lv_iload_n hx hb dX8_open_189 rfl (lv_at hl 5 rfl) ?_
      refine va_iald hx hb hK hP 9 0 rfl rfl (iv_in ba1 (by first | decide | omega)) dX8_open_190 ?_
      refine lv_topi (fun x_28 ex_28 => ?_)
      refine lv_iconst (v := 1) hx hb dX8_open_191 (by decide) ?_
      refine lv_iadd hx hb dX8_open_192 ?_
      refine lv_topi (fun x_29 ex_29 => ?_)
      refine jnI (wr := [(y 2, .inr (1, o1_iiiiiirrrrrrriiiii py2_0 py2_1 py2_2 py2_3 py2_4 py2_5 (y 3) (y 4) (y 5) (y 6) (y 7) (y 8) (y 9) py2_13 py2_14 py2_15 py2_16 py2_17)), (y 3, aI V 4 fy3), (y 9, aI V 900 fy9), (y 19, .inr (4, o4_rrrrrr (y 2) (y 20) (y 21) (y 22) (y 23) (y 24))), (y 20, aI V 2000 f_5), (y 21, aI V 6 f_6), (y 22, aI V 64 f_7), (Yw 8, aI V 4 f_11)]) (rnV (rest := [.int x_25, .ref (Yw 6)]) ⟨hx, hb, hml, hown, hg⟩ (k_X8_meet_0 l V n L Yw y x_27 a1 u_12 x_29 pYw0_0 wa u_13 pYw0_6 wb pYw0_14 pYw0_15 pYw0_16 f_14 f_15 f_16 f_17 f_18 hn hL ba1 b_22 bpYw0_0 bu_13 (iv_w b_23 (by first | decide | omega)) bpYw0_14 bpYw0_15 bpYw0_16 tf_14 tf_16 tf_17 tf_18 inn_19_3 inn_19_4 inn_19_5 (lvl1 inn_19_5 ba1 (by omega) inn_19_0 ex_28 ex_29)) mt_X8_meet q_4_132 ⟨Nat.le_of_ble_eq_true rfl, Nat.le_of_ble_eq_true rfl⟩ hK hP hD hS hA hE [7, 8, 9, 10, 11, 12] rfl rfl 7 rfl rfl rfl rfl hl.1 rfl (Nat.le_of_ble_eq_true rfl) dX8_open_193 ⟨Nat.le_of_ble_eq_true rfl, Nat.le_of_ble_eq_true rfl⟩) hP hD hS hA [7, 8, 9, 10, 11, 12] [0, 1, 2, 3, 4, 5, 6, 13] rfl rfl rfl (by decide) (fun r_30 w H locs hw hP hD hS => ?_)
      obtain ⟨v_31, f_32, f_33, f_34, f_35, bv_31, tf_32, tf_34, tf_35, br_30, g_36, g_37, g_38, g_39, g_40, rfl⟩ := hw
      have hP : va_P V.1 vwCl [(y 2, .inr (1, o1_iiiiiirrrrrrriiiii py2_0 py2_1 py2_2 py2_3 py2_4 py2_5 (y 3) (y 4) (y 5) (y 6) (y 7) (y 8) (y 9) py2_13 py2_14 py2_15 py2_16 py2_17)), (y 3, aI V 4 fy3), (y 9, aI V 900 fy9), (y 19, .inr (4, o4_rrrrrr (y 2) (y 20) (y 21) (y 22) (y 23) (y 24))), (y 20, aI V 2000 f_5), (y 21, aI V 6 f_6), (y 22, aI V 64 f_7), (Yw 8, aI V 4 f_11), (Yw 0, .inr (8, o8_iirrriirrrrrrriii pYw0_0 (nI n) (Yw 1) (Yw 2) wa v_31 pYw0_6 (y 19) (Yw 4) (Yw 5) (Yw 6) (Yw 7) (Yw 8) wb pYw0_14 pYw0_15 pYw0_16)), (Yw 1, aI V n f_32), (Yw 2, aI V n f_33), (Yw 4, aI V L f_34), (Yw 5, aI V n f_35), (Yw 6, aI V (n * 4) f_18)] H := hP
      have hD := cpD hP hD
      refine va_iast hx hb hK hP hD hS 13 0 rfl rfl (iv_in bx_25 (by first | decide | omega)) dX8_open_196 (fun H locs hP hD hS => ?_)
      obtain ⟨f_41, ef_41, tf_41, hP, hD⟩ : ∃ f_41 : Nat → Int32, f_41 = (upd f_18 (x_25 : Int32).toNatClampNeg r_30) ∧ (∀ j, iv 0 ((n : Int) - 1) (f_41 j)) ∧ va_P V.1 vwCl [(y 2, .inr (1, o1_iiiiiirrrrrrriiiii py2_0 py2_1 py2_2 py2_3 py2_4 py2_5 (y 3) (y 4) (y 5) (y 6) (y 7) (y 8) (y 9) py2_13 py2_14 py2_15 py2_16 py2_17)), (y 3, aI V 4 fy3), (y 9, aI V 900 fy9), (y 19, .inr (4, o4_rrrrrr (y 2) (y 20) (y 21) (y 22) (y 23) (y 24))), (y 20, aI V 2000 f_5), (y 21, aI V 6 f_6), (y 22, aI V 64 f_7), (Yw 8, aI V 4 f_11), (Yw 0, .inr (8, o8_iirrriirrrrrrriii pYw0_0 (nI n) (Yw 1) (Yw 2) wa v_31 pYw0_6 (y 19) (Yw 4) (Yw 5) (Yw 6) (Yw 7) (Yw 8) wb pYw0_14 pYw0_15 pYw0_16)), (Yw 1, aI V n f_32), (Yw 2, aI V n f_33), (Yw 4, aI V L f_34), (Yw 5, aI V n f_35), (Yw 6, aI V (n * 4) f_41)] H ∧ va_D A [(y 2, .inr (1, o1_iiiiiirrrrrrriiiii py2_0 py2_1 py2_2 py2_3 py2_4 py2_5 (y 3) (y 4) (y 5) (y 6) (y 7) (y 8) (y 9) py2_13 py2_14 py2_15 py2_16 py2_17)), (y 3, aI V 4 fy3), (y 9, aI V 900 fy9), (y 19, .inr (4, o4_rrrrrr (y 2) (y 20) (y 21) (y 22) (y 23) (y 24))), (y 20, aI V 2000 f_5), (y 21, aI V 6 f_6), (y 22, aI V 64 f_7), (Yw 8, aI V 4 f_11), (Yw 0, .inr (8, o8_iirrriirrrrrrriii pYw0_0 (nI n) (Yw 1) (Yw 2) wa v_31 pYw0_6 (y 19) (Yw 4) (Yw 5) (Yw 6) (Yw 7) (Yw 8) wb pYw0_14 pYw0_15 pYw0_16)), (Yw 1, aI V n f_32), (Yw 2, aI V n f_33), (Yw 4, aI V L f_34), (Yw 5, aI V n f_35), (Yw 6, aI V (n * 4) f_41)] := ⟨_, rfl, ivU tf_18 _ br_30, hP, hD⟩
      obtain ⟨x_42, ex_42⟩ : ∃ z9 : Int32, z9 = u_12 + 1 := ⟨_, rfl⟩
      have bx_42 : iv 1 4 x_42 := by rw [ex_42]; exact iv_add b_22 (iv_c (1 : Int32) (a := 1) (b := 1) (by first | decide | omega)) (by first | decide | omega)
      refine lv_iinc (v := x_42) (lv' := [(5, .int x_42), (4, .int u_3), (3, .int u_4), (2, .int x_1), (0, .ref (Yw 0)), (1, .int a1)]) hx hb dX8_open_197 hl (k := 0) rfl (by rw [ex_42]; rfl) (by decide) rfl (fun ls hl => ?_)
      refine lv_goto (tgt := 153) hx hb dX8_open_200 (by decide) ?_
      have hP := subP (ws' := [(y 2, .inr (1, o1_iiiiiirrrrrrriiiii py2_0 py2_1 py2_2 py2_3 py2_4 py2_5 (y 3) (y 4) (y 5) (y 6) (y 7) (y 8) (y 9) py2_13 py2_14 py2_15 py2_16 py2_17)), (y 3, aI V 4 fy3), (y 9, aI V 900 fy9), (y 19, .inr (4, o4_rrrrrr (y 2) (y 20) (y 21) (y 22) (y 23) (y 24))), (y 20, aI V 2000 f_5), (y 21, aI V 6 f_6), (y 22, aI V 64 f_7), (Yw 0, .inr (8, o8_iirrriirrrrrrriii pYw0_0 (nI n) (Yw 1) (Yw 2) wa v_31 pYw0_6 (y 19) (Yw 4) (Yw 5) (Yw 6) (Yw 7) (Yw 8) wb pYw0_14 pYw0_15 pYw0_16)), (Yw 1, aI V n f_32), (Yw 2, aI V n f_33), (Yw 4, aI V L f_34), (Yw 5, aI V n f_35), (Yw 6, aI V (n * 4) f_41), (Yw 8, aI V 4 f_11)]) hP [0, 1, 2, 3, 4, 5, 6, 8, 9, 10, 11, 12, 13, 7] rfl
      have hD := subD hP hD [0, 1, 2, 3, 4, 5, 6, 8, 9, 10, 11, 12, 13, 7] rfl rfl
      exact ihn_19 _ _ _ _ (by rw [en_19, ex_42]; exact mu_up b_22 (by first | decide | omega)) ⟨x_42, v_31, f_32, f_33, f_34, f_35, f_41, (iv_w bx_42 (by first | decide | omega)), bv_31, tf_32, tf_34, tf_35, tf_41, (Int.lt_of_lt_of_le inn_19_0 g_40), (Int.le_trans inn_19_1 g_40), (WR_s (WR_m inn_19_2 g_40) ba1 b_22 (by omega) ex_24 ex_25 ef_41 (g_39 (by have q8 := inn_19_0; have q7 := g_40; have q6 := ba1.1; omega)) ex_42), g_36, (WB_s g_37 ef_41 (g_39 (by have q8 := inn_19_0; have q7 := g_40; have q6 := ba1.1; omega))), g_38, knn_19, rfl, hP, hD, hS, lv_sub hl [0, 1, 2, 3, 4, 5] rfl⟩
  · have b_43 : iv 0 3 u_2 := iv_l1 (Int32.not_le.mp c_10) bu_2 bpYw0_14 (by first | decide | omega)
    have b_44 : iv 1 4 pYw0_14 := iv_l2 (Int32.not_le.mp c_10) bu_2 bpYw0_14 (by first | decide | omega)
    refine lv_iload_n hx hb dX8_open_24 rfl (lv_at hl 3 rfl) ?_
    refine va_getsN (C := "BeaconDelay") (n := "POWER") (d := "[I") hx hb hE.1.1 hS hown (va_Nw.use rfl (hE.2.2.2.2.1 _ (show ("BeaconDelay$Ways", 35, "POWER", "[I") ∈ nF by decide))) (fun _ h9 => h9) dX8_open_25 ?_
    refine lv_iload hx hb dX8_open_28 (lv_at hl 0 rfl) ?_
    refine va_ti (v := .int (pw u_2.toNatClampNeg)) hx hb hE.1.2 hS (iv_in b_43 (by first | decide | omega)) rfl dX8_open_30 ?_
    refine lv_topi (fun x_45 ex_45 => ?_)
    have bx_45 : iv 1 10000 x_45 := by rw [ex_45]; exact pw_iv b_43 (by decide)
    refine lv_idiv hx hb dX8_open_31 (iv_nz bx_45 (by first | decide | omega)) ?_
    refine lv_topi (fun x_46 ex_46 => ?_)
    have bx_46 : iv 0 ((L : Int) - 1) x_46 := by rw [ex_46]; exact iv_divv bx_1 bx_45 (by first | decide | omega)
    refine lv_bipush (v := 10) hx hb dX8_open_32 (by decide) ?_
    refine lv_irem hx hb dX8_open_34 (by decide) ?_
    refine lv_topi (fun x_47 ex_47 => ?_)
    have bx_47 : iv 0 9 x_47 := by rw [ex_47]; exact iv_remp bx_46 (k := 10) (by first | decide | omega) (by first | decide | omega)
    refine lv_istore (lv' := [(6, .int x_47), (5, .int u_2), (4, .int u_3), (3, .int u_4), (2, .int x_1), (0, .ref (Yw 0)), (1, .int a1)]) hx hb dX8_open_35 hl (by decide) rfl (fun ls hl => ?_)
    refine lv_iload hx hb dX8_open_37 (lv_at hl 2 rfl) ?_
    refine lv_iconst (v := 2) hx hb dX8_open_39 (by decide) ?_
    refine lv_irem hx hb dX8_open_40 (by decide) ?_
    refine lv_topi (fun x_48 ex_48 => ?_)
    have bx_48 : iv 0 1 x_48 := by rw [ex_48]; exact iv_remp bu_3 (k := 2) (by first | decide | omega) (by first | decide | omega)
    refine lv_istore (lv' := [(7, .int x_48), (6, .int x_47), (5, .int u_2), (4, .int u_3), (3, .int u_4), (2, .int x_1), (0, .ref (Yw 0)), (1, .int a1)]) hx hb dX8_open_41 hl (by decide) rfl (fun ls hl => ?_)
    refine lv_aload_n hx hb dX8_open_43 rfl (lv_at hl 6 rfl) ?_
    refine va_get (ci := 8) (v := .ref (y 19)) (C := RX8) (T := TX8) (N := 17) hx hb hg inX8 hown hK hP 7 rfl rfl 7 (by decide) (hg _ q_4_81) (fun _ h9 => h9) rfl dX8_open_44 ?_
    refine lv_aload_n hx hb dX8_open_47 rfl (lv_at hl 6 rfl) ?_
    refine va_get (ci := 8) (v := .int pYw0_15) (C := RX8) (T := TX8) (N := 17) hx hb hg inX8 hown hK hP 7 rfl rfl 15 (by decide) (hg _ q_4_89) (fun _ h9 => h9) rfl dX8_open_48 ?_
    refine lv_iload hx hb dX8_open_51 (lv_at hl 2 rfl) ?_
    refine lv_iload hx hb dX8_open_53 (lv_at hl 1 rfl) ?_
    refine lv_iconst (v := 2) hx hb dX8_open_55 (by decide) ?_
    refine lv_idiv hx hb dX8_open_56 (by decide) ?_
    refine lv_topi (fun x_49 ex_49 => ?_)
    have bx_49 : iv 0 4 x_49 := by rw [ex_49]; exact iv_divp bx_47 (k := 2) (by first | decide | omega) (by first | decide | omega)
    refine lv_iload hx hb dX8_open_57 (lv_at hl 3 rfl) ?_
    refine lv_iconst (v := 2) hx hb dX8_open_59 (by decide) ?_
    refine lv_idiv hx hb dX8_open_60 (by decide) ?_
    refine lv_topi (fun x_50 ex_50 => ?_)
    have bx_50 : iv 0 4 x_50 := by rw [ex_50]; exact iv_divp bu_3 (k := 2) (by first | decide | omega) (by first | decide | omega)
    refine lv_iload hx hb dX8_open_61 (lv_at hl 0 rfl) ?_
    refine jnI (wr := [(Yw 0, .inr (8, o8_iirrriirrrrrrriii pYw0_0 (nI n) (Yw 1) (Yw 2) wa pYw0_5 pYw0_6 (y 19) (Yw 4) (Yw 5) (Yw 6) (Yw 7) (Yw 8) wb pYw0_14 pYw0_15 pYw0_16)), (Yw 1, aI V n fYw1), (Yw 2, aI V n fYw2), (Yw 4, aI V L fYw4), (Yw 5, aI V n fYw5), (Yw 6, aI V (n * 4) fYw6), (Yw 8, aI V 4 f_8)]) (rnV (rest := []) ⟨hx, hb, hml, hown, hg⟩ (k_X4_digitBehind_0 l V y pYw0_15 u_2 x_49 x_50 x_48 fy3 fy9 f_5 f_6 f_7 py2_0 py2_1 py2_2 py2_3 py2_4 py2_5 py2_13 py2_14 py2_15 py2_16 py2_17 bpYw0_15 b_43 bx_49 bx_50 bx_48 tf_5 bpy2_1 bpy2_2 bpy2_3 bpy2_4 bpy2_5 bpy2_13 bpy2_14 bpy2_15 bpy2_16 bpy2_17) mt_X4_digitBehind q_4_144 ⟨Nat.le_of_ble_eq_true rfl, Nat.le_of_ble_eq_true rfl⟩ hK hP hD hS hA hE [1, 2, 3, 4, 5, 6, 0] rfl rfl 3 rfl rfl rfl rfl hl.1 rfl (Nat.le_of_ble_eq_true rfl) dX8_open_63 ⟨Nat.le_of_ble_eq_true rfl, Nat.le_of_ble_eq_true rfl⟩) hP hD hS hA [1, 2, 3, 4, 5, 6, 0] [7, 8, 9, 10, 11, 12, 13] rfl rfl rfl (by decide) (fun r_51 w H locs hw hP hD hS => ?_)
    obtain ⟨f_52, f_53, f_54, tf_52, br_51, g_55, rfl⟩ := hw
    have qkn_56 := g_55 D9 hL9 knn_9
    have er_51 : r_51 = D9 (plF pYw0_15 u_2 x_49 x_50 x_48).toNatClampNeg := qkn_56.1
    have kn_56 := qkn_56.2
    have hP : va_P V.1 vwCl [(Yw 0, .inr (8, o8_iirrriirrrrrrriii pYw0_0 (nI n) (Yw 1) (Yw 2) wa pYw0_5 pYw0_6 (y 19) (Yw 4) (Yw 5) (Yw 6) (Yw 7) (Yw 8) wb pYw0_14 pYw0_15 pYw0_16)), (Yw 1, aI V n fYw1), (Yw 2, aI V n fYw2), (Yw 4, aI V L fYw4), (Yw 5, aI V n fYw5), (Yw 6, aI V (n * 4) fYw6), (Yw 8, aI V 4 f_8), (y 3, aI V 4 fy3), (y 9, aI V 900 fy9), (y 19, .inr (4, o4_rrrrrr (y 2) (y 20) (y 21) (y 22) (y 23) (y 24))), (y 20, aI V 2000 f_52), (y 21, aI V 6 f_53), (y 22, aI V 64 f_54), (y 2, .inr (1, o1_iiiiiirrrrrrriiiii py2_0 py2_1 py2_2 py2_3 py2_4 py2_5 (y 3) (y 4) (y 5) (y 6) (y 7) (y 8) (y 9) py2_13 py2_14 py2_15 py2_16 py2_17))] H := hP
    have hD := cpD hP hD
    refine lv_istore (lv' := [(8, .int r_51), (7, .int x_48), (6, .int x_47), (5, .int u_2), (4, .int u_3), (3, .int u_4), (2, .int x_1), (0, .ref (Yw 0)), (1, .int a1)]) hx hb dX8_open_66 hl (by decide) rfl (fun ls hl => ?_)
    refine lv_iload hx hb dX8_open_68 (lv_at hl 0 rfl) ?_
    refine lv_istore (lv' := [(9, .int r_51), (8, .int r_51), (7, .int x_48), (6, .int x_47), (5, .int u_2), (4, .int u_3), (3, .int u_4), (2, .int x_1), (0, .ref (Yw 0)), (1, .int a1)]) hx hb dX8_open_70 hl (by decide) rfl (fun ls hl => ?_)
    refine lv_iload hx hb dX8_open_72 (lv_at hl 2 rfl) ?_
    refine lv_iconst (v := 1) hx hb dX8_open_74 (by decide) ?_
    refine lv_icmp_ne (tgt := 102) hx hb dX8_open_75 (by decide) (fun c_57 => ?_) (fun c_57 => ?_)
    · have b_58 : iv 0 0 x_48 := iv_n1 c_57 bx_48 (iv_c (1 : Int32) (a := 1) (b := 1) (by decide)) (by first | decide | omega)
      refine lv_iload_n hx hb dX8_open_102 rfl (lv_at hl 6 rfl) ?_
      refine lv_iload hx hb dX8_open_103 (lv_at hl 1 rfl) ?_
      refine va_getsN (C := "BeaconDelay") (n := "POWER") (d := "[I") hx hb hE.1.1 hS hown (va_Nw.use rfl (hE.2.2.2.2.1 _ (show ("BeaconDelay$Ways", 35, "POWER", "[I") ∈ nF by decide))) (fun _ h9 => h9) dX8_open_105 ?_
      refine lv_iload hx hb dX8_open_108 (lv_at hl 4 rfl) ?_
      refine va_ti (v := .int (pw u_2.toNatClampNeg)) hx hb hE.1.2 hS (iv_in b_43 (by first | decide | omega)) rfl dX8_open_110 ?_
      refine tpi (y := x_45) ex_45.symm ?_
      refine lv_imul hx hb dX8_open_111 ?_
      refine lv_topi (fun x_59 ex_59 => ?_)
      refine lv_iadd hx hb dX8_open_112 ?_
      refine lv_topi (fun x_60 ex_60 => ?_)
      refine lv_istore_n (lv' := [(3, .int x_60), (9, .int r_51), (8, .int r_51), (7, .int x_48), (6, .int x_47), (5, .int u_2), (4, .int u_3), (2, .int x_1), (0, .ref (Yw 0)), (1, .int a1)]) hx hb dX8_open_113 rfl hl (by decide) rfl (fun ls hl => ?_)
      refine lv_aload_n hx hb dX8_open_114 rfl (lv_at hl 8 rfl) ?_
      refine va_get (ci := 8) (v := .ref (Yw 8)) (C := RX8) (T := TX8) (N := 17) hx hb hg inX8 hown hK hP 0 rfl rfl 12 (by decide) (hg _ q_4_86) (fun _ h9 => h9) rfl dX8_open_115 ?_
      refine lv_iload hx hb dX8_open_118 (lv_at hl 5 rfl) ?_
      refine lv_iload hx hb dX8_open_120 (lv_at hl 1 rfl) ?_
      refine lv_iload hx hb dX8_open_122 (lv_at hl 2 rfl) ?_
      refine lv_isub hx hb dX8_open_124 ?_
      refine lv_topi (fun x_61 ex_61 => ?_)
      have bx_61 : iv (-9) 9 x_61 := by rw [ex_61]; exact iv_sub br_51 br_51 (by first | decide | omega)
      refine va_getsN (C := "BeaconDelay") (n := "POWER") (d := "[I") hx hb hE.1.1 hS hown (va_Nw.use rfl (hE.2.2.2.2.1 _ (show ("BeaconDelay$Ways", 35, "POWER", "[I") ∈ nF by decide))) (fun _ h9 => h9) dX8_open_125 ?_
      refine lv_iload hx hb dX8_open_128 (lv_at hl 5 rfl) ?_
      refine va_ti (v := .int (pw u_2.toNatClampNeg)) hx hb hE.1.2 hS (iv_in b_43 (by first | decide | omega)) rfl dX8_open_130 ?_
      refine tpi (y := x_45) ex_45.symm ?_
      refine lv_imul hx hb dX8_open_131 ?_
      refine lv_topi (fun x_62 ex_62 => ?_)
      refine va_iast hx hb hK hP hD hS 6 0 rfl rfl (iv_in b_43 (by first | decide | omega)) dX8_open_132 (fun H locs hP hD hS => ?_)
      obtain ⟨f_63, hP, hD⟩ : ∃ f_63 : Nat → Int32, va_P V.1 vwCl [(Yw 0, .inr (8, o8_iirrriirrrrrrriii pYw0_0 (nI n) (Yw 1) (Yw 2) wa pYw0_5 pYw0_6 (y 19) (Yw 4) (Yw 5) (Yw 6) (Yw 7) (Yw 8) wb pYw0_14 pYw0_15 pYw0_16)), (Yw 1, aI V n fYw1), (Yw 2, aI V n fYw2), (Yw 4, aI V L fYw4), (Yw 5, aI V n fYw5), (Yw 6, aI V (n * 4) fYw6), (Yw 8, aI V 4 f_63), (y 3, aI V 4 fy3), (y 9, aI V 900 fy9), (y 19, .inr (4, o4_rrrrrr (y 2) (y 20) (y 21) (y 22) (y 23) (y 24))), (y 20, aI V 2000 f_52), (y 21, aI V 6 f_53), (y 22, aI V 64 f_54), (y 2, .inr (1, o1_iiiiiirrrrrrriiiii py2_0 py2_1 py2_2 py2_3 py2_4 py2_5 (y 3) (y 4) (y 5) (y 6) (y 7) (y 8) (y 9) py2_13 py2_14 py2_15 py2_16 py2_17))] H ∧ va_D A [(Yw 0, .inr (8, o8_iirrriirrrrrrriii pYw0_0 (nI n) (Yw 1) (Yw 2) wa pYw0_5 pYw0_6 (y 19) (Yw 4) (Yw 5) (Yw 6) (Yw 7) (Yw 8) wb pYw0_14 pYw0_15 pYw0_16)), (Yw 1, aI V n fYw1), (Yw 2, aI V n fYw2), (Yw 4, aI V L fYw4), (Yw 5, aI V n fYw5), (Yw 6, aI V (n * 4) fYw6), (Yw 8, aI V 4 f_63), (y 3, aI V 4 fy3), (y 9, aI V 900 fy9), (y 19, .inr (4, o4_rrrrrr (y 2) (y 20) (y 21) (y 22) (y 23) (y 24))), (y 20, aI V 2000 f_52), (y 21, aI V 6 f_53), (y 22, aI V 64 f_54), (y 2, .inr (1, o1_iiiiiirrrrrrriiiii py2_0 py2_1 py2_2 py2_3 py2_4 py2_5 (y 3) (y 4) (y 5) (y 6) (y 7) (y 8) (y 9) py2_13 py2_14 py2_15 py2_16 py2_17))] := ⟨_, hP, hD⟩
      refine lv_iload hx hb dX8_open_133 (lv_at hl 4 rfl) ?_
      refine lv_istore (lv' := [(4, .int x_47), (3, .int x_60), (9, .int r_51), (8, .int r_51), (7, .int x_48), (6, .int x_47), (5, .int u_2), (2, .int x_1), (0, .ref (Yw 0)), (1, .int a1)]) hx hb dX8_open_135 hl (by decide) rfl (fun ls hl => ?_)
      obtain ⟨x_64, ex_64⟩ : ∃ z9 : Int32, z9 = u_2 + 1 := ⟨_, rfl⟩
      have bx_64 : iv 1 4 x_64 := by rw [ex_64]; exact iv_add b_43 (iv_c (1 : Int32) (a := 1) (b := 1) (by first | decide | omega)) (by first | decide | omega)
      refine lv_iinc (v := x_64) (lv' := [(5, .int x_64), (4, .int x_47), (3, .int x_60), (9, .int r_51), (8, .int r_51), (7, .int x_48), (6, .int x_47), (2, .int x_1), (0, .ref (Yw 0)), (1, .int a1)]) hx hb dX8_open_137 hl (k := 6) rfl (by rw [ex_64]; rfl) (by decide) rfl (fun ls hl => ?_)
      refine lv_goto (tgt := 15) hx hb dX8_open_140 (by decide) ?_
      have hP := subP (ws' := [(y 2, .inr (1, o1_iiiiiirrrrrrriiiii py2_0 py2_1 py2_2 py2_3 py2_4 py2_5 (y 3) (y 4) (y 5) (y 6) (y 7) (y 8) (y 9) py2_13 py2_14 py2_15 py2_16 py2_17)), (y 3, aI V 4 fy3), (y 9, aI V 900 fy9), (y 19, .inr (4, o4_rrrrrr (y 2) (y 20) (y 21) (y 22) (y 23) (y 24))), (y 20, aI V 2000 f_52), (y 21, aI V 6 f_53), (y 22, aI V 64 f_54), (Yw 0, .inr (8, o8_iirrriirrrrrrriii pYw0_0 (nI n) (Yw 1) (Yw 2) wa pYw0_5 pYw0_6 (y 19) (Yw 4) (Yw 5) (Yw 6) (Yw 7) (Yw 8) wb pYw0_14 pYw0_15 pYw0_16)), (Yw 1, aI V n fYw1), (Yw 2, aI V n fYw2), (Yw 4, aI V L fYw4), (Yw 5, aI V n fYw5), (Yw 6, aI V (n * 4) fYw6), (Yw 8, aI V 4 f_63)]) hP [13, 7, 8, 9, 10, 11, 12, 0, 1, 2, 3, 4, 5, 6] rfl
      have hD := subD hP hD [13, 7, 8, 9, 10, 11, 12, 0, 1, 2, 3, 4, 5, 6] rfl rfl
      exact ihn_9 _ _ _ _ (by rw [en_9, ex_64]; exact mu_up b_43 (by first | decide | omega)) ⟨x_64, x_47, x_60, f_52, f_53, f_54, f_63, (iv_w bx_64 (by first | decide | omega)), bx_47, tf_52, kn_56, rfl, hP, hD, hS, lv_sub hl [0, 1, 2, 7, 8, 9] rfl⟩
    · have b_65 : iv 1 1 x_48 := iv_q c_57 (iv_c (1 : Int32) (a := 1) (b := 1) (by decide))
      refine lv_aload_n hx hb dX8_open_78 rfl (lv_at hl 8 rfl) ?_
      refine va_get (ci := 8) (v := .ref (y 19)) (C := RX8) (T := TX8) (N := 17) hx hb hg inX8 hown hK hP 0 rfl rfl 7 (by decide) (hg _ q_4_81) (fun _ h9 => h9) rfl dX8_open_79 ?_
      refine lv_aload_n hx hb dX8_open_82 rfl (lv_at hl 8 rfl) ?_
      refine va_get (ci := 8) (v := .int pYw0_15) (C := RX8) (T := TX8) (N := 17) hx hb hg inX8 hown hK hP 0 rfl rfl 15 (by decide) (hg _ q_4_89) (fun _ h9 => h9) rfl dX8_open_83 ?_
      refine lv_iload hx hb dX8_open_86 (lv_at hl 4 rfl) ?_
      refine lv_iload hx hb dX8_open_88 (lv_at hl 3 rfl) ?_
      refine lv_iconst (v := 2) hx hb dX8_open_90 (by decide) ?_
      refine lv_idiv hx hb dX8_open_91 (by decide) ?_
      refine tpi (y := x_49) ex_49.symm ?_
      refine lv_iload hx hb dX8_open_92 (lv_at hl 5 rfl) ?_
      refine lv_iconst (v := 2) hx hb dX8_open_94 (by decide) ?_
      refine lv_idiv hx hb dX8_open_95 (by decide) ?_
      refine tpi (y := x_50) ex_50.symm ?_
      refine lv_iconst (v := 0) hx hb dX8_open_96 (by decide) ?_
      refine jnI (wr := [(Yw 0, .inr (8, o8_iirrriirrrrrrriii pYw0_0 (nI n) (Yw 1) (Yw 2) wa pYw0_5 pYw0_6 (y 19) (Yw 4) (Yw 5) (Yw 6) (Yw 7) (Yw 8) wb pYw0_14 pYw0_15 pYw0_16)), (Yw 1, aI V n fYw1), (Yw 2, aI V n fYw2), (Yw 4, aI V L fYw4), (Yw 5, aI V n fYw5), (Yw 6, aI V (n * 4) fYw6), (Yw 8, aI V 4 f_8)]) (rnV (rest := []) ⟨hx, hb, hml, hown, hg⟩ (k_X4_digitBehind_0 l V y pYw0_15 u_2 x_49 x_50 0 fy3 fy9 f_52 f_53 f_54 py2_0 py2_1 py2_2 py2_3 py2_4 py2_5 py2_13 py2_14 py2_15 py2_16 py2_17 bpYw0_15 b_43 bx_49 bx_50 (iv_c (0 : Int32) (by decide)) tf_52 bpy2_1 bpy2_2 bpy2_3 bpy2_4 bpy2_5 bpy2_13 bpy2_14 bpy2_15 bpy2_16 bpy2_17) mt_X4_digitBehind q_4_144 ⟨Nat.le_of_ble_eq_true rfl, Nat.le_of_ble_eq_true rfl⟩ hK hP hD hS hA hE [7, 8, 9, 10, 11, 12, 13] rfl rfl 9 rfl rfl rfl rfl hl.1 rfl (Nat.le_of_ble_eq_true rfl) dX8_open_97 ⟨Nat.le_of_ble_eq_true rfl, Nat.le_of_ble_eq_true rfl⟩) hP hD hS hA [7, 8, 9, 10, 11, 12, 13] [0, 1, 2, 3, 4, 5, 6] rfl rfl rfl (by decide) (fun r_66 w H locs hw hP hD hS => ?_)
      obtain ⟨f_67, f_68, f_69, tf_67, br_66, g_70, rfl⟩ := hw
      have qkn_71 := g_70 D9 hL9 kn_56
      have er_66 : r_66 = D9 (plF pYw0_15 u_2 x_49 x_50 (0 : Int32)).toNatClampNeg := qkn_71.1
      have kn_71 := qkn_71.2
      have hP : va_P V.1 vwCl [(Yw 0, .inr (8, o8_iirrriirrrrrrriii pYw0_0 (nI n) (Yw 1) (Yw 2) wa pYw0_5 pYw0_6 (y 19) (Yw 4) (Yw 5) (Yw 6) (Yw 7) (Yw 8) wb pYw0_14 pYw0_15 pYw0_16)), (Yw 1, aI V n fYw1), (Yw 2, aI V n fYw2), (Yw 4, aI V L fYw4), (Yw 5, aI V n fYw5), (Yw 6, aI V (n * 4) fYw6), (Yw 8, aI V 4 f_8), (y 3, aI V 4 fy3), (y 9, aI V 900 fy9), (y 19, .inr (4, o4_rrrrrr (y 2) (y 20) (y 21) (y 22) (y 23) (y 24))), (y 20, aI V 2000 f_67), (y 21, aI V 6 f_68), (y 22, aI V 64 f_69), (y 2, .inr (1, o1_iiiiiirrrrrrriiiii py2_0 py2_1 py2_2 py2_3 py2_4 py2_5 (y 3) (y 4) (y 5) (y 6) (y 7) (y 8) (y 9) py2_13 py2_14 py2_15 py2_16 py2_17))] H := hP
      have hD := cpD hP hD
      refine lv_istore (lv' := [(9, .int r_66), (8, .int r_51), (7, .int x_48), (6, .int x_47), (5, .int u_2), (4, .int u_3), (3, .int u_4), (2, .int x_1), (0, .ref (Yw 0)), (1, .int a1)]) hx hb dX8_open_100 hl (by decide) rfl (fun ls hl => ?_)
      refine lv_iload_n hx hb dX8_open_102 rfl (lv_at hl 6 rfl) ?_
      refine lv_iload hx hb dX8_open_103 (lv_at hl 1 rfl) ?_
      refine va_getsN (C := "BeaconDelay") (n := "POWER") (d := "[I") hx hb hE.1.1 hS hown (va_Nw.use rfl (hE.2.2.2.2.1 _ (show ("BeaconDelay$Ways", 35, "POWER", "[I") ∈ nF by decide))) (fun _ h9 => h9) dX8_open_105 ?_
      refine lv_iload hx hb dX8_open_108 (lv_at hl 4 rfl) ?_
      refine va_ti (v := .int (pw u_2.toNatClampNeg)) hx hb hE.1.2 hS (iv_in b_43 (by first | decide | omega)) rfl dX8_open_110 ?_
      refine tpi (y := x_45) ex_45.symm ?_
      refine lv_imul hx hb dX8_open_111 ?_
      refine lv_topi (fun x_72 ex_72 => ?_)
      refine lv_iadd hx hb dX8_open_112 ?_
      refine lv_topi (fun x_73 ex_73 => ?_)
      refine lv_istore_n (lv' := [(3, .int x_73), (9, .int r_66), (8, .int r_51), (7, .int x_48), (6, .int x_47), (5, .int u_2), (4, .int u_3), (2, .int x_1), (0, .ref (Yw 0)), (1, .int a1)]) hx hb dX8_open_113 rfl hl (by decide) rfl (fun ls hl => ?_)
      refine lv_aload_n hx hb dX8_open_114 rfl (lv_at hl 8 rfl) ?_
      refine va_get (ci := 8) (v := .ref (Yw 8)) (C := RX8) (T := TX8) (N := 17) hx hb hg inX8 hown hK hP 0 rfl rfl 12 (by decide) (hg _ q_4_86) (fun _ h9 => h9) rfl dX8_open_115 ?_
      refine lv_iload hx hb dX8_open_118 (lv_at hl 5 rfl) ?_
      refine lv_iload hx hb dX8_open_120 (lv_at hl 1 rfl) ?_
      refine lv_iload hx hb dX8_open_122 (lv_at hl 2 rfl) ?_
      refine lv_isub hx hb dX8_open_124 ?_
      refine lv_topi (fun x_74 ex_74 => ?_)
      have bx_74 : iv (-9) 9 x_74 := by rw [ex_74]; exact iv_sub br_66 br_51 (by first | decide | omega)
      refine va_getsN (C := "BeaconDelay") (n := "POWER") (d := "[I") hx hb hE.1.1 hS hown (va_Nw.use rfl (hE.2.2.2.2.1 _ (show ("BeaconDelay$Ways", 35, "POWER", "[I") ∈ nF by decide))) (fun _ h9 => h9) dX8_open_125 ?_
      refine lv_iload hx hb dX8_open_128 (lv_at hl 5 rfl) ?_
      refine va_ti (v := .int (pw u_2.toNatClampNeg)) hx hb hE.1.2 hS (iv_in b_43 (by first | decide | omega)) rfl dX8_open_130 ?_
      refine tpi (y := x_45) ex_45.symm ?_
      refine lv_imul hx hb dX8_open_131 ?_
      refine lv_topi (fun x_75 ex_75 => ?_)
      refine va_iast hx hb hK hP hD hS 6 0 rfl rfl (iv_in b_43 (by first | decide | omega)) dX8_open_132 (fun H locs hP hD hS => ?_)
      obtain ⟨f_76, hP, hD⟩ : ∃ f_76 : Nat → Int32, va_P V.1 vwCl [(Yw 0, .inr (8, o8_iirrriirrrrrrriii pYw0_0 (nI n) (Yw 1) (Yw 2) wa pYw0_5 pYw0_6 (y 19) (Yw 4) (Yw 5) (Yw 6) (Yw 7) (Yw 8) wb pYw0_14 pYw0_15 pYw0_16)), (Yw 1, aI V n fYw1), (Yw 2, aI V n fYw2), (Yw 4, aI V L fYw4), (Yw 5, aI V n fYw5), (Yw 6, aI V (n * 4) fYw6), (Yw 8, aI V 4 f_76), (y 3, aI V 4 fy3), (y 9, aI V 900 fy9), (y 19, .inr (4, o4_rrrrrr (y 2) (y 20) (y 21) (y 22) (y 23) (y 24))), (y 20, aI V 2000 f_67), (y 21, aI V 6 f_68), (y 22, aI V 64 f_69), (y 2, .inr (1, o1_iiiiiirrrrrrriiiii py2_0 py2_1 py2_2 py2_3 py2_4 py2_5 (y 3) (y 4) (y 5) (y 6) (y 7) (y 8) (y 9) py2_13 py2_14 py2_15 py2_16 py2_17))] H ∧ va_D A [(Yw 0, .inr (8, o8_iirrriirrrrrrriii pYw0_0 (nI n) (Yw 1) (Yw 2) wa pYw0_5 pYw0_6 (y 19) (Yw 4) (Yw 5) (Yw 6) (Yw 7) (Yw 8) wb pYw0_14 pYw0_15 pYw0_16)), (Yw 1, aI V n fYw1), (Yw 2, aI V n fYw2), (Yw 4, aI V L fYw4), (Yw 5, aI V n fYw5), (Yw 6, aI V (n * 4) fYw6), (Yw 8, aI V 4 f_76), (y 3, aI V 4 fy3), (y 9, aI V 900 fy9), (y 19, .inr (4, o4_rrrrrr (y 2) (y 20) (y 21) (y 22) (y 23) (y 24))), (y 20, aI V 2000 f_67), (y 21, aI V 6 f_68), (y 22, aI V 64 f_69), (y 2, .inr (1, o1_iiiiiirrrrrrriiiii py2_0 py2_1 py2_2 py2_3 py2_4 py2_5 (y 3) (y 4) (y 5) (y 6) (y 7) (y 8) (y 9) py2_13 py2_14 py2_15 py2_16 py2_17))] := ⟨_, hP, hD⟩
      refine lv_iload hx hb dX8_open_133 (lv_at hl 4 rfl) ?_
      refine lv_istore (lv' := [(4, .int x_47), (3, .int x_73), (9, .int r_66), (8, .int r_51), (7, .int x_48), (6, .int x_47), (5, .int u_2), (2, .int x_1), (0, .ref (Yw 0)), (1, .int a1)]) hx hb dX8_open_135 hl (by decide) rfl (fun ls hl => ?_)
      obtain ⟨x_77, ex_77⟩ : ∃ z9 : Int32, z9 = u_2 + 1 := ⟨_, rfl⟩
      have bx_77 : iv 1 4 x_77 := by rw [ex_77]; exact iv_add b_43 (iv_c (1 : Int32) (a := 1) (b := 1) (by first | decide | omega)) (by first | decide | omega)
      refine lv_iinc (v := x_77) (lv' := [(5, .int x_77), (4, .int x_47), (3, .int x_73), (9, .int r_66), (8, .int r_51), (7, .int x_48), (6, .int x_47), (2, .int x_1), (0, .ref (Yw 0)), (1, .int a1)]) hx hb dX8_open_137 hl (k := 6) rfl (by rw [ex_77]; rfl) (by decide) rfl (fun ls hl => ?_)
      refine lv_goto (tgt := 15) hx hb dX8_open_140 (by decide) ?_
      have hP := subP (ws' := [(y 2, .inr (1, o1_iiiiiirrrrrrriiiii py2_0 py2_1 py2_2 py2_3 py2_4 py2_5 (y 3) (y 4) (y 5) (y 6) (y 7) (y 8) (y 9) py2_13 py2_14 py2_15 py2_16 py2_17)), (y 3, aI V 4 fy3), (y 9, aI V 900 fy9), (y 19, .inr (4, o4_rrrrrr (y 2) (y 20) (y 21) (y 22) (y 23) (y 24))), (y 20, aI V 2000 f_67), (y 21, aI V 6 f_68), (y 22, aI V 64 f_69), (Yw 0, .inr (8, o8_iirrriirrrrrrriii pYw0_0 (nI n) (Yw 1) (Yw 2) wa pYw0_5 pYw0_6 (y 19) (Yw 4) (Yw 5) (Yw 6) (Yw 7) (Yw 8) wb pYw0_14 pYw0_15 pYw0_16)), (Yw 1, aI V n fYw1), (Yw 2, aI V n fYw2), (Yw 4, aI V L fYw4), (Yw 5, aI V n fYw5), (Yw 6, aI V (n * 4) fYw6), (Yw 8, aI V 4 f_76)]) hP [13, 7, 8, 9, 10, 11, 12, 0, 1, 2, 3, 4, 5, 6] rfl
      have hD := subD hP hD [13, 7, 8, 9, 10, 11, 12, 0, 1, 2, 3, 4, 5, 6] rfl rfl
      exact ihn_9 _ _ _ _ (by rw [en_9, ex_77]; exact mu_up b_43 (by first | decide | omega)) ⟨x_77, x_47, x_73, f_67, f_68, f_69, f_76, (iv_w bx_77 (by first | decide | omega)), bx_47, tf_67, kn_71, rfl, hP, hD, hS, lv_sub hl [0, 1, 2, 7, 8, 9] rfl⟩
theorem dX8_reachTo_0 : decode cX8_reachTo 0 = .ok (.aload_n 0, 1) := by decide +kernel
theorem dX8_reachTo_1 : decode cX8_reachTo 1 = .ok (.getfield 59, 3) := by decide +kernel
theorem dX8_reachTo_4 : decode cX8_reachTo 4 = .ok (.istore_n 2, 1) := by decide +kernel
theorem dX8_reachTo_5 : decode cX8_reachTo 5 = .ok (.iload_n 2, 1) := by decide +kernel
theorem dX8_reachTo_6 : decode cX8_reachTo 6 = .ok (.aload_n 0, 1) := by decide +kernel
theorem dX8_reachTo_7 : decode cX8_reachTo 7 = .ok (.getfield 26, 3) := by decide +kernel
theorem dX8_reachTo_10 : decode cX8_reachTo 10 = .ok (.if_icmp .ge 32, 3) := by decide +kernel
theorem dX8_reachTo_42 : decode cX8_reachTo 42 = .ok (.return_, 1) := by decide +kernel
theorem dX8_reachTo_13 : decode cX8_reachTo 13 = .ok (.iload_n 2, 1) := by decide +kernel
theorem dX8_reachTo_14 : decode cX8_reachTo 14 = .ok (.aload_n 0, 1) := by decide +kernel
theorem dX8_reachTo_15 : decode cX8_reachTo 15 = .ok (.getfield 56, 3) := by decide +kernel
theorem dX8_reachTo_18 : decode cX8_reachTo 18 = .ok (.if_icmp .ge 24, 3) := by decide +kernel
theorem dX8_reachTo_21 : decode cX8_reachTo 21 = .ok (.aload_n 0, 1) := by decide +kernel
theorem dX8_reachTo_22 : decode cX8_reachTo 22 = .ok (.getfield 32, 3) := by decide +kernel
theorem dX8_reachTo_25 : decode cX8_reachTo 25 = .ok (.iload_n 2, 1) := by decide +kernel
theorem dX8_reachTo_26 : decode cX8_reachTo 26 = .ok (.iaload, 1) := by decide +kernel
theorem dX8_reachTo_27 : decode cX8_reachTo 27 = .ok (.iload_n 1, 1) := by decide +kernel
theorem dX8_reachTo_28 : decode cX8_reachTo 28 = .ok (.if_icmp .ge 14, 3) := by decide +kernel
theorem dX8_reachTo_31 : decode cX8_reachTo 31 = .ok (.aload_n 0, 1) := by decide +kernel
theorem dX8_reachTo_32 : decode cX8_reachTo 32 = .ok (.iload_n 2, 1) := by decide +kernel
theorem q_4_143 : Cond.code yX8_open prog_10_method_6_code 10 none ∈ gw := gw_4 (i := 143) (rfl) rfl
theorem q_4_142 : Cond.instanceMethod yX8_open ∈ gw := gw_4 (i := 142) (by decide +kernel) rfl
theorem q_s_34 : Cond.selects "BeaconDelay$Ways" yX8_open yX8_open ∈ gw := gw_s (i := 34) (by decide +kernel) rfl
theorem mt_X8_open : MtV yX8_open cX8_open 10 none 1 := ⟨⟨q_4_143, q_1_18, by decide +kernel, by decide +kernel, by decide +kernel⟩, q_4_142, q_s_34⟩
theorem q_4_140 : Cond.methodLink "BeaconDelay$Ways" 84 yX8_open ∈ gw := gw_4 (i := 140) (by decide +kernel) rfl
theorem dX8_reachTo_33 : decode cX8_reachTo 33 = .ok (.invokevirtual 84, 3) := by decide +kernel
theorem dX8_reachTo_36 : decode cX8_reachTo 36 = .ok (.iinc 2 1, 3) := by decide +kernel
theorem dX8_reachTo_39 : decode cX8_reachTo 39 = .ok (.goto (-34), 3) := by decide +kernel
set_option maxHeartbeats 4000000 in
set_option maxRecDepth 100000 in
theorem k_X8_reachTo_0 (l : Launch) (V : GV) (n : Nat) (L : Nat) (Yw : Nat → Nat) (y : Nat → Nat) (D9 : Nat → Int32) (a1 : Int32) (py2_0 : Int32) (py2_1 : Int32) (py2_2 : Int32) (py2_3 : Int32) (py2_4 : Int32) (py2_5 : Int32) (py2_13 : Int32) (py2_14 : Int32) (py2_15 : Int32) (py2_16 : Int32) (py2_17 : Int32) (fy3 : Nat → Int32) (fy9 : Nat → Int32) (fy20 : Nat → Int32) (fy21 : Nat → Int32) (fy22 : Nat → Int32) (pYw0_0 : Int32) (wa : Nat) (pYw0_5 : Int32) (pYw0_6 : Int32) (wb : Nat) (pYw0_14 : Int32) (pYw0_15 : Int32) (pYw0_16 : Int32) (fYw1 : Nat → Int32) (fYw2 : Nat → Int32) (fYw4 : Nat → Int32) (fYw5 : Nat → Int32) (fYw6 : Nat → Int32) (fYw8 : Nat → Int32) (hn : 1 ≤ n ∧ n ≤ 3646) (hL : 1 ≤ L ∧ L ≤ 10000) (bpy2_1 : iv 0 4 py2_1) (bpy2_2 : iv 0 4 py2_2) (bpy2_3 : iv 0 8 py2_3) (bpy2_4 : iv 0 9999 py2_4) (bpy2_5 : iv 0 9 py2_5) (bpy2_13 : iv 0 900 py2_13) (bpy2_14 : iv 0 900 py2_14) (bpy2_15 : iv 0 900 py2_15) (bpy2_16 : iv 0 900 py2_16) (bpy2_17 : iv 0 900 py2_17) (tfy20 : ∀ j, iv 0 10 (fy20 j)) (bpYw0_0 : iv 0 4 pYw0_0) (bpYw0_5 : iv 0 ((n : Int)) pYw0_5) (bpYw0_6 : iv 0 4 pYw0_6) (bpYw0_14 : iv 0 4 pYw0_14) (bpYw0_15 : iv 0 9 pYw0_15) (bpYw0_16 : iv 0 ((n : Int)) pYw0_16) (tfYw1 : ∀ j, iv 0 ((L : Int) - 1) (fYw1 j)) (tfYw4 : ∀ j, iv 0 ((n : Int)) (fYw4 j)) (tfYw5 : ∀ j, iv 0 (4 * (n : Int) - 1) (fYw5 j)) (tfYw6 : ∀ j, iv 0 ((n : Int) - 1) (fYw6 j)) (hf0 : WA pYw0_5 fYw4 fYw1) (hf1 : WB pYw0_16 pYw0_6 pYw0_5 fYw6) (hf2 : WC pYw0_5 fYw2) (hL9 : LW D9 fy3 fy9 py2_14 py2_15 py2_16 py2_17) (hK9 : KN D9 fy20) : Ct l V yX8_reachTo (.code yX8_reachTo cX8_reachTo 3 none) 6 [.ref (Yw 0), .int a1] [(y 2, .inr (1, o1_iiiiiirrrrrrriiiii py2_0 py2_1 py2_2 py2_3 py2_4 py2_5 (y 3) (y 4) (y 5) (y 6) (y 7) (y 8) (y 9) py2_13 py2_14 py2_15 py2_16 py2_17)), (y 3, aI V 4 fy3), (y 9, aI V 900 fy9), (y 19, .inr (4, o4_rrrrrr (y 2) (y 20) (y 21) (y 22) (y 23) (y 24))), (y 20, aI V 2000 fy20), (y 21, aI V 6 fy21), (y 22, aI V 64 fy22), (Yw 0, .inr (8, o8_iirrriirrrrrrriii pYw0_0 (nI n) (Yw 1) (Yw 2) wa pYw0_5 pYw0_6 (y 19) (Yw 4) (Yw 5) (Yw 6) (Yw 7) (Yw 8) wb pYw0_14 pYw0_15 pYw0_16)), (Yw 1, aI V n fYw1), (Yw 2, aI V n fYw2), (Yw 4, aI V L fYw4), (Yw 5, aI V n fYw5), (Yw 6, aI V (n * 4) fYw6), (Yw 8, aI V 4 fYw8)] 0 0 (QV V (fun (w : va_W) => ∃ (g0 : Nat → Int32) (g1 : Nat → Int32) (g2 : Nat → Int32) (v3 : Int32) (v4 : Int32) (g5 : Nat → Int32) (g6 : Nat → Int32) (g7 : Nat → Int32) (g8 : Nat → Int32) (g9 : Nat → Int32) (g10 : Nat → Int32), (∀ j, iv 0 10 (g0 j)) ∧ iv 0 ((n : Int)) v3 ∧ iv 0 ((n : Int)) v4 ∧ (∀ j, iv 0 ((L : Int) - 1) (g5 j)) ∧ (∀ j, iv 0 ((n : Int)) (g7 j)) ∧ (∀ j, iv 0 (4 * (n : Int) - 1) (g8 j)) ∧ (∀ j, iv 0 ((n : Int) - 1) (g9 j)) ∧ (WA v3 g7 g5) ∧ (WB v4 pYw0_6 v3 g9) ∧ (WC v3 g6) ∧ (4000 ≤ (a1 : Int32).toInt → (v3 : Int32).toInt ≤ (v4 : Int32).toInt) ∧ KN D9 g0 ∧ w = [(y 2, .inr (1, o1_iiiiiirrrrrrriiiii py2_0 py2_1 py2_2 py2_3 py2_4 py2_5 (y 3) (y 4) (y 5) (y 6) (y 7) (y 8) (y 9) py2_13 py2_14 py2_15 py2_16 py2_17)), (y 3, aI V 4 fy3), (y 9, aI V 900 fy9), (y 19, .inr (4, o4_rrrrrr (y 2) (y 20) (y 21) (y 22) (y 23) (y 24))), (y 20, aI V 2000 g0), (y 21, aI V 6 g1), (y 22, aI V 64 g2), (Yw 0, .inr (8, o8_iirrriirrrrrrriii pYw0_0 (nI n) (Yw 1) (Yw 2) wa v3 pYw0_6 (y 19) (Yw 4) (Yw 5) (Yw 6) (Yw 7) (Yw 8) wb pYw0_14 pYw0_15 v4)), (Yw 1, aI V n g5), (Yw 2, aI V n g6), (Yw 4, aI V L g7), (Yw 5, aI V n g8), (Yw 6, aI V (n * 4) g9), (Yw 8, aI V 4 g10)])) := by
  refine Ct.of (by decide) (Nat.le_of_ble_eq_true rfl) (fun p e s m below meth c A ls hx hb hr hml hown hlk hnm hg hP hK hD hE hA hS hl => ?_)
  have hl : lv_has ls 3 [(0, .ref (Yw 0)), (1, .int a1)] := hl
  refine lv_aload_n hx hb dX8_reachTo_0 rfl (lv_at hl 0 rfl) ?_
  refine va_get (ci := 8) (v := .int pYw0_16) (C := RX8) (T := TX8) (N := 17) hx hb hg inX8 hown hK hP 7 rfl rfl 16 (by decide) (hg _ q_4_90) (fun _ h9 => h9) rfl dX8_reachTo_1 ?_
  refine lv_istore_n (lv' := [(2, .int pYw0_16), (0, .ref (Yw 0)), (1, .int a1)]) hx hb dX8_reachTo_4 rfl hl (by decide) rfl (fun ls hl => ?_)
  refine loopF (X := fun (n_13 : Nat) (H : Heap) (locs : List Loc) (ls : Array Slot) => ∃ (u_1 : Int32) (f_2 : Nat → Int32) (f_3 : Nat → Int32) (f_4 : Nat → Int32) (u_5 : Int32) (u_6 : Int32) (f_7 : Nat → Int32) (f_8 : Nat → Int32) (f_9 : Nat → Int32) (f_10 : Nat → Int32) (f_11 : Nat → Int32) (f_12 : Nat → Int32), (iv 0 2147483647 u_1) ∧ (∀ j, iv 0 10 (f_2 j)) ∧ (iv 0 ((n : Int)) u_5) ∧ (iv 0 ((n : Int)) u_6) ∧ (∀ j, iv 0 ((L : Int) - 1) (f_7 j)) ∧ (∀ j, iv 0 ((n : Int)) (f_9 j)) ∧ (∀ j, iv 0 (4 * (n : Int) - 1) (f_10 j)) ∧ (∀ j, iv 0 ((n : Int) - 1) (f_11 j)) ∧ ((u_1 : Int32).toInt = (u_6 : Int32).toInt) ∧ (WA u_5 f_9 f_7) ∧ (WB u_6 pYw0_6 u_5 f_11) ∧ (WC u_5 f_8) ∧ KN D9 f_2 ∧ n_13 = (2147483647 - (u_1 : Int32).toInt).toNat ∧ va_P V.1 vwCl [(y 2, .inr (1, o1_iiiiiirrrrrrriiiii py2_0 py2_1 py2_2 py2_3 py2_4 py2_5 (y 3) (y 4) (y 5) (y 6) (y 7) (y 8) (y 9) py2_13 py2_14 py2_15 py2_16 py2_17)), (y 3, aI V 4 fy3), (y 9, aI V 900 fy9), (y 19, .inr (4, o4_rrrrrr (y 2) (y 20) (y 21) (y 22) (y 23) (y 24))), (y 20, aI V 2000 f_2), (y 21, aI V 6 f_3), (y 22, aI V 64 f_4), (Yw 0, .inr (8, o8_iirrriirrrrrrriii pYw0_0 (nI n) (Yw 1) (Yw 2) wa u_5 pYw0_6 (y 19) (Yw 4) (Yw 5) (Yw 6) (Yw 7) (Yw 8) wb pYw0_14 pYw0_15 u_6)), (Yw 1, aI V n f_7), (Yw 2, aI V n f_8), (Yw 4, aI V L f_9), (Yw 5, aI V n f_10), (Yw 6, aI V (n * 4) f_11), (Yw 8, aI V 4 f_12)] H ∧ va_D A [(y 2, .inr (1, o1_iiiiiirrrrrrriiiii py2_0 py2_1 py2_2 py2_3 py2_4 py2_5 (y 3) (y 4) (y 5) (y 6) (y 7) (y 8) (y 9) py2_13 py2_14 py2_15 py2_16 py2_17)), (y 3, aI V 4 fy3), (y 9, aI V 900 fy9), (y 19, .inr (4, o4_rrrrrr (y 2) (y 20) (y 21) (y 22) (y 23) (y 24))), (y 20, aI V 2000 f_2), (y 21, aI V 6 f_3), (y 22, aI V 64 f_4), (Yw 0, .inr (8, o8_iirrriirrrrrrriii pYw0_0 (nI n) (Yw 1) (Yw 2) wa u_5 pYw0_6 (y 19) (Yw 4) (Yw 5) (Yw 6) (Yw 7) (Yw 8) wb pYw0_14 pYw0_15 u_6)), (Yw 1, aI V n f_7), (Yw 2, aI V n f_8), (Yw 4, aI V L f_9), (Yw 5, aI V n f_10), (Yw 6, aI V (n * 4) f_11), (Yw 8, aI V 4 f_12)] ∧ va_S A s.heap H locs ∧ lv_has ls 3 [(2, .int u_1), (0, .ref (Yw 0)), (1, .int a1)]) (g := fun ls => F0 m 5 ls []) (fun n_13 H locs ls hX ihn_13 => ?_) _ ⟨pYw0_16, fy20, fy21, fy22, pYw0_5, pYw0_16, fYw1, fYw2, fYw4, fYw5, fYw6, fYw8, (iv_w bpYw0_16 (by first | decide | omega)), tfy20, bpYw0_5, bpYw0_16, tfYw1, tfYw4, tfYw5, tfYw6, rfl, hf0, hf1, hf2, hK9, rfl, hP, hD, hS, lv_sub hl [0, 1, 2] rfl⟩
  obtain ⟨u_1, f_2, f_3, f_4, u_5, u_6, f_7, f_8, f_9, f_10, f_11, f_12, bu_1, tf_2, bu_5, bu_6, tf_7, tf_9, tf_10, tf_11, inn_13_0, inn_13_1, inn_13_2, inn_13_3, knn_13, en_13, hP, hD, hS, hl⟩ := hX
  refine lv_iload_n hx hb dX8_reachTo_5 rfl (lv_at hl 0 rfl) ?_
  refine lv_aload_n hx hb dX8_reachTo_6 rfl (lv_at hl 1 rfl) ?_
  refine va_get (ci := 8) (v := .int (nI n)) (C := RX8) (T := TX8) (N := 17) hx hb hg inX8 hown hK hP 7 rfl rfl 1 (by decide) (hg _ q_4_67) (fun _ h9 => h9) rfl dX8_reachTo_7 ?_
  refine lv_icmp_ge (tgt := 42) hx hb dX8_reachTo_10 (by decide) (fun c_14 => ?_) (fun c_14 => ?_)
  · have b_15 : iv ((n : Int)) 2147483647 u_1 := iv_e2 c_14 (iv_nI (by omega)) bu_1 (by first | decide | omega)
    exact fiV hx hb hr hlk hK hP hD hS dX8_reachTo_42 (Nat.le_of_ble_eq_true rfl) (Nat.le_of_ble_eq_true rfl) (⟨f_2, f_3, f_4, u_5, u_6, f_7, f_8, f_9, f_10, f_11, f_12, tf_2, bu_5, bu_6, tf_7, tf_9, tf_10, tf_11, inn_13_1, inn_13_2, inn_13_3, (fun _ => by have q9 := (Int32.le_iff_toInt_le.mp c_14); have q8 := inn_13_0; have q7 := bu_5; unfold iv at q7; rw [nI_toInt (by omega)] at q9; omega), knn_13, rfl⟩)
  · have b_16 : iv 0 ((n : Int) - 1) u_1 := iv_l1 (Int32.not_le.mp c_14) bu_1 (iv_nI (by omega)) (by first | decide | omega)
    refine lv_iload_n hx hb dX8_reachTo_13 rfl (lv_at hl 0 rfl) ?_
    refine lv_aload_n hx hb dX8_reachTo_14 rfl (lv_at hl 1 rfl) ?_
    refine va_get (ci := 8) (v := .int u_5) (C := RX8) (T := TX8) (N := 17) hx hb hg inX8 hown hK hP 7 rfl rfl 5 (by decide) (hg _ q_4_76) (fun _ h9 => h9) rfl dX8_reachTo_15 ?_
    refine lv_icmp_ge (tgt := 42) hx hb dX8_reachTo_18 (by decide) (fun c_17 => ?_) (fun c_17 => ?_)
    · have b_18 : iv 0 ((n : Int) - 1) u_5 := iv_e1 c_17 bu_5 b_16 (by first | decide | omega)
      exact fiV hx hb hr hlk hK hP hD hS dX8_reachTo_42 (Nat.le_of_ble_eq_true rfl) (Nat.le_of_ble_eq_true rfl) (⟨f_2, f_3, f_4, u_5, u_6, f_7, f_8, f_9, f_10, f_11, f_12, tf_2, (iv_w b_18 (by first | decide | omega)), bu_6, tf_7, tf_9, tf_10, tf_11, inn_13_1, inn_13_2, inn_13_3, (fun _ => by have q9 := (Int32.le_iff_toInt_le.mp c_17); have q8 := inn_13_0; omega), knn_13, rfl⟩)
    · have b_19 : iv 1 ((n : Int)) u_5 := iv_l2 (Int32.not_le.mp c_17) b_16 bu_5 (by first | decide | omega)
      refine lv_aload_n hx hb dX8_reachTo_21 rfl (lv_at hl 1 rfl) ?_
      refine va_get (ci := 8) (v := .ref (Yw 2)) (C := RX8) (T := TX8) (N := 17) hx hb hg inX8 hown hK hP 7 rfl rfl 3 (by decide) (hg _ q_4_72) (fun _ h9 => h9) rfl dX8_reachTo_22 ?_
      refine lv_iload_n hx hb dX8_reachTo_25 rfl (lv_at hl 0 rfl) ?_
      refine va_iald hx hb hK hP 9 0 rfl rfl (iv_in b_16 (by first | decide | omega)) dX8_reachTo_26 ?_
      refine lv_topi (fun x_20 ex_20 => ?_)
      refine lv_iload_n hx hb dX8_reachTo_27 rfl (lv_at hl 2 rfl) ?_
      refine lv_icmp_ge (tgt := 42) hx hb dX8_reachTo_28 (by decide) (fun c_21 => ?_) (fun c_21 => ?_)
      · exact fiV hx hb hr hlk hK hP hD hS dX8_reachTo_42 (Nat.le_of_ble_eq_true rfl) (Nat.le_of_ble_eq_true rfl) (⟨f_2, f_3, f_4, u_5, u_6, f_7, f_8, f_9, f_10, f_11, f_12, tf_2, (iv_w b_19 (by first | decide | omega)), bu_6, tf_7, tf_9, tf_10, tf_11, inn_13_1, inn_13_2, inn_13_3, (fun h9 => by have q9 := (Int32.le_iff_toInt_le.mp c_21); have q8 := lvl inn_13_3 b_16 (Int32.lt_iff_toInt_lt.mp (Int32.not_le.mp c_17)) ex_20; have q7 := b_16; unfold iv at q7; omega), knn_13, rfl⟩)
      · have b_22 : iv (-2147483648) 2147483646 x_20 := iv_l1 (Int32.not_le.mp c_21) (iv_top x_20) (iv_top a1) (by first | decide | omega)
        have b_23 : iv (-2147483647) 2147483647 a1 := iv_l2 (Int32.not_le.mp c_21) (iv_top x_20) (iv_top a1) (by first | decide | omega)
        refine lv_aload_n hx hb dX8_reachTo_31 rfl (lv_at hl 1 rfl) ?_
        refine lv_iload_n hx hb dX8_reachTo_32 rfl (lv_at hl 0 rfl) ?_
        refine jnV (wr := []) (rnV (rest := []) ⟨hx, hb, hml, hown, hg⟩ (k_X8_open_0 l V n L Yw y D9 u_1 py2_0 py2_1 py2_2 py2_3 py2_4 py2_5 py2_13 py2_14 py2_15 py2_16 py2_17 fy3 fy9 f_2 f_3 f_4 pYw0_0 wa u_5 pYw0_6 wb pYw0_14 pYw0_15 u_6 f_7 f_8 f_9 f_10 f_11 f_12 hn hL b_16 bpy2_1 bpy2_2 bpy2_3 bpy2_4 bpy2_5 bpy2_13 bpy2_14 bpy2_15 bpy2_16 bpy2_17 tf_2 bpYw0_0 (iv_w b_19 (by first | decide | omega)) bpYw0_6 bpYw0_14 bpYw0_15 bu_6 tf_7 tf_9 tf_10 tf_11 inn_13_1 inn_13_2 inn_13_3 (Int.le_of_eq inn_13_0) (Int32.lt_iff_toInt_lt.mp (Int32.not_le.mp c_17)) hL9 knn_13) mt_X8_open q_4_140 ⟨Nat.le_of_ble_eq_true rfl, Nat.le_of_ble_eq_true rfl⟩ hK hP hD hS hA hE [0, 1, 2, 3, 4, 5, 6, 7, 8, 9, 10, 11, 12, 13] rfl rfl 7 rfl rfl rfl rfl hl.1 rfl (Nat.le_of_ble_eq_true rfl) dX8_reachTo_33 ⟨Nat.le_of_ble_eq_true rfl, Nat.le_of_ble_eq_true rfl⟩) hP hD hS hA [0, 1, 2, 3, 4, 5, 6, 7, 8, 9, 10, 11, 12, 13] [] rfl rfl rfl (by decide) (fun  w H locs hw hP hD hS => ?_)
        obtain ⟨f_24, f_25, f_26, v_27, v_28, f_29, f_30, f_31, f_32, f_33, f_34, tf_24, bv_27, bv_28, tf_29, tf_31, tf_32, tf_33, g_35, g_36, g_37, g_38, g_39, kn_40, rfl⟩ := hw
        have hP : va_P V.1 vwCl [(y 2, .inr (1, o1_iiiiiirrrrrrriiiii py2_0 py2_1 py2_2 py2_3 py2_4 py2_5 (y 3) (y 4) (y 5) (y 6) (y 7) (y 8) (y 9) py2_13 py2_14 py2_15 py2_16 py2_17)), (y 3, aI V 4 fy3), (y 9, aI V 900 fy9), (y 19, .inr (4, o4_rrrrrr (y 2) (y 20) (y 21) (y 22) (y 23) (y 24))), (y 20, aI V 2000 f_24), (y 21, aI V 6 f_25), (y 22, aI V 64 f_26), (Yw 0, .inr (8, o8_iirrriirrrrrrriii pYw0_0 (nI n) (Yw 1) (Yw 2) wa v_27 pYw0_6 (y 19) (Yw 4) (Yw 5) (Yw 6) (Yw 7) (Yw 8) wb pYw0_14 pYw0_15 v_28)), (Yw 1, aI V n f_29), (Yw 2, aI V n f_30), (Yw 4, aI V L f_31), (Yw 5, aI V n f_32), (Yw 6, aI V (n * 4) f_33), (Yw 8, aI V 4 f_34)] H := hP
        have hD := cpD hP hD
        obtain ⟨x_41, ex_41⟩ : ∃ z9 : Int32, z9 = u_1 + 1 := ⟨_, rfl⟩
        have bx_41 : iv 1 ((n : Int)) x_41 := by rw [ex_41]; exact iv_add b_16 (iv_c (1 : Int32) (a := 1) (b := 1) (by first | decide | omega)) (by first | decide | omega)
        refine lv_iinc (v := x_41) (lv' := [(2, .int x_41), (0, .ref (Yw 0)), (1, .int a1)]) hx hb dX8_reachTo_36 hl (k := 0) rfl (by rw [ex_41]; rfl) (by decide) rfl (fun ls hl => ?_)
        refine lv_goto (tgt := 5) hx hb dX8_reachTo_39 (by decide) ?_
        exact ihn_13 _ _ _ _ (by rw [en_13, ex_41]; exact mu_up b_16 (by first | decide | omega)) ⟨x_41, f_24, f_25, f_26, v_27, v_28, f_29, f_30, f_31, f_32, f_33, f_34, (iv_w bx_41 (by first | decide | omega)), tf_24, bv_27, bv_28, tf_29, tf_31, tf_32, tf_33, ((inc_toInt ex_41 b_16 (by omega)).trans g_38.symm), g_35, g_36, g_37, kn_40, rfl, hP, hD, hS, lv_sub hl [0, 1, 2] rfl⟩
theorem dX8_firstWith_0 : decode cX8_firstWith 0 = .ok (.iconst 0, 1) := by decide +kernel
theorem dX8_firstWith_1 : decode cX8_firstWith 1 = .ok (.istore_n 3, 1) := by decide +kernel
theorem dX8_firstWith_2 : decode cX8_firstWith 2 = .ok (.iload_n 3, 1) := by decide +kernel
theorem dX8_firstWith_3 : decode cX8_firstWith 3 = .ok (.aload_n 0, 1) := by decide +kernel
theorem dX8_firstWith_4 : decode cX8_firstWith 4 = .ok (.getfield 26, 3) := by decide +kernel
theorem dX8_firstWith_7 : decode cX8_firstWith 7 = .ok (.if_icmp .ge 46, 3) := by decide +kernel
theorem dX8_firstWith_53 : decode cX8_firstWith 53 = .ok (.iconst (-1), 1) := by decide +kernel
theorem dX8_firstWith_54 : decode cX8_firstWith 54 = .ok (.ireturn, 1) := by decide +kernel
theorem dX8_firstWith_10 : decode cX8_firstWith 10 = .ok (.iload_n 3, 1) := by decide +kernel
theorem dX8_firstWith_11 : decode cX8_firstWith 11 = .ok (.aload_n 0, 1) := by decide +kernel
theorem dX8_firstWith_12 : decode cX8_firstWith 12 = .ok (.getfield 56, 3) := by decide +kernel
theorem dX8_firstWith_15 : decode cX8_firstWith 15 = .ok (.if_icmp .ge 38, 3) := by decide +kernel
theorem dX8_firstWith_18 : decode cX8_firstWith 18 = .ok (.aload_n 0, 1) := by decide +kernel
theorem dX8_firstWith_19 : decode cX8_firstWith 19 = .ok (.getfield 29, 3) := by decide +kernel
theorem dX8_firstWith_22 : decode cX8_firstWith 22 = .ok (.iload_n 3, 1) := by decide +kernel
theorem dX8_firstWith_23 : decode cX8_firstWith 23 = .ok (.iaload, 1) := by decide +kernel
theorem dX8_firstWith_24 : decode cX8_firstWith 24 = .ok (.iload_n 1, 1) := by decide +kernel
theorem dX8_firstWith_25 : decode cX8_firstWith 25 = .ok (.invokestatic 94, 3) := by decide +kernel
theorem dX8_firstWith_28 : decode cX8_firstWith 28 = .ok (.iload_n 2, 1) := by decide +kernel
theorem dX8_firstWith_29 : decode cX8_firstWith 29 = .ok (.if_icmp .ne 5, 3) := by decide +kernel
theorem dX8_firstWith_34 : decode cX8_firstWith 34 = .ok (.iload_n 3, 1) := by decide +kernel
theorem dX8_firstWith_35 : decode cX8_firstWith 35 = .ok (.aload_n 0, 1) := by decide +kernel
theorem dX8_firstWith_36 : decode cX8_firstWith 36 = .ok (.getfield 59, 3) := by decide +kernel
theorem dX8_firstWith_39 : decode cX8_firstWith 39 = .ok (.if_icmp .ne 8, 3) := by decide +kernel
theorem dX8_firstWith_47 : decode cX8_firstWith 47 = .ok (.iinc 3 1, 3) := by decide +kernel
theorem dX8_firstWith_50 : decode cX8_firstWith 50 = .ok (.goto (-48), 3) := by decide +kernel
theorem dX8_firstWith_42 : decode cX8_firstWith 42 = .ok (.aload_n 0, 1) := by decide +kernel
theorem dX8_firstWith_43 : decode cX8_firstWith 43 = .ok (.iload_n 3, 1) := by decide +kernel
theorem dX8_firstWith_44 : decode cX8_firstWith 44 = .ok (.invokevirtual 84, 3) := by decide +kernel
theorem dX8_firstWith_32 : decode cX8_firstWith 32 = .ok (.iload_n 3, 1) := by decide +kernel
theorem dX8_firstWith_33 : decode cX8_firstWith 33 = .ok (.ireturn, 1) := by decide +kernel
set_option maxHeartbeats 4000000 in
set_option maxRecDepth 100000 in
theorem k_X8_firstWith_0 (l : Launch) (V : GV) (n : Nat) (L : Nat) (Yw : Nat → Nat) (y : Nat → Nat) (D9 : Nat → Int32) (a1 : Int32) (a2 : Int32) (py2_0 : Int32) (py2_1 : Int32) (py2_2 : Int32) (py2_3 : Int32) (py2_4 : Int32) (py2_5 : Int32) (py2_13 : Int32) (py2_14 : Int32) (py2_15 : Int32) (py2_16 : Int32) (py2_17 : Int32) (fy3 : Nat → Int32) (fy9 : Nat → Int32) (fy20 : Nat → Int32) (fy21 : Nat → Int32) (fy22 : Nat → Int32) (pYw0_0 : Int32) (wa : Nat) (pYw0_5 : Int32) (pYw0_6 : Int32) (wb : Nat) (pYw0_14 : Int32) (pYw0_15 : Int32) (pYw0_16 : Int32) (fYw1 : Nat → Int32) (fYw2 : Nat → Int32) (fYw4 : Nat → Int32) (fYw5 : Nat → Int32) (fYw6 : Nat → Int32) (fYw8 : Nat → Int32) (hn : 1 ≤ n ∧ n ≤ 3646) (hL : 1 ≤ L ∧ L ≤ 10000) (ba1 : iv 0 3 a1) (bpy2_1 : iv 0 4 py2_1) (bpy2_2 : iv 0 4 py2_2) (bpy2_3 : iv 0 8 py2_3) (bpy2_4 : iv 0 9999 py2_4) (bpy2_5 : iv 0 9 py2_5) (bpy2_13 : iv 0 900 py2_13) (bpy2_14 : iv 0 900 py2_14) (bpy2_15 : iv 0 900 py2_15) (bpy2_16 : iv 0 900 py2_16) (bpy2_17 : iv 0 900 py2_17) (tfy20 : ∀ j, iv 0 10 (fy20 j)) (bpYw0_0 : iv 0 4 pYw0_0) (bpYw0_5 : iv 0 ((n : Int)) pYw0_5) (bpYw0_6 : iv 0 4 pYw0_6) (bpYw0_14 : iv 0 4 pYw0_14) (bpYw0_15 : iv 0 9 pYw0_15) (bpYw0_16 : iv 0 ((n : Int)) pYw0_16) (tfYw1 : ∀ j, iv 0 ((L : Int) - 1) (fYw1 j)) (tfYw4 : ∀ j, iv 0 ((n : Int)) (fYw4 j)) (tfYw5 : ∀ j, iv 0 (4 * (n : Int) - 1) (fYw5 j)) (tfYw6 : ∀ j, iv 0 ((n : Int) - 1) (fYw6 j)) (hf0 : WA pYw0_5 fYw4 fYw1) (hf1 : WB pYw0_16 pYw0_6 pYw0_5 fYw6) (hf2 : WC pYw0_5 fYw2) (hL9 : LW D9 fy3 fy9 py2_14 py2_15 py2_16 py2_17) (hK9 : KN D9 fy20) : Ct l V yX8_firstWith (.code yX8_firstWith cX8_firstWith 4 (some .int)) 6 [.ref (Yw 0), .int a1, .int a2] [(y 2, .inr (1, o1_iiiiiirrrrrrriiiii py2_0 py2_1 py2_2 py2_3 py2_4 py2_5 (y 3) (y 4) (y 5) (y 6) (y 7) (y 8) (y 9) py2_13 py2_14 py2_15 py2_16 py2_17)), (y 3, aI V 4 fy3), (y 9, aI V 900 fy9), (y 19, .inr (4, o4_rrrrrr (y 2) (y 20) (y 21) (y 22) (y 23) (y 24))), (y 20, aI V 2000 fy20), (y 21, aI V 6 fy21), (y 22, aI V 64 fy22), (Yw 0, .inr (8, o8_iirrriirrrrrrriii pYw0_0 (nI n) (Yw 1) (Yw 2) wa pYw0_5 pYw0_6 (y 19) (Yw 4) (Yw 5) (Yw 6) (Yw 7) (Yw 8) wb pYw0_14 pYw0_15 pYw0_16)), (Yw 1, aI V n fYw1), (Yw 2, aI V n fYw2), (Yw 4, aI V L fYw4), (Yw 5, aI V n fYw5), (Yw 6, aI V (n * 4) fYw6), (Yw 8, aI V 4 fYw8)] 0 0 (QI V (fun (r : Int32) (w : va_W) => ∃ (g0 : Nat → Int32) (g1 : Nat → Int32) (g2 : Nat → Int32) (v3 : Int32) (v4 : Int32) (g5 : Nat → Int32) (g6 : Nat → Int32) (g7 : Nat → Int32) (g8 : Nat → Int32) (g9 : Nat → Int32) (g10 : Nat → Int32), (∀ j, iv 0 10 (g0 j)) ∧ iv 0 ((n : Int)) v3 ∧ iv 0 ((n : Int)) v4 ∧ (∀ j, iv 0 ((L : Int) - 1) (g5 j)) ∧ (∀ j, iv 0 ((n : Int)) (g7 j)) ∧ (∀ j, iv 0 (4 * (n : Int) - 1) (g8 j)) ∧ (∀ j, iv 0 ((n : Int) - 1) (g9 j)) ∧ iv (-1) ((n : Int) - 1) r ∧ (WA v3 g7 g5) ∧ (WB v4 pYw0_6 v3 g9) ∧ (WC v3 g6) ∧ KN D9 g0 ∧ w = [(y 2, .inr (1, o1_iiiiiirrrrrrriiiii py2_0 py2_1 py2_2 py2_3 py2_4 py2_5 (y 3) (y 4) (y 5) (y 6) (y 7) (y 8) (y 9) py2_13 py2_14 py2_15 py2_16 py2_17)), (y 3, aI V 4 fy3), (y 9, aI V 900 fy9), (y 19, .inr (4, o4_rrrrrr (y 2) (y 20) (y 21) (y 22) (y 23) (y 24))), (y 20, aI V 2000 g0), (y 21, aI V 6 g1), (y 22, aI V 64 g2), (Yw 0, .inr (8, o8_iirrriirrrrrrriii pYw0_0 (nI n) (Yw 1) (Yw 2) wa v3 pYw0_6 (y 19) (Yw 4) (Yw 5) (Yw 6) (Yw 7) (Yw 8) wb pYw0_14 pYw0_15 v4)), (Yw 1, aI V n g5), (Yw 2, aI V n g6), (Yw 4, aI V L g7), (Yw 5, aI V n g8), (Yw 6, aI V (n * 4) g9), (Yw 8, aI V 4 g10)])) := by
  refine Ct.of (by decide) (Nat.le_of_ble_eq_true rfl) (fun p e s m below meth c A ls hx hb hr hml hown hlk hnm hg hP hK hD hE hA hS hl => ?_)
  have hl : lv_has ls 4 [(0, .ref (Yw 0)), (1, .int a1), (2, .int a2)] := hl
  refine lv_iconst (v := 0) hx hb dX8_firstWith_0 (by decide) ?_
  refine lv_istore_n (lv' := [(3, .int 0), (0, .ref (Yw 0)), (1, .int a1), (2, .int a2)]) hx hb dX8_firstWith_1 rfl hl (by decide) rfl (fun ls hl => ?_)
  refine loopF (X := fun (n_13 : Nat) (H : Heap) (locs : List Loc) (ls : Array Slot) => ∃ (u_1 : Int32) (f_2 : Nat → Int32) (f_3 : Nat → Int32) (f_4 : Nat → Int32) (u_5 : Int32) (u_6 : Int32) (f_7 : Nat → Int32) (f_8 : Nat → Int32) (f_9 : Nat → Int32) (f_10 : Nat → Int32) (f_11 : Nat → Int32) (f_12 : Nat → Int32), (iv 0 2147483647 u_1) ∧ (∀ j, iv 0 10 (f_2 j)) ∧ (iv 0 ((n : Int)) u_5) ∧ (iv 0 ((n : Int)) u_6) ∧ (∀ j, iv 0 ((L : Int) - 1) (f_7 j)) ∧ (∀ j, iv 0 ((n : Int)) (f_9 j)) ∧ (∀ j, iv 0 (4 * (n : Int) - 1) (f_10 j)) ∧ (∀ j, iv 0 ((n : Int) - 1) (f_11 j)) ∧ (WA u_5 f_9 f_7) ∧ (WB u_6 pYw0_6 u_5 f_11) ∧ (WC u_5 f_8) ∧ KN D9 f_2 ∧ n_13 = (2147483647 - (u_1 : Int32).toInt).toNat ∧ va_P V.1 vwCl [(y 2, .inr (1, o1_iiiiiirrrrrrriiiii py2_0 py2_1 py2_2 py2_3 py2_4 py2_5 (y 3) (y 4) (y 5) (y 6) (y 7) (y 8) (y 9) py2_13 py2_14 py2_15 py2_16 py2_17)), (y 3, aI V 4 fy3), (y 9, aI V 900 fy9), (y 19, .inr (4, o4_rrrrrr (y 2) (y 20) (y 21) (y 22) (y 23) (y 24))), (y 20, aI V 2000 f_2), (y 21, aI V 6 f_3), (y 22, aI V 64 f_4), (Yw 0, .inr (8, o8_iirrriirrrrrrriii pYw0_0 (nI n) (Yw 1) (Yw 2) wa u_5 pYw0_6 (y 19) (Yw 4) (Yw 5) (Yw 6) (Yw 7) (Yw 8) wb pYw0_14 pYw0_15 u_6)), (Yw 1, aI V n f_7), (Yw 2, aI V n f_8), (Yw 4, aI V L f_9), (Yw 5, aI V n f_10), (Yw 6, aI V (n * 4) f_11), (Yw 8, aI V 4 f_12)] H ∧ va_D A [(y 2, .inr (1, o1_iiiiiirrrrrrriiiii py2_0 py2_1 py2_2 py2_3 py2_4 py2_5 (y 3) (y 4) (y 5) (y 6) (y 7) (y 8) (y 9) py2_13 py2_14 py2_15 py2_16 py2_17)), (y 3, aI V 4 fy3), (y 9, aI V 900 fy9), (y 19, .inr (4, o4_rrrrrr (y 2) (y 20) (y 21) (y 22) (y 23) (y 24))), (y 20, aI V 2000 f_2), (y 21, aI V 6 f_3), (y 22, aI V 64 f_4), (Yw 0, .inr (8, o8_iirrriirrrrrrriii pYw0_0 (nI n) (Yw 1) (Yw 2) wa u_5 pYw0_6 (y 19) (Yw 4) (Yw 5) (Yw 6) (Yw 7) (Yw 8) wb pYw0_14 pYw0_15 u_6)), (Yw 1, aI V n f_7), (Yw 2, aI V n f_8), (Yw 4, aI V L f_9), (Yw 5, aI V n f_10), (Yw 6, aI V (n * 4) f_11), (Yw 8, aI V 4 f_12)] ∧ va_S A s.heap H locs ∧ lv_has ls 4 [(3, .int u_1), (0, .ref (Yw 0)), (1, .int a1), (2, .int a2)]) (g := fun ls => F0 m 2 ls []) (fun n_13 H locs ls hX ihn_13 => ?_) _ ⟨0, fy20, fy21, fy22, pYw0_5, pYw0_16, fYw1, fYw2, fYw4, fYw5, fYw6, fYw8, (iv_c (0 : Int32) (by decide)), tfy20, bpYw0_5, bpYw0_16, tfYw1, tfYw4, tfYw5, tfYw6, hf0, hf1, hf2, hK9, rfl, hP, hD, hS, lv_sub hl [0, 1, 2, 3] rfl⟩
  obtain ⟨u_1, f_2, f_3, f_4, u_5, u_6, f_7, f_8, f_9, f_10, f_11, f_12, bu_1, tf_2, bu_5, bu_6, tf_7, tf_9, tf_10, tf_11, inn_13_0, inn_13_1, inn_13_2, knn_13, en_13, hP, hD, hS, hl⟩ := hX
  refine lv_iload_n hx hb dX8_firstWith_2 rfl (lv_at hl 0 rfl) ?_
  refine lv_aload_n hx hb dX8_firstWith_3 rfl (lv_at hl 1 rfl) ?_
  refine va_get (ci := 8) (v := .int (nI n)) (C := RX8) (T := TX8) (N := 17) hx hb hg inX8 hown hK hP 7 rfl rfl 1 (by decide) (hg _ q_4_67) (fun _ h9 => h9) rfl dX8_firstWith_4 ?_
  refine lv_icmp_ge (tgt := 53) hx hb dX8_firstWith_7 (by decide) (fun c_14 => ?_) (fun c_14 => ?_)
  · have b_15 : iv ((n : Int)) 2147483647 u_1 := iv_e2 c_14 (iv_nI (by omega)) bu_1 (by first | decide | omega)
    refine lv_iconst (v := (-1)) hx hb dX8_firstWith_53 (by decide) ?_
    exact fiI hx hb hr hlk hK hP hD hS dX8_firstWith_54 (Nat.le_of_ble_eq_true rfl) (Nat.le_of_ble_eq_true rfl) (⟨f_2, f_3, f_4, u_5, u_6, f_7, f_8, f_9, f_10, f_11, f_12, tf_2, bu_5, bu_6, tf_7, tf_9, tf_10, tf_11, (iv_w (iv_c ((-1) : Int32) (a := (-1)) (b := (-1)) (by decide)) (by first | decide | omega)), inn_13_0, inn_13_1, inn_13_2, knn_13, rfl⟩)
  · have b_16 : iv 0 ((n : Int) - 1) u_1 := iv_l1 (Int32.not_le.mp c_14) bu_1 (iv_nI (by omega)) (by first | decide | omega)
    refine lv_iload_n hx hb dX8_firstWith_10 rfl (lv_at hl 0 rfl) ?_
    refine lv_aload_n hx hb dX8_firstWith_11 rfl (lv_at hl 1 rfl) ?_
    refine va_get (ci := 8) (v := .int u_5) (C := RX8) (T := TX8) (N := 17) hx hb hg inX8 hown hK hP 7 rfl rfl 5 (by decide) (hg _ q_4_76) (fun _ h9 => h9) rfl dX8_firstWith_12 ?_
    refine lv_icmp_ge (tgt := 53) hx hb dX8_firstWith_15 (by decide) (fun c_17 => ?_) (fun c_17 => ?_)
    · have b_18 : iv 0 ((n : Int) - 1) u_5 := iv_e1 c_17 bu_5 b_16 (by first | decide | omega)
      refine lv_iconst (v := (-1)) hx hb dX8_firstWith_53 (by decide) ?_
      exact fiI hx hb hr hlk hK hP hD hS dX8_firstWith_54 (Nat.le_of_ble_eq_true rfl) (Nat.le_of_ble_eq_true rfl) (⟨f_2, f_3, f_4, u_5, u_6, f_7, f_8, f_9, f_10, f_11, f_12, tf_2, (iv_w b_18 (by first | decide | omega)), bu_6, tf_7, tf_9, tf_10, tf_11, (iv_w (iv_c ((-1) : Int32) (a := (-1)) (b := (-1)) (by decide)) (by first | decide | omega)), inn_13_0, inn_13_1, inn_13_2, knn_13, rfl⟩)
    · have b_19 : iv 1 ((n : Int)) u_5 := iv_l2 (Int32.not_le.mp c_17) b_16 bu_5 (by first | decide | omega)
      refine lv_aload_n hx hb dX8_firstWith_18 rfl (lv_at hl 1 rfl) ?_
      refine va_get (ci := 8) (v := .ref (Yw 1)) (C := RX8) (T := TX8) (N := 17) hx hb hg inX8 hown hK hP 7 rfl rfl 2 (by decide) (hg _ q_4_69) (fun _ h9 => h9) rfl dX8_firstWith_19 ?_
      refine lv_iload_n hx hb dX8_firstWith_22 rfl (lv_at hl 0 rfl) ?_
      refine va_iald hx hb hK hP 8 0 rfl rfl (iv_in b_16 (by first | decide | omega)) dX8_firstWith_23 ?_
      refine lv_topi (fun x_20 ex_20 => ?_)
      have bx_20 : iv 0 ((L : Int) - 1) x_20 := by rw [ex_20]; exact tf_7 _
      refine lv_iload_n hx hb dX8_firstWith_24 rfl (lv_at hl 2 rfl) ?_
      refine jnI (wr := [(y 2, .inr (1, o1_iiiiiirrrrrrriiiii py2_0 py2_1 py2_2 py2_3 py2_4 py2_5 (y 3) (y 4) (y 5) (y 6) (y 7) (y 8) (y 9) py2_13 py2_14 py2_15 py2_16 py2_17)), (y 3, aI V 4 fy3), (y 9, aI V 900 fy9), (y 19, .inr (4, o4_rrrrrr (y 2) (y 20) (y 21) (y 22) (y 23) (y 24))), (y 20, aI V 2000 f_2), (y 21, aI V 6 f_3), (y 22, aI V 64 f_4), (Yw 0, .inr (8, o8_iirrriirrrrrrriii pYw0_0 (nI n) (Yw 1) (Yw 2) wa u_5 pYw0_6 (y 19) (Yw 4) (Yw 5) (Yw 6) (Yw 7) (Yw 8) wb pYw0_14 pYw0_15 u_6)), (Yw 1, aI V n f_7), (Yw 2, aI V n f_8), (Yw 4, aI V L f_9), (Yw 5, aI V n f_10), (Yw 6, aI V (n * 4) f_11), (Yw 8, aI V 4 f_12)]) (rnSN (rest := []) ⟨hx, hb, hml, hown, hg⟩ (k_X9_stackIn_0 l V x_20 a1 (iv_w bx_20 (by first | decide | omega)) (iv_w ba1 (by first | decide | omega))) mt_X9_stackIn (show ("BeaconDelay$Ways", 94, yX9_stackIn) ∈ nM by decide) ⟨Nat.le_of_ble_eq_true rfl, Nat.le_of_ble_eq_true rfl⟩ hK hP hD hS hA hE [] rfl rfl rfl hl.1 rfl (Nat.le_of_ble_eq_true rfl) dX8_firstWith_25 ⟨Nat.le_of_ble_eq_true rfl, Nat.le_of_ble_eq_true rfl⟩) hP hD hS hA [] [0, 1, 2, 3, 4, 5, 6, 7, 8, 9, 10, 11, 12, 13] rfl rfl rfl (by decide) (fun r_21 w H locs hw hP hD hS => ?_)
      obtain ⟨br_21, er_21, et_22, rfl⟩ := hw
      have hP : va_P V.1 vwCl [(y 2, .inr (1, o1_iiiiiirrrrrrriiiii py2_0 py2_1 py2_2 py2_3 py2_4 py2_5 (y 3) (y 4) (y 5) (y 6) (y 7) (y 8) (y 9) py2_13 py2_14 py2_15 py2_16 py2_17)), (y 3, aI V 4 fy3), (y 9, aI V 900 fy9), (y 19, .inr (4, o4_rrrrrr (y 2) (y 20) (y 21) (y 22) (y 23) (y 24))), (y 20, aI V 2000 f_2), (y 21, aI V 6 f_3), (y 22, aI V 64 f_4), (Yw 0, .inr (8, o8_iirrriirrrrrrriii pYw0_0 (nI n) (Yw 1) (Yw 2) wa u_5 pYw0_6 (y 19) (Yw 4) (Yw 5) (Yw 6) (Yw 7) (Yw 8) wb pYw0_14 pYw0_15 u_6)), (Yw 1, aI V n f_7), (Yw 2, aI V n f_8), (Yw 4, aI V L f_9), (Yw 5, aI V n f_10), (Yw 6, aI V (n * 4) f_11), (Yw 8, aI V 4 f_12)] H := hP
      have hD := cpD hP hD
      refine lv_iload_n hx hb dX8_firstWith_28 rfl (lv_at hl 3 rfl) ?_
      refine lv_icmp_ne (tgt := 34) hx hb dX8_firstWith_29 (by decide) (fun c_23 => ?_) (fun c_23 => ?_)
      · refine lv_iload_n hx hb dX8_firstWith_34 rfl (lv_at hl 0 rfl) ?_
        refine lv_aload_n hx hb dX8_firstWith_35 rfl (lv_at hl 1 rfl) ?_
        refine va_get (ci := 8) (v := .int u_6) (C := RX8) (T := TX8) (N := 17) hx hb hg inX8 hown hK hP 7 rfl rfl 16 (by decide) (hg _ q_4_90) (fun _ h9 => h9) rfl dX8_firstWith_36 ?_
        refine lv_icmp_ne (tgt := 47) hx hb dX8_firstWith_39 (by decide) (fun c_24 => ?_) (fun c_24 => ?_)
        · obtain ⟨x_25, ex_25⟩ : ∃ z9 : Int32, z9 = u_1 + 1 := ⟨_, rfl⟩
          have bx_25 : iv 1 ((n : Int)) x_25 := by rw [ex_25]; exact iv_add b_16 (iv_c (1 : Int32) (a := 1) (b := 1) (by first | decide | omega)) (by first | decide | omega)
          refine lv_iinc (v := x_25) (lv' := [(3, .int x_25), (0, .ref (Yw 0)), (1, .int a1), (2, .int a2)]) hx hb dX8_firstWith_47 hl (k := 0) rfl (by rw [ex_25]; rfl) (by decide) rfl (fun ls hl => ?_)
          refine lv_goto (tgt := 2) hx hb dX8_firstWith_50 (by decide) ?_
          exact ihn_13 _ _ _ _ (by rw [en_13, ex_25]; exact mu_up b_16 (by first | decide | omega)) ⟨x_25, f_2, f_3, f_4, u_5, u_6, f_7, f_8, f_9, f_10, f_11, f_12, (iv_w bx_25 (by first | decide | omega)), tf_2, (iv_w b_19 (by first | decide | omega)), bu_6, tf_7, tf_9, tf_10, tf_11, inn_13_0, inn_13_1, inn_13_2, knn_13, rfl, hP, hD, hS, lv_sub hl [0, 1, 2, 3] rfl⟩
        · have b_26 : iv 0 ((n : Int) - 1) u_6 := iv_q c_24.symm b_16
          refine lv_aload_n hx hb dX8_firstWith_42 rfl (lv_at hl 1 rfl) ?_
          refine lv_iload_n hx hb dX8_firstWith_43 rfl (lv_at hl 0 rfl) ?_
          refine jnV (wr := []) (rnV (rest := []) ⟨hx, hb, hml, hown, hg⟩ (k_X8_open_0 l V n L Yw y D9 u_1 py2_0 py2_1 py2_2 py2_3 py2_4 py2_5 py2_13 py2_14 py2_15 py2_16 py2_17 fy3 fy9 f_2 f_3 f_4 pYw0_0 wa u_5 pYw0_6 wb pYw0_14 pYw0_15 u_6 f_7 f_8 f_9 f_10 f_11 f_12 hn hL b_16 bpy2_1 bpy2_2 bpy2_3 bpy2_4 bpy2_5 bpy2_13 bpy2_14 bpy2_15 bpy2_16 bpy2_17 tf_2 bpYw0_0 (iv_w b_19 (by first | decide | omega)) bpYw0_6 bpYw0_14 bpYw0_15 (iv_w b_26 (by first | decide | omega)) tf_7 tf_9 tf_10 tf_11 inn_13_0 inn_13_1 inn_13_2 (Int.le_of_eq (congrArg Int32.toInt c_24)) (Int32.lt_iff_toInt_lt.mp (Int32.not_le.mp c_17)) hL9 knn_13) mt_X8_open q_4_140 ⟨Nat.le_of_ble_eq_true rfl, Nat.le_of_ble_eq_true rfl⟩ hK hP hD hS hA hE [0, 1, 2, 3, 4, 5, 6, 7, 8, 9, 10, 11, 12, 13] rfl rfl 7 rfl rfl rfl rfl hl.1 rfl (Nat.le_of_ble_eq_true rfl) dX8_firstWith_44 ⟨Nat.le_of_ble_eq_true rfl, Nat.le_of_ble_eq_true rfl⟩) hP hD hS hA [0, 1, 2, 3, 4, 5, 6, 7, 8, 9, 10, 11, 12, 13] [] rfl rfl rfl (by decide) (fun  w H locs hw hP hD hS => ?_)
          obtain ⟨f_27, f_28, f_29, v_30, v_31, f_32, f_33, f_34, f_35, f_36, f_37, tf_27, bv_30, bv_31, tf_32, tf_34, tf_35, tf_36, g_38, g_39, g_40, g_41, g_42, kn_43, rfl⟩ := hw
          have hP : va_P V.1 vwCl [(y 2, .inr (1, o1_iiiiiirrrrrrriiiii py2_0 py2_1 py2_2 py2_3 py2_4 py2_5 (y 3) (y 4) (y 5) (y 6) (y 7) (y 8) (y 9) py2_13 py2_14 py2_15 py2_16 py2_17)), (y 3, aI V 4 fy3), (y 9, aI V 900 fy9), (y 19, .inr (4, o4_rrrrrr (y 2) (y 20) (y 21) (y 22) (y 23) (y 24))), (y 20, aI V 2000 f_27), (y 21, aI V 6 f_28), (y 22, aI V 64 f_29), (Yw 0, .inr (8, o8_iirrriirrrrrrriii pYw0_0 (nI n) (Yw 1) (Yw 2) wa v_30 pYw0_6 (y 19) (Yw 4) (Yw 5) (Yw 6) (Yw 7) (Yw 8) wb pYw0_14 pYw0_15 v_31)), (Yw 1, aI V n f_32), (Yw 2, aI V n f_33), (Yw 4, aI V L f_34), (Yw 5, aI V n f_35), (Yw 6, aI V (n * 4) f_36), (Yw 8, aI V 4 f_37)] H := hP
          have hD := cpD hP hD
          obtain ⟨x_44, ex_44⟩ : ∃ z9 : Int32, z9 = u_1 + 1 := ⟨_, rfl⟩
          have bx_44 : iv 1 ((n : Int)) x_44 := by rw [ex_44]; exact iv_add b_16 (iv_c (1 : Int32) (a := 1) (b := 1) (by first | decide | omega)) (by first | decide | omega)
          refine lv_iinc (v := x_44) (lv' := [(3, .int x_44), (0, .ref (Yw 0)), (1, .int a1), (2, .int a2)]) hx hb dX8_firstWith_47 hl (k := 0) rfl (by rw [ex_44]; rfl) (by decide) rfl (fun ls hl => ?_)
          refine lv_goto (tgt := 2) hx hb dX8_firstWith_50 (by decide) ?_
          exact ihn_13 _ _ _ _ (by rw [en_13, ex_44]; exact mu_up b_16 (by first | decide | omega)) ⟨x_44, f_27, f_28, f_29, v_30, v_31, f_32, f_33, f_34, f_35, f_36, f_37, (iv_w bx_44 (by first | decide | omega)), tf_27, bv_30, bv_31, tf_32, tf_34, tf_35, tf_36, g_38, g_39, g_40, kn_43, rfl, hP, hD, hS, lv_sub hl [0, 1, 2, 3] rfl⟩
      · have b_45 : iv 0 4 a2 := iv_q c_23.symm br_21
        refine lv_iload_n hx hb dX8_firstWith_32 rfl (lv_at hl 0 rfl) ?_
        exact fiI hx hb hr hlk hK hP hD hS dX8_firstWith_33 (Nat.le_of_ble_eq_true rfl) (Nat.le_of_ble_eq_true rfl) (⟨f_2, f_3, f_4, u_5, u_6, f_7, f_8, f_9, f_10, f_11, f_12, tf_2, (iv_w b_19 (by first | decide | omega)), bu_6, tf_7, tf_9, tf_10, tf_11, (iv_w b_16 (by first | decide | omega)), inn_13_0, inn_13_1, inn_13_2, knn_13, rfl⟩)
theorem dX8_deedTowards_0 : decode cX8_deedTowards 0 = .ok (.iload_n 2, 1) := by decide +kernel
theorem dX8_deedTowards_1 : decode cX8_deedTowards 1 = .ok (.aload_n 0, 1) := by decide +kernel
theorem dX8_deedTowards_2 : decode cX8_deedTowards 2 = .ok (.getfield 32, 3) := by decide +kernel
theorem dX8_deedTowards_5 : decode cX8_deedTowards 5 = .ok (.iload_n 1, 1) := by decide +kernel
theorem dX8_deedTowards_6 : decode cX8_deedTowards 6 = .ok (.iaload, 1) := by decide +kernel
theorem dX8_deedTowards_7 : decode cX8_deedTowards 7 = .ok (.if_icmp .lt 5, 3) := by decide +kernel
theorem dX8_deedTowards_12 : decode cX8_deedTowards 12 = .ok (.iload_n 1, 1) := by decide +kernel
theorem dX8_deedTowards_13 : decode cX8_deedTowards 13 = .ok (.istore_n 3, 1) := by decide +kernel
theorem dX8_deedTowards_14 : decode cX8_deedTowards 14 = .ok (.aload_n 0, 1) := by decide +kernel
theorem dX8_deedTowards_15 : decode cX8_deedTowards 15 = .ok (.getfield 32, 3) := by decide +kernel
theorem dX8_deedTowards_18 : decode cX8_deedTowards 18 = .ok (.iload_n 1, 1) := by decide +kernel
theorem dX8_deedTowards_19 : decode cX8_deedTowards 19 = .ok (.iaload, 1) := by decide +kernel
theorem dX8_deedTowards_20 : decode cX8_deedTowards 20 = .ok (.iconst 1, 1) := by decide +kernel
theorem dX8_deedTowards_21 : decode cX8_deedTowards 21 = .ok (.isub, 1) := by decide +kernel
theorem dX8_deedTowards_22 : decode cX8_deedTowards 22 = .ok (.istore 4, 2) := by decide +kernel
theorem dX8_deedTowards_24 : decode cX8_deedTowards 24 = .ok (.iload 4, 2) := by decide +kernel
theorem dX8_deedTowards_26 : decode cX8_deedTowards 26 = .ok (.iload_n 2, 1) := by decide +kernel
theorem dX8_deedTowards_27 : decode cX8_deedTowards 27 = .ok (.if_icmp .le 18, 3) := by decide +kernel
theorem dX8_deedTowards_45 : decode cX8_deedTowards 45 = .ok (.aload_n 0, 1) := by decide +kernel
theorem dX8_deedTowards_46 : decode cX8_deedTowards 46 = .ok (.getfield 41, 3) := by decide +kernel
theorem dX8_deedTowards_49 : decode cX8_deedTowards 49 = .ok (.iload_n 3, 1) := by decide +kernel
theorem dX8_deedTowards_50 : decode cX8_deedTowards 50 = .ok (.iaload, 1) := by decide +kernel
theorem dX8_deedTowards_51 : decode cX8_deedTowards 51 = .ok (.iconst 4, 1) := by decide +kernel
theorem dX8_deedTowards_52 : decode cX8_deedTowards 52 = .ok (.irem, 1) := by decide +kernel
theorem dX8_deedTowards_53 : decode cX8_deedTowards 53 = .ok (.ireturn, 1) := by decide +kernel
theorem dX8_deedTowards_30 : decode cX8_deedTowards 30 = .ok (.aload_n 0, 1) := by decide +kernel
theorem dX8_deedTowards_31 : decode cX8_deedTowards 31 = .ok (.getfield 41, 3) := by decide +kernel
theorem dX8_deedTowards_34 : decode cX8_deedTowards 34 = .ok (.iload_n 3, 1) := by decide +kernel
theorem dX8_deedTowards_35 : decode cX8_deedTowards 35 = .ok (.iaload, 1) := by decide +kernel
theorem dX8_deedTowards_36 : decode cX8_deedTowards 36 = .ok (.iconst 4, 1) := by decide +kernel
theorem dX8_deedTowards_37 : decode cX8_deedTowards 37 = .ok (.idiv, 1) := by decide +kernel
theorem dX8_deedTowards_38 : decode cX8_deedTowards 38 = .ok (.istore_n 3, 1) := by decide +kernel
theorem dX8_deedTowards_39 : decode cX8_deedTowards 39 = .ok (.iinc 4 (-1), 3) := by decide +kernel
theorem dX8_deedTowards_42 : decode cX8_deedTowards 42 = .ok (.goto (-18), 3) := by decide +kernel
theorem dX8_deedTowards_10 : decode cX8_deedTowards 10 = .ok (.iconst (-1), 1) := by decide +kernel
theorem dX8_deedTowards_11 : decode cX8_deedTowards 11 = .ok (.ireturn, 1) := by decide +kernel
set_option maxHeartbeats 4000000 in
set_option maxRecDepth 100000 in
theorem k_X8_deedTowards_0 (l : Launch) (V : GV) (n : Nat) (Yw : Nat → Nat) (y : Nat → Nat) (a1 : Int32) (a2 : Int32) (pYw0_0 : Int32) (wa : Nat) (pYw0_5 : Int32) (pYw0_6 : Int32) (wb : Nat) (pYw0_14 : Int32) (pYw0_15 : Int32) (pYw0_16 : Int32) (fYw2 : Nat → Int32) (fYw5 : Nat → Int32) (hn : 1 ≤ n ∧ n ≤ 3646) (ba1 : iv 0 ((n : Int) - 1) a1) (bpYw0_0 : iv 0 4 pYw0_0) (bpYw0_5 : iv 0 ((n : Int)) pYw0_5) (bpYw0_6 : iv 0 4 pYw0_6) (bpYw0_14 : iv 0 4 pYw0_14) (bpYw0_15 : iv 0 9 pYw0_15) (bpYw0_16 : iv 0 ((n : Int)) pYw0_16) (tfYw5 : ∀ j, iv 0 (4 * (n : Int) - 1) (fYw5 j)) : Ct l V yX8_deedTowards (.code yX8_deedTowards cX8_deedTowards 5 (some .int)) 1 [.ref (Yw 0), .int a1, .int a2] [(Yw 0, .inr (8, o8_iirrriirrrrrrriii pYw0_0 (nI n) (Yw 1) (Yw 2) wa pYw0_5 pYw0_6 (y 19) (Yw 4) (Yw 5) (Yw 6) (Yw 7) (Yw 8) wb pYw0_14 pYw0_15 pYw0_16)), (Yw 2, aI V n fYw2), (Yw 5, aI V n fYw5)] 0 0 (QI V (fun (r : Int32) (w : va_W) => iv (-1) 3 r ∧ w = [(Yw 0, .inr (8, o8_iirrriirrrrrrriii pYw0_0 (nI n) (Yw 1) (Yw 2) wa pYw0_5 pYw0_6 (y 19) (Yw 4) (Yw 5) (Yw 6) (Yw 7) (Yw 8) wb pYw0_14 pYw0_15 pYw0_16)), (Yw 2, aI V n fYw2), (Yw 5, aI V n fYw5)])) := by
  refine Ct.of (by decide) (Nat.le_of_ble_eq_true rfl) (fun p e s m below meth c A ls hx hb hr hml hown hlk hnm hg hP hK hD hE hA hS hl => ?_)
  have hl : lv_has ls 5 [(0, .ref (Yw 0)), (1, .int a1), (2, .int a2)] := hl
  refine lv_iload_n hx hb dX8_deedTowards_0 rfl (lv_at hl 2 rfl) ?_
  refine lv_aload_n hx hb dX8_deedTowards_1 rfl (lv_at hl 0 rfl) ?_
  refine va_get (ci := 8) (v := .ref (Yw 2)) (C := RX8) (T := TX8) (N := 17) hx hb hg inX8 hown hK hP 0 rfl rfl 3 (by decide) (hg _ q_4_72) (fun _ h9 => h9) rfl dX8_deedTowards_2 ?_
  refine lv_iload_n hx hb dX8_deedTowards_5 rfl (lv_at hl 1 rfl) ?_
  refine va_iald hx hb hK hP 1 0 rfl rfl (iv_in ba1 (by first | decide | omega)) dX8_deedTowards_6 ?_
  refine lv_topi (fun x_1 ex_1 => ?_)
  refine lv_icmp_lt (tgt := 12) hx hb dX8_deedTowards_7 (by decide) (fun c_2 => ?_) (fun c_2 => ?_)
  · have b_3 : iv (-2147483648) 2147483646 a2 := iv_l1 c_2 (iv_top a2) (iv_top x_1) (by first | decide | omega)
    have b_4 : iv (-2147483647) 2147483647 x_1 := iv_l2 c_2 (iv_top a2) (iv_top x_1) (by first | decide | omega)
    refine lv_iload_n hx hb dX8_deedTowards_12 rfl (lv_at hl 1 rfl) ?_
    refine lv_istore_n (lv' := [(3, .int a1), (0, .ref (Yw 0)), (1, .int a1), (2, .int a2)]) hx hb dX8_deedTowards_13 rfl hl (by decide) rfl (fun ls hl => ?_)
    refine lv_aload_n hx hb dX8_deedTowards_14 rfl (lv_at hl 1 rfl) ?_
    refine va_get (ci := 8) (v := .ref (Yw 2)) (C := RX8) (T := TX8) (N := 17) hx hb hg inX8 hown hK hP 0 rfl rfl 3 (by decide) (hg _ q_4_72) (fun _ h9 => h9) rfl dX8_deedTowards_15 ?_
    refine lv_iload_n hx hb dX8_deedTowards_18 rfl (lv_at hl 2 rfl) ?_
    refine va_iald hx hb hK hP 1 0 rfl rfl (iv_in ba1 (by first | decide | omega)) dX8_deedTowards_19 ?_
    refine tpi (y := x_1) ex_1.symm ?_
    refine lv_iconst (v := 1) hx hb dX8_deedTowards_20 (by decide) ?_
    refine lv_isub hx hb dX8_deedTowards_21 ?_
    refine lv_topi (fun x_5 ex_5 => ?_)
    have bx_5 : iv (-2147483648) 2147483646 x_5 := by rw [ex_5]; exact iv_sub b_4 (iv_c (1 : Int32) (a := 1) (b := 1) (by decide)) (by first | decide | omega)
    refine lv_istore (lv' := [(4, .int x_5), (3, .int a1), (0, .ref (Yw 0)), (1, .int a1), (2, .int a2)]) hx hb dX8_deedTowards_22 hl (by decide) rfl (fun ls hl => ?_)
    refine loopF (X := fun (n_8 : Nat) (H : Heap) (locs : List Loc) (ls : Array Slot) => ∃ (u_6 : Int32) (u_7 : Int32), (iv 0 ((n : Int) - 1) u_7) ∧ n_8 = ((u_6 : Int32).toInt + 2147483648).toNat ∧ va_P V.1 vwCl [(Yw 0, .inr (8, o8_iirrriirrrrrrriii pYw0_0 (nI n) (Yw 1) (Yw 2) wa pYw0_5 pYw0_6 (y 19) (Yw 4) (Yw 5) (Yw 6) (Yw 7) (Yw 8) wb pYw0_14 pYw0_15 pYw0_16)), (Yw 2, aI V n fYw2), (Yw 5, aI V n fYw5)] H ∧ va_D A [(Yw 0, .inr (8, o8_iirrriirrrrrrriii pYw0_0 (nI n) (Yw 1) (Yw 2) wa pYw0_5 pYw0_6 (y 19) (Yw 4) (Yw 5) (Yw 6) (Yw 7) (Yw 8) wb pYw0_14 pYw0_15 pYw0_16)), (Yw 2, aI V n fYw2), (Yw 5, aI V n fYw5)] ∧ va_S A s.heap H locs ∧ lv_has ls 5 [(4, .int u_6), (3, .int u_7), (0, .ref (Yw 0)), (1, .int a1), (2, .int a2)]) (g := fun ls => F0 m 24 ls []) (fun n_8 H locs ls hX ihn_8 => ?_) _ ⟨x_5, a1, ba1, rfl, hP, hD, hS, lv_sub hl [0, 1, 2, 3, 4] rfl⟩
    obtain ⟨u_6, u_7, bu_7, en_8, hP, hD, hS, hl⟩ := hX
    refine lv_iload hx hb dX8_deedTowards_24 (lv_at hl 0 rfl) ?_
    refine lv_iload_n hx hb dX8_deedTowards_26 rfl (lv_at hl 4 rfl) ?_
    refine lv_icmp_le (tgt := 45) hx hb dX8_deedTowards_27 (by decide) (fun c_9 => ?_) (fun c_9 => ?_)
    · have b_10 : iv (-2147483648) 2147483646 u_6 := iv_e1 c_9 (iv_top u_6) b_3 (by first | decide | omega)
      refine lv_aload_n hx hb dX8_deedTowards_45 rfl (lv_at hl 2 rfl) ?_
      refine va_get (ci := 8) (v := .ref (Yw 5)) (C := RX8) (T := TX8) (N := 17) hx hb hg inX8 hown hK hP 0 rfl rfl 9 (by decide) (hg _ q_4_83) (fun _ h9 => h9) rfl dX8_deedTowards_46 ?_
      refine lv_iload_n hx hb dX8_deedTowards_49 rfl (lv_at hl 1 rfl) ?_
      refine va_iald hx hb hK hP 2 0 rfl rfl (iv_in bu_7 (by first | decide | omega)) dX8_deedTowards_50 ?_
      refine lv_topi (fun x_11 ex_11 => ?_)
      have bx_11 : iv 0 (4 * (n : Int) - 1) x_11 := by rw [ex_11]; exact tfYw5 _
      refine lv_iconst (v := 4) hx hb dX8_deedTowards_51 (by decide) ?_
      refine lv_irem hx hb dX8_deedTowards_52 (by decide) ?_
      refine lv_topi (fun x_12 ex_12 => ?_)
      have bx_12 : iv 0 3 x_12 := by rw [ex_12]; exact iv_remp bx_11 (k := 4) (by first | decide | omega) (by first | decide | omega)
      exact fiI hx hb hr hlk hK hP hD hS dX8_deedTowards_53 (Nat.le_of_ble_eq_true rfl) (Nat.le_of_ble_eq_true rfl) (⟨(iv_w bx_12 (by first | decide | omega)), rfl⟩)
    · have b_13 : iv (-2147483647) 2147483647 u_6 := iv_l2 (Int32.not_le.mp c_9) b_3 (iv_top u_6) (by first | decide | omega)
      refine lv_aload_n hx hb dX8_deedTowards_30 rfl (lv_at hl 2 rfl) ?_
      refine va_get (ci := 8) (v := .ref (Yw 5)) (C := RX8) (T := TX8) (N := 17) hx hb hg inX8 hown hK hP 0 rfl rfl 9 (by decide) (hg _ q_4_83) (fun _ h9 => h9) rfl dX8_deedTowards_31 ?_
      refine lv_iload_n hx hb dX8_deedTowards_34 rfl (lv_at hl 1 rfl) ?_
      refine va_iald hx hb hK hP 2 0 rfl rfl (iv_in bu_7 (by first | decide | omega)) dX8_deedTowards_35 ?_
      refine lv_topi (fun x_14 ex_14 => ?_)
      have bx_14 : iv 0 (4 * (n : Int) - 1) x_14 := by rw [ex_14]; exact tfYw5 _
      refine lv_iconst (v := 4) hx hb dX8_deedTowards_36 (by decide) ?_
      refine lv_idiv hx hb dX8_deedTowards_37 (by decide) ?_
      refine lv_topi (fun x_15 ex_15 => ?_)
      have bx_15 : iv 0 ((n : Int) - 1) x_15 := by rw [ex_15]; exact iv_divp bx_14 (k := 4) (by first | decide | omega) (by first | decide | omega)
      refine lv_istore_n (lv' := [(3, .int x_15), (4, .int u_6), (0, .ref (Yw 0)), (1, .int a1), (2, .int a2)]) hx hb dX8_deedTowards_38 rfl hl (by decide) rfl (fun ls hl => ?_)
      obtain ⟨x_16, ex_16⟩ : ∃ z9 : Int32, z9 = u_6 + (-1) := ⟨_, rfl⟩
      have bx_16 : iv (-2147483648) 2147483646 x_16 := by rw [ex_16]; exact iv_add b_13 (iv_c ((-1) : Int32) (a := (-1)) (b := (-1)) (by first | decide | omega)) (by first | decide | omega)
      refine lv_iinc (v := x_16) (lv' := [(4, .int x_16), (3, .int x_15), (0, .ref (Yw 0)), (1, .int a1), (2, .int a2)]) hx hb dX8_deedTowards_39 hl (k := 1) rfl (by rw [ex_16]; rfl) (by decide) rfl (fun ls hl => ?_)
      refine lv_goto (tgt := 24) hx hb dX8_deedTowards_42 (by decide) ?_
      exact ihn_8 _ _ _ _ (by rw [en_8, ex_16]; exact mu_dn b_13 (by first | decide | omega)) ⟨x_16, x_15, bx_15, rfl, hP, hD, hS, lv_sub hl [0, 1, 2, 3, 4] rfl⟩
  · refine lv_iconst (v := (-1)) hx hb dX8_deedTowards_10 (by decide) ?_
    exact fiI hx hb hr hlk hK hP hD hS dX8_deedTowards_11 (Nat.le_of_ble_eq_true rfl) (Nat.le_of_ble_eq_true rfl) (⟨(iv_c ((-1) : Int32) (by decide)), rfl⟩)
theorem dJ7_rangeCheck_23922_0 : decode cJ7_rangeCheck_23922 0 = .ok (.iload_n 1, 1) := by decide +kernel
theorem dJ7_rangeCheck_23922_1 : decode cJ7_rangeCheck_23922 1 = .ok (.iload_n 2, 1) := by decide +kernel
theorem dJ7_rangeCheck_23922_2 : decode cJ7_rangeCheck_23922 2 = .ok (.if_icmp .le 44, 3) := by decide +kernel
theorem dJ7_rangeCheck_23922_46 : decode cJ7_rangeCheck_23922 46 = .ok (.iload_n 1, 1) := by decide +kernel
theorem dJ7_rangeCheck_23922_47 : decode cJ7_rangeCheck_23922 47 = .ok (.ifCond .ge 12, 3) := by decide +kernel
theorem dJ7_rangeCheck_23922_59 : decode cJ7_rangeCheck_23922 59 = .ok (.iload_n 2, 1) := by decide +kernel
theorem dJ7_rangeCheck_23922_60 : decode cJ7_rangeCheck_23922 60 = .ok (.iload_n 0, 1) := by decide +kernel
theorem dJ7_rangeCheck_23922_61 : decode cJ7_rangeCheck_23922 61 = .ok (.if_icmp .le 12, 3) := by decide +kernel
theorem dJ7_rangeCheck_23922_73 : decode cJ7_rangeCheck_23922 73 = .ok (.return_, 1) := by decide +kernel
set_option maxHeartbeats 4000000 in
set_option maxRecDepth 100000 in
theorem k_J7_rangeCheck_23922_0 (l : Launch) (V : GV) (n : Nat) (a0 : Int32) (a1 : Int32) (a2 : Int32) (hn : 1 ≤ n ∧ n ≤ 3646) (ba0 : iv ((n : Int)) ((n : Int)) a0) (ba1 : iv 0 0 a1) (ba2 : iv 0 ((n : Int)) a2) : Ct l V yJ7_rangeCheck_23922 (.code yJ7_rangeCheck_23922 cJ7_rangeCheck_23922 3 none) 1 [.int a0, .int a1, .int a2] [] 0 0 (QV V (fun (w : va_W) => w = [])) := by
  refine Ct.of (by decide) (Nat.le_of_ble_eq_true rfl) (fun p e s m below meth c A ls hx hb hr hml hown hlk hnm hg hP hK hD hE hA hS hl => ?_)
  have hl : lv_has ls 3 [(0, .int a0), (1, .int a1), (2, .int a2)] := hl
  refine lv_iload_n hx hb dJ7_rangeCheck_23922_0 rfl (lv_at hl 1 rfl) ?_
  refine lv_iload_n hx hb dJ7_rangeCheck_23922_1 rfl (lv_at hl 2 rfl) ?_
  refine lv_icmp_le (tgt := 46) hx hb dJ7_rangeCheck_23922_2 (by decide) (fun _ => ?_) (fun c_1 => absurd (iv_le ba1 ba2 (by first | decide | omega)) c_1)
  refine lv_iload_n hx hb dJ7_rangeCheck_23922_46 rfl (lv_at hl 1 rfl) ?_
  refine lv_if_ge (tgt := 59) hx hb dJ7_rangeCheck_23922_47 (by decide) (fun _ => ?_) (fun c_2 => absurd (iv_le (iv_c (0 : Int32) (a := 0) (b := 0) (by decide)) ba1 (by first | decide | omega)) c_2)
  refine lv_iload_n hx hb dJ7_rangeCheck_23922_59 rfl (lv_at hl 2 rfl) ?_
  refine lv_iload_n hx hb dJ7_rangeCheck_23922_60 rfl (lv_at hl 0 rfl) ?_
  refine lv_icmp_le (tgt := 73) hx hb dJ7_rangeCheck_23922_61 (by decide) (fun _ => ?_) (fun c_3 => absurd (iv_le ba2 ba0 (by first | decide | omega)) c_3)
  exact fiV hx hb hr hlk hK hP hD hS dJ7_rangeCheck_23922_73 (Nat.le_of_ble_eq_true rfl) (Nat.le_of_ble_eq_true rfl) (rfl)
theorem dJ7_fill_fda19_0 : decode cJ7_fill_fda19 0 = .ok (.aload_n 0, 1) := by decide +kernel
theorem dJ7_fill_fda19_1 : decode cJ7_fill_fda19 1 = .ok (.arraylength, 1) := by decide +kernel
theorem dJ7_fill_fda19_2 : decode cJ7_fill_fda19 2 = .ok (.iload_n 1, 1) := by decide +kernel
theorem dJ7_fill_fda19_3 : decode cJ7_fill_fda19 3 = .ok (.iload_n 2, 1) := by decide +kernel
theorem q_4_177 : Cond.code yJ7_rangeCheck_23922 prog_20_method_30_code 3 none ∈ gw := gw_4 (i := 177) (rfl) rfl
theorem q_4_176 : Cond.static yJ7_rangeCheck_23922 ∈ gw := gw_4 (i := 176) (by decide +kernel) rfl
theorem mt_J7_rangeCheck_23922 : MtS yJ7_rangeCheck_23922 cJ7_rangeCheck_23922 3 none 3 := ⟨⟨q_4_177, q_1_17, by decide +kernel, by decide +kernel, by decide +kernel⟩, q_4_176⟩
theorem q_4_175 : Cond.methodLink "java/util/Arrays" 13 yJ7_rangeCheck_23922 ∈ gw := gw_4 (i := 175) (by decide +kernel) rfl
theorem dJ7_fill_fda19_4 : decode cJ7_fill_fda19 4 = .ok (.invokestatic 13, 3) := by decide +kernel
theorem dJ7_fill_fda19_7 : decode cJ7_fill_fda19 7 = .ok (.iload_n 1, 1) := by decide +kernel
theorem dJ7_fill_fda19_8 : decode cJ7_fill_fda19 8 = .ok (.istore 4, 2) := by decide +kernel
theorem dJ7_fill_fda19_10 : decode cJ7_fill_fda19 10 = .ok (.iload 4, 2) := by decide +kernel
theorem dJ7_fill_fda19_12 : decode cJ7_fill_fda19 12 = .ok (.iload_n 2, 1) := by decide +kernel
theorem dJ7_fill_fda19_13 : decode cJ7_fill_fda19 13 = .ok (.if_icmp .ge 14, 3) := by decide +kernel
theorem dJ7_fill_fda19_27 : decode cJ7_fill_fda19 27 = .ok (.return_, 1) := by decide +kernel
theorem dJ7_fill_fda19_16 : decode cJ7_fill_fda19 16 = .ok (.aload_n 0, 1) := by decide +kernel
theorem dJ7_fill_fda19_17 : decode cJ7_fill_fda19 17 = .ok (.iload 4, 2) := by decide +kernel
theorem dJ7_fill_fda19_19 : decode cJ7_fill_fda19 19 = .ok (.iload_n 3, 1) := by decide +kernel
theorem dJ7_fill_fda19_20 : decode cJ7_fill_fda19 20 = .ok (.iastore, 1) := by decide +kernel
theorem dJ7_fill_fda19_21 : decode cJ7_fill_fda19 21 = .ok (.iinc 4 1, 3) := by decide +kernel
theorem dJ7_fill_fda19_24 : decode cJ7_fill_fda19 24 = .ok (.goto (-14), 3) := by decide +kernel
set_option maxHeartbeats 4000000 in
set_option maxRecDepth 100000 in
theorem k_J7_fill_fda19_0 (l : Launch) (V : GV) (n : Nat) (a1 : Int32) (a2 : Int32) (a3 : Int32) (wa : Nat) (fwa : Nat → Int32) (hn : 1 ≤ n ∧ n ≤ 3646) (ba1 : iv 0 0 a1) (ba2 : iv 0 ((n : Int)) a2) : Ct l V yJ7_fill_fda19 (.code yJ7_fill_fda19 cJ7_fill_fda19 5 none) 2 [.ref wa, .int a1, .int a2, .int a3] [(wa, aI V n fwa)] 0 0 (QV V (fun (w : va_W) => ∃ (g0 : Nat → Int32), w = [(wa, aI V n g0)])) := by
  refine Ct.of (by decide) (Nat.le_of_ble_eq_true rfl) (fun p e s m below meth c A ls hx hb hr hml hown hlk hnm hg hP hK hD hE hA hS hl => ?_)
  have hl : lv_has ls 5 [(0, .ref wa), (1, .int a1), (2, .int a2), (3, .int a3)] := hl
  refine lv_aload_n hx hb dJ7_fill_fda19_0 rfl (lv_at hl 0 rfl) ?_
  refine va_alen (v := (nI n)) hx hb hK hP 0 0 rfl rfl rfl dJ7_fill_fda19_1 ?_
  refine lv_iload_n hx hb dJ7_fill_fda19_2 rfl (lv_at hl 1 rfl) ?_
  refine lv_iload_n hx hb dJ7_fill_fda19_3 rfl (lv_at hl 2 rfl) ?_
  refine jnV (wr := [(wa, aI V n fwa)]) (rnS (rest := []) ⟨hx, hb, hml, hown, hg⟩ (k_J7_rangeCheck_23922_0 l V n (nI n) a1 a2 hn (iv_nI (by omega)) ba1 ba2) mt_J7_rangeCheck_23922 q_4_175 ⟨Nat.le_of_ble_eq_true rfl, Nat.le_of_ble_eq_true rfl⟩ hK hP hD hS hA hE [] rfl rfl rfl hl.1 rfl (Nat.le_of_ble_eq_true rfl) dJ7_fill_fda19_4 ⟨Nat.le_of_ble_eq_true rfl, Nat.le_of_ble_eq_true rfl⟩) hP hD hS hA [] [0] rfl rfl rfl (by decide) (fun  w H locs hw hP hD hS => ?_)
  subst hw
  have hP : va_P V.1 vwCl [(wa, aI V n fwa)] H := hP
  have hD := cpD hP hD
  refine lv_iload_n hx hb dJ7_fill_fda19_7 rfl (lv_at hl 1 rfl) ?_
  refine lv_istore (lv' := [(4, .int a1), (0, .ref wa), (1, .int a1), (2, .int a2), (3, .int a3)]) hx hb dJ7_fill_fda19_8 hl (by decide) rfl (fun ls hl => ?_)
  refine loopF (X := fun (n_3 : Nat) (H : Heap) (locs : List Loc) (ls : Array Slot) => ∃ (u_1 : Int32) (f_2 : Nat → Int32), (iv 0 2147483647 u_1) ∧ n_3 = (2147483647 - (u_1 : Int32).toInt).toNat ∧ va_P V.1 vwCl [(wa, aI V n f_2)] H ∧ va_D A [(wa, aI V n f_2)] ∧ va_S A s.heap H locs ∧ lv_has ls 5 [(4, .int u_1), (0, .ref wa), (1, .int a1), (2, .int a2), (3, .int a3)]) (g := fun ls => F0 m 10 ls []) (fun n_3 H locs ls hX ihn_3 => ?_) _ ⟨a1, fwa, (iv_w ba1 (by first | decide | omega)), rfl, hP, hD, hS, lv_sub hl [0, 1, 2, 3, 4] rfl⟩
  obtain ⟨u_1, f_2, bu_1, en_3, hP, hD, hS, hl⟩ := hX
  refine lv_iload hx hb dJ7_fill_fda19_10 (lv_at hl 0 rfl) ?_
  refine lv_iload_n hx hb dJ7_fill_fda19_12 rfl (lv_at hl 3 rfl) ?_
  refine lv_icmp_ge (tgt := 27) hx hb dJ7_fill_fda19_13 (by decide) (fun c_4 => ?_) (fun c_4 => ?_)
  · exact fiV hx hb hr hlk hK hP hD hS dJ7_fill_fda19_27 (Nat.le_of_ble_eq_true rfl) (Nat.le_of_ble_eq_true rfl) (⟨f_2, rfl⟩)
  · have b_5 : iv 0 ((n : Int) - 1) u_1 := iv_l1 (Int32.not_le.mp c_4) bu_1 ba2 (by first | decide | omega)
    have b_6 : iv 1 ((n : Int)) a2 := iv_l2 (Int32.not_le.mp c_4) bu_1 ba2 (by first | decide | omega)
    refine lv_aload_n hx hb dJ7_fill_fda19_16 rfl (lv_at hl 1 rfl) ?_
    refine lv_iload hx hb dJ7_fill_fda19_17 (lv_at hl 0 rfl) ?_
    refine lv_iload_n hx hb dJ7_fill_fda19_19 rfl (lv_at hl 4 rfl) ?_
    refine va_iast hx hb hK hP hD hS 0 0 rfl rfl (iv_in b_5 (by first | decide | omega)) dJ7_fill_fda19_20 (fun H locs hP hD hS => ?_)
    obtain ⟨f_7, hP, hD⟩ : ∃ f_7 : Nat → Int32, va_P V.1 vwCl [(wa, aI V n f_7)] H ∧ va_D A [(wa, aI V n f_7)] := ⟨_, hP, hD⟩
    obtain ⟨x_8, ex_8⟩ : ∃ z9 : Int32, z9 = u_1 + 1 := ⟨_, rfl⟩
    have bx_8 : iv 1 ((n : Int)) x_8 := by rw [ex_8]; exact iv_add b_5 (iv_c (1 : Int32) (a := 1) (b := 1) (by first | decide | omega)) (by first | decide | omega)
    refine lv_iinc (v := x_8) (lv' := [(4, .int x_8), (0, .ref wa), (1, .int a1), (2, .int a2), (3, .int a3)]) hx hb dJ7_fill_fda19_21 hl (k := 0) rfl (by rw [ex_8]; rfl) (by decide) rfl (fun ls hl => ?_)
    refine lv_goto (tgt := 10) hx hb dJ7_fill_fda19_24 (by decide) ?_
    exact ihn_3 _ _ _ _ (by rw [en_3, ex_8]; exact mu_up b_5 (by first | decide | omega)) ⟨x_8, f_7, (iv_w bx_8 (by first | decide | omega)), rfl, hP, hD, hS, lv_sub hl [0, 1, 2, 3, 4] rfl⟩
theorem dX8_beginSpread_0 : decode cX8_beginSpread 0 = .ok (.aload_n 0, 1) := by decide +kernel
theorem q_4_74 : Cond.fieldLink "BeaconDelay$Ways" 50 "BeaconDelay$Ways" "weight" "[I" ∈ gw := gw_4 (i := 74) (by decide +kernel) rfl
theorem dX8_beginSpread_1 : decode cX8_beginSpread 1 = .ok (.getfield 50, 3) := by decide +kernel
theorem dX8_beginSpread_4 : decode cX8_beginSpread 4 = .ok (.iconst 0, 1) := by decide +kernel
theorem dX8_beginSpread_5 : decode cX8_beginSpread 5 = .ok (.aload_n 0, 1) := by decide +kernel
theorem dX8_beginSpread_6 : decode cX8_beginSpread 6 = .ok (.getfield 56, 3) := by decide +kernel
theorem dX8_beginSpread_9 : decode cX8_beginSpread 9 = .ok (.iconst 0, 1) := by decide +kernel
theorem q_4_174 : Cond.code yJ7_fill_fda19 prog_20_method_104_code 5 none ∈ gw := gw_4 (i := 174) (rfl) rfl
theorem q_4_173 : Cond.static yJ7_fill_fda19 ∈ gw := gw_4 (i := 173) (by decide +kernel) rfl
theorem mt_J7_fill_fda19 : MtS yJ7_fill_fda19 cJ7_fill_fda19 5 none 4 := ⟨⟨q_4_174, q_1_17, by decide +kernel, by decide +kernel, by decide +kernel⟩, q_4_173⟩
theorem q_4_172 : Cond.methodLink "BeaconDelay$Ways" 118 yJ7_fill_fda19 ∈ gw := gw_4 (i := 172) (by decide +kernel) rfl
theorem dX8_beginSpread_10 : decode cX8_beginSpread 10 = .ok (.invokestatic 118, 3) := by decide +kernel
theorem dX8_beginSpread_13 : decode cX8_beginSpread 13 = .ok (.aload_n 0, 1) := by decide +kernel
theorem dX8_beginSpread_14 : decode cX8_beginSpread 14 = .ok (.getfield 50, 3) := by decide +kernel
theorem dX8_beginSpread_17 : decode cX8_beginSpread 17 = .ok (.iconst 0, 1) := by decide +kernel
theorem dX8_beginSpread_18 : decode cX8_beginSpread 18 = .ok (.iconst 1, 1) := by decide +kernel
theorem dX8_beginSpread_19 : decode cX8_beginSpread 19 = .ok (.iastore, 1) := by decide +kernel
theorem dX8_beginSpread_20 : decode cX8_beginSpread 20 = .ok (.return_, 1) := by decide +kernel
set_option maxHeartbeats 4000000 in
set_option maxRecDepth 100000 in
theorem k_X8_beginSpread_0 (l : Launch) (V : GV) (n : Nat) (Yw : Nat → Nat) (y : Nat → Nat) (pYw0_0 : Int32) (wa : Nat) (pYw0_5 : Int32) (pYw0_6 : Int32) (wb : Nat) (pYw0_14 : Int32) (pYw0_15 : Int32) (pYw0_16 : Int32) (fwa : Nat → Int32) (hn : 1 ≤ n ∧ n ≤ 3646) (bpYw0_0 : iv 0 4 pYw0_0) (bpYw0_5 : iv 0 ((n : Int)) pYw0_5) (bpYw0_6 : iv 0 4 pYw0_6) (bpYw0_14 : iv 0 4 pYw0_14) (bpYw0_15 : iv 0 9 pYw0_15) (bpYw0_16 : iv 0 ((n : Int)) pYw0_16) : Ct l V yX8_beginSpread (.code yX8_beginSpread cX8_beginSpread 1 none) 3 [.ref (Yw 0)] [(Yw 0, .inr (8, o8_iirrriirrrrrrriii pYw0_0 (nI n) (Yw 1) (Yw 2) wa pYw0_5 pYw0_6 (y 19) (Yw 4) (Yw 5) (Yw 6) (Yw 7) (Yw 8) wb pYw0_14 pYw0_15 pYw0_16)), (wa, aI V n fwa)] 0 0 (QV V (fun (w : va_W) => ∃ (g0 : Nat → Int32), w = [(Yw 0, .inr (8, o8_iirrriirrrrrrriii pYw0_0 (nI n) (Yw 1) (Yw 2) wa pYw0_5 pYw0_6 (y 19) (Yw 4) (Yw 5) (Yw 6) (Yw 7) (Yw 8) wb pYw0_14 pYw0_15 pYw0_16)), (wa, aI V n g0)])) := by
  refine Ct.of (by decide) (Nat.le_of_ble_eq_true rfl) (fun p e s m below meth c A ls hx hb hr hml hown hlk hnm hg hP hK hD hE hA hS hl => ?_)
  have hl : lv_has ls 1 [(0, .ref (Yw 0))] := hl
  refine lv_aload_n hx hb dX8_beginSpread_0 rfl (lv_at hl 0 rfl) ?_
  refine va_get (ci := 8) (v := .ref wa) (C := RX8) (T := TX8) (N := 17) hx hb hg inX8 hown hK hP 0 rfl rfl 4 (by decide) (hg _ q_4_74) (fun _ h9 => h9) rfl dX8_beginSpread_1 ?_
  refine lv_iconst (v := 0) hx hb dX8_beginSpread_4 (by decide) ?_
  refine lv_aload_n hx hb dX8_beginSpread_5 rfl (lv_at hl 0 rfl) ?_
  refine va_get (ci := 8) (v := .int pYw0_5) (C := RX8) (T := TX8) (N := 17) hx hb hg inX8 hown hK hP 0 rfl rfl 5 (by decide) (hg _ q_4_76) (fun _ h9 => h9) rfl dX8_beginSpread_6 ?_
  refine lv_iconst (v := 0) hx hb dX8_beginSpread_9 (by decide) ?_
  refine jnV (wr := [(Yw 0, .inr (8, o8_iirrriirrrrrrriii pYw0_0 (nI n) (Yw 1) (Yw 2) wa pYw0_5 pYw0_6 (y 19) (Yw 4) (Yw 5) (Yw 6) (Yw 7) (Yw 8) wb pYw0_14 pYw0_15 pYw0_16))]) (rnS (rest := []) ⟨hx, hb, hml, hown, hg⟩ (k_J7_fill_fda19_0 l V n 0 pYw0_5 0 wa fwa hn (iv_c (0 : Int32) (by decide)) bpYw0_5) mt_J7_fill_fda19 q_4_172 ⟨Nat.le_of_ble_eq_true rfl, Nat.le_of_ble_eq_true rfl⟩ hK hP hD hS hA hE [1] rfl rfl rfl hl.1 rfl (Nat.le_of_ble_eq_true rfl) dX8_beginSpread_10 ⟨Nat.le_of_ble_eq_true rfl, Nat.le_of_ble_eq_true rfl⟩) hP hD hS hA [1] [0] rfl rfl rfl (by decide) (fun  w H locs hw hP hD hS => ?_)
  obtain ⟨f_1, rfl⟩ := hw
  have hP : va_P V.1 vwCl [(Yw 0, .inr (8, o8_iirrriirrrrrrriii pYw0_0 (nI n) (Yw 1) (Yw 2) wa pYw0_5 pYw0_6 (y 19) (Yw 4) (Yw 5) (Yw 6) (Yw 7) (Yw 8) wb pYw0_14 pYw0_15 pYw0_16)), (wa, aI V n f_1)] H := hP
  have hD := cpD hP hD
  refine lv_aload_n hx hb dX8_beginSpread_13 rfl (lv_at hl 0 rfl) ?_
  refine va_get (ci := 8) (v := .ref wa) (C := RX8) (T := TX8) (N := 17) hx hb hg inX8 hown hK hP 0 rfl rfl 4 (by decide) (hg _ q_4_74) (fun _ h9 => h9) rfl dX8_beginSpread_14 ?_
  refine lv_iconst (v := 0) hx hb dX8_beginSpread_17 (by decide) ?_
  refine lv_iconst (v := 1) hx hb dX8_beginSpread_18 (by decide) ?_
  refine va_iast hx hb hK hP hD hS 1 0 rfl rfl (iv_in (iv_c (0 : Int32) (a := 0) (b := 0) (by decide)) (by first | decide | omega)) dX8_beginSpread_19 (fun H locs hP hD hS => ?_)
  obtain ⟨f_2, hP, hD⟩ : ∃ f_2 : Nat → Int32, va_P V.1 vwCl [(Yw 0, .inr (8, o8_iirrriirrrrrrriii pYw0_0 (nI n) (Yw 1) (Yw 2) wa pYw0_5 pYw0_6 (y 19) (Yw 4) (Yw 5) (Yw 6) (Yw 7) (Yw 8) wb pYw0_14 pYw0_15 pYw0_16)), (wa, aI V n f_2)] H ∧ va_D A [(Yw 0, .inr (8, o8_iirrriirrrrrrriii pYw0_0 (nI n) (Yw 1) (Yw 2) wa pYw0_5 pYw0_6 (y 19) (Yw 4) (Yw 5) (Yw 6) (Yw 7) (Yw 8) wb pYw0_14 pYw0_15 pYw0_16)), (wa, aI V n f_2)] := ⟨_, hP, hD⟩
  exact fiV hx hb hr hlk hK hP hD hS dX8_beginSpread_20 (Nat.le_of_ble_eq_true rfl) (Nat.le_of_ble_eq_true rfl) (⟨f_2, rfl⟩)
set_option maxHeartbeats 4000000 in
set_option maxRecDepth 100000 in
theorem k_J7_fill_fda19_1 (l : Launch) (V : GV) (n : Nat) (a1 : Int32) (a2 : Int32) (a3 : Int32) (wb : Nat) (fwb : Nat → Int32) (hn : 1 ≤ n ∧ n ≤ 3646) (ba1 : iv 0 0 a1) (ba2 : iv 0 ((n : Int)) a2) : Ct l V yJ7_fill_fda19 (.code yJ7_fill_fda19 cJ7_fill_fda19 5 none) 2 [.ref wb, .int a1, .int a2, .int a3] [(wb, aI V n fwb)] 0 0 (QV V (fun (w : va_W) => ∃ (g0 : Nat → Int32), w = [(wb, aI V n g0)])) := by
  refine Ct.of (by decide) (Nat.le_of_ble_eq_true rfl) (fun p e s m below meth c A ls hx hb hr hml hown hlk hnm hg hP hK hD hE hA hS hl => ?_)
  have hl : lv_has ls 5 [(0, .ref wb), (1, .int a1), (2, .int a2), (3, .int a3)] := hl
  refine lv_aload_n hx hb dJ7_fill_fda19_0 rfl (lv_at hl 0 rfl) ?_
  refine va_alen (v := (nI n)) hx hb hK hP 0 0 rfl rfl rfl dJ7_fill_fda19_1 ?_
  refine lv_iload_n hx hb dJ7_fill_fda19_2 rfl (lv_at hl 1 rfl) ?_
  refine lv_iload_n hx hb dJ7_fill_fda19_3 rfl (lv_at hl 2 rfl) ?_
  refine jnV (wr := [(wb, aI V n fwb)]) (rnS (rest := []) ⟨hx, hb, hml, hown, hg⟩ (k_J7_rangeCheck_23922_0 l V n (nI n) a1 a2 hn (iv_nI (by omega)) ba1 ba2) mt_J7_rangeCheck_23922 q_4_175 ⟨Nat.le_of_ble_eq_true rfl, Nat.le_of_ble_eq_true rfl⟩ hK hP hD hS hA hE [] rfl rfl rfl hl.1 rfl (Nat.le_of_ble_eq_true rfl) dJ7_fill_fda19_4 ⟨Nat.le_of_ble_eq_true rfl, Nat.le_of_ble_eq_true rfl⟩) hP hD hS hA [] [0] rfl rfl rfl (by decide) (fun  w H locs hw hP hD hS => ?_)
  subst hw
  have hP : va_P V.1 vwCl [(wb, aI V n fwb)] H := hP
  have hD := cpD hP hD
  refine lv_iload_n hx hb dJ7_fill_fda19_7 rfl (lv_at hl 1 rfl) ?_
  refine lv_istore (lv' := [(4, .int a1), (0, .ref wb), (1, .int a1), (2, .int a2), (3, .int a3)]) hx hb dJ7_fill_fda19_8 hl (by decide) rfl (fun ls hl => ?_)
  refine loopF (X := fun (n_3 : Nat) (H : Heap) (locs : List Loc) (ls : Array Slot) => ∃ (u_1 : Int32) (f_2 : Nat → Int32), (iv 0 2147483647 u_1) ∧ n_3 = (2147483647 - (u_1 : Int32).toInt).toNat ∧ va_P V.1 vwCl [(wb, aI V n f_2)] H ∧ va_D A [(wb, aI V n f_2)] ∧ va_S A s.heap H locs ∧ lv_has ls 5 [(4, .int u_1), (0, .ref wb), (1, .int a1), (2, .int a2), (3, .int a3)]) (g := fun ls => F0 m 10 ls []) (fun n_3 H locs ls hX ihn_3 => ?_) _ ⟨a1, fwb, (iv_w ba1 (by first | decide | omega)), rfl, hP, hD, hS, lv_sub hl [0, 1, 2, 3, 4] rfl⟩
  obtain ⟨u_1, f_2, bu_1, en_3, hP, hD, hS, hl⟩ := hX
  refine lv_iload hx hb dJ7_fill_fda19_10 (lv_at hl 0 rfl) ?_
  refine lv_iload_n hx hb dJ7_fill_fda19_12 rfl (lv_at hl 3 rfl) ?_
  refine lv_icmp_ge (tgt := 27) hx hb dJ7_fill_fda19_13 (by decide) (fun c_4 => ?_) (fun c_4 => ?_)
  · exact fiV hx hb hr hlk hK hP hD hS dJ7_fill_fda19_27 (Nat.le_of_ble_eq_true rfl) (Nat.le_of_ble_eq_true rfl) (⟨f_2, rfl⟩)
  · have b_5 : iv 0 ((n : Int) - 1) u_1 := iv_l1 (Int32.not_le.mp c_4) bu_1 ba2 (by first | decide | omega)
    have b_6 : iv 1 ((n : Int)) a2 := iv_l2 (Int32.not_le.mp c_4) bu_1 ba2 (by first | decide | omega)
    refine lv_aload_n hx hb dJ7_fill_fda19_16 rfl (lv_at hl 1 rfl) ?_
    refine lv_iload hx hb dJ7_fill_fda19_17 (lv_at hl 0 rfl) ?_
    refine lv_iload_n hx hb dJ7_fill_fda19_19 rfl (lv_at hl 4 rfl) ?_
    refine va_iast hx hb hK hP hD hS 0 0 rfl rfl (iv_in b_5 (by first | decide | omega)) dJ7_fill_fda19_20 (fun H locs hP hD hS => ?_)
    obtain ⟨f_7, hP, hD⟩ : ∃ f_7 : Nat → Int32, va_P V.1 vwCl [(wb, aI V n f_7)] H ∧ va_D A [(wb, aI V n f_7)] := ⟨_, hP, hD⟩
    obtain ⟨x_8, ex_8⟩ : ∃ z9 : Int32, z9 = u_1 + 1 := ⟨_, rfl⟩
    have bx_8 : iv 1 ((n : Int)) x_8 := by rw [ex_8]; exact iv_add b_5 (iv_c (1 : Int32) (a := 1) (b := 1) (by first | decide | omega)) (by first | decide | omega)
    refine lv_iinc (v := x_8) (lv' := [(4, .int x_8), (0, .ref wb), (1, .int a1), (2, .int a2), (3, .int a3)]) hx hb dJ7_fill_fda19_21 hl (k := 0) rfl (by rw [ex_8]; rfl) (by decide) rfl (fun ls hl => ?_)
    refine lv_goto (tgt := 10) hx hb dJ7_fill_fda19_24 (by decide) ?_
    exact ihn_3 _ _ _ _ (by rw [en_3, ex_8]; exact mu_up b_5 (by first | decide | omega)) ⟨x_8, f_7, (iv_w bx_8 (by first | decide | omega)), rfl, hP, hD, hS, lv_sub hl [0, 1, 2, 3, 4] rfl⟩
theorem dX8_spreadOneNight_0 : decode cX8_spreadOneNight 0 = .ok (.aload_n 0, 1) := by decide +kernel
theorem q_4_87 : Cond.fieldLink "BeaconDelay$Ways" 53 "BeaconDelay$Ways" "weightThen" "[I" ∈ gw := gw_4 (i := 87) (by decide +kernel) rfl
theorem dX8_spreadOneNight_1 : decode cX8_spreadOneNight 1 = .ok (.getfield 53, 3) := by decide +kernel
theorem dX8_spreadOneNight_4 : decode cX8_spreadOneNight 4 = .ok (.iconst 0, 1) := by decide +kernel
theorem dX8_spreadOneNight_5 : decode cX8_spreadOneNight 5 = .ok (.aload_n 0, 1) := by decide +kernel
theorem dX8_spreadOneNight_6 : decode cX8_spreadOneNight 6 = .ok (.getfield 56, 3) := by decide +kernel
theorem dX8_spreadOneNight_9 : decode cX8_spreadOneNight 9 = .ok (.iconst 0, 1) := by decide +kernel
theorem dX8_spreadOneNight_10 : decode cX8_spreadOneNight 10 = .ok (.invokestatic 118, 3) := by decide +kernel
theorem dX8_spreadOneNight_13 : decode cX8_spreadOneNight 13 = .ok (.iconst 0, 1) := by decide +kernel
theorem dX8_spreadOneNight_14 : decode cX8_spreadOneNight 14 = .ok (.istore_n 3, 1) := by decide +kernel
theorem dX8_spreadOneNight_15 : decode cX8_spreadOneNight 15 = .ok (.iload_n 3, 1) := by decide +kernel
theorem dX8_spreadOneNight_16 : decode cX8_spreadOneNight 16 = .ok (.aload_n 0, 1) := by decide +kernel
theorem dX8_spreadOneNight_17 : decode cX8_spreadOneNight 17 = .ok (.getfield 59, 3) := by decide +kernel
theorem dX8_spreadOneNight_20 : decode cX8_spreadOneNight 20 = .ok (.if_icmp .ge 89, 3) := by decide +kernel
theorem dX8_spreadOneNight_109 : decode cX8_spreadOneNight 109 = .ok (.aload_n 0, 1) := by decide +kernel
theorem dX8_spreadOneNight_110 : decode cX8_spreadOneNight 110 = .ok (.getfield 50, 3) := by decide +kernel
theorem dX8_spreadOneNight_113 : decode cX8_spreadOneNight 113 = .ok (.astore_n 3, 1) := by decide +kernel
theorem dX8_spreadOneNight_114 : decode cX8_spreadOneNight 114 = .ok (.aload_n 0, 1) := by decide +kernel
theorem dX8_spreadOneNight_115 : decode cX8_spreadOneNight 115 = .ok (.aload_n 0, 1) := by decide +kernel
theorem dX8_spreadOneNight_116 : decode cX8_spreadOneNight 116 = .ok (.getfield 53, 3) := by decide +kernel
theorem dX8_spreadOneNight_119 : decode cX8_spreadOneNight 119 = .ok (.putfield 50, 3) := by decide +kernel
theorem dX8_spreadOneNight_122 : decode cX8_spreadOneNight 122 = .ok (.aload_n 0, 1) := by decide +kernel
theorem dX8_spreadOneNight_123 : decode cX8_spreadOneNight 123 = .ok (.aload_n 3, 1) := by decide +kernel
theorem dX8_spreadOneNight_124 : decode cX8_spreadOneNight 124 = .ok (.putfield 53, 3) := by decide +kernel
theorem dX8_spreadOneNight_127 : decode cX8_spreadOneNight 127 = .ok (.return_, 1) := by decide +kernel
theorem dX8_spreadOneNight_23 : decode cX8_spreadOneNight 23 = .ok (.aload_n 0, 1) := by decide +kernel
theorem dX8_spreadOneNight_24 : decode cX8_spreadOneNight 24 = .ok (.getfield 32, 3) := by decide +kernel
theorem dX8_spreadOneNight_27 : decode cX8_spreadOneNight 27 = .ok (.iload_n 3, 1) := by decide +kernel
theorem dX8_spreadOneNight_28 : decode cX8_spreadOneNight 28 = .ok (.iaload, 1) := by decide +kernel
theorem dX8_spreadOneNight_29 : decode cX8_spreadOneNight 29 = .ok (.iload_n 1, 1) := by decide +kernel
theorem dX8_spreadOneNight_30 : decode cX8_spreadOneNight 30 = .ok (.if_icmp .gt 79, 3) := by decide +kernel
theorem dX8_spreadOneNight_33 : decode cX8_spreadOneNight 33 = .ok (.aload_n 0, 1) := by decide +kernel
theorem dX8_spreadOneNight_34 : decode cX8_spreadOneNight 34 = .ok (.getfield 50, 3) := by decide +kernel
theorem dX8_spreadOneNight_37 : decode cX8_spreadOneNight 37 = .ok (.iload_n 3, 1) := by decide +kernel
theorem dX8_spreadOneNight_38 : decode cX8_spreadOneNight 38 = .ok (.iaload, 1) := by decide +kernel
theorem dX8_spreadOneNight_39 : decode cX8_spreadOneNight 39 = .ok (.ifCond .eq 64, 3) := by decide +kernel
theorem dX8_spreadOneNight_103 : decode cX8_spreadOneNight 103 = .ok (.iinc 3 1, 3) := by decide +kernel
theorem dX8_spreadOneNight_106 : decode cX8_spreadOneNight 106 = .ok (.goto (-91), 3) := by decide +kernel
theorem dX8_spreadOneNight_42 : decode cX8_spreadOneNight 42 = .ok (.aload_n 0, 1) := by decide +kernel
theorem dX8_spreadOneNight_43 : decode cX8_spreadOneNight 43 = .ok (.getfield 53, 3) := by decide +kernel
theorem dX8_spreadOneNight_46 : decode cX8_spreadOneNight 46 = .ok (.aload_n 0, 1) := by decide +kernel
theorem dX8_spreadOneNight_47 : decode cX8_spreadOneNight 47 = .ok (.iload_n 3, 1) := by decide +kernel
theorem dX8_spreadOneNight_48 : decode cX8_spreadOneNight 48 = .ok (.iconst 0, 1) := by decide +kernel
theorem q_4_185 : Cond.code yX8_behind prog_10_method_7_code 3 (some FieldType.int) ∈ gw := gw_4 (i := 185) (rfl) rfl
theorem q_4_183 : Cond.instanceMethod yX8_behind ∈ gw := gw_4 (i := 183) (by decide +kernel) rfl
theorem q_4_184 : Cond.selects "BeaconDelay$Ways" yX8_behind yX8_behind ∈ gw := gw_4 (i := 184) (by decide +kernel) rfl
theorem mt_X8_behind : MtV yX8_behind cX8_behind 3 (some .int) 2 := ⟨⟨q_4_185, q_1_18, by decide +kernel, by decide +kernel, by decide +kernel⟩, q_4_183, q_4_184⟩
theorem q_4_182 : Cond.methodLink "BeaconDelay$Ways" 124 yX8_behind ∈ gw := gw_4 (i := 182) (by decide +kernel) rfl
theorem dX8_spreadOneNight_49 : decode cX8_spreadOneNight 49 = .ok (.invokevirtual 124, 3) := by decide +kernel
theorem dX8_spreadOneNight_52 : decode cX8_spreadOneNight 52 = .ok (.dup2, 1) := by decide +kernel
theorem dX8_spreadOneNight_53 : decode cX8_spreadOneNight 53 = .ok (.iaload, 1) := by decide +kernel
theorem dX8_spreadOneNight_54 : decode cX8_spreadOneNight 54 = .ok (.aload_n 0, 1) := by decide +kernel
theorem dX8_spreadOneNight_55 : decode cX8_spreadOneNight 55 = .ok (.getfield 50, 3) := by decide +kernel
theorem dX8_spreadOneNight_58 : decode cX8_spreadOneNight 58 = .ok (.iload_n 3, 1) := by decide +kernel
theorem dX8_spreadOneNight_59 : decode cX8_spreadOneNight 59 = .ok (.iaload, 1) := by decide +kernel
theorem dX8_spreadOneNight_60 : decode cX8_spreadOneNight 60 = .ok (.iload_n 2, 1) := by decide +kernel
theorem dX8_spreadOneNight_61 : decode cX8_spreadOneNight 61 = .ok (.imul, 1) := by decide +kernel
theorem dX8_spreadOneNight_62 : decode cX8_spreadOneNight 62 = .ok (.iadd, 1) := by decide +kernel
theorem dX8_spreadOneNight_63 : decode cX8_spreadOneNight 63 = .ok (.iastore, 1) := by decide +kernel
theorem dX8_spreadOneNight_64 : decode cX8_spreadOneNight 64 = .ok (.iconst 1, 1) := by decide +kernel
theorem dX8_spreadOneNight_65 : decode cX8_spreadOneNight 65 = .ok (.istore 4, 2) := by decide +kernel
theorem dX8_spreadOneNight_67 : decode cX8_spreadOneNight 67 = .ok (.iload 4, 2) := by decide +kernel
theorem dX8_spreadOneNight_69 : decode cX8_spreadOneNight 69 = .ok (.aload_n 0, 1) := by decide +kernel
theorem dX8_spreadOneNight_70 : decode cX8_spreadOneNight 70 = .ok (.getfield 77, 3) := by decide +kernel
theorem dX8_spreadOneNight_73 : decode cX8_spreadOneNight 73 = .ok (.if_icmp .ge 30, 3) := by decide +kernel
theorem dX8_spreadOneNight_76 : decode cX8_spreadOneNight 76 = .ok (.aload_n 0, 1) := by decide +kernel
theorem dX8_spreadOneNight_77 : decode cX8_spreadOneNight 77 = .ok (.getfield 53, 3) := by decide +kernel
theorem dX8_spreadOneNight_80 : decode cX8_spreadOneNight 80 = .ok (.aload_n 0, 1) := by decide +kernel
theorem dX8_spreadOneNight_81 : decode cX8_spreadOneNight 81 = .ok (.iload_n 3, 1) := by decide +kernel
theorem dX8_spreadOneNight_82 : decode cX8_spreadOneNight 82 = .ok (.iload 4, 2) := by decide +kernel
theorem dX8_spreadOneNight_84 : decode cX8_spreadOneNight 84 = .ok (.invokevirtual 124, 3) := by decide +kernel
theorem dX8_spreadOneNight_87 : decode cX8_spreadOneNight 87 = .ok (.dup2, 1) := by decide +kernel
theorem dX8_spreadOneNight_88 : decode cX8_spreadOneNight 88 = .ok (.iaload, 1) := by decide +kernel
theorem dX8_spreadOneNight_89 : decode cX8_spreadOneNight 89 = .ok (.aload_n 0, 1) := by decide +kernel
theorem dX8_spreadOneNight_90 : decode cX8_spreadOneNight 90 = .ok (.getfield 50, 3) := by decide +kernel
theorem dX8_spreadOneNight_93 : decode cX8_spreadOneNight 93 = .ok (.iload_n 3, 1) := by decide +kernel
theorem dX8_spreadOneNight_94 : decode cX8_spreadOneNight 94 = .ok (.iaload, 1) := by decide +kernel
theorem dX8_spreadOneNight_95 : decode cX8_spreadOneNight 95 = .ok (.iadd, 1) := by decide +kernel
theorem dX8_spreadOneNight_96 : decode cX8_spreadOneNight 96 = .ok (.iastore, 1) := by decide +kernel
theorem dX8_spreadOneNight_97 : decode cX8_spreadOneNight 97 = .ok (.iinc 4 1, 3) := by decide +kernel
theorem dX8_spreadOneNight_100 : decode cX8_spreadOneNight 100 = .ok (.goto (-33), 3) := by decide +kernel
set_option maxHeartbeats 4000000 in
set_option maxRecDepth 100000 in
theorem k_X8_spreadOneNight_0 (l : Launch) (V : GV) (n : Nat) (Yw : Nat → Nat) (y : Nat → Nat) (a1 : Int32) (a2 : Int32) (pYw0_0 : Int32) (wa : Nat) (pYw0_5 : Int32) (pYw0_6 : Int32) (wb : Nat) (pYw0_14 : Int32) (pYw0_15 : Int32) (pYw0_16 : Int32) (fYw2 : Nat → Int32) (fwa : Nat → Int32) (fYw6 : Nat → Int32) (fwb : Nat → Int32) (hn : 1 ≤ n ∧ n ≤ 3646) (bpYw0_0 : iv 0 4 pYw0_0) (bpYw0_5 : iv 0 ((n : Int)) pYw0_5) (bpYw0_6 : iv 0 4 pYw0_6) (bpYw0_14 : iv 0 4 pYw0_14) (bpYw0_15 : iv 0 9 pYw0_15) (bpYw0_16 : iv 0 ((n : Int)) pYw0_16) (tfYw6 : ∀ j, iv 0 ((n : Int) - 1) (fYw6 j)) : Ct l V yX8_spreadOneNight (.code yX8_spreadOneNight cX8_spreadOneNight 5 none) 3 [.ref (Yw 0), .int a1, .int a2] [(Yw 0, .inr (8, o8_iirrriirrrrrrriii pYw0_0 (nI n) (Yw 1) (Yw 2) wa pYw0_5 pYw0_6 (y 19) (Yw 4) (Yw 5) (Yw 6) (Yw 7) (Yw 8) wb pYw0_14 pYw0_15 pYw0_16)), (Yw 2, aI V n fYw2), (wa, aI V n fwa), (Yw 6, aI V (n * 4) fYw6), (wb, aI V n fwb)] 0 0 (QV V (fun (w : va_W) => ∃ (wa2 : Nat) (wb2 : Nat) (g2 : Nat → Int32) (g3 : Nat → Int32), w = [(Yw 0, .inr (8, o8_iirrriirrrrrrriii pYw0_0 (nI n) (Yw 1) (Yw 2) wa2 pYw0_5 pYw0_6 (y 19) (Yw 4) (Yw 5) (Yw 6) (Yw 7) (Yw 8) wb2 pYw0_14 pYw0_15 pYw0_16)), (Yw 2, aI V n fYw2), (wa2, aI V n g2), (Yw 6, aI V (n * 4) fYw6), (wb2, aI V n g3)])) := by
  refine Ct.of (by decide) (Nat.le_of_ble_eq_true rfl) (fun p e s m below meth c A ls hx hb hr hml hown hlk hnm hg hP hK hD hE hA hS hl => ?_)
  have hl : lv_has ls 5 [(0, .ref (Yw 0)), (1, .int a1), (2, .int a2)] := hl
  refine lv_aload_n hx hb dX8_spreadOneNight_0 rfl (lv_at hl 0 rfl) ?_
  refine va_get (ci := 8) (v := .ref wb) (C := RX8) (T := TX8) (N := 17) hx hb hg inX8 hown hK hP 0 rfl rfl 13 (by decide) (hg _ q_4_87) (fun _ h9 => h9) rfl dX8_spreadOneNight_1 ?_
  refine lv_iconst (v := 0) hx hb dX8_spreadOneNight_4 (by decide) ?_
  refine lv_aload_n hx hb dX8_spreadOneNight_5 rfl (lv_at hl 0 rfl) ?_
  refine va_get (ci := 8) (v := .int pYw0_5) (C := RX8) (T := TX8) (N := 17) hx hb hg inX8 hown hK hP 0 rfl rfl 5 (by decide) (hg _ q_4_76) (fun _ h9 => h9) rfl dX8_spreadOneNight_6 ?_
  refine lv_iconst (v := 0) hx hb dX8_spreadOneNight_9 (by decide) ?_
  refine jnV (wr := [(Yw 0, .inr (8, o8_iirrriirrrrrrriii pYw0_0 (nI n) (Yw 1) (Yw 2) wa pYw0_5 pYw0_6 (y 19) (Yw 4) (Yw 5) (Yw 6) (Yw 7) (Yw 8) wb pYw0_14 pYw0_15 pYw0_16)), (Yw 2, aI V n fYw2), (wa, aI V n fwa), (Yw 6, aI V (n * 4) fYw6)]) (rnS (rest := []) ⟨hx, hb, hml, hown, hg⟩ (k_J7_fill_fda19_1 l V n 0 pYw0_5 0 wb fwb hn (iv_c (0 : Int32) (by decide)) bpYw0_5) mt_J7_fill_fda19 q_4_172 ⟨Nat.le_of_ble_eq_true rfl, Nat.le_of_ble_eq_true rfl⟩ hK hP hD hS hA hE [4] rfl rfl rfl hl.1 rfl (Nat.le_of_ble_eq_true rfl) dX8_spreadOneNight_10 ⟨Nat.le_of_ble_eq_true rfl, Nat.le_of_ble_eq_true rfl⟩) hP hD hS hA [4] [0, 1, 2, 3] rfl rfl rfl (by decide) (fun  w H locs hw hP hD hS => ?_)
  obtain ⟨f_1, rfl⟩ := hw
  have hP : va_P V.1 vwCl [(Yw 0, .inr (8, o8_iirrriirrrrrrriii pYw0_0 (nI n) (Yw 1) (Yw 2) wa pYw0_5 pYw0_6 (y 19) (Yw 4) (Yw 5) (Yw 6) (Yw 7) (Yw 8) wb pYw0_14 pYw0_15 pYw0_16)), (Yw 2, aI V n fYw2), (wa, aI V n fwa), (Yw 6, aI V (n * 4) fYw6), (wb, aI V n f_1)] H := hP
  have hD := cpD hP hD
  refine lv_iconst (v := 0) hx hb dX8_spreadOneNight_13 (by decide) ?_
  refine lv_istore_n (lv' := [(3, .int 0), (0, .ref (Yw 0)), (1, .int a1), (2, .int a2)]) hx hb dX8_spreadOneNight_14 rfl hl (by decide) rfl (fun ls hl => ?_)
  refine loopF (X := fun (n_4 : Nat) (H : Heap) (locs : List Loc) (ls : Array Slot) => ∃ (u_2 : Int32) (f_3 : Nat → Int32), (iv 0 2147483647 u_2) ∧ n_4 = (2147483647 - (u_2 : Int32).toInt).toNat ∧ va_P V.1 vwCl [(Yw 0, .inr (8, o8_iirrriirrrrrrriii pYw0_0 (nI n) (Yw 1) (Yw 2) wa pYw0_5 pYw0_6 (y 19) (Yw 4) (Yw 5) (Yw 6) (Yw 7) (Yw 8) wb pYw0_14 pYw0_15 pYw0_16)), (Yw 2, aI V n fYw2), (wa, aI V n fwa), (Yw 6, aI V (n * 4) fYw6), (wb, aI V n f_3)] H ∧ va_D A [(Yw 0, .inr (8, o8_iirrriirrrrrrriii pYw0_0 (nI n) (Yw 1) (Yw 2) wa pYw0_5 pYw0_6 (y 19) (Yw 4) (Yw 5) (Yw 6) (Yw 7) (Yw 8) wb pYw0_14 pYw0_15 pYw0_16)), (Yw 2, aI V n fYw2), (wa, aI V n fwa), (Yw 6, aI V (n * 4) fYw6), (wb, aI V n f_3)] ∧ va_S A s.heap H locs ∧ lv_has ls 5 [(3, .int u_2), (0, .ref (Yw 0)), (1, .int a1), (2, .int a2)]) (g := fun ls => F0 m 15 ls []) (fun n_4 H locs ls hX ihn_4 => ?_) _ ⟨0, f_1, (iv_c (0 : Int32) (by decide)), rfl, hP, hD, hS, lv_sub hl [0, 1, 2, 3] rfl⟩
  obtain ⟨u_2, f_3, bu_2, en_4, hP, hD, hS, hl⟩ := hX
  refine lv_iload_n hx hb dX8_spreadOneNight_15 rfl (lv_at hl 0 rfl) ?_
  refine lv_aload_n hx hb dX8_spreadOneNight_16 rfl (lv_at hl 1 rfl) ?_
  refine va_get (ci := 8) (v := .int pYw0_16) (C := RX8) (T := TX8) (N := 17) hx hb hg inX8 hown hK hP 0 rfl rfl 16 (by decide) (hg _ q_4_90) (fun _ h9 => h9) rfl dX8_spreadOneNight_17 ?_
  refine lv_icmp_ge (tgt := 109) hx hb dX8_spreadOneNight_20 (by decide) (fun c_5 => ?_) (fun c_5 => ?_)
  · refine lv_aload_n hx hb dX8_spreadOneNight_109 rfl (lv_at hl 1 rfl) ?_
    refine va_get (ci := 8) (v := .ref wa) (C := RX8) (T := TX8) (N := 17) hx hb hg inX8 hown hK hP 0 rfl rfl 4 (by decide) (hg _ q_4_74) (fun _ h9 => h9) rfl dX8_spreadOneNight_110 ?_
    refine lv_astore_n (lv' := [(3, .ref wa), (0, .ref (Yw 0)), (1, .int a1), (2, .int a2)]) hx hb dX8_spreadOneNight_113 rfl hl (by decide) rfl (fun ls hl => ?_)
    refine lv_aload_n hx hb dX8_spreadOneNight_114 rfl (lv_at hl 1 rfl) ?_
    refine lv_aload_n hx hb dX8_spreadOneNight_115 rfl (lv_at hl 1 rfl) ?_
    refine va_get (ci := 8) (v := .ref wb) (C := RX8) (T := TX8) (N := 17) hx hb hg inX8 hown hK hP 0 rfl rfl 13 (by decide) (hg _ q_4_87) (fun _ h9 => h9) rfl dX8_spreadOneNight_116 ?_
    refine va_put (ci := 8) (v := .ref wb) (ty := (.array .int)) (C := RX8) (T := TX8) (N := 17) hx hb hg inX8 tyX8 tyX8_ok nmX8 hown hK hP hD hS 0 rfl rfl 4 (by decide) (hg _ q_4_74) (fun _ h9 => h9) rfl (by decide +kernel) rfl rfl (Nat.le_of_ble_eq_true rfl) dX8_spreadOneNight_119 (fun H locs hP hD hS => ?_)
    have hP : va_P V.1 vwCl [(Yw 0, .inr (8, o8_iirrriirrrrrrriii pYw0_0 (nI n) (Yw 1) (Yw 2) wb pYw0_5 pYw0_6 (y 19) (Yw 4) (Yw 5) (Yw 6) (Yw 7) (Yw 8) wb pYw0_14 pYw0_15 pYw0_16)), (Yw 2, aI V n fYw2), (wa, aI V n fwa), (Yw 6, aI V (n * 4) fYw6), (wb, aI V n f_3)] H := hP
    have hD := cpD hP hD
    refine lv_aload_n hx hb dX8_spreadOneNight_122 rfl (lv_at hl 1 rfl) ?_
    refine lv_aload_n hx hb dX8_spreadOneNight_123 rfl (lv_at hl 0 rfl) ?_
    refine va_put (ci := 8) (v := .ref wa) (ty := (.array .int)) (C := RX8) (T := TX8) (N := 17) hx hb hg inX8 tyX8 tyX8_ok nmX8 hown hK hP hD hS 0 rfl rfl 13 (by decide) (hg _ q_4_87) (fun _ h9 => h9) rfl (by decide +kernel) rfl rfl (Nat.le_of_ble_eq_true rfl) dX8_spreadOneNight_124 (fun H locs hP hD hS => ?_)
    have hP : va_P V.1 vwCl [(Yw 0, .inr (8, o8_iirrriirrrrrrriii pYw0_0 (nI n) (Yw 1) (Yw 2) wb pYw0_5 pYw0_6 (y 19) (Yw 4) (Yw 5) (Yw 6) (Yw 7) (Yw 8) wa pYw0_14 pYw0_15 pYw0_16)), (Yw 2, aI V n fYw2), (wa, aI V n fwa), (Yw 6, aI V (n * 4) fYw6), (wb, aI V n f_3)] H := hP
    have hD := cpD hP hD
    have hP := subP (ws' := [(Yw 0, .inr (8, o8_iirrriirrrrrrriii pYw0_0 (nI n) (Yw 1) (Yw 2) wb pYw0_5 pYw0_6 (y 19) (Yw 4) (Yw 5) (Yw 6) (Yw 7) (Yw 8) wa pYw0_14 pYw0_15 pYw0_16)), (Yw 2, aI V n fYw2), (wb, aI V n f_3), (Yw 6, aI V (n * 4) fYw6), (wa, aI V n fwa)]) hP [0, 1, 4, 3, 2] rfl
    have hD := subD hP hD [0, 1, 4, 3, 2] rfl rfl
    exact fiV hx hb hr hlk hK hP hD hS dX8_spreadOneNight_127 (Nat.le_of_ble_eq_true rfl) (Nat.le_of_ble_eq_true rfl) (⟨wb, wa, f_3, fwa, rfl⟩)
  · have b_6 : iv 0 ((n : Int) - 1) u_2 := iv_l1 (Int32.not_le.mp c_5) bu_2 bpYw0_16 (by first | decide | omega)
    have b_7 : iv 1 ((n : Int)) pYw0_16 := iv_l2 (Int32.not_le.mp c_5) bu_2 bpYw0_16 (by first | decide | omega)
    refine lv_aload_n hx hb dX8_spreadOneNight_23 rfl (lv_at hl 1 rfl) ?_
    refine va_get (ci := 8) (v := .ref (Yw 2)) (C := RX8) (T := TX8) (N := 17) hx hb hg inX8 hown hK hP 0 rfl rfl 3 (by decide) (hg _ q_4_72) (fun _ h9 => h9) rfl dX8_spreadOneNight_24 ?_
    refine lv_iload_n hx hb dX8_spreadOneNight_27 rfl (lv_at hl 0 rfl) ?_
    refine va_iald hx hb hK hP 1 0 rfl rfl (iv_in b_6 (by first | decide | omega)) dX8_spreadOneNight_28 ?_
    refine lv_topi (fun x_8 ex_8 => ?_)
    refine lv_iload_n hx hb dX8_spreadOneNight_29 rfl (lv_at hl 2 rfl) ?_
    refine lv_icmp_gt (tgt := 109) hx hb dX8_spreadOneNight_30 (by decide) (fun c_9 => ?_) (fun c_9 => ?_)
    · have b_10 : iv (-2147483648) 2147483646 a1 := iv_l1 c_9 (iv_top a1) (iv_top x_8) (by first | decide | omega)
      have b_11 : iv (-2147483647) 2147483647 x_8 := iv_l2 c_9 (iv_top a1) (iv_top x_8) (by first | decide | omega)
      refine lv_aload_n hx hb dX8_spreadOneNight_109 rfl (lv_at hl 1 rfl) ?_
      refine va_get (ci := 8) (v := .ref wa) (C := RX8) (T := TX8) (N := 17) hx hb hg inX8 hown hK hP 0 rfl rfl 4 (by decide) (hg _ q_4_74) (fun _ h9 => h9) rfl dX8_spreadOneNight_110 ?_
      refine lv_astore_n (lv' := [(3, .ref wa), (0, .ref (Yw 0)), (1, .int a1), (2, .int a2)]) hx hb dX8_spreadOneNight_113 rfl hl (by decide) rfl (fun ls hl => ?_)
      refine lv_aload_n hx hb dX8_spreadOneNight_114 rfl (lv_at hl 1 rfl) ?_
      refine lv_aload_n hx hb dX8_spreadOneNight_115 rfl (lv_at hl 1 rfl) ?_
      refine va_get (ci := 8) (v := .ref wb) (C := RX8) (T := TX8) (N := 17) hx hb hg inX8 hown hK hP 0 rfl rfl 13 (by decide) (hg _ q_4_87) (fun _ h9 => h9) rfl dX8_spreadOneNight_116 ?_
      refine va_put (ci := 8) (v := .ref wb) (ty := (.array .int)) (C := RX8) (T := TX8) (N := 17) hx hb hg inX8 tyX8 tyX8_ok nmX8 hown hK hP hD hS 0 rfl rfl 4 (by decide) (hg _ q_4_74) (fun _ h9 => h9) rfl (by decide +kernel) rfl rfl (Nat.le_of_ble_eq_true rfl) dX8_spreadOneNight_119 (fun H locs hP hD hS => ?_)
      have hP : va_P V.1 vwCl [(Yw 0, .inr (8, o8_iirrriirrrrrrriii pYw0_0 (nI n) (Yw 1) (Yw 2) wb pYw0_5 pYw0_6 (y 19) (Yw 4) (Yw 5) (Yw 6) (Yw 7) (Yw 8) wb pYw0_14 pYw0_15 pYw0_16)), (Yw 2, aI V n fYw2), (wa, aI V n fwa), (Yw 6, aI V (n * 4) fYw6), (wb, aI V n f_3)] H := hP
      have hD := cpD hP hD
      refine lv_aload_n hx hb dX8_spreadOneNight_122 rfl (lv_at hl 1 rfl) ?_
      refine lv_aload_n hx hb dX8_spreadOneNight_123 rfl (lv_at hl 0 rfl) ?_
      refine va_put (ci := 8) (v := .ref wa) (ty := (.array .int)) (C := RX8) (T := TX8) (N := 17) hx hb hg inX8 tyX8 tyX8_ok nmX8 hown hK hP hD hS 0 rfl rfl 13 (by decide) (hg _ q_4_87) (fun _ h9 => h9) rfl (by decide +kernel) rfl rfl (Nat.le_of_ble_eq_true rfl) dX8_spreadOneNight_124 (fun H locs hP hD hS => ?_)
      have hP : va_P V.1 vwCl [(Yw 0, .inr (8, o8_iirrriirrrrrrriii pYw0_0 (nI n) (Yw 1) (Yw 2) wb pYw0_5 pYw0_6 (y 19) (Yw 4) (Yw 5) (Yw 6) (Yw 7) (Yw 8) wa pYw0_14 pYw0_15 pYw0_16)), (Yw 2, aI V n fYw2), (wa, aI V n fwa), (Yw 6, aI V (n * 4) fYw6), (wb, aI V n f_3)] H := hP
      have hD := cpD hP hD
      have hP := subP (ws' := [(Yw 0, .inr (8, o8_iirrriirrrrrrriii pYw0_0 (nI n) (Yw 1) (Yw 2) wb pYw0_5 pYw0_6 (y 19) (Yw 4) (Yw 5) (Yw 6) (Yw 7) (Yw 8) wa pYw0_14 pYw0_15 pYw0_16)), (Yw 2, aI V n fYw2), (wb, aI V n f_3), (Yw 6, aI V (n * 4) fYw6), (wa, aI V n fwa)]) hP [0, 1, 4, 3, 2] rfl
      have hD := subD hP hD [0, 1, 4, 3, 2] rfl rfl
      exact fiV hx hb hr hlk hK hP hD hS dX8_spreadOneNight_127 (Nat.le_of_ble_eq_true rfl) (Nat.le_of_ble_eq_true rfl) (⟨wb, wa, f_3, fwa, rfl⟩)
    · refine lv_aload_n hx hb dX8_spreadOneNight_33 rfl (lv_at hl 1 rfl) ?_
      refine va_get (ci := 8) (v := .ref wa) (C := RX8) (T := TX8) (N := 17) hx hb hg inX8 hown hK hP 0 rfl rfl 4 (by decide) (hg _ q_4_74) (fun _ h9 => h9) rfl dX8_spreadOneNight_34 ?_
      refine lv_iload_n hx hb dX8_spreadOneNight_37 rfl (lv_at hl 0 rfl) ?_
      refine va_iald hx hb hK hP 2 0 rfl rfl (iv_in b_6 (by first | decide | omega)) dX8_spreadOneNight_38 ?_
      refine lv_topi (fun x_12 ex_12 => ?_)
      refine lv_if_eq (tgt := 103) hx hb dX8_spreadOneNight_39 (by decide) (fun c_13 => ?_) (fun c_13 => ?_)
      · have b_14 : iv 0 0 x_12 := iv_q c_13 (iv_c (0 : Int32) (a := 0) (b := 0) (by decide))
        obtain ⟨x_15, ex_15⟩ : ∃ z9 : Int32, z9 = u_2 + 1 := ⟨_, rfl⟩
        have bx_15 : iv 1 ((n : Int)) x_15 := by rw [ex_15]; exact iv_add b_6 (iv_c (1 : Int32) (a := 1) (b := 1) (by first | decide | omega)) (by first | decide | omega)
        refine lv_iinc (v := x_15) (lv' := [(3, .int x_15), (0, .ref (Yw 0)), (1, .int a1), (2, .int a2)]) hx hb dX8_spreadOneNight_103 hl (k := 0) rfl (by rw [ex_15]; rfl) (by decide) rfl (fun ls hl => ?_)
        refine lv_goto (tgt := 15) hx hb dX8_spreadOneNight_106 (by decide) ?_
        exact ihn_4 _ _ _ _ (by rw [en_4, ex_15]; exact mu_up b_6 (by first | decide | omega)) ⟨x_15, f_3, (iv_w bx_15 (by first | decide | omega)), rfl, hP, hD, hS, lv_sub hl [0, 1, 2, 3] rfl⟩
      · refine lv_aload_n hx hb dX8_spreadOneNight_42 rfl (lv_at hl 1 rfl) ?_
        refine va_get (ci := 8) (v := .ref wb) (C := RX8) (T := TX8) (N := 17) hx hb hg inX8 hown hK hP 0 rfl rfl 13 (by decide) (hg _ q_4_87) (fun _ h9 => h9) rfl dX8_spreadOneNight_43 ?_
        refine lv_aload_n hx hb dX8_spreadOneNight_46 rfl (lv_at hl 1 rfl) ?_
        refine lv_iload_n hx hb dX8_spreadOneNight_47 rfl (lv_at hl 0 rfl) ?_
        refine lv_iconst (v := 0) hx hb dX8_spreadOneNight_48 (by decide) ?_
        refine jnI (wr := [(Yw 2, aI V n fYw2), (wa, aI V n fwa), (wb, aI V n f_3)]) (rnV (rest := [.ref wb]) ⟨hx, hb, hml, hown, hg⟩ (k_X8_behind_0 l V n Yw y u_2 0 pYw0_0 wa pYw0_5 pYw0_6 wb pYw0_14 pYw0_15 pYw0_16 fYw6 hn b_6 (iv_c (0 : Int32) (by decide)) bpYw0_0 bpYw0_5 bpYw0_6 bpYw0_14 bpYw0_15 (iv_w b_7 (by first | decide | omega)) tfYw6) mt_X8_behind q_4_182 ⟨Nat.le_of_ble_eq_true rfl, Nat.le_of_ble_eq_true rfl⟩ hK hP hD hS hA hE [0, 3] rfl rfl 0 rfl rfl rfl rfl hl.1 rfl (Nat.le_of_ble_eq_true rfl) dX8_spreadOneNight_49 ⟨Nat.le_of_ble_eq_true rfl, Nat.le_of_ble_eq_true rfl⟩) hP hD hS hA [0, 3] [1, 2, 4] rfl rfl rfl (by decide) (fun r_16 w H locs hw hP hD hS => ?_)
        obtain ⟨br_16, er_16, rfl⟩ := hw
        have hP : va_P V.1 vwCl [(Yw 2, aI V n fYw2), (wa, aI V n fwa), (wb, aI V n f_3), (Yw 0, .inr (8, o8_iirrriirrrrrrriii pYw0_0 (nI n) (Yw 1) (Yw 2) wa pYw0_5 pYw0_6 (y 19) (Yw 4) (Yw 5) (Yw 6) (Yw 7) (Yw 8) wb pYw0_14 pYw0_15 pYw0_16)), (Yw 6, aI V (n * 4) fYw6)] H := hP
        have hD := cpD hP hD
        refine lv_dup2_11 hx hb dX8_spreadOneNight_52 rfl rfl ?_
        refine va_iald hx hb hK hP 2 0 rfl rfl (iv_in br_16 (by first | decide | omega)) dX8_spreadOneNight_53 ?_
        refine lv_topi (fun x_17 ex_17 => ?_)
        refine lv_aload_n hx hb dX8_spreadOneNight_54 rfl (lv_at hl 1 rfl) ?_
        refine va_get (ci := 8) (v := .ref wa) (C := RX8) (T := TX8) (N := 17) hx hb hg inX8 hown hK hP 3 rfl rfl 4 (by decide) (hg _ q_4_74) (fun _ h9 => h9) rfl dX8_spreadOneNight_55 ?_
        refine lv_iload_n hx hb dX8_spreadOneNight_58 rfl (lv_at hl 0 rfl) ?_
        refine va_iald hx hb hK hP 1 0 rfl rfl (iv_in b_6 (by first | decide | omega)) dX8_spreadOneNight_59 ?_
        refine lv_topi (fun x_18 ex_18 => ?_)
        refine lv_iload_n hx hb dX8_spreadOneNight_60 rfl (lv_at hl 3 rfl) ?_
        refine lv_imul hx hb dX8_spreadOneNight_61 ?_
        refine lv_topi (fun x_19 ex_19 => ?_)
        refine lv_iadd hx hb dX8_spreadOneNight_62 ?_
        refine lv_topi (fun x_20 ex_20 => ?_)
        refine va_iast hx hb hK hP hD hS 2 0 rfl rfl (iv_in br_16 (by first | decide | omega)) dX8_spreadOneNight_63 (fun H locs hP hD hS => ?_)
        obtain ⟨f_21, hP, hD⟩ : ∃ f_21 : Nat → Int32, va_P V.1 vwCl [(Yw 2, aI V n fYw2), (wa, aI V n fwa), (wb, aI V n f_21), (Yw 0, .inr (8, o8_iirrriirrrrrrriii pYw0_0 (nI n) (Yw 1) (Yw 2) wa pYw0_5 pYw0_6 (y 19) (Yw 4) (Yw 5) (Yw 6) (Yw 7) (Yw 8) wb pYw0_14 pYw0_15 pYw0_16)), (Yw 6, aI V (n * 4) fYw6)] H ∧ va_D A [(Yw 2, aI V n fYw2), (wa, aI V n fwa), (wb, aI V n f_21), (Yw 0, .inr (8, o8_iirrriirrrrrrriii pYw0_0 (nI n) (Yw 1) (Yw 2) wa pYw0_5 pYw0_6 (y 19) (Yw 4) (Yw 5) (Yw 6) (Yw 7) (Yw 8) wb pYw0_14 pYw0_15 pYw0_16)), (Yw 6, aI V (n * 4) fYw6)] := ⟨_, hP, hD⟩
        refine lv_iconst (v := 1) hx hb dX8_spreadOneNight_64 (by decide) ?_
        refine lv_istore (lv' := [(4, .int 1), (3, .int u_2), (0, .ref (Yw 0)), (1, .int a1), (2, .int a2)]) hx hb dX8_spreadOneNight_65 hl (by decide) rfl (fun ls hl => ?_)
        refine loopF (X := fun (n_24 : Nat) (H : Heap) (locs : List Loc) (ls : Array Slot) => ∃ (u_22 : Int32) (f_23 : Nat → Int32), (iv 0 2147483647 u_22) ∧ n_24 = (2147483647 - (u_22 : Int32).toInt).toNat ∧ va_P V.1 vwCl [(Yw 2, aI V n fYw2), (wa, aI V n fwa), (wb, aI V n f_23), (Yw 0, .inr (8, o8_iirrriirrrrrrriii pYw0_0 (nI n) (Yw 1) (Yw 2) wa pYw0_5 pYw0_6 (y 19) (Yw 4) (Yw 5) (Yw 6) (Yw 7) (Yw 8) wb pYw0_14 pYw0_15 pYw0_16)), (Yw 6, aI V (n * 4) fYw6)] H ∧ va_D A [(Yw 2, aI V n fYw2), (wa, aI V n fwa), (wb, aI V n f_23), (Yw 0, .inr (8, o8_iirrriirrrrrrriii pYw0_0 (nI n) (Yw 1) (Yw 2) wa pYw0_5 pYw0_6 (y 19) (Yw 4) (Yw 5) (Yw 6) (Yw 7) (Yw 8) wb pYw0_14 pYw0_15 pYw0_16)), (Yw 6, aI V (n * 4) fYw6)] ∧ va_S A s.heap H locs ∧ lv_has ls 5 [(4, .int u_22), (3, .int u_2), (0, .ref (Yw 0)), (1, .int a1), (2, .int a2)]) (g := fun ls => F0 m 67 ls []) (fun n_24 H locs ls hX ihn_24 => ?_) _ ⟨1, f_21, (iv_c (1 : Int32) (by decide)), rfl, hP, hD, hS, lv_sub hl [0, 1, 2, 3, 4] rfl⟩
        obtain ⟨u_22, f_23, bu_22, en_24, hP, hD, hS, hl⟩ := hX
        refine lv_iload hx hb dX8_spreadOneNight_67 (lv_at hl 0 rfl) ?_
        refine lv_aload_n hx hb dX8_spreadOneNight_69 rfl (lv_at hl 2 rfl) ?_
        refine va_get (ci := 8) (v := .int pYw0_6) (C := RX8) (T := TX8) (N := 17) hx hb hg inX8 hown hK hP 3 rfl rfl 6 (by decide) (hg _ q_4_80) (fun _ h9 => h9) rfl dX8_spreadOneNight_70 ?_
        refine lv_icmp_ge (tgt := 103) hx hb dX8_spreadOneNight_73 (by decide) (fun c_25 => ?_) (fun c_25 => ?_)
        · obtain ⟨x_26, ex_26⟩ : ∃ z9 : Int32, z9 = u_2 + 1 := ⟨_, rfl⟩
          have bx_26 : iv 1 ((n : Int)) x_26 := by rw [ex_26]; exact iv_add b_6 (iv_c (1 : Int32) (a := 1) (b := 1) (by first | decide | omega)) (by first | decide | omega)
          refine lv_iinc (v := x_26) (lv' := [(3, .int x_26), (4, .int u_22), (0, .ref (Yw 0)), (1, .int a1), (2, .int a2)]) hx hb dX8_spreadOneNight_103 hl (k := 1) rfl (by rw [ex_26]; rfl) (by decide) rfl (fun ls hl => ?_)
          refine lv_goto (tgt := 15) hx hb dX8_spreadOneNight_106 (by decide) ?_
          have hP := subP (ws' := [(Yw 0, .inr (8, o8_iirrriirrrrrrriii pYw0_0 (nI n) (Yw 1) (Yw 2) wa pYw0_5 pYw0_6 (y 19) (Yw 4) (Yw 5) (Yw 6) (Yw 7) (Yw 8) wb pYw0_14 pYw0_15 pYw0_16)), (Yw 2, aI V n fYw2), (wa, aI V n fwa), (Yw 6, aI V (n * 4) fYw6), (wb, aI V n f_23)]) hP [3, 0, 1, 4, 2] rfl
          have hD := subD hP hD [3, 0, 1, 4, 2] rfl rfl
          exact ihn_4 _ _ _ _ (by rw [en_4, ex_26]; exact mu_up b_6 (by first | decide | omega)) ⟨x_26, f_23, (iv_w bx_26 (by first | decide | omega)), rfl, hP, hD, hS, lv_sub hl [0, 2, 3, 4] rfl⟩
        · have b_27 : iv 0 3 u_22 := iv_l1 (Int32.not_le.mp c_25) bu_22 bpYw0_6 (by first | decide | omega)
          have b_28 : iv 1 4 pYw0_6 := iv_l2 (Int32.not_le.mp c_25) bu_22 bpYw0_6 (by first | decide | omega)
          refine lv_aload_n hx hb dX8_spreadOneNight_76 rfl (lv_at hl 2 rfl) ?_
          refine va_get (ci := 8) (v := .ref wb) (C := RX8) (T := TX8) (N := 17) hx hb hg inX8 hown hK hP 3 rfl rfl 13 (by decide) (hg _ q_4_87) (fun _ h9 => h9) rfl dX8_spreadOneNight_77 ?_
          refine lv_aload_n hx hb dX8_spreadOneNight_80 rfl (lv_at hl 2 rfl) ?_
          refine lv_iload_n hx hb dX8_spreadOneNight_81 rfl (lv_at hl 1 rfl) ?_
          refine lv_iload hx hb dX8_spreadOneNight_82 (lv_at hl 0 rfl) ?_
          refine jnI (wr := [(Yw 2, aI V n fYw2), (wa, aI V n fwa), (wb, aI V n f_23)]) (rnV (rest := [.ref wb]) ⟨hx, hb, hml, hown, hg⟩ (k_X8_behind_0 l V n Yw y u_2 u_22 pYw0_0 wa pYw0_5 pYw0_6 wb pYw0_14 pYw0_15 pYw0_16 fYw6 hn b_6 b_27 bpYw0_0 bpYw0_5 (iv_w b_28 (by first | decide | omega)) bpYw0_14 bpYw0_15 (iv_w b_7 (by first | decide | omega)) tfYw6) mt_X8_behind q_4_182 ⟨Nat.le_of_ble_eq_true rfl, Nat.le_of_ble_eq_true rfl⟩ hK hP hD hS hA hE [3, 4] rfl rfl 3 rfl rfl rfl rfl hl.1 rfl (Nat.le_of_ble_eq_true rfl) dX8_spreadOneNight_84 ⟨Nat.le_of_ble_eq_true rfl, Nat.le_of_ble_eq_true rfl⟩) hP hD hS hA [3, 4] [0, 1, 2] rfl rfl rfl (by decide) (fun r_29 w H locs hw hP hD hS => ?_)
          obtain ⟨br_29, er_29, rfl⟩ := hw
          have hP : va_P V.1 vwCl [(Yw 2, aI V n fYw2), (wa, aI V n fwa), (wb, aI V n f_23), (Yw 0, .inr (8, o8_iirrriirrrrrrriii pYw0_0 (nI n) (Yw 1) (Yw 2) wa pYw0_5 pYw0_6 (y 19) (Yw 4) (Yw 5) (Yw 6) (Yw 7) (Yw 8) wb pYw0_14 pYw0_15 pYw0_16)), (Yw 6, aI V (n * 4) fYw6)] H := hP
          have hD := cpD hP hD
          refine lv_dup2_11 hx hb dX8_spreadOneNight_87 rfl rfl ?_
          refine va_iald hx hb hK hP 2 0 rfl rfl (iv_in br_29 (by first | decide | omega)) dX8_spreadOneNight_88 ?_
          refine lv_topi (fun x_30 ex_30 => ?_)
          refine lv_aload_n hx hb dX8_spreadOneNight_89 rfl (lv_at hl 2 rfl) ?_
          refine va_get (ci := 8) (v := .ref wa) (C := RX8) (T := TX8) (N := 17) hx hb hg inX8 hown hK hP 3 rfl rfl 4 (by decide) (hg _ q_4_74) (fun _ h9 => h9) rfl dX8_spreadOneNight_90 ?_
          refine lv_iload_n hx hb dX8_spreadOneNight_93 rfl (lv_at hl 1 rfl) ?_
          refine va_iald hx hb hK hP 1 0 rfl rfl (iv_in b_6 (by first | decide | omega)) dX8_spreadOneNight_94 ?_
          refine lv_topi (fun x_31 ex_31 => ?_)
          refine lv_iadd hx hb dX8_spreadOneNight_95 ?_
          refine lv_topi (fun x_32 ex_32 => ?_)
          refine va_iast hx hb hK hP hD hS 2 0 rfl rfl (iv_in br_29 (by first | decide | omega)) dX8_spreadOneNight_96 (fun H locs hP hD hS => ?_)
          obtain ⟨f_33, hP, hD⟩ : ∃ f_33 : Nat → Int32, va_P V.1 vwCl [(Yw 2, aI V n fYw2), (wa, aI V n fwa), (wb, aI V n f_33), (Yw 0, .inr (8, o8_iirrriirrrrrrriii pYw0_0 (nI n) (Yw 1) (Yw 2) wa pYw0_5 pYw0_6 (y 19) (Yw 4) (Yw 5) (Yw 6) (Yw 7) (Yw 8) wb pYw0_14 pYw0_15 pYw0_16)), (Yw 6, aI V (n * 4) fYw6)] H ∧ va_D A [(Yw 2, aI V n fYw2), (wa, aI V n fwa), (wb, aI V n f_33), (Yw 0, .inr (8, o8_iirrriirrrrrrriii pYw0_0 (nI n) (Yw 1) (Yw 2) wa pYw0_5 pYw0_6 (y 19) (Yw 4) (Yw 5) (Yw 6) (Yw 7) (Yw 8) wb pYw0_14 pYw0_15 pYw0_16)), (Yw 6, aI V (n * 4) fYw6)] := ⟨_, hP, hD⟩
          obtain ⟨x_34, ex_34⟩ : ∃ z9 : Int32, z9 = u_22 + 1 := ⟨_, rfl⟩
          have bx_34 : iv 1 4 x_34 := by rw [ex_34]; exact iv_add b_27 (iv_c (1 : Int32) (a := 1) (b := 1) (by first | decide | omega)) (by first | decide | omega)
          refine lv_iinc (v := x_34) (lv' := [(4, .int x_34), (3, .int u_2), (0, .ref (Yw 0)), (1, .int a1), (2, .int a2)]) hx hb dX8_spreadOneNight_97 hl (k := 0) rfl (by rw [ex_34]; rfl) (by decide) rfl (fun ls hl => ?_)
          refine lv_goto (tgt := 67) hx hb dX8_spreadOneNight_100 (by decide) ?_
          exact ihn_24 _ _ _ _ (by rw [en_24, ex_34]; exact mu_up b_27 (by first | decide | omega)) ⟨x_34, f_33, (iv_w bx_34 (by first | decide | omega)), rfl, hP, hD, hS, lv_sub hl [0, 1, 2, 3, 4] rfl⟩
theorem dX8_spread_0 : decode cX8_spread 0 = .ok (.aload_n 0, 1) := by decide +kernel
theorem q_4_171 : Cond.code yX8_beginSpread prog_10_method_13_code 1 none ∈ gw := gw_4 (i := 171) (rfl) rfl
theorem q_4_170 : Cond.instanceMethod yX8_beginSpread ∈ gw := gw_4 (i := 170) (by decide +kernel) rfl
theorem q_s_35 : Cond.selects "BeaconDelay$Ways" yX8_beginSpread yX8_beginSpread ∈ gw := gw_s (i := 35) (by decide +kernel) rfl
theorem mt_X8_beginSpread : MtV yX8_beginSpread cX8_beginSpread 1 none 0 := ⟨⟨q_4_171, q_1_18, by decide +kernel, by decide +kernel, by decide +kernel⟩, q_4_170, q_s_35⟩
theorem q_4_168 : Cond.methodLink "BeaconDelay$Ways" 97 yX8_beginSpread ∈ gw := gw_4 (i := 168) (by decide +kernel) rfl
theorem dX8_spread_1 : decode cX8_spread 1 = .ok (.invokevirtual 97, 3) := by decide +kernel
theorem dX8_spread_4 : decode cX8_spread 4 = .ok (.iconst 0, 1) := by decide +kernel
theorem dX8_spread_5 : decode cX8_spread 5 = .ok (.istore_n 3, 1) := by decide +kernel
theorem dX8_spread_6 : decode cX8_spread 6 = .ok (.iload_n 3, 1) := by decide +kernel
theorem dX8_spread_7 : decode cX8_spread 7 = .ok (.iload_n 1, 1) := by decide +kernel
theorem dX8_spread_8 : decode cX8_spread 8 = .ok (.if_icmp .ge 15, 3) := by decide +kernel
theorem dX8_spread_23 : decode cX8_spread 23 = .ok (.return_, 1) := by decide +kernel
theorem dX8_spread_11 : decode cX8_spread 11 = .ok (.aload_n 0, 1) := by decide +kernel
theorem dX8_spread_12 : decode cX8_spread 12 = .ok (.iload_n 3, 1) := by decide +kernel
theorem dX8_spread_13 : decode cX8_spread 13 = .ok (.iload_n 2, 1) := by decide +kernel
theorem q_4_181 : Cond.code yX8_spreadOneNight prog_10_method_14_code 5 none ∈ gw := gw_4 (i := 181) (rfl) rfl
theorem q_4_180 : Cond.instanceMethod yX8_spreadOneNight ∈ gw := gw_4 (i := 180) (by decide +kernel) rfl
theorem q_s_36 : Cond.selects "BeaconDelay$Ways" yX8_spreadOneNight yX8_spreadOneNight ∈ gw := gw_s (i := 36) (by decide +kernel) rfl
theorem mt_X8_spreadOneNight : MtV yX8_spreadOneNight cX8_spreadOneNight 5 none 2 := ⟨⟨q_4_181, q_1_18, by decide +kernel, by decide +kernel, by decide +kernel⟩, q_4_180, q_s_36⟩
theorem q_4_178 : Cond.methodLink "BeaconDelay$Ways" 100 yX8_spreadOneNight ∈ gw := gw_4 (i := 178) (by decide +kernel) rfl
theorem dX8_spread_14 : decode cX8_spread 14 = .ok (.invokevirtual 100, 3) := by decide +kernel
theorem dX8_spread_17 : decode cX8_spread 17 = .ok (.iinc 3 1, 3) := by decide +kernel
theorem dX8_spread_20 : decode cX8_spread 20 = .ok (.goto (-14), 3) := by decide +kernel
set_option maxHeartbeats 4000000 in
set_option maxRecDepth 100000 in
theorem k_X8_spread_0 (l : Launch) (V : GV) (n : Nat) (Yw : Nat → Nat) (y : Nat → Nat) (a1 : Int32) (a2 : Int32) (pYw0_0 : Int32) (wa : Nat) (pYw0_5 : Int32) (pYw0_6 : Int32) (wb : Nat) (pYw0_14 : Int32) (pYw0_15 : Int32) (pYw0_16 : Int32) (fYw2 : Nat → Int32) (fwa : Nat → Int32) (fYw6 : Nat → Int32) (fwb : Nat → Int32) (hn : 1 ≤ n ∧ n ≤ 3646) (bpYw0_0 : iv 0 4 pYw0_0) (bpYw0_5 : iv 0 ((n : Int)) pYw0_5) (bpYw0_6 : iv 0 4 pYw0_6) (bpYw0_14 : iv 0 4 pYw0_14) (bpYw0_15 : iv 0 9 pYw0_15) (bpYw0_16 : iv 0 ((n : Int)) pYw0_16) (tfYw6 : ∀ j, iv 0 ((n : Int) - 1) (fYw6 j)) : Ct l V yX8_spread (.code yX8_spread cX8_spread 4 none) 4 [.ref (Yw 0), .int a1, .int a2] [(Yw 0, .inr (8, o8_iirrriirrrrrrriii pYw0_0 (nI n) (Yw 1) (Yw 2) wa pYw0_5 pYw0_6 (y 19) (Yw 4) (Yw 5) (Yw 6) (Yw 7) (Yw 8) wb pYw0_14 pYw0_15 pYw0_16)), (Yw 2, aI V n fYw2), (wa, aI V n fwa), (Yw 6, aI V (n * 4) fYw6), (wb, aI V n fwb)] 0 0 (QV V (fun (w : va_W) => ∃ (wa2 : Nat) (wb2 : Nat) (g2 : Nat → Int32) (g3 : Nat → Int32), w = [(Yw 0, .inr (8, o8_iirrriirrrrrrriii pYw0_0 (nI n) (Yw 1) (Yw 2) wa2 pYw0_5 pYw0_6 (y 19) (Yw 4) (Yw 5) (Yw 6) (Yw 7) (Yw 8) wb2 pYw0_14 pYw0_15 pYw0_16)), (Yw 2, aI V n fYw2), (wa2, aI V n g2), (Yw 6, aI V (n * 4) fYw6), (wb2, aI V n g3)])) := by
  refine Ct.of (by decide) (Nat.le_of_ble_eq_true rfl) (fun p e s m below meth c A ls hx hb hr hml hown hlk hnm hg hP hK hD hE hA hS hl => ?_)
  have hl : lv_has ls 4 [(0, .ref (Yw 0)), (1, .int a1), (2, .int a2)] := hl
  refine lv_aload_n hx hb dX8_spread_0 rfl (lv_at hl 0 rfl) ?_
  refine jnV (wr := [(Yw 2, aI V n fYw2), (Yw 6, aI V (n * 4) fYw6), (wb, aI V n fwb)]) (rnV (rest := []) ⟨hx, hb, hml, hown, hg⟩ (k_X8_beginSpread_0 l V n Yw y pYw0_0 wa pYw0_5 pYw0_6 wb pYw0_14 pYw0_15 pYw0_16 fwa hn bpYw0_0 bpYw0_5 bpYw0_6 bpYw0_14 bpYw0_15 bpYw0_16) mt_X8_beginSpread q_4_168 ⟨Nat.le_of_ble_eq_true rfl, Nat.le_of_ble_eq_true rfl⟩ hK hP hD hS hA hE [0, 2] rfl rfl 0 rfl rfl rfl rfl hl.1 rfl (Nat.le_of_ble_eq_true rfl) dX8_spread_1 ⟨Nat.le_of_ble_eq_true rfl, Nat.le_of_ble_eq_true rfl⟩) hP hD hS hA [0, 2] [1, 3, 4] rfl rfl rfl (by decide) (fun  w H locs hw hP hD hS => ?_)
  obtain ⟨f_1, rfl⟩ := hw
  have hP : va_P V.1 vwCl [(Yw 2, aI V n fYw2), (Yw 6, aI V (n * 4) fYw6), (wb, aI V n fwb), (Yw 0, .inr (8, o8_iirrriirrrrrrriii pYw0_0 (nI n) (Yw 1) (Yw 2) wa pYw0_5 pYw0_6 (y 19) (Yw 4) (Yw 5) (Yw 6) (Yw 7) (Yw 8) wb pYw0_14 pYw0_15 pYw0_16)), (wa, aI V n f_1)] H := hP
  have hD := cpD hP hD
  refine lv_iconst (v := 0) hx hb dX8_spread_4 (by decide) ?_
  refine lv_istore_n (lv' := [(3, .int 0), (0, .ref (Yw 0)), (1, .int a1), (2, .int a2)]) hx hb dX8_spread_5 rfl hl (by decide) rfl (fun ls hl => ?_)
  refine loopF (X := fun (n_7 : Nat) (H : Heap) (locs : List Loc) (ls : Array Slot) => ∃ (u_2 : Int32) (f_3 : Nat → Int32) (wa_4 : Nat) (wb_5 : Nat) (f_6 : Nat → Int32), (iv 0 2147483647 u_2) ∧ n_7 = (2147483647 - (u_2 : Int32).toInt).toNat ∧ va_P V.1 vwCl [(Yw 2, aI V n fYw2), (Yw 6, aI V (n * 4) fYw6), (wb_5, aI V n f_3), (Yw 0, .inr (8, o8_iirrriirrrrrrriii pYw0_0 (nI n) (Yw 1) (Yw 2) wa_4 pYw0_5 pYw0_6 (y 19) (Yw 4) (Yw 5) (Yw 6) (Yw 7) (Yw 8) wb_5 pYw0_14 pYw0_15 pYw0_16)), (wa_4, aI V n f_6)] H ∧ va_D A [(Yw 2, aI V n fYw2), (Yw 6, aI V (n * 4) fYw6), (wb_5, aI V n f_3), (Yw 0, .inr (8, o8_iirrriirrrrrrriii pYw0_0 (nI n) (Yw 1) (Yw 2) wa_4 pYw0_5 pYw0_6 (y 19) (Yw 4) (Yw 5) (Yw 6) (Yw 7) (Yw 8) wb_5 pYw0_14 pYw0_15 pYw0_16)), (wa_4, aI V n f_6)] ∧ va_S A s.heap H locs ∧ lv_has ls 4 [(3, .int u_2), (0, .ref (Yw 0)), (1, .int a1), (2, .int a2)]) (g := fun ls => F0 m 6 ls []) (fun n_7 H locs ls hX ihn_7 => ?_) _ ⟨0, fwb, wa, wb, f_1, (iv_c (0 : Int32) (by decide)), rfl, hP, hD, hS, lv_sub hl [0, 1, 2, 3] rfl⟩
  obtain ⟨u_2, f_3, wa_4, wb_5, f_6, bu_2, en_7, hP, hD, hS, hl⟩ := hX
  refine lv_iload_n hx hb dX8_spread_6 rfl (lv_at hl 0 rfl) ?_
  refine lv_iload_n hx hb dX8_spread_7 rfl (lv_at hl 2 rfl) ?_
  refine lv_icmp_ge (tgt := 23) hx hb dX8_spread_8 (by decide) (fun c_8 => ?_) (fun c_8 => ?_)
  · have hP := subP (ws' := [(Yw 0, .inr (8, o8_iirrriirrrrrrriii pYw0_0 (nI n) (Yw 1) (Yw 2) wa_4 pYw0_5 pYw0_6 (y 19) (Yw 4) (Yw 5) (Yw 6) (Yw 7) (Yw 8) wb_5 pYw0_14 pYw0_15 pYw0_16)), (Yw 2, aI V n fYw2), (wa_4, aI V n f_6), (Yw 6, aI V (n * 4) fYw6), (wb_5, aI V n f_3)]) hP [3, 0, 4, 1, 2] rfl
    have hD := subD hP hD [3, 0, 4, 1, 2] rfl rfl
    exact fiV hx hb hr hlk hK hP hD hS dX8_spread_23 (Nat.le_of_ble_eq_true rfl) (Nat.le_of_ble_eq_true rfl) (⟨wa_4, wb_5, f_6, f_3, rfl⟩)
  · have b_9 : iv 0 2147483646 u_2 := iv_l1 (Int32.not_le.mp c_8) bu_2 (iv_top a1) (by first | decide | omega)
    have b_10 : iv 1 2147483647 a1 := iv_l2 (Int32.not_le.mp c_8) bu_2 (iv_top a1) (by first | decide | omega)
    refine lv_aload_n hx hb dX8_spread_11 rfl (lv_at hl 1 rfl) ?_
    refine lv_iload_n hx hb dX8_spread_12 rfl (lv_at hl 0 rfl) ?_
    refine lv_iload_n hx hb dX8_spread_13 rfl (lv_at hl 3 rfl) ?_
    refine jnV (wr := []) (rnV (rest := []) ⟨hx, hb, hml, hown, hg⟩ (k_X8_spreadOneNight_0 l V n Yw y u_2 a2 pYw0_0 wa_4 pYw0_5 pYw0_6 wb_5 pYw0_14 pYw0_15 pYw0_16 fYw2 f_6 fYw6 f_3 hn bpYw0_0 bpYw0_5 bpYw0_6 bpYw0_14 bpYw0_15 bpYw0_16 tfYw6) mt_X8_spreadOneNight q_4_178 ⟨Nat.le_of_ble_eq_true rfl, Nat.le_of_ble_eq_true rfl⟩ hK hP hD hS hA hE [3, 0, 4, 1, 2] rfl rfl 3 rfl rfl rfl rfl hl.1 rfl (Nat.le_of_ble_eq_true rfl) dX8_spread_14 ⟨Nat.le_of_ble_eq_true rfl, Nat.le_of_ble_eq_true rfl⟩) hP hD hS hA [3, 0, 4, 1, 2] [] rfl rfl rfl (by decide) (fun  w H locs hw hP hD hS => ?_)
    obtain ⟨wa_11, wb_12, f_13, f_14, rfl⟩ := hw
    have hP : va_P V.1 vwCl [(Yw 0, .inr (8, o8_iirrriirrrrrrriii pYw0_0 (nI n) (Yw 1) (Yw 2) wa_11 pYw0_5 pYw0_6 (y 19) (Yw 4) (Yw 5) (Yw 6) (Yw 7) (Yw 8) wb_12 pYw0_14 pYw0_15 pYw0_16)), (Yw 2, aI V n fYw2), (wa_11, aI V n f_13), (Yw 6, aI V (n * 4) fYw6), (wb_12, aI V n f_14)] H := hP
    have hD := cpD hP hD
    obtain ⟨x_15, ex_15⟩ : ∃ z9 : Int32, z9 = u_2 + 1 := ⟨_, rfl⟩
    have bx_15 : iv 1 2147483647 x_15 := by rw [ex_15]; exact iv_add b_9 (iv_c (1 : Int32) (a := 1) (b := 1) (by first | decide | omega)) (by first | decide | omega)
    refine lv_iinc (v := x_15) (lv' := [(3, .int x_15), (0, .ref (Yw 0)), (1, .int a1), (2, .int a2)]) hx hb dX8_spread_17 hl (k := 0) rfl (by rw [ex_15]; rfl) (by decide) rfl (fun ls hl => ?_)
    refine lv_goto (tgt := 6) hx hb dX8_spread_20 (by decide) ?_
    have hP := subP (ws' := [(Yw 2, aI V n fYw2), (Yw 6, aI V (n * 4) fYw6), (wb_12, aI V n f_14), (Yw 0, .inr (8, o8_iirrriirrrrrrriii pYw0_0 (nI n) (Yw 1) (Yw 2) wa_11 pYw0_5 pYw0_6 (y 19) (Yw 4) (Yw 5) (Yw 6) (Yw 7) (Yw 8) wb_12 pYw0_14 pYw0_15 pYw0_16)), (wa_11, aI V n f_13)]) hP [1, 3, 4, 0, 2] rfl
    have hD := subD hP hD [1, 3, 4, 0, 2] rfl rfl
    exact ihn_7 _ _ _ _ (by rw [en_7, ex_15]; exact mu_up b_9 (by first | decide | omega)) ⟨x_15, f_14, wa_11, wb_12, f_13, (iv_w bx_15 (by first | decide | omega)), rfl, hP, hD, hS, lv_sub hl [0, 1, 2, 3] rfl⟩
