theorem dX8_spreadByLots_0 : decode cX8_spreadByLots 0 = .ok (.aload_n 0, 1) := by decide +kernel
theorem dX8_spreadByLots_1 : decode cX8_spreadByLots 1 = .ok (.iload_n 1, 1) := by decide +kernel
theorem dX8_spreadByLots_2 : decode cX8_spreadByLots 2 = .ok (.bipush 11, 2) := by decide +kernel
theorem dX8_spreadByLots_4 : decode cX8_spreadByLots 4 = .ok (.aload_n 0, 1) := by decide +kernel
theorem dX8_spreadByLots_5 : decode cX8_spreadByLots 5 = .ok (.getfield 77, 3) := by decide +kernel
theorem dX8_spreadByLots_8 : decode cX8_spreadByLots 8 = .ok (.isub, 1) := by decide +kernel
theorem q_4_167 : Cond.code yX8_spread prog_10_method_10_code 4 none ∈ gw := gw_4 (i := 167) (rfl) rfl
theorem q_4_165 : Cond.instanceMethod yX8_spread ∈ gw := gw_4 (i := 165) (by decide +kernel) rfl
theorem q_4_166 : Cond.selects "BeaconDelay$Ways" yX8_spread yX8_spread ∈ gw := gw_4 (i := 166) (by decide +kernel) rfl
theorem mt_X8_spread : MtV yX8_spread cX8_spread 4 none 2 := ⟨⟨q_4_167, q_1_18, by decide +kernel, by decide +kernel, by decide +kernel⟩, q_4_165, q_4_166⟩
theorem q_5_162 : Cond.methodLink "BeaconDelay$Ways" 104 yX8_spread ∈ gw := gw_5 (i := 162) (by decide +kernel) rfl
theorem dX8_spreadByLots_9 : decode cX8_spreadByLots 9 = .ok (.invokevirtual 104, 3) := by decide +kernel
theorem dX8_spreadByLots_12 : decode cX8_spreadByLots 12 = .ok (.return_, 1) := by decide +kernel
set_option maxHeartbeats 4000000 in
set_option maxRecDepth 100000 in
theorem k_X8_spreadByLots_0 (l : Launch) (V : GV) (n : Nat) (Yw : Nat → Nat) (y : Nat → Nat) (a1 : Int32) (pYw0_0 : Int32) (wa : Nat) (pYw0_5 : Int32) (pYw0_6 : Int32) (wb : Nat) (pYw0_14 : Int32) (pYw0_15 : Int32) (pYw0_16 : Int32) (fYw2 : Nat → Int32) (fwa : Nat → Int32) (fYw6 : Nat → Int32) (fwb : Nat → Int32) (hn : 1 ≤ n ∧ n ≤ 3646) (bpYw0_0 : iv 0 4 pYw0_0) (bpYw0_5 : iv 0 ((n : Int)) pYw0_5) (bpYw0_6 : iv 0 4 pYw0_6) (bpYw0_14 : iv 0 4 pYw0_14) (bpYw0_15 : iv 0 9 pYw0_15) (bpYw0_16 : iv 0 ((n : Int)) pYw0_16) (tfYw6 : ∀ j, iv 0 ((n : Int) - 1) (fYw6 j)) : Ct l V yX8_spreadByLots (.code yX8_spreadByLots cX8_spreadByLots 2 none) 5 [.ref (Yw 0), .int a1] [(Yw 0, .inr (8, o8_iirrriirrrrrrriii pYw0_0 (nI n) (Yw 1) (Yw 2) wa pYw0_5 pYw0_6 (y 19) (Yw 4) (Yw 5) (Yw 6) (Yw 7) (Yw 8) wb pYw0_14 pYw0_15 pYw0_16)), (Yw 2, aI V n fYw2), (wa, aI V n fwa), (Yw 6, aI V (n * 4) fYw6), (wb, aI V n fwb)] 0 0 (QV V (fun (w : va_W) => ∃ (wa2 : Nat) (wb2 : Nat) (g2 : Nat → Int32) (g3 : Nat → Int32), w = [(Yw 0, .inr (8, o8_iirrriirrrrrrriii pYw0_0 (nI n) (Yw 1) (Yw 2) wa2 pYw0_5 pYw0_6 (y 19) (Yw 4) (Yw 5) (Yw 6) (Yw 7) (Yw 8) wb2 pYw0_14 pYw0_15 pYw0_16)), (Yw 2, aI V n fYw2), (wa2, aI V n g2), (Yw 6, aI V (n * 4) fYw6), (wb2, aI V n g3)])) := by
  refine Ct.of (by decide) (Nat.le_of_ble_eq_true rfl) (fun p e s m below meth c A ls hx hb hr hml hown hlk hnm hg hP hK hD hE hA hS hl => ?_)
  have hl : lv_has ls 2 [(0, .ref (Yw 0)), (1, .int a1)] := hl
  refine lv_aload_n hx hb dX8_spreadByLots_0 rfl (lv_at hl 0 rfl) ?_
  refine lv_iload_n hx hb dX8_spreadByLots_1 rfl (lv_at hl 1 rfl) ?_
  refine lv_bipush (v := 11) hx hb dX8_spreadByLots_2 (by decide) ?_
  refine lv_aload_n hx hb dX8_spreadByLots_4 rfl (lv_at hl 0 rfl) ?_
  refine va_get (ci := 8) (v := .int pYw0_6) (C := RX8) (T := TX8) (N := 17) hx hb hg inX8 hown hK hP 0 rfl rfl 6 (by decide) (hg _ q_4_80) (fun _ h9 => h9) rfl dX8_spreadByLots_5 ?_
  refine lv_isub hx hb dX8_spreadByLots_8 ?_
  refine lv_topi (fun x_1 ex_1 => ?_)
  have bx_1 : iv 7 11 x_1 := by rw [ex_1]; exact iv_sub (iv_c (11 : Int32) (a := 11) (b := 11) (by decide)) bpYw0_6 (by first | decide | omega)
  refine jnV (wr := []) (rnV (rest := []) ⟨hx, hb, hml, hown, hg⟩ (k_X8_spread_0 l V n Yw y a1 x_1 pYw0_0 wa pYw0_5 pYw0_6 wb pYw0_14 pYw0_15 pYw0_16 fYw2 fwa fYw6 fwb hn bpYw0_0 bpYw0_5 bpYw0_6 bpYw0_14 bpYw0_15 bpYw0_16 tfYw6) mt_X8_spread q_5_162 ⟨Nat.le_of_ble_eq_true rfl, Nat.le_of_ble_eq_true rfl⟩ hK hP hD hS hA hE [0, 1, 2, 3, 4] rfl rfl 0 rfl rfl rfl rfl hl.1 rfl (Nat.le_of_ble_eq_true rfl) dX8_spreadByLots_9 ⟨Nat.le_of_ble_eq_true rfl, Nat.le_of_ble_eq_true rfl⟩) hP hD hS hA [0, 1, 2, 3, 4] [] rfl rfl rfl (by decide) (fun  w H locs hw hP hD hS => ?_)
  obtain ⟨wa_2, wb_3, f_4, f_5, rfl⟩ := hw
  have hP : va_P V.1 vwCl [(Yw 0, .inr (8, o8_iirrriirrrrrrriii pYw0_0 (nI n) (Yw 1) (Yw 2) wa_2 pYw0_5 pYw0_6 (y 19) (Yw 4) (Yw 5) (Yw 6) (Yw 7) (Yw 8) wb_3 pYw0_14 pYw0_15 pYw0_16)), (Yw 2, aI V n fYw2), (wa_2, aI V n f_4), (Yw 6, aI V (n * 4) fYw6), (wb_3, aI V n f_5)] H := hP
  have hD := cpD hP hD
  exact fiV hx hb hr hlk hK hP hD hS dX8_spreadByLots_12 (Nat.le_of_ble_eq_true rfl) (Nat.le_of_ble_eq_true rfl) (⟨wa_2, wb_3, f_4, f_5, rfl⟩)
theorem dX8_weightOf_0 : decode cX8_weightOf 0 = .ok (.iconst 0, 1) := by decide +kernel
theorem dX8_weightOf_1 : decode cX8_weightOf 1 = .ok (.istore 4, 2) := by decide +kernel
theorem dX8_weightOf_3 : decode cX8_weightOf 3 = .ok (.iconst 0, 1) := by decide +kernel
theorem dX8_weightOf_4 : decode cX8_weightOf 4 = .ok (.istore 5, 2) := by decide +kernel
theorem dX8_weightOf_6 : decode cX8_weightOf 6 = .ok (.iload 5, 2) := by decide +kernel
theorem dX8_weightOf_8 : decode cX8_weightOf 8 = .ok (.aload_n 0, 1) := by decide +kernel
theorem dX8_weightOf_9 : decode cX8_weightOf 9 = .ok (.getfield 56, 3) := by decide +kernel
theorem dX8_weightOf_12 : decode cX8_weightOf 12 = .ok (.if_icmp .ge 60, 3) := by decide +kernel
theorem dX8_weightOf_72 : decode cX8_weightOf 72 = .ok (.iload 4, 2) := by decide +kernel
theorem dX8_weightOf_74 : decode cX8_weightOf 74 = .ok (.ireturn, 1) := by decide +kernel
theorem dX8_weightOf_15 : decode cX8_weightOf 15 = .ok (.aload_n 0, 1) := by decide +kernel
theorem dX8_weightOf_16 : decode cX8_weightOf 16 = .ok (.getfield 50, 3) := by decide +kernel
theorem dX8_weightOf_19 : decode cX8_weightOf 19 = .ok (.iload 5, 2) := by decide +kernel
theorem dX8_weightOf_21 : decode cX8_weightOf 21 = .ok (.iaload, 1) := by decide +kernel
theorem dX8_weightOf_22 : decode cX8_weightOf 22 = .ok (.ifCond .eq 44, 3) := by decide +kernel
theorem dX8_weightOf_66 : decode cX8_weightOf 66 = .ok (.iinc 5 1, 3) := by decide +kernel
theorem dX8_weightOf_69 : decode cX8_weightOf 69 = .ok (.goto (-63), 3) := by decide +kernel
theorem dX8_weightOf_25 : decode cX8_weightOf 25 = .ok (.aload_n 0, 1) := by decide +kernel
theorem dX8_weightOf_26 : decode cX8_weightOf 26 = .ok (.getfield 29, 3) := by decide +kernel
theorem dX8_weightOf_29 : decode cX8_weightOf 29 = .ok (.iload 5, 2) := by decide +kernel
theorem dX8_weightOf_31 : decode cX8_weightOf 31 = .ok (.iaload, 1) := by decide +kernel
theorem dX8_weightOf_32 : decode cX8_weightOf 32 = .ok (.iload_n 1, 1) := by decide +kernel
theorem dX8_weightOf_33 : decode cX8_weightOf 33 = .ok (.invokestatic 94, 3) := by decide +kernel
theorem dX8_weightOf_36 : decode cX8_weightOf 36 = .ok (.istore 6, 2) := by decide +kernel
theorem dX8_weightOf_38 : decode cX8_weightOf 38 = .ok (.iload 4, 2) := by decide +kernel
theorem dX8_weightOf_40 : decode cX8_weightOf 40 = .ok (.iload 6, 2) := by decide +kernel
theorem dX8_weightOf_42 : decode cX8_weightOf 42 = .ok (.iload_n 2, 1) := by decide +kernel
theorem dX8_weightOf_43 : decode cX8_weightOf 43 = .ok (.if_icmp .lt 19, 3) := by decide +kernel
theorem dX8_weightOf_62 : decode cX8_weightOf 62 = .ok (.iconst 0, 1) := by decide +kernel
theorem dX8_weightOf_63 : decode cX8_weightOf 63 = .ok (.iadd, 1) := by decide +kernel
theorem dX8_weightOf_64 : decode cX8_weightOf 64 = .ok (.istore 4, 2) := by decide +kernel
theorem dX8_weightOf_46 : decode cX8_weightOf 46 = .ok (.iload 6, 2) := by decide +kernel
theorem dX8_weightOf_48 : decode cX8_weightOf 48 = .ok (.iload_n 3, 1) := by decide +kernel
theorem dX8_weightOf_49 : decode cX8_weightOf 49 = .ok (.if_icmp .gt 13, 3) := by decide +kernel
theorem dX8_weightOf_52 : decode cX8_weightOf 52 = .ok (.aload_n 0, 1) := by decide +kernel
theorem dX8_weightOf_53 : decode cX8_weightOf 53 = .ok (.getfield 50, 3) := by decide +kernel
theorem dX8_weightOf_56 : decode cX8_weightOf 56 = .ok (.iload 5, 2) := by decide +kernel
theorem dX8_weightOf_58 : decode cX8_weightOf 58 = .ok (.iaload, 1) := by decide +kernel
theorem dX8_weightOf_59 : decode cX8_weightOf 59 = .ok (.goto 4, 3) := by decide +kernel
set_option maxHeartbeats 4000000 in
set_option maxRecDepth 100000 in
theorem k_X8_weightOf_0 (l : Launch) (V : GV) (n : Nat) (L : Nat) (Yw : Nat → Nat) (y : Nat → Nat) (a1 : Int32) (a2 : Int32) (a3 : Int32) (pYw0_0 : Int32) (wa : Nat) (pYw0_5 : Int32) (pYw0_6 : Int32) (wb : Nat) (pYw0_14 : Int32) (pYw0_15 : Int32) (pYw0_16 : Int32) (fYw1 : Nat → Int32) (fwa : Nat → Int32) (hn : 1 ≤ n ∧ n ≤ 3646) (hL : 1 ≤ L ∧ L ≤ 10000) (ba1 : iv 0 3 a1) (bpYw0_0 : iv 0 4 pYw0_0) (bpYw0_5 : iv 0 ((n : Int)) pYw0_5) (bpYw0_6 : iv 0 4 pYw0_6) (bpYw0_14 : iv 0 4 pYw0_14) (bpYw0_15 : iv 0 9 pYw0_15) (bpYw0_16 : iv 0 ((n : Int)) pYw0_16) (tfYw1 : ∀ j, iv 0 ((L : Int) - 1) (fYw1 j)) : Ct l V yX8_weightOf (.code yX8_weightOf cX8_weightOf 7 (some .int)) 2 [.ref (Yw 0), .int a1, .int a2, .int a3] [(Yw 0, .inr (8, o8_iirrriirrrrrrriii pYw0_0 (nI n) (Yw 1) (Yw 2) wa pYw0_5 pYw0_6 (y 19) (Yw 4) (Yw 5) (Yw 6) (Yw 7) (Yw 8) wb pYw0_14 pYw0_15 pYw0_16)), (Yw 1, aI V n fYw1), (wa, aI V n fwa)] 0 0 (QI V (fun (r : Int32) (w : va_W) => w = [(Yw 0, .inr (8, o8_iirrriirrrrrrriii pYw0_0 (nI n) (Yw 1) (Yw 2) wa pYw0_5 pYw0_6 (y 19) (Yw 4) (Yw 5) (Yw 6) (Yw 7) (Yw 8) wb pYw0_14 pYw0_15 pYw0_16)), (Yw 1, aI V n fYw1), (wa, aI V n fwa)])) := by
  refine Ct.of (by decide) (Nat.le_of_ble_eq_true rfl) (fun p e s m below meth c A ls hx hb hr hml hown hlk hnm hg hP hK hD hE hA hS hl => ?_)
  have hl : lv_has ls 7 [(0, .ref (Yw 0)), (1, .int a1), (2, .int a2), (3, .int a3)] := hl
  refine lv_iconst (v := 0) hx hb dX8_weightOf_0 (by decide) ?_
  refine lv_istore (lv' := [(4, .int 0), (0, .ref (Yw 0)), (1, .int a1), (2, .int a2), (3, .int a3)]) hx hb dX8_weightOf_1 hl (by decide) rfl (fun ls hl => ?_)
  refine lv_iconst (v := 0) hx hb dX8_weightOf_3 (by decide) ?_
  refine lv_istore (lv' := [(5, .int 0), (4, .int 0), (0, .ref (Yw 0)), (1, .int a1), (2, .int a2), (3, .int a3)]) hx hb dX8_weightOf_4 hl (by decide) rfl (fun ls hl => ?_)
  refine loopF (X := fun (n_3 : Nat) (H : Heap) (locs : List Loc) (ls : Array Slot) => ∃ (u_1 : Int32) (u_2 : Int32), (iv 0 2147483647 u_1) ∧ n_3 = (2147483647 - (u_1 : Int32).toInt).toNat ∧ va_P V.1 vwCl [(Yw 0, .inr (8, o8_iirrriirrrrrrriii pYw0_0 (nI n) (Yw 1) (Yw 2) wa pYw0_5 pYw0_6 (y 19) (Yw 4) (Yw 5) (Yw 6) (Yw 7) (Yw 8) wb pYw0_14 pYw0_15 pYw0_16)), (Yw 1, aI V n fYw1), (wa, aI V n fwa)] H ∧ va_D A [(Yw 0, .inr (8, o8_iirrriirrrrrrriii pYw0_0 (nI n) (Yw 1) (Yw 2) wa pYw0_5 pYw0_6 (y 19) (Yw 4) (Yw 5) (Yw 6) (Yw 7) (Yw 8) wb pYw0_14 pYw0_15 pYw0_16)), (Yw 1, aI V n fYw1), (wa, aI V n fwa)] ∧ va_S A s.heap H locs ∧ lv_has ls 7 [(5, .int u_1), (4, .int u_2), (0, .ref (Yw 0)), (1, .int a1), (2, .int a2), (3, .int a3)]) (g := fun ls => F0 m 6 ls []) (fun n_3 H locs ls hX ihn_3 => ?_) _ ⟨0, 0, (iv_c (0 : Int32) (by decide)), rfl, hP, hD, hS, lv_sub hl [0, 1, 2, 3, 4, 5] rfl⟩
  obtain ⟨u_1, u_2, bu_1, en_3, hP, hD, hS, hl⟩ := hX
  refine lv_iload hx hb dX8_weightOf_6 (lv_at hl 0 rfl) ?_
  refine lv_aload_n hx hb dX8_weightOf_8 rfl (lv_at hl 2 rfl) ?_
  refine va_get (ci := 8) (v := .int pYw0_5) (C := RX8) (T := TX8) (N := 17) hx hb hg inX8 hown hK hP 0 rfl rfl 5 (by decide) (hg _ q_4_76) (fun _ h9 => h9) rfl dX8_weightOf_9 ?_
  refine lv_icmp_ge (tgt := 72) hx hb dX8_weightOf_12 (by decide) (fun c_4 => ?_) (fun c_4 => ?_)
  · refine lv_iload hx hb dX8_weightOf_72 (lv_at hl 1 rfl) ?_
    exact fiI hx hb hr hlk hK hP hD hS dX8_weightOf_74 (Nat.le_of_ble_eq_true rfl) (Nat.le_of_ble_eq_true rfl) (rfl)
  · have b_5 : iv 0 ((n : Int) - 1) u_1 := iv_l1 (Int32.not_le.mp c_4) bu_1 bpYw0_5 (by first | decide | omega)
    have b_6 : iv 1 ((n : Int)) pYw0_5 := iv_l2 (Int32.not_le.mp c_4) bu_1 bpYw0_5 (by first | decide | omega)
    refine lv_aload_n hx hb dX8_weightOf_15 rfl (lv_at hl 2 rfl) ?_
    refine va_get (ci := 8) (v := .ref wa) (C := RX8) (T := TX8) (N := 17) hx hb hg inX8 hown hK hP 0 rfl rfl 4 (by decide) (hg _ q_4_74) (fun _ h9 => h9) rfl dX8_weightOf_16 ?_
    refine lv_iload hx hb dX8_weightOf_19 (lv_at hl 0 rfl) ?_
    refine va_iald hx hb hK hP 2 0 rfl rfl (iv_in b_5 (by first | decide | omega)) dX8_weightOf_21 ?_
    refine lv_topi (fun x_7 ex_7 => ?_)
    refine lv_if_eq (tgt := 66) hx hb dX8_weightOf_22 (by decide) (fun c_8 => ?_) (fun c_8 => ?_)
    · have b_9 : iv 0 0 x_7 := iv_q c_8 (iv_c (0 : Int32) (a := 0) (b := 0) (by decide))
      obtain ⟨x_10, ex_10⟩ : ∃ z9 : Int32, z9 = u_1 + 1 := ⟨_, rfl⟩
      have bx_10 : iv 1 ((n : Int)) x_10 := by rw [ex_10]; exact iv_add b_5 (iv_c (1 : Int32) (a := 1) (b := 1) (by first | decide | omega)) (by first | decide | omega)
      refine lv_iinc (v := x_10) (lv' := [(5, .int x_10), (4, .int u_2), (0, .ref (Yw 0)), (1, .int a1), (2, .int a2), (3, .int a3)]) hx hb dX8_weightOf_66 hl (k := 0) rfl (by rw [ex_10]; rfl) (by decide) rfl (fun ls hl => ?_)
      refine lv_goto (tgt := 6) hx hb dX8_weightOf_69 (by decide) ?_
      exact ihn_3 _ _ _ _ (by rw [en_3, ex_10]; exact mu_up b_5 (by first | decide | omega)) ⟨x_10, u_2, (iv_w bx_10 (by first | decide | omega)), rfl, hP, hD, hS, lv_sub hl [0, 1, 2, 3, 4, 5] rfl⟩
    · refine lv_aload_n hx hb dX8_weightOf_25 rfl (lv_at hl 2 rfl) ?_
      refine va_get (ci := 8) (v := .ref (Yw 1)) (C := RX8) (T := TX8) (N := 17) hx hb hg inX8 hown hK hP 0 rfl rfl 2 (by decide) (hg _ q_4_69) (fun _ h9 => h9) rfl dX8_weightOf_26 ?_
      refine lv_iload hx hb dX8_weightOf_29 (lv_at hl 0 rfl) ?_
      refine va_iald hx hb hK hP 1 0 rfl rfl (iv_in b_5 (by first | decide | omega)) dX8_weightOf_31 ?_
      refine lv_topi (fun x_11 ex_11 => ?_)
      have bx_11 : iv 0 ((L : Int) - 1) x_11 := by rw [ex_11]; exact tfYw1 _
      refine lv_iload_n hx hb dX8_weightOf_32 rfl (lv_at hl 3 rfl) ?_
      refine jnI (wr := [(Yw 0, .inr (8, o8_iirrriirrrrrrriii pYw0_0 (nI n) (Yw 1) (Yw 2) wa pYw0_5 pYw0_6 (y 19) (Yw 4) (Yw 5) (Yw 6) (Yw 7) (Yw 8) wb pYw0_14 pYw0_15 pYw0_16)), (Yw 1, aI V n fYw1), (wa, aI V n fwa)]) (rnSN (rest := []) ⟨hx, hb, hml, hown, hg⟩ (k_X9_stackIn_0 l V x_11 a1 (iv_w bx_11 (by first | decide | omega)) (iv_w ba1 (by first | decide | omega))) mt_X9_stackIn (show ("BeaconDelay$Ways", 94, yX9_stackIn) ∈ nM by decide) ⟨Nat.le_of_ble_eq_true rfl, Nat.le_of_ble_eq_true rfl⟩ hK hP hD hS hA hE [] rfl rfl rfl hl.1 rfl (Nat.le_of_ble_eq_true rfl) dX8_weightOf_33 ⟨Nat.le_of_ble_eq_true rfl, Nat.le_of_ble_eq_true rfl⟩) hP hD hS hA [] [0, 1, 2] rfl rfl rfl (by decide) (fun r_12 w H locs hw hP hD hS => ?_)
      obtain ⟨br_12, er_12, et_13, rfl⟩ := hw
      have hP : va_P V.1 vwCl [(Yw 0, .inr (8, o8_iirrriirrrrrrriii pYw0_0 (nI n) (Yw 1) (Yw 2) wa pYw0_5 pYw0_6 (y 19) (Yw 4) (Yw 5) (Yw 6) (Yw 7) (Yw 8) wb pYw0_14 pYw0_15 pYw0_16)), (Yw 1, aI V n fYw1), (wa, aI V n fwa)] H := hP
      have hD := cpD hP hD
      refine lv_istore (lv' := [(6, .int r_12), (5, .int u_1), (4, .int u_2), (0, .ref (Yw 0)), (1, .int a1), (2, .int a2), (3, .int a3)]) hx hb dX8_weightOf_36 hl (by decide) rfl (fun ls hl => ?_)
      refine lv_iload hx hb dX8_weightOf_38 (lv_at hl 2 rfl) ?_
      refine lv_iload hx hb dX8_weightOf_40 (lv_at hl 0 rfl) ?_
      refine lv_iload_n hx hb dX8_weightOf_42 rfl (lv_at hl 5 rfl) ?_
      refine lv_icmp_lt (tgt := 62) hx hb dX8_weightOf_43 (by decide) (fun c_14 => ?_) (fun c_14 => ?_)
      · have b_15 : iv 1 2147483647 a2 := iv_l2 c_14 br_12 (iv_top a2) (by first | decide | omega)
        refine lv_iconst (v := 0) hx hb dX8_weightOf_62 (by decide) ?_
        refine lv_iadd hx hb dX8_weightOf_63 ?_
        refine lv_topi (fun x_16 ex_16 => ?_)
        refine lv_istore (lv' := [(4, .int x_16), (6, .int r_12), (5, .int u_1), (0, .ref (Yw 0)), (1, .int a1), (2, .int a2), (3, .int a3)]) hx hb dX8_weightOf_64 hl (by decide) rfl (fun ls hl => ?_)
        obtain ⟨x_17, ex_17⟩ : ∃ z9 : Int32, z9 = u_1 + 1 := ⟨_, rfl⟩
        have bx_17 : iv 1 ((n : Int)) x_17 := by rw [ex_17]; exact iv_add b_5 (iv_c (1 : Int32) (a := 1) (b := 1) (by first | decide | omega)) (by first | decide | omega)
        refine lv_iinc (v := x_17) (lv' := [(5, .int x_17), (4, .int x_16), (6, .int r_12), (0, .ref (Yw 0)), (1, .int a1), (2, .int a2), (3, .int a3)]) hx hb dX8_weightOf_66 hl (k := 2) rfl (by rw [ex_17]; rfl) (by decide) rfl (fun ls hl => ?_)
        refine lv_goto (tgt := 6) hx hb dX8_weightOf_69 (by decide) ?_
        exact ihn_3 _ _ _ _ (by rw [en_3, ex_17]; exact mu_up b_5 (by first | decide | omega)) ⟨x_17, x_16, (iv_w bx_17 (by first | decide | omega)), rfl, hP, hD, hS, lv_sub hl [0, 1, 3, 4, 5, 6] rfl⟩
      · have b_18 : iv (-2147483648) 4 a2 := iv_e1 (Int32.not_lt.mp c_14) (iv_top a2) br_12 (by first | decide | omega)
        refine lv_iload hx hb dX8_weightOf_46 (lv_at hl 0 rfl) ?_
        refine lv_iload_n hx hb dX8_weightOf_48 rfl (lv_at hl 6 rfl) ?_
        refine lv_icmp_gt (tgt := 62) hx hb dX8_weightOf_49 (by decide) (fun c_19 => ?_) (fun c_19 => ?_)
        · have b_20 : iv (-2147483648) 3 a3 := iv_l1 c_19 (iv_top a3) br_12 (by first | decide | omega)
          refine lv_iconst (v := 0) hx hb dX8_weightOf_62 (by decide) ?_
          refine lv_iadd hx hb dX8_weightOf_63 ?_
          refine lv_topi (fun x_21 ex_21 => ?_)
          refine lv_istore (lv' := [(4, .int x_21), (6, .int r_12), (5, .int u_1), (0, .ref (Yw 0)), (1, .int a1), (2, .int a2), (3, .int a3)]) hx hb dX8_weightOf_64 hl (by decide) rfl (fun ls hl => ?_)
          obtain ⟨x_22, ex_22⟩ : ∃ z9 : Int32, z9 = u_1 + 1 := ⟨_, rfl⟩
          have bx_22 : iv 1 ((n : Int)) x_22 := by rw [ex_22]; exact iv_add b_5 (iv_c (1 : Int32) (a := 1) (b := 1) (by first | decide | omega)) (by first | decide | omega)
          refine lv_iinc (v := x_22) (lv' := [(5, .int x_22), (4, .int x_21), (6, .int r_12), (0, .ref (Yw 0)), (1, .int a1), (2, .int a2), (3, .int a3)]) hx hb dX8_weightOf_66 hl (k := 2) rfl (by rw [ex_22]; rfl) (by decide) rfl (fun ls hl => ?_)
          refine lv_goto (tgt := 6) hx hb dX8_weightOf_69 (by decide) ?_
          exact ihn_3 _ _ _ _ (by rw [en_3, ex_22]; exact mu_up b_5 (by first | decide | omega)) ⟨x_22, x_21, (iv_w bx_22 (by first | decide | omega)), rfl, hP, hD, hS, lv_sub hl [0, 1, 3, 4, 5, 6] rfl⟩
        · have b_23 : iv 0 2147483647 a3 := iv_e2 (Int32.not_lt.mp c_19) br_12 (iv_top a3) (by first | decide | omega)
          refine lv_aload_n hx hb dX8_weightOf_52 rfl (lv_at hl 3 rfl) ?_
          refine va_get (ci := 8) (v := .ref wa) (C := RX8) (T := TX8) (N := 17) hx hb hg inX8 hown hK hP 0 rfl rfl 4 (by decide) (hg _ q_4_74) (fun _ h9 => h9) rfl dX8_weightOf_53 ?_
          refine lv_iload hx hb dX8_weightOf_56 (lv_at hl 1 rfl) ?_
          refine va_iald hx hb hK hP 2 0 rfl rfl (iv_in b_5 (by first | decide | omega)) dX8_weightOf_58 ?_
          refine lv_topi (fun x_24 ex_24 => ?_)
          refine lv_goto (tgt := 63) hx hb dX8_weightOf_59 (by decide) ?_
          refine lv_iadd hx hb dX8_weightOf_63 ?_
          refine lv_topi (fun x_25 ex_25 => ?_)
          refine lv_istore (lv' := [(4, .int x_25), (6, .int r_12), (5, .int u_1), (0, .ref (Yw 0)), (1, .int a1), (2, .int a2), (3, .int a3)]) hx hb dX8_weightOf_64 hl (by decide) rfl (fun ls hl => ?_)
          obtain ⟨x_26, ex_26⟩ : ∃ z9 : Int32, z9 = u_1 + 1 := ⟨_, rfl⟩
          have bx_26 : iv 1 ((n : Int)) x_26 := by rw [ex_26]; exact iv_add b_5 (iv_c (1 : Int32) (a := 1) (b := 1) (by first | decide | omega)) (by first | decide | omega)
          refine lv_iinc (v := x_26) (lv' := [(5, .int x_26), (4, .int x_25), (6, .int r_12), (0, .ref (Yw 0)), (1, .int a1), (2, .int a2), (3, .int a3)]) hx hb dX8_weightOf_66 hl (k := 2) rfl (by rw [ex_26]; rfl) (by decide) rfl (fun ls hl => ?_)
          refine lv_goto (tgt := 6) hx hb dX8_weightOf_69 (by decide) ?_
          exact ihn_3 _ _ _ _ (by rw [en_3, ex_26]; exact mu_up b_5 (by first | decide | omega)) ⟨x_26, x_25, (iv_w bx_26 (by first | decide | omega)), rfl, hP, hD, hS, lv_sub hl [0, 1, 3, 4, 5, 6] rfl⟩
theorem dX8_isAsTold_0 : decode cX8_isAsTold 0 = .ok (.lload_n 3, 1) := by decide +kernel
theorem q_5_34 : Cond.constantLong "BeaconDelay$Ways" 127 (-1 : Int64) ∈ gw := gw_5 (i := 34) (by decide +kernel) rfl
theorem dX8_isAsTold_1 : decode cX8_isAsTold 1 = .ok (.ldc2_w 127, 3) := by decide +kernel
theorem dX8_isAsTold_4 : decode cX8_isAsTold 4 = .ok (.lcmp, 1) := by decide +kernel
theorem dX8_isAsTold_5 : decode cX8_isAsTold 5 = .ok (.ifCond .eq 19, 3) := by decide +kernel
theorem dX8_isAsTold_24 : decode cX8_isAsTold 24 = .ok (.iconst 1, 1) := by decide +kernel
theorem dX8_isAsTold_25 : decode cX8_isAsTold 25 = .ok (.goto 4, 3) := by decide +kernel
theorem dX8_isAsTold_29 : decode cX8_isAsTold 29 = .ok (.ireturn, 1) := by decide +kernel
theorem dX8_isAsTold_8 : decode cX8_isAsTold 8 = .ok (.aload_n 0, 1) := by decide +kernel
theorem dX8_isAsTold_9 : decode cX8_isAsTold 9 = .ok (.getfield 29, 3) := by decide +kernel
theorem dX8_isAsTold_12 : decode cX8_isAsTold 12 = .ok (.iload_n 1, 1) := by decide +kernel
theorem dX8_isAsTold_13 : decode cX8_isAsTold 13 = .ok (.iaload, 1) := by decide +kernel
theorem dX8_isAsTold_14 : decode cX8_isAsTold 14 = .ok (.iload_n 2, 1) := by decide +kernel
theorem dX8_isAsTold_15 : decode cX8_isAsTold 15 = .ok (.invokestatic 94, 3) := by decide +kernel
theorem dX8_isAsTold_18 : decode cX8_isAsTold 18 = .ok (.i2l, 1) := by decide +kernel
theorem dX8_isAsTold_19 : decode cX8_isAsTold 19 = .ok (.lload_n 3, 1) := by decide +kernel
theorem dX8_isAsTold_20 : decode cX8_isAsTold 20 = .ok (.lcmp, 1) := by decide +kernel
theorem dX8_isAsTold_21 : decode cX8_isAsTold 21 = .ok (.ifCond .ne 7, 3) := by decide +kernel
theorem dX8_isAsTold_28 : decode cX8_isAsTold 28 = .ok (.iconst 0, 1) := by decide +kernel
set_option maxHeartbeats 4000000 in
set_option maxRecDepth 100000 in
theorem k_X8_isAsTold_0 (l : Launch) (V : GV) (n : Nat) (L : Nat) (Yw : Nat → Nat) (y : Nat → Nat) (a1 : Int32) (a2 : Int32) (k3 : Int64) (pYw0_0 : Int32) (wa : Nat) (pYw0_5 : Int32) (pYw0_6 : Int32) (wb : Nat) (pYw0_14 : Int32) (pYw0_15 : Int32) (pYw0_16 : Int32) (fYw1 : Nat → Int32) (hn : 1 ≤ n ∧ n ≤ 3646) (hL : 1 ≤ L ∧ L ≤ 10000) (ba1 : iv 0 ((n : Int) - 1) a1) (ba2 : iv 0 3 a2) (bpYw0_0 : iv 0 4 pYw0_0) (bpYw0_5 : iv 0 ((n : Int)) pYw0_5) (bpYw0_6 : iv 0 4 pYw0_6) (bpYw0_14 : iv 0 4 pYw0_14) (bpYw0_15 : iv 0 9 pYw0_15) (bpYw0_16 : iv 0 ((n : Int)) pYw0_16) (tfYw1 : ∀ j, iv 0 ((L : Int) - 1) (fYw1 j)) : Ct l V yX8_isAsTold (.code yX8_isAsTold cX8_isAsTold 5 (some .boolean)) 2 [.ref (Yw 0), .int a1, .int a2, .long k3] [(Yw 0, .inr (8, o8_iirrriirrrrrrriii pYw0_0 (nI n) (Yw 1) (Yw 2) wa pYw0_5 pYw0_6 (y 19) (Yw 4) (Yw 5) (Yw 6) (Yw 7) (Yw 8) wb pYw0_14 pYw0_15 pYw0_16)), (Yw 1, aI V n fYw1)] 0 0 (QI V (fun (r : Int32) (w : va_W) => iv 0 1 r ∧ w = [(Yw 0, .inr (8, o8_iirrriirrrrrrriii pYw0_0 (nI n) (Yw 1) (Yw 2) wa pYw0_5 pYw0_6 (y 19) (Yw 4) (Yw 5) (Yw 6) (Yw 7) (Yw 8) wb pYw0_14 pYw0_15 pYw0_16)), (Yw 1, aI V n fYw1)])) := by
  refine Ct.of (by decide) (Nat.le_of_ble_eq_true rfl) (fun p e s m below meth c A ls hx hb hr hml hown hlk hnm hg hP hK hD hE hA hS hl => ?_)
  have hl : lv_has ls 5 [(0, .ref (Yw 0)), (1, .int a1), (2, .int a2), (3, .long k3)] := hl
  refine lv_lload_n hx hb dX8_isAsTold_0 rfl (lv_at hl 3 rfl) ?_
  refine lv_ldc2 (v := (-1)) hx hb hown (hg _ q_5_34) dX8_isAsTold_1 ?_
  refine W.lcmp hx hb dX8_isAsTold_4 ?_
  refine lv_if_eq (tgt := 24) hx hb dX8_isAsTold_5 (by decide) (fun _ => ?_) (fun _ => ?_)
  · refine lv_iconst (v := 1) hx hb dX8_isAsTold_24 (by decide) ?_
    refine lv_goto (tgt := 29) hx hb dX8_isAsTold_25 (by decide) ?_
    exact fiZ rfl hx hb hr hlk hK hP hD hS dX8_isAsTold_29 (Nat.le_of_ble_eq_true rfl) (Nat.le_of_ble_eq_true rfl) (⟨(iv_c (1 : Int32) (by decide)), rfl⟩)
  · refine lv_aload_n hx hb dX8_isAsTold_8 rfl (lv_at hl 0 rfl) ?_
    refine va_get (ci := 8) (v := .ref (Yw 1)) (C := RX8) (T := TX8) (N := 17) hx hb hg inX8 hown hK hP 0 rfl rfl 2 (by decide) (hg _ q_4_69) (fun _ h9 => h9) rfl dX8_isAsTold_9 ?_
    refine lv_iload_n hx hb dX8_isAsTold_12 rfl (lv_at hl 1 rfl) ?_
    refine va_iald hx hb hK hP 1 0 rfl rfl (iv_in ba1 (by first | decide | omega)) dX8_isAsTold_13 ?_
    refine lv_topi (fun x_2 ex_2 => ?_)
    have bx_2 : iv 0 ((L : Int) - 1) x_2 := by rw [ex_2]; exact tfYw1 _
    refine lv_iload_n hx hb dX8_isAsTold_14 rfl (lv_at hl 2 rfl) ?_
    refine jnI (wr := [(Yw 0, .inr (8, o8_iirrriirrrrrrriii pYw0_0 (nI n) (Yw 1) (Yw 2) wa pYw0_5 pYw0_6 (y 19) (Yw 4) (Yw 5) (Yw 6) (Yw 7) (Yw 8) wb pYw0_14 pYw0_15 pYw0_16)), (Yw 1, aI V n fYw1)]) (rnSN (rest := []) ⟨hx, hb, hml, hown, hg⟩ (k_X9_stackIn_0 l V x_2 a2 (iv_w bx_2 (by first | decide | omega)) (iv_w ba2 (by first | decide | omega))) mt_X9_stackIn (show ("BeaconDelay$Ways", 94, yX9_stackIn) ∈ nM by decide) ⟨Nat.le_of_ble_eq_true rfl, Nat.le_of_ble_eq_true rfl⟩ hK hP hD hS hA hE [] rfl rfl rfl hl.1 rfl (Nat.le_of_ble_eq_true rfl) dX8_isAsTold_15 ⟨Nat.le_of_ble_eq_true rfl, Nat.le_of_ble_eq_true rfl⟩) hP hD hS hA [] [0, 1] rfl rfl rfl (by decide) (fun r_3 w H locs hw hP hD hS => ?_)
    obtain ⟨br_3, er_3, et_4, rfl⟩ := hw
    have hP : va_P V.1 vwCl [(Yw 0, .inr (8, o8_iirrriirrrrrrriii pYw0_0 (nI n) (Yw 1) (Yw 2) wa pYw0_5 pYw0_6 (y 19) (Yw 4) (Yw 5) (Yw 6) (Yw 7) (Yw 8) wb pYw0_14 pYw0_15 pYw0_16)), (Yw 1, aI V n fYw1)] H := hP
    have hD := cpD hP hD
    refine lv_i2l hx hb dX8_isAsTold_18 rfl ?_
    refine lv_topl (fun j_5 ej_5 => ?_)
    refine lv_lload_n hx hb dX8_isAsTold_19 rfl (lv_at hl 3 rfl) ?_
    refine W.lcmp hx hb dX8_isAsTold_20 ?_
    refine lv_if_ne (tgt := 28) hx hb dX8_isAsTold_21 (by decide) (fun _ => ?_) (fun _ => ?_)
    · refine lv_iconst (v := 0) hx hb dX8_isAsTold_28 (by decide) ?_
      exact fiZ rfl hx hb hr hlk hK hP hD hS dX8_isAsTold_29 (Nat.le_of_ble_eq_true rfl) (Nat.le_of_ble_eq_true rfl) (⟨(iv_c (0 : Int32) (by decide)), rfl⟩)
    · refine lv_iconst (v := 1) hx hb dX8_isAsTold_24 (by decide) ?_
      refine lv_goto (tgt := 29) hx hb dX8_isAsTold_25 (by decide) ?_
      exact fiZ rfl hx hb hr hlk hK hP hD hS dX8_isAsTold_29 (Nat.le_of_ble_eq_true rfl) (Nat.le_of_ble_eq_true rfl) (⟨(iv_c (1 : Int32) (by decide)), rfl⟩)
theorem dX8_spreadAsTold_0 : decode cX8_spreadAsTold 0 = .ok (.aload_n 0, 1) := by decide +kernel
theorem dX8_spreadAsTold_1 : decode cX8_spreadAsTold 1 = .ok (.invokevirtual 97, 3) := by decide +kernel
theorem dX8_spreadAsTold_4 : decode cX8_spreadAsTold 4 = .ok (.iconst 0, 1) := by decide +kernel
theorem dX8_spreadAsTold_5 : decode cX8_spreadAsTold 5 = .ok (.istore_n 3, 1) := by decide +kernel
theorem dX8_spreadAsTold_6 : decode cX8_spreadAsTold 6 = .ok (.iload_n 3, 1) := by decide +kernel
theorem dX8_spreadAsTold_7 : decode cX8_spreadAsTold 7 = .ok (.aload_n 1, 1) := by decide +kernel
theorem q_2_1 : Cond.fieldLink "BeaconDelay$Ways" 107 "BeaconDelay$Tray" "count" "I" ∈ gw := gw_2 (i := 1) (by decide +kernel) rfl
theorem dX8_spreadAsTold_8 : decode cX8_spreadAsTold 8 = .ok (.getfield 107, 3) := by decide +kernel
theorem dX8_spreadAsTold_11 : decode cX8_spreadAsTold 11 = .ok (.if_icmp .ge 57, 3) := by decide +kernel
theorem dX8_spreadAsTold_68 : decode cX8_spreadAsTold 68 = .ok (.return_, 1) := by decide +kernel
theorem dX8_spreadAsTold_14 : decode cX8_spreadAsTold 14 = .ok (.aload_n 0, 1) := by decide +kernel
theorem dX8_spreadAsTold_15 : decode cX8_spreadAsTold 15 = .ok (.iload_n 3, 1) := by decide +kernel
theorem dX8_spreadAsTold_16 : decode cX8_spreadAsTold 16 = .ok (.iconst 1, 1) := by decide +kernel
theorem dX8_spreadAsTold_17 : decode cX8_spreadAsTold 17 = .ok (.invokevirtual 100, 3) := by decide +kernel
theorem dX8_spreadAsTold_20 : decode cX8_spreadAsTold 20 = .ok (.iconst 0, 1) := by decide +kernel
theorem dX8_spreadAsTold_21 : decode cX8_spreadAsTold 21 = .ok (.istore 4, 2) := by decide +kernel
theorem dX8_spreadAsTold_23 : decode cX8_spreadAsTold 23 = .ok (.iload 4, 2) := by decide +kernel
theorem dX8_spreadAsTold_25 : decode cX8_spreadAsTold 25 = .ok (.aload_n 0, 1) := by decide +kernel
theorem dX8_spreadAsTold_26 : decode cX8_spreadAsTold 26 = .ok (.getfield 56, 3) := by decide +kernel
theorem dX8_spreadAsTold_29 : decode cX8_spreadAsTold 29 = .ok (.if_icmp .ge 33, 3) := by decide +kernel
theorem dX8_spreadAsTold_62 : decode cX8_spreadAsTold 62 = .ok (.iinc 3 1, 3) := by decide +kernel
theorem dX8_spreadAsTold_65 : decode cX8_spreadAsTold 65 = .ok (.goto (-59), 3) := by decide +kernel
theorem dX8_spreadAsTold_32 : decode cX8_spreadAsTold 32 = .ok (.aload_n 0, 1) := by decide +kernel
theorem dX8_spreadAsTold_33 : decode cX8_spreadAsTold 33 = .ok (.iload 4, 2) := by decide +kernel
theorem dX8_spreadAsTold_35 : decode cX8_spreadAsTold 35 = .ok (.iload_n 2, 1) := by decide +kernel
theorem dX8_spreadAsTold_36 : decode cX8_spreadAsTold 36 = .ok (.aload_n 1, 1) := by decide +kernel
theorem q_1_238 : Cond.fieldLink "BeaconDelay$Ways" 110 "BeaconDelay$Tray" "numbers" "[J" ∈ gw := gw_1 (i := 238) (by decide +kernel) rfl
theorem dX8_spreadAsTold_37 : decode cX8_spreadAsTold 37 = .ok (.getfield 110, 3) := by decide +kernel
theorem dX8_spreadAsTold_40 : decode cX8_spreadAsTold 40 = .ok (.iload_n 3, 1) := by decide +kernel
theorem dX8_spreadAsTold_41 : decode cX8_spreadAsTold 41 = .ok (.laload, 1) := by decide +kernel
theorem q_5_33 : Cond.code yX8_isAsTold prog_10_method_16_code 5 (some FieldType.boolean) ∈ gw := gw_5 (i := 33) (rfl) rfl
theorem q_5_32 : Cond.instanceMethod yX8_isAsTold ∈ gw := gw_5 (i := 32) (by decide +kernel) rfl
theorem q_s_43 : Cond.selects "BeaconDelay$Ways" yX8_isAsTold yX8_isAsTold ∈ gw := gw_s (i := 43) (by decide +kernel) rfl
theorem mt_X8_isAsTold : MtV yX8_isAsTold cX8_isAsTold 5 (some .boolean) 3 := ⟨⟨q_5_33, q_1_18, by decide +kernel, by decide +kernel, by decide +kernel⟩, q_5_32, q_s_43⟩
theorem q_5_30 : Cond.methodLink "BeaconDelay$Ways" 114 yX8_isAsTold ∈ gw := gw_5 (i := 30) (by decide +kernel) rfl
theorem dX8_spreadAsTold_42 : decode cX8_spreadAsTold 42 = .ok (.invokevirtual 114, 3) := by decide +kernel
theorem dX8_spreadAsTold_45 : decode cX8_spreadAsTold 45 = .ok (.ifCond .ne 11, 3) := by decide +kernel
theorem dX8_spreadAsTold_56 : decode cX8_spreadAsTold 56 = .ok (.iinc 4 1, 3) := by decide +kernel
theorem dX8_spreadAsTold_59 : decode cX8_spreadAsTold 59 = .ok (.goto (-36), 3) := by decide +kernel
theorem dX8_spreadAsTold_48 : decode cX8_spreadAsTold 48 = .ok (.aload_n 0, 1) := by decide +kernel
theorem dX8_spreadAsTold_49 : decode cX8_spreadAsTold 49 = .ok (.getfield 50, 3) := by decide +kernel
theorem dX8_spreadAsTold_52 : decode cX8_spreadAsTold 52 = .ok (.iload 4, 2) := by decide +kernel
theorem dX8_spreadAsTold_54 : decode cX8_spreadAsTold 54 = .ok (.iconst 0, 1) := by decide +kernel
theorem dX8_spreadAsTold_55 : decode cX8_spreadAsTold 55 = .ok (.iastore, 1) := by decide +kernel
set_option maxHeartbeats 4000000 in
set_option maxRecDepth 100000 in
theorem k_X8_spreadAsTold_0 (l : Launch) (V : GV) (n : Nat) (L : Nat) (Yw : Nat → Nat) (y : Nat → Nat) (a2 : Int32) (py33_1 : Int32) (py33_2 : Int32) (fy34 : Nat → Int64) (pYw0_0 : Int32) (wa : Nat) (pYw0_5 : Int32) (pYw0_6 : Int32) (wb : Nat) (pYw0_14 : Int32) (pYw0_15 : Int32) (pYw0_16 : Int32) (fYw1 : Nat → Int32) (fYw2 : Nat → Int32) (fwa : Nat → Int32) (fYw6 : Nat → Int32) (fwb : Nat → Int32) (hn : 1 ≤ n ∧ n ≤ 3646) (hL : 1 ≤ L ∧ L ≤ 10000) (ba2 : iv 0 3 a2) (bpy33_1 : iv (-1) 40 py33_1) (bpYw0_0 : iv 0 4 pYw0_0) (bpYw0_5 : iv 0 ((n : Int)) pYw0_5) (bpYw0_6 : iv 0 4 pYw0_6) (bpYw0_14 : iv 0 4 pYw0_14) (bpYw0_15 : iv 0 9 pYw0_15) (bpYw0_16 : iv 0 ((n : Int)) pYw0_16) (tfYw1 : ∀ j, iv 0 ((L : Int) - 1) (fYw1 j)) (tfYw6 : ∀ j, iv 0 ((n : Int) - 1) (fYw6 j)) : Ct l V yX8_spreadAsTold (.code yX8_spreadAsTold cX8_spreadAsTold 5 none) 4 [.ref (Yw 0), .ref (y 33), .int a2] [(y 33, .inr (7, o7_rii (y 34) py33_1 py33_2)), (y 34, aJ V 40 fy34), (Yw 0, .inr (8, o8_iirrriirrrrrrriii pYw0_0 (nI n) (Yw 1) (Yw 2) wa pYw0_5 pYw0_6 (y 19) (Yw 4) (Yw 5) (Yw 6) (Yw 7) (Yw 8) wb pYw0_14 pYw0_15 pYw0_16)), (Yw 1, aI V n fYw1), (Yw 2, aI V n fYw2), (wa, aI V n fwa), (Yw 6, aI V (n * 4) fYw6), (wb, aI V n fwb)] 0 0 (QV V (fun (w : va_W) => ∃ (wa2 : Nat) (wb2 : Nat) (g2 : Nat → Int32) (g3 : Nat → Int32), w = [(y 33, .inr (7, o7_rii (y 34) py33_1 py33_2)), (y 34, aJ V 40 fy34), (Yw 0, .inr (8, o8_iirrriirrrrrrriii pYw0_0 (nI n) (Yw 1) (Yw 2) wa2 pYw0_5 pYw0_6 (y 19) (Yw 4) (Yw 5) (Yw 6) (Yw 7) (Yw 8) wb2 pYw0_14 pYw0_15 pYw0_16)), (Yw 1, aI V n fYw1), (Yw 2, aI V n fYw2), (wa2, aI V n g2), (Yw 6, aI V (n * 4) fYw6), (wb2, aI V n g3)])) := by
  refine Ct.of (by decide) (Nat.le_of_ble_eq_true rfl) (fun p e s m below meth c A ls hx hb hr hml hown hlk hnm hg hP hK hD hE hA hS hl => ?_)
  have hl : lv_has ls 5 [(0, .ref (Yw 0)), (1, .ref (y 33)), (2, .int a2)] := hl
  refine lv_aload_n hx hb dX8_spreadAsTold_0 rfl (lv_at hl 0 rfl) ?_
  refine jnV (wr := [(y 33, .inr (7, o7_rii (y 34) py33_1 py33_2)), (y 34, aJ V 40 fy34), (Yw 1, aI V n fYw1), (Yw 2, aI V n fYw2), (Yw 6, aI V (n * 4) fYw6), (wb, aI V n fwb)]) (rnV (rest := []) ⟨hx, hb, hml, hown, hg⟩ (k_X8_beginSpread_0 l V n Yw y pYw0_0 wa pYw0_5 pYw0_6 wb pYw0_14 pYw0_15 pYw0_16 fwa hn bpYw0_0 bpYw0_5 bpYw0_6 bpYw0_14 bpYw0_15 bpYw0_16) mt_X8_beginSpread q_4_168 ⟨Nat.le_of_ble_eq_true rfl, Nat.le_of_ble_eq_true rfl⟩ hK hP hD hS hA hE [2, 5] rfl rfl 2 rfl rfl rfl rfl hl.1 rfl (Nat.le_of_ble_eq_true rfl) dX8_spreadAsTold_1 ⟨Nat.le_of_ble_eq_true rfl, Nat.le_of_ble_eq_true rfl⟩) hP hD hS hA [2, 5] [0, 1, 3, 4, 6, 7] rfl rfl rfl (by decide) (fun  w H locs hw hP hD hS => ?_)
  obtain ⟨f_1, rfl⟩ := hw
  have hP : va_P V.1 vwCl [(y 33, .inr (7, o7_rii (y 34) py33_1 py33_2)), (y 34, aJ V 40 fy34), (Yw 1, aI V n fYw1), (Yw 2, aI V n fYw2), (Yw 6, aI V (n * 4) fYw6), (wb, aI V n fwb), (Yw 0, .inr (8, o8_iirrriirrrrrrriii pYw0_0 (nI n) (Yw 1) (Yw 2) wa pYw0_5 pYw0_6 (y 19) (Yw 4) (Yw 5) (Yw 6) (Yw 7) (Yw 8) wb pYw0_14 pYw0_15 pYw0_16)), (wa, aI V n f_1)] H := hP
  have hD := cpD hP hD
  refine lv_iconst (v := 0) hx hb dX8_spreadAsTold_4 (by decide) ?_
  refine lv_istore_n (lv' := [(3, .int 0), (0, .ref (Yw 0)), (1, .ref (y 33)), (2, .int a2)]) hx hb dX8_spreadAsTold_5 rfl hl (by decide) rfl (fun ls hl => ?_)
  refine loopF (X := fun (n_7 : Nat) (H : Heap) (locs : List Loc) (ls : Array Slot) => ∃ (u_2 : Int32) (f_3 : Nat → Int32) (wa_4 : Nat) (wb_5 : Nat) (f_6 : Nat → Int32), (iv 0 2147483647 u_2) ∧ n_7 = (2147483647 - (u_2 : Int32).toInt).toNat ∧ va_P V.1 vwCl [(y 33, .inr (7, o7_rii (y 34) py33_1 py33_2)), (y 34, aJ V 40 fy34), (Yw 1, aI V n fYw1), (Yw 2, aI V n fYw2), (Yw 6, aI V (n * 4) fYw6), (wb_5, aI V n f_3), (Yw 0, .inr (8, o8_iirrriirrrrrrriii pYw0_0 (nI n) (Yw 1) (Yw 2) wa_4 pYw0_5 pYw0_6 (y 19) (Yw 4) (Yw 5) (Yw 6) (Yw 7) (Yw 8) wb_5 pYw0_14 pYw0_15 pYw0_16)), (wa_4, aI V n f_6)] H ∧ va_D A [(y 33, .inr (7, o7_rii (y 34) py33_1 py33_2)), (y 34, aJ V 40 fy34), (Yw 1, aI V n fYw1), (Yw 2, aI V n fYw2), (Yw 6, aI V (n * 4) fYw6), (wb_5, aI V n f_3), (Yw 0, .inr (8, o8_iirrriirrrrrrriii pYw0_0 (nI n) (Yw 1) (Yw 2) wa_4 pYw0_5 pYw0_6 (y 19) (Yw 4) (Yw 5) (Yw 6) (Yw 7) (Yw 8) wb_5 pYw0_14 pYw0_15 pYw0_16)), (wa_4, aI V n f_6)] ∧ va_S A s.heap H locs ∧ lv_has ls 5 [(3, .int u_2), (0, .ref (Yw 0)), (1, .ref (y 33)), (2, .int a2)]) (g := fun ls => F0 m 6 ls []) (fun n_7 H locs ls hX ihn_7 => ?_) _ ⟨0, fwb, wa, wb, f_1, (iv_c (0 : Int32) (by decide)), rfl, hP, hD, hS, lv_sub hl [0, 1, 2, 3] rfl⟩
  obtain ⟨u_2, f_3, wa_4, wb_5, f_6, bu_2, en_7, hP, hD, hS, hl⟩ := hX
  refine lv_iload_n hx hb dX8_spreadAsTold_6 rfl (lv_at hl 0 rfl) ?_
  refine lv_aload_n hx hb dX8_spreadAsTold_7 rfl (lv_at hl 2 rfl) ?_
  refine va_get (ci := 7) (v := .int py33_1) (C := RX7) (T := TX7) (N := 3) hx hb hg inX7 hown hK hP 0 rfl rfl 1 (by decide) (hg _ q_2_1) (fun _ h9 => h9) rfl dX8_spreadAsTold_8 ?_
  refine lv_icmp_ge (tgt := 68) hx hb dX8_spreadAsTold_11 (by decide) (fun c_8 => ?_) (fun c_8 => ?_)
  · have hP := subP (ws' := [(y 33, .inr (7, o7_rii (y 34) py33_1 py33_2)), (y 34, aJ V 40 fy34), (Yw 0, .inr (8, o8_iirrriirrrrrrriii pYw0_0 (nI n) (Yw 1) (Yw 2) wa_4 pYw0_5 pYw0_6 (y 19) (Yw 4) (Yw 5) (Yw 6) (Yw 7) (Yw 8) wb_5 pYw0_14 pYw0_15 pYw0_16)), (Yw 1, aI V n fYw1), (Yw 2, aI V n fYw2), (wa_4, aI V n f_6), (Yw 6, aI V (n * 4) fYw6), (wb_5, aI V n f_3)]) hP [0, 1, 6, 2, 3, 7, 4, 5] rfl
    have hD := subD hP hD [0, 1, 6, 2, 3, 7, 4, 5] rfl rfl
    exact fiV hx hb hr hlk hK hP hD hS dX8_spreadAsTold_68 (Nat.le_of_ble_eq_true rfl) (Nat.le_of_ble_eq_true rfl) (⟨wa_4, wb_5, f_6, f_3, rfl⟩)
  · have b_9 : iv 0 39 u_2 := iv_l1 (Int32.not_le.mp c_8) bu_2 bpy33_1 (by first | decide | omega)
    have b_10 : iv 1 40 py33_1 := iv_l2 (Int32.not_le.mp c_8) bu_2 bpy33_1 (by first | decide | omega)
    refine lv_aload_n hx hb dX8_spreadAsTold_14 rfl (lv_at hl 1 rfl) ?_
    refine lv_iload_n hx hb dX8_spreadAsTold_15 rfl (lv_at hl 0 rfl) ?_
    refine lv_iconst (v := 1) hx hb dX8_spreadAsTold_16 (by decide) ?_
    refine jnV (wr := [(y 33, .inr (7, o7_rii (y 34) py33_1 py33_2)), (y 34, aJ V 40 fy34), (Yw 1, aI V n fYw1)]) (rnV (rest := []) ⟨hx, hb, hml, hown, hg⟩ (k_X8_spreadOneNight_0 l V n Yw y u_2 1 pYw0_0 wa_4 pYw0_5 pYw0_6 wb_5 pYw0_14 pYw0_15 pYw0_16 fYw2 f_6 fYw6 f_3 hn bpYw0_0 bpYw0_5 bpYw0_6 bpYw0_14 bpYw0_15 bpYw0_16 tfYw6) mt_X8_spreadOneNight q_4_178 ⟨Nat.le_of_ble_eq_true rfl, Nat.le_of_ble_eq_true rfl⟩ hK hP hD hS hA hE [6, 3, 7, 4, 5] rfl rfl 6 rfl rfl rfl rfl hl.1 rfl (Nat.le_of_ble_eq_true rfl) dX8_spreadAsTold_17 ⟨Nat.le_of_ble_eq_true rfl, Nat.le_of_ble_eq_true rfl⟩) hP hD hS hA [6, 3, 7, 4, 5] [0, 1, 2] rfl rfl rfl (by decide) (fun  w H locs hw hP hD hS => ?_)
    obtain ⟨wa_11, wb_12, f_13, f_14, rfl⟩ := hw
    have hP : va_P V.1 vwCl [(y 33, .inr (7, o7_rii (y 34) py33_1 py33_2)), (y 34, aJ V 40 fy34), (Yw 1, aI V n fYw1), (Yw 0, .inr (8, o8_iirrriirrrrrrriii pYw0_0 (nI n) (Yw 1) (Yw 2) wa_11 pYw0_5 pYw0_6 (y 19) (Yw 4) (Yw 5) (Yw 6) (Yw 7) (Yw 8) wb_12 pYw0_14 pYw0_15 pYw0_16)), (Yw 2, aI V n fYw2), (wa_11, aI V n f_13), (Yw 6, aI V (n * 4) fYw6), (wb_12, aI V n f_14)] H := hP
    have hD := cpD hP hD
    refine lv_iconst (v := 0) hx hb dX8_spreadAsTold_20 (by decide) ?_
    refine lv_istore (lv' := [(4, .int 0), (3, .int u_2), (0, .ref (Yw 0)), (1, .ref (y 33)), (2, .int a2)]) hx hb dX8_spreadAsTold_21 hl (by decide) rfl (fun ls hl => ?_)
    refine loopF (X := fun (n_17 : Nat) (H : Heap) (locs : List Loc) (ls : Array Slot) => ∃ (u_15 : Int32) (f_16 : Nat → Int32), (iv 0 2147483647 u_15) ∧ n_17 = (2147483647 - (u_15 : Int32).toInt).toNat ∧ va_P V.1 vwCl [(y 33, .inr (7, o7_rii (y 34) py33_1 py33_2)), (y 34, aJ V 40 fy34), (Yw 1, aI V n fYw1), (Yw 0, .inr (8, o8_iirrriirrrrrrriii pYw0_0 (nI n) (Yw 1) (Yw 2) wa_11 pYw0_5 pYw0_6 (y 19) (Yw 4) (Yw 5) (Yw 6) (Yw 7) (Yw 8) wb_12 pYw0_14 pYw0_15 pYw0_16)), (Yw 2, aI V n fYw2), (wa_11, aI V n f_16), (Yw 6, aI V (n * 4) fYw6), (wb_12, aI V n f_14)] H ∧ va_D A [(y 33, .inr (7, o7_rii (y 34) py33_1 py33_2)), (y 34, aJ V 40 fy34), (Yw 1, aI V n fYw1), (Yw 0, .inr (8, o8_iirrriirrrrrrriii pYw0_0 (nI n) (Yw 1) (Yw 2) wa_11 pYw0_5 pYw0_6 (y 19) (Yw 4) (Yw 5) (Yw 6) (Yw 7) (Yw 8) wb_12 pYw0_14 pYw0_15 pYw0_16)), (Yw 2, aI V n fYw2), (wa_11, aI V n f_16), (Yw 6, aI V (n * 4) fYw6), (wb_12, aI V n f_14)] ∧ va_S A s.heap H locs ∧ lv_has ls 5 [(4, .int u_15), (3, .int u_2), (0, .ref (Yw 0)), (1, .ref (y 33)), (2, .int a2)]) (g := fun ls => F0 m 23 ls []) (fun n_17 H locs ls hX ihn_17 => ?_) _ ⟨0, f_13, (iv_c (0 : Int32) (by decide)), rfl, hP, hD, hS, lv_sub hl [0, 1, 2, 3, 4] rfl⟩
    obtain ⟨u_15, f_16, bu_15, en_17, hP, hD, hS, hl⟩ := hX
    refine lv_iload hx hb dX8_spreadAsTold_23 (lv_at hl 0 rfl) ?_
    refine lv_aload_n hx hb dX8_spreadAsTold_25 rfl (lv_at hl 2 rfl) ?_
    refine va_get (ci := 8) (v := .int pYw0_5) (C := RX8) (T := TX8) (N := 17) hx hb hg inX8 hown hK hP 3 rfl rfl 5 (by decide) (hg _ q_4_76) (fun _ h9 => h9) rfl dX8_spreadAsTold_26 ?_
    refine lv_icmp_ge (tgt := 62) hx hb dX8_spreadAsTold_29 (by decide) (fun c_18 => ?_) (fun c_18 => ?_)
    · obtain ⟨x_19, ex_19⟩ : ∃ z9 : Int32, z9 = u_2 + 1 := ⟨_, rfl⟩
      have bx_19 : iv 1 40 x_19 := by rw [ex_19]; exact iv_add b_9 (iv_c (1 : Int32) (a := 1) (b := 1) (by first | decide | omega)) (by first | decide | omega)
      refine lv_iinc (v := x_19) (lv' := [(3, .int x_19), (4, .int u_15), (0, .ref (Yw 0)), (1, .ref (y 33)), (2, .int a2)]) hx hb dX8_spreadAsTold_62 hl (k := 1) rfl (by rw [ex_19]; rfl) (by decide) rfl (fun ls hl => ?_)
      refine lv_goto (tgt := 6) hx hb dX8_spreadAsTold_65 (by decide) ?_
      have hP := subP (ws' := [(y 33, .inr (7, o7_rii (y 34) py33_1 py33_2)), (y 34, aJ V 40 fy34), (Yw 1, aI V n fYw1), (Yw 2, aI V n fYw2), (Yw 6, aI V (n * 4) fYw6), (wb_12, aI V n f_14), (Yw 0, .inr (8, o8_iirrriirrrrrrriii pYw0_0 (nI n) (Yw 1) (Yw 2) wa_11 pYw0_5 pYw0_6 (y 19) (Yw 4) (Yw 5) (Yw 6) (Yw 7) (Yw 8) wb_12 pYw0_14 pYw0_15 pYw0_16)), (wa_11, aI V n f_16)]) hP [0, 1, 2, 4, 6, 7, 3, 5] rfl
      have hD := subD hP hD [0, 1, 2, 4, 6, 7, 3, 5] rfl rfl
      exact ihn_7 _ _ _ _ (by rw [en_7, ex_19]; exact mu_up b_9 (by first | decide | omega)) ⟨x_19, f_14, wa_11, wb_12, f_16, (iv_w bx_19 (by first | decide | omega)), rfl, hP, hD, hS, lv_sub hl [0, 2, 3, 4] rfl⟩
    · have b_20 : iv 0 ((n : Int) - 1) u_15 := iv_l1 (Int32.not_le.mp c_18) bu_15 bpYw0_5 (by first | decide | omega)
      have b_21 : iv 1 ((n : Int)) pYw0_5 := iv_l2 (Int32.not_le.mp c_18) bu_15 bpYw0_5 (by first | decide | omega)
      refine lv_aload_n hx hb dX8_spreadAsTold_32 rfl (lv_at hl 2 rfl) ?_
      refine lv_iload hx hb dX8_spreadAsTold_33 (lv_at hl 0 rfl) ?_
      refine lv_iload_n hx hb dX8_spreadAsTold_35 rfl (lv_at hl 4 rfl) ?_
      refine lv_aload_n hx hb dX8_spreadAsTold_36 rfl (lv_at hl 3 rfl) ?_
      refine va_get (ci := 7) (v := .ref (y 34)) (C := RX7) (T := TX7) (N := 3) hx hb hg inX7 hown hK hP 0 rfl rfl 0 (by decide) (hg _ q_1_238) (fun _ h9 => h9) rfl dX8_spreadAsTold_37 ?_
      refine lv_iload_n hx hb dX8_spreadAsTold_40 rfl (lv_at hl 1 rfl) ?_
      refine va_lald hx hb hK hP 1 2 rfl rfl (iv_in b_9 (by first | decide | omega)) dX8_spreadAsTold_41 ?_
      refine lv_topl (fun j_22 ej_22 => ?_)
      refine jnI (wr := [(y 33, .inr (7, o7_rii (y 34) py33_1 py33_2)), (y 34, aJ V 40 fy34), (Yw 2, aI V n fYw2), (wa_11, aI V n f_16), (Yw 6, aI V (n * 4) fYw6), (wb_12, aI V n f_14)]) (rnV (rest := []) ⟨hx, hb, hml, hown, hg⟩ (k_X8_isAsTold_0 l V n L Yw y u_15 a2 j_22 pYw0_0 wa_11 pYw0_5 pYw0_6 wb_12 pYw0_14 pYw0_15 pYw0_16 fYw1 hn hL b_20 ba2 bpYw0_0 (iv_w b_21 (by first | decide | omega)) bpYw0_6 bpYw0_14 bpYw0_15 bpYw0_16 tfYw1) mt_X8_isAsTold q_5_30 ⟨Nat.le_of_ble_eq_true rfl, Nat.le_of_ble_eq_true rfl⟩ hK hP hD hS hA hE [3, 2] rfl rfl 3 rfl rfl rfl rfl hl.1 rfl (Nat.le_of_ble_eq_true rfl) dX8_spreadAsTold_42 ⟨Nat.le_of_ble_eq_true rfl, Nat.le_of_ble_eq_true rfl⟩) hP hD hS hA [3, 2] [0, 1, 4, 5, 6, 7] rfl rfl rfl (by decide) (fun r_23 w H locs hw hP hD hS => ?_)
      obtain ⟨br_23, rfl⟩ := hw
      have hP : va_P V.1 vwCl [(y 33, .inr (7, o7_rii (y 34) py33_1 py33_2)), (y 34, aJ V 40 fy34), (Yw 2, aI V n fYw2), (wa_11, aI V n f_16), (Yw 6, aI V (n * 4) fYw6), (wb_12, aI V n f_14), (Yw 0, .inr (8, o8_iirrriirrrrrrriii pYw0_0 (nI n) (Yw 1) (Yw 2) wa_11 pYw0_5 pYw0_6 (y 19) (Yw 4) (Yw 5) (Yw 6) (Yw 7) (Yw 8) wb_12 pYw0_14 pYw0_15 pYw0_16)), (Yw 1, aI V n fYw1)] H := hP
      have hD := cpD hP hD
      refine lv_if_ne (tgt := 56) hx hb dX8_spreadAsTold_45 (by decide) (fun c_24 => ?_) (fun c_24 => ?_)
      · have b_25 : iv 1 1 r_23 := iv_n0 c_24 br_23 (iv_c (0 : Int32) (a := 0) (b := 0) (by decide)) (by first | decide | omega)
        obtain ⟨x_26, ex_26⟩ : ∃ z9 : Int32, z9 = u_15 + 1 := ⟨_, rfl⟩
        have bx_26 : iv 1 ((n : Int)) x_26 := by rw [ex_26]; exact iv_add b_20 (iv_c (1 : Int32) (a := 1) (b := 1) (by first | decide | omega)) (by first | decide | omega)
        refine lv_iinc (v := x_26) (lv' := [(4, .int x_26), (3, .int u_2), (0, .ref (Yw 0)), (1, .ref (y 33)), (2, .int a2)]) hx hb dX8_spreadAsTold_56 hl (k := 0) rfl (by rw [ex_26]; rfl) (by decide) rfl (fun ls hl => ?_)
        refine lv_goto (tgt := 23) hx hb dX8_spreadAsTold_59 (by decide) ?_
        have hP := subP (ws' := [(y 33, .inr (7, o7_rii (y 34) py33_1 py33_2)), (y 34, aJ V 40 fy34), (Yw 1, aI V n fYw1), (Yw 0, .inr (8, o8_iirrriirrrrrrriii pYw0_0 (nI n) (Yw 1) (Yw 2) wa_11 pYw0_5 pYw0_6 (y 19) (Yw 4) (Yw 5) (Yw 6) (Yw 7) (Yw 8) wb_12 pYw0_14 pYw0_15 pYw0_16)), (Yw 2, aI V n fYw2), (wa_11, aI V n f_16), (Yw 6, aI V (n * 4) fYw6), (wb_12, aI V n f_14)]) hP [0, 1, 7, 6, 2, 3, 4, 5] rfl
        have hD := subD hP hD [0, 1, 7, 6, 2, 3, 4, 5] rfl rfl
        exact ihn_17 _ _ _ _ (by rw [en_17, ex_26]; exact mu_up b_20 (by first | decide | omega)) ⟨x_26, f_16, (iv_w bx_26 (by first | decide | omega)), rfl, hP, hD, hS, lv_sub hl [0, 1, 2, 3, 4] rfl⟩
      · have b_27 : iv 0 0 r_23 := iv_q c_24 (iv_c (0 : Int32) (a := 0) (b := 0) (by decide))
        refine lv_aload_n hx hb dX8_spreadAsTold_48 rfl (lv_at hl 2 rfl) ?_
        refine va_get (ci := 8) (v := .ref wa_11) (C := RX8) (T := TX8) (N := 17) hx hb hg inX8 hown hK hP 6 rfl rfl 4 (by decide) (hg _ q_4_74) (fun _ h9 => h9) rfl dX8_spreadAsTold_49 ?_
        refine lv_iload hx hb dX8_spreadAsTold_52 (lv_at hl 0 rfl) ?_
        refine lv_iconst (v := 0) hx hb dX8_spreadAsTold_54 (by decide) ?_
        refine va_iast hx hb hK hP hD hS 3 0 rfl rfl (iv_in b_20 (by first | decide | omega)) dX8_spreadAsTold_55 (fun H locs hP hD hS => ?_)
        obtain ⟨f_28, hP, hD⟩ : ∃ f_28 : Nat → Int32, va_P V.1 vwCl [(y 33, .inr (7, o7_rii (y 34) py33_1 py33_2)), (y 34, aJ V 40 fy34), (Yw 2, aI V n fYw2), (wa_11, aI V n f_28), (Yw 6, aI V (n * 4) fYw6), (wb_12, aI V n f_14), (Yw 0, .inr (8, o8_iirrriirrrrrrriii pYw0_0 (nI n) (Yw 1) (Yw 2) wa_11 pYw0_5 pYw0_6 (y 19) (Yw 4) (Yw 5) (Yw 6) (Yw 7) (Yw 8) wb_12 pYw0_14 pYw0_15 pYw0_16)), (Yw 1, aI V n fYw1)] H ∧ va_D A [(y 33, .inr (7, o7_rii (y 34) py33_1 py33_2)), (y 34, aJ V 40 fy34), (Yw 2, aI V n fYw2), (wa_11, aI V n f_28), (Yw 6, aI V (n * 4) fYw6), (wb_12, aI V n f_14), (Yw 0, .inr (8, o8_iirrriirrrrrrriii pYw0_0 (nI n) (Yw 1) (Yw 2) wa_11 pYw0_5 pYw0_6 (y 19) (Yw 4) (Yw 5) (Yw 6) (Yw 7) (Yw 8) wb_12 pYw0_14 pYw0_15 pYw0_16)), (Yw 1, aI V n fYw1)] := ⟨_, hP, hD⟩
        obtain ⟨x_29, ex_29⟩ : ∃ z9 : Int32, z9 = u_15 + 1 := ⟨_, rfl⟩
        have bx_29 : iv 1 ((n : Int)) x_29 := by rw [ex_29]; exact iv_add b_20 (iv_c (1 : Int32) (a := 1) (b := 1) (by first | decide | omega)) (by first | decide | omega)
        refine lv_iinc (v := x_29) (lv' := [(4, .int x_29), (3, .int u_2), (0, .ref (Yw 0)), (1, .ref (y 33)), (2, .int a2)]) hx hb dX8_spreadAsTold_56 hl (k := 0) rfl (by rw [ex_29]; rfl) (by decide) rfl (fun ls hl => ?_)
        refine lv_goto (tgt := 23) hx hb dX8_spreadAsTold_59 (by decide) ?_
        have hP := subP (ws' := [(y 33, .inr (7, o7_rii (y 34) py33_1 py33_2)), (y 34, aJ V 40 fy34), (Yw 1, aI V n fYw1), (Yw 0, .inr (8, o8_iirrriirrrrrrriii pYw0_0 (nI n) (Yw 1) (Yw 2) wa_11 pYw0_5 pYw0_6 (y 19) (Yw 4) (Yw 5) (Yw 6) (Yw 7) (Yw 8) wb_12 pYw0_14 pYw0_15 pYw0_16)), (Yw 2, aI V n fYw2), (wa_11, aI V n f_28), (Yw 6, aI V (n * 4) fYw6), (wb_12, aI V n f_14)]) hP [0, 1, 7, 6, 2, 3, 4, 5] rfl
        have hD := subD hP hD [0, 1, 7, 6, 2, 3, 4, 5] rfl rfl
        exact ihn_17 _ _ _ _ (by rw [en_17, ex_29]; exact mu_up b_20 (by first | decide | omega)) ⟨x_29, f_28, (iv_w bx_29 (by first | decide | omega)), rfl, hP, hD, hS, lv_sub hl [0, 1, 2, 3, 4] rfl⟩
theorem dX8_hasBit_0 : decode cX8_hasBit 0 = .ok (.aload_n 0, 1) := by decide +kernel
theorem dX8_hasBit_1 : decode cX8_hasBit 1 = .ok (.getfield 50, 3) := by decide +kernel
theorem dX8_hasBit_4 : decode cX8_hasBit 4 = .ok (.iload_n 1, 1) := by decide +kernel
theorem dX8_hasBit_5 : decode cX8_hasBit 5 = .ok (.iaload, 1) := by decide +kernel
theorem dX8_hasBit_6 : decode cX8_hasBit 6 = .ok (.iload_n 2, 1) := by decide +kernel
theorem dX8_hasBit_7 : decode cX8_hasBit 7 = .ok (.ishr, 1) := by decide +kernel
theorem dX8_hasBit_8 : decode cX8_hasBit 8 = .ok (.iconst 1, 1) := by decide +kernel
theorem dX8_hasBit_9 : decode cX8_hasBit 9 = .ok (.iand, 1) := by decide +kernel
theorem dX8_hasBit_10 : decode cX8_hasBit 10 = .ok (.iconst 1, 1) := by decide +kernel
theorem dX8_hasBit_11 : decode cX8_hasBit 11 = .ok (.if_icmp .ne 7, 3) := by decide +kernel
theorem dX8_hasBit_18 : decode cX8_hasBit 18 = .ok (.iconst 0, 1) := by decide +kernel
theorem dX8_hasBit_19 : decode cX8_hasBit 19 = .ok (.ireturn, 1) := by decide +kernel
theorem dX8_hasBit_14 : decode cX8_hasBit 14 = .ok (.iconst 1, 1) := by decide +kernel
theorem dX8_hasBit_15 : decode cX8_hasBit 15 = .ok (.goto 4, 3) := by decide +kernel
set_option maxHeartbeats 4000000 in
set_option maxRecDepth 100000 in
theorem k_X8_hasBit_0 (l : Launch) (V : GV) (n : Nat) (Yw : Nat → Nat) (y : Nat → Nat) (a1 : Int32) (a2 : Int32) (pYw0_0 : Int32) (wa : Nat) (pYw0_5 : Int32) (pYw0_6 : Int32) (wb : Nat) (pYw0_14 : Int32) (pYw0_15 : Int32) (pYw0_16 : Int32) (fwa : Nat → Int32) (hn : 1 ≤ n ∧ n ≤ 3646) (ba1 : iv 0 ((n : Int) - 1) a1) (bpYw0_0 : iv 0 4 pYw0_0) (bpYw0_5 : iv 0 ((n : Int)) pYw0_5) (bpYw0_6 : iv 0 4 pYw0_6) (bpYw0_14 : iv 0 4 pYw0_14) (bpYw0_15 : iv 0 9 pYw0_15) (bpYw0_16 : iv 0 ((n : Int)) pYw0_16) : Ct l V yX8_hasBit (.code yX8_hasBit cX8_hasBit 3 (some .boolean)) 1 [.ref (Yw 0), .int a1, .int a2] [(Yw 0, .inr (8, o8_iirrriirrrrrrriii pYw0_0 (nI n) (Yw 1) (Yw 2) wa pYw0_5 pYw0_6 (y 19) (Yw 4) (Yw 5) (Yw 6) (Yw 7) (Yw 8) wb pYw0_14 pYw0_15 pYw0_16)), (wa, aI V n fwa)] 0 0 (QI V (fun (r : Int32) (w : va_W) => iv 0 1 r ∧ w = [(Yw 0, .inr (8, o8_iirrriirrrrrrriii pYw0_0 (nI n) (Yw 1) (Yw 2) wa pYw0_5 pYw0_6 (y 19) (Yw 4) (Yw 5) (Yw 6) (Yw 7) (Yw 8) wb pYw0_14 pYw0_15 pYw0_16)), (wa, aI V n fwa)])) := by
  refine Ct.of (by decide) (Nat.le_of_ble_eq_true rfl) (fun p e s m below meth c A ls hx hb hr hml hown hlk hnm hg hP hK hD hE hA hS hl => ?_)
  have hl : lv_has ls 3 [(0, .ref (Yw 0)), (1, .int a1), (2, .int a2)] := hl
  refine lv_aload_n hx hb dX8_hasBit_0 rfl (lv_at hl 0 rfl) ?_
  refine va_get (ci := 8) (v := .ref wa) (C := RX8) (T := TX8) (N := 17) hx hb hg inX8 hown hK hP 0 rfl rfl 4 (by decide) (hg _ q_4_74) (fun _ h9 => h9) rfl dX8_hasBit_1 ?_
  refine lv_iload_n hx hb dX8_hasBit_4 rfl (lv_at hl 1 rfl) ?_
  refine va_iald hx hb hK hP 1 0 rfl rfl (iv_in ba1 (by first | decide | omega)) dX8_hasBit_5 ?_
  refine lv_topi (fun x_1 ex_1 => ?_)
  refine lv_iload_n hx hb dX8_hasBit_6 rfl (lv_at hl 2 rfl) ?_
  refine lv_ishr hx hb dX8_hasBit_7 ?_
  refine lv_topi (fun x_2 ex_2 => ?_)
  refine lv_iconst (v := 1) hx hb dX8_hasBit_8 (by decide) ?_
  refine lv_iand hx hb dX8_hasBit_9 ?_
  refine lv_topi (fun x_3 ex_3 => ?_)
  have bx_3 : iv 0 1 x_3 := by rw [ex_3]; exact iv_and1 _
  refine lv_iconst (v := 1) hx hb dX8_hasBit_10 (by decide) ?_
  refine lv_icmp_ne (tgt := 18) hx hb dX8_hasBit_11 (by decide) (fun c_4 => ?_) (fun c_4 => ?_)
  · have b_5 : iv 0 0 x_3 := iv_n1 c_4 bx_3 (iv_c (1 : Int32) (a := 1) (b := 1) (by decide)) (by first | decide | omega)
    refine lv_iconst (v := 0) hx hb dX8_hasBit_18 (by decide) ?_
    exact fiZ rfl hx hb hr hlk hK hP hD hS dX8_hasBit_19 (Nat.le_of_ble_eq_true rfl) (Nat.le_of_ble_eq_true rfl) (⟨(iv_c (0 : Int32) (by decide)), rfl⟩)
  · have b_6 : iv 1 1 x_3 := iv_q c_4 (iv_c (1 : Int32) (a := 1) (b := 1) (by decide))
    refine lv_iconst (v := 1) hx hb dX8_hasBit_14 (by decide) ?_
    refine lv_goto (tgt := 19) hx hb dX8_hasBit_15 (by decide) ?_
    exact fiZ rfl hx hb hr hlk hK hP hD hS dX8_hasBit_19 (Nat.le_of_ble_eq_true rfl) (Nat.le_of_ble_eq_true rfl) (⟨(iv_c (1 : Int32) (by decide)), rfl⟩)
theorem dX8_firstDeedOn_0 : decode cX8_firstDeedOn 0 = .ok (.iconst 0, 1) := by decide +kernel
theorem dX8_firstDeedOn_1 : decode cX8_firstDeedOn 1 = .ok (.istore_n 3, 1) := by decide +kernel
theorem dX8_firstDeedOn_2 : decode cX8_firstDeedOn 2 = .ok (.iload_n 3, 1) := by decide +kernel
theorem dX8_firstDeedOn_3 : decode cX8_firstDeedOn 3 = .ok (.aload_n 0, 1) := by decide +kernel
theorem dX8_firstDeedOn_4 : decode cX8_firstDeedOn 4 = .ok (.getfield 77, 3) := by decide +kernel
theorem dX8_firstDeedOn_7 : decode cX8_firstDeedOn 7 = .ok (.if_icmp .ge 27, 3) := by decide +kernel
theorem dX8_firstDeedOn_34 : decode cX8_firstDeedOn 34 = .ok (.iconst (-1), 1) := by decide +kernel
theorem dX8_firstDeedOn_35 : decode cX8_firstDeedOn 35 = .ok (.ireturn, 1) := by decide +kernel
theorem dX8_firstDeedOn_10 : decode cX8_firstDeedOn 10 = .ok (.aload_n 0, 1) := by decide +kernel
theorem dX8_firstDeedOn_11 : decode cX8_firstDeedOn 11 = .ok (.aload_n 0, 1) := by decide +kernel
theorem dX8_firstDeedOn_12 : decode cX8_firstDeedOn 12 = .ok (.iload_n 1, 1) := by decide +kernel
theorem dX8_firstDeedOn_13 : decode cX8_firstDeedOn 13 = .ok (.iload_n 3, 1) := by decide +kernel
theorem dX8_firstDeedOn_14 : decode cX8_firstDeedOn 14 = .ok (.invokevirtual 124, 3) := by decide +kernel
theorem dX8_firstDeedOn_17 : decode cX8_firstDeedOn 17 = .ok (.iload_n 2, 1) := by decide +kernel
theorem dX8_firstDeedOn_18 : decode cX8_firstDeedOn 18 = .ok (.iconst 1, 1) := by decide +kernel
theorem dX8_firstDeedOn_19 : decode cX8_firstDeedOn 19 = .ok (.iadd, 1) := by decide +kernel
theorem q_5_46 : Cond.code yX8_hasBit prog_10_method_18_code 3 (some FieldType.boolean) ∈ gw := gw_5 (i := 46) (rfl) rfl
theorem q_5_45 : Cond.instanceMethod yX8_hasBit ∈ gw := gw_5 (i := 45) (by decide +kernel) rfl
theorem q_s_44 : Cond.selects "BeaconDelay$Ways" yX8_hasBit yX8_hasBit ∈ gw := gw_s (i := 44) (by decide +kernel) rfl
theorem mt_X8_hasBit : MtV yX8_hasBit cX8_hasBit 3 (some .boolean) 2 := ⟨⟨q_5_46, q_1_18, by decide +kernel, by decide +kernel, by decide +kernel⟩, q_5_45, q_s_44⟩
theorem q_5_43 : Cond.methodLink "BeaconDelay$Ways" 129 yX8_hasBit ∈ gw := gw_5 (i := 43) (by decide +kernel) rfl
theorem dX8_firstDeedOn_20 : decode cX8_firstDeedOn 20 = .ok (.invokevirtual 129, 3) := by decide +kernel
theorem dX8_firstDeedOn_23 : decode cX8_firstDeedOn 23 = .ok (.ifCond .eq 5, 3) := by decide +kernel
theorem dX8_firstDeedOn_28 : decode cX8_firstDeedOn 28 = .ok (.iinc 3 1, 3) := by decide +kernel
theorem dX8_firstDeedOn_31 : decode cX8_firstDeedOn 31 = .ok (.goto (-29), 3) := by decide +kernel
theorem dX8_firstDeedOn_26 : decode cX8_firstDeedOn 26 = .ok (.iload_n 3, 1) := by decide +kernel
theorem dX8_firstDeedOn_27 : decode cX8_firstDeedOn 27 = .ok (.ireturn, 1) := by decide +kernel
set_option maxHeartbeats 4000000 in
set_option maxRecDepth 100000 in
theorem k_X8_firstDeedOn_0 (l : Launch) (V : GV) (n : Nat) (Yw : Nat → Nat) (y : Nat → Nat) (a1 : Int32) (a2 : Int32) (pYw0_0 : Int32) (wa : Nat) (pYw0_5 : Int32) (pYw0_6 : Int32) (wb : Nat) (pYw0_14 : Int32) (pYw0_15 : Int32) (pYw0_16 : Int32) (fwa : Nat → Int32) (fYw6 : Nat → Int32) (hn : 1 ≤ n ∧ n ≤ 3646) (ba1 : iv 0 ((n : Int) - 1) a1) (bpYw0_0 : iv 0 4 pYw0_0) (bpYw0_5 : iv 0 ((n : Int)) pYw0_5) (bpYw0_6 : iv 0 4 pYw0_6) (bpYw0_14 : iv 0 4 pYw0_14) (bpYw0_15 : iv 0 9 pYw0_15) (bpYw0_16 : iv 0 ((n : Int)) pYw0_16) (tfYw6 : ∀ j, iv 0 ((n : Int) - 1) (fYw6 j)) : Ct l V yX8_firstDeedOn (.code yX8_firstDeedOn cX8_firstDeedOn 4 (some .int)) 2 [.ref (Yw 0), .int a1, .int a2] [(Yw 0, .inr (8, o8_iirrriirrrrrrriii pYw0_0 (nI n) (Yw 1) (Yw 2) wa pYw0_5 pYw0_6 (y 19) (Yw 4) (Yw 5) (Yw 6) (Yw 7) (Yw 8) wb pYw0_14 pYw0_15 pYw0_16)), (wa, aI V n fwa), (Yw 6, aI V (n * 4) fYw6)] 0 0 (QI V (fun (r : Int32) (w : va_W) => iv (-1) 3 r ∧ w = [(Yw 0, .inr (8, o8_iirrriirrrrrrriii pYw0_0 (nI n) (Yw 1) (Yw 2) wa pYw0_5 pYw0_6 (y 19) (Yw 4) (Yw 5) (Yw 6) (Yw 7) (Yw 8) wb pYw0_14 pYw0_15 pYw0_16)), (wa, aI V n fwa), (Yw 6, aI V (n * 4) fYw6)])) := by
  refine Ct.of (by decide) (Nat.le_of_ble_eq_true rfl) (fun p e s m below meth c A ls hx hb hr hml hown hlk hnm hg hP hK hD hE hA hS hl => ?_)
  have hl : lv_has ls 4 [(0, .ref (Yw 0)), (1, .int a1), (2, .int a2)] := hl
  refine lv_iconst (v := 0) hx hb dX8_firstDeedOn_0 (by decide) ?_
  refine lv_istore_n (lv' := [(3, .int 0), (0, .ref (Yw 0)), (1, .int a1), (2, .int a2)]) hx hb dX8_firstDeedOn_1 rfl hl (by decide) rfl (fun ls hl => ?_)
  refine loopF (X := fun (n_2 : Nat) (H : Heap) (locs : List Loc) (ls : Array Slot) => ∃ (u_1 : Int32), (iv 0 2147483647 u_1) ∧ n_2 = (2147483647 - (u_1 : Int32).toInt).toNat ∧ va_P V.1 vwCl [(Yw 0, .inr (8, o8_iirrriirrrrrrriii pYw0_0 (nI n) (Yw 1) (Yw 2) wa pYw0_5 pYw0_6 (y 19) (Yw 4) (Yw 5) (Yw 6) (Yw 7) (Yw 8) wb pYw0_14 pYw0_15 pYw0_16)), (wa, aI V n fwa), (Yw 6, aI V (n * 4) fYw6)] H ∧ va_D A [(Yw 0, .inr (8, o8_iirrriirrrrrrriii pYw0_0 (nI n) (Yw 1) (Yw 2) wa pYw0_5 pYw0_6 (y 19) (Yw 4) (Yw 5) (Yw 6) (Yw 7) (Yw 8) wb pYw0_14 pYw0_15 pYw0_16)), (wa, aI V n fwa), (Yw 6, aI V (n * 4) fYw6)] ∧ va_S A s.heap H locs ∧ lv_has ls 4 [(3, .int u_1), (0, .ref (Yw 0)), (1, .int a1), (2, .int a2)]) (g := fun ls => F0 m 2 ls []) (fun n_2 H locs ls hX ihn_2 => ?_) _ ⟨0, (iv_c (0 : Int32) (by decide)), rfl, hP, hD, hS, lv_sub hl [0, 1, 2, 3] rfl⟩
  obtain ⟨u_1, bu_1, en_2, hP, hD, hS, hl⟩ := hX
  refine lv_iload_n hx hb dX8_firstDeedOn_2 rfl (lv_at hl 0 rfl) ?_
  refine lv_aload_n hx hb dX8_firstDeedOn_3 rfl (lv_at hl 1 rfl) ?_
  refine va_get (ci := 8) (v := .int pYw0_6) (C := RX8) (T := TX8) (N := 17) hx hb hg inX8 hown hK hP 0 rfl rfl 6 (by decide) (hg _ q_4_80) (fun _ h9 => h9) rfl dX8_firstDeedOn_4 ?_
  refine lv_icmp_ge (tgt := 34) hx hb dX8_firstDeedOn_7 (by decide) (fun c_3 => ?_) (fun c_3 => ?_)
  · refine lv_iconst (v := (-1)) hx hb dX8_firstDeedOn_34 (by decide) ?_
    exact fiI hx hb hr hlk hK hP hD hS dX8_firstDeedOn_35 (Nat.le_of_ble_eq_true rfl) (Nat.le_of_ble_eq_true rfl) (⟨(iv_c ((-1) : Int32) (by decide)), rfl⟩)
  · have b_4 : iv 0 3 u_1 := iv_l1 (Int32.not_le.mp c_3) bu_1 bpYw0_6 (by first | decide | omega)
    have b_5 : iv 1 4 pYw0_6 := iv_l2 (Int32.not_le.mp c_3) bu_1 bpYw0_6 (by first | decide | omega)
    refine lv_aload_n hx hb dX8_firstDeedOn_10 rfl (lv_at hl 1 rfl) ?_
    refine lv_aload_n hx hb dX8_firstDeedOn_11 rfl (lv_at hl 1 rfl) ?_
    refine lv_iload_n hx hb dX8_firstDeedOn_12 rfl (lv_at hl 2 rfl) ?_
    refine lv_iload_n hx hb dX8_firstDeedOn_13 rfl (lv_at hl 0 rfl) ?_
    refine jnI (wr := [(wa, aI V n fwa)]) (rnV (rest := [.ref (Yw 0)]) ⟨hx, hb, hml, hown, hg⟩ (k_X8_behind_0 l V n Yw y a1 u_1 pYw0_0 wa pYw0_5 pYw0_6 wb pYw0_14 pYw0_15 pYw0_16 fYw6 hn ba1 b_4 bpYw0_0 bpYw0_5 (iv_w b_5 (by first | decide | omega)) bpYw0_14 bpYw0_15 bpYw0_16 tfYw6) mt_X8_behind q_4_182 ⟨Nat.le_of_ble_eq_true rfl, Nat.le_of_ble_eq_true rfl⟩ hK hP hD hS hA hE [0, 2] rfl rfl 0 rfl rfl rfl rfl hl.1 rfl (Nat.le_of_ble_eq_true rfl) dX8_firstDeedOn_14 ⟨Nat.le_of_ble_eq_true rfl, Nat.le_of_ble_eq_true rfl⟩) hP hD hS hA [0, 2] [1] rfl rfl rfl (by decide) (fun r_6 w H locs hw hP hD hS => ?_)
    obtain ⟨br_6, er_6, rfl⟩ := hw
    have hP : va_P V.1 vwCl [(wa, aI V n fwa), (Yw 0, .inr (8, o8_iirrriirrrrrrriii pYw0_0 (nI n) (Yw 1) (Yw 2) wa pYw0_5 pYw0_6 (y 19) (Yw 4) (Yw 5) (Yw 6) (Yw 7) (Yw 8) wb pYw0_14 pYw0_15 pYw0_16)), (Yw 6, aI V (n * 4) fYw6)] H := hP
    have hD := cpD hP hD
    refine lv_iload_n hx hb dX8_firstDeedOn_17 rfl (lv_at hl 3 rfl) ?_
    refine lv_iconst (v := 1) hx hb dX8_firstDeedOn_18 (by decide) ?_
    refine lv_iadd hx hb dX8_firstDeedOn_19 ?_
    refine lv_topi (fun x_7 ex_7 => ?_)
    refine jnI (wr := [(Yw 6, aI V (n * 4) fYw6)]) (rnV (rest := []) ⟨hx, hb, hml, hown, hg⟩ (k_X8_hasBit_0 l V n Yw y r_6 x_7 pYw0_0 wa pYw0_5 pYw0_6 wb pYw0_14 pYw0_15 pYw0_16 fwa hn br_6 bpYw0_0 bpYw0_5 (iv_w b_5 (by first | decide | omega)) bpYw0_14 bpYw0_15 bpYw0_16) mt_X8_hasBit q_5_43 ⟨Nat.le_of_ble_eq_true rfl, Nat.le_of_ble_eq_true rfl⟩ hK hP hD hS hA hE [1, 0] rfl rfl 1 rfl rfl rfl rfl hl.1 rfl (Nat.le_of_ble_eq_true rfl) dX8_firstDeedOn_20 ⟨Nat.le_of_ble_eq_true rfl, Nat.le_of_ble_eq_true rfl⟩) hP hD hS hA [1, 0] [2] rfl rfl rfl (by decide) (fun r_8 w H locs hw hP hD hS => ?_)
    obtain ⟨br_8, rfl⟩ := hw
    have hP : va_P V.1 vwCl [(Yw 6, aI V (n * 4) fYw6), (Yw 0, .inr (8, o8_iirrriirrrrrrriii pYw0_0 (nI n) (Yw 1) (Yw 2) wa pYw0_5 pYw0_6 (y 19) (Yw 4) (Yw 5) (Yw 6) (Yw 7) (Yw 8) wb pYw0_14 pYw0_15 pYw0_16)), (wa, aI V n fwa)] H := hP
    have hD := cpD hP hD
    refine lv_if_eq (tgt := 28) hx hb dX8_firstDeedOn_23 (by decide) (fun c_9 => ?_) (fun c_9 => ?_)
    · have b_10 : iv 0 0 r_8 := iv_q c_9 (iv_c (0 : Int32) (a := 0) (b := 0) (by decide))
      obtain ⟨x_11, ex_11⟩ : ∃ z9 : Int32, z9 = u_1 + 1 := ⟨_, rfl⟩
      have bx_11 : iv 1 4 x_11 := by rw [ex_11]; exact iv_add b_4 (iv_c (1 : Int32) (a := 1) (b := 1) (by first | decide | omega)) (by first | decide | omega)
      refine lv_iinc (v := x_11) (lv' := [(3, .int x_11), (0, .ref (Yw 0)), (1, .int a1), (2, .int a2)]) hx hb dX8_firstDeedOn_28 hl (k := 0) rfl (by rw [ex_11]; rfl) (by decide) rfl (fun ls hl => ?_)
      refine lv_goto (tgt := 2) hx hb dX8_firstDeedOn_31 (by decide) ?_
      have hP := subP (ws' := [(Yw 0, .inr (8, o8_iirrriirrrrrrriii pYw0_0 (nI n) (Yw 1) (Yw 2) wa pYw0_5 pYw0_6 (y 19) (Yw 4) (Yw 5) (Yw 6) (Yw 7) (Yw 8) wb pYw0_14 pYw0_15 pYw0_16)), (wa, aI V n fwa), (Yw 6, aI V (n * 4) fYw6)]) hP [1, 2, 0] rfl
      have hD := subD hP hD [1, 2, 0] rfl rfl
      exact ihn_2 _ _ _ _ (by rw [en_2, ex_11]; exact mu_up b_4 (by first | decide | omega)) ⟨x_11, (iv_w bx_11 (by first | decide | omega)), rfl, hP, hD, hS, lv_sub hl [0, 1, 2, 3] rfl⟩
    · have b_12 : iv 1 1 r_8 := iv_n0 c_9 br_8 (iv_c (0 : Int32) (a := 0) (b := 0) (by decide)) (by first | decide | omega)
      refine lv_iload_n hx hb dX8_firstDeedOn_26 rfl (lv_at hl 0 rfl) ?_
      have hP := subP (ws' := [(Yw 0, .inr (8, o8_iirrriirrrrrrriii pYw0_0 (nI n) (Yw 1) (Yw 2) wa pYw0_5 pYw0_6 (y 19) (Yw 4) (Yw 5) (Yw 6) (Yw 7) (Yw 8) wb pYw0_14 pYw0_15 pYw0_16)), (wa, aI V n fwa), (Yw 6, aI V (n * 4) fYw6)]) hP [1, 2, 0] rfl
      have hD := subD hP hD [1, 2, 0] rfl rfl
      exact fiI hx hb hr hlk hK hP hD hS dX8_firstDeedOn_27 (Nat.le_of_ble_eq_true rfl) (Nat.le_of_ble_eq_true rfl) (⟨(iv_w b_4 (by first | decide | omega)), rfl⟩)
theorem dX8_traceTold_0 : decode cX8_traceTold 0 = .ok (.aload_n 0, 1) := by decide +kernel
theorem dX8_traceTold_1 : decode cX8_traceTold 1 = .ok (.invokevirtual 97, 3) := by decide +kernel
theorem dX8_traceTold_4 : decode cX8_traceTold 4 = .ok (.iconst 0, 1) := by decide +kernel
theorem dX8_traceTold_5 : decode cX8_traceTold 5 = .ok (.istore_n 3, 1) := by decide +kernel
theorem dX8_traceTold_6 : decode cX8_traceTold 6 = .ok (.iload_n 3, 1) := by decide +kernel
theorem dX8_traceTold_7 : decode cX8_traceTold 7 = .ok (.aload_n 1, 1) := by decide +kernel
theorem dX8_traceTold_8 : decode cX8_traceTold 8 = .ok (.getfield 107, 3) := by decide +kernel
theorem dX8_traceTold_11 : decode cX8_traceTold 11 = .ok (.if_icmp .ge 109, 3) := by decide +kernel
theorem dX8_traceTold_120 : decode cX8_traceTold 120 = .ok (.aload_n 1, 1) := by decide +kernel
theorem dX8_traceTold_121 : decode cX8_traceTold 121 = .ok (.getfield 107, 3) := by decide +kernel
theorem dX8_traceTold_124 : decode cX8_traceTold 124 = .ok (.iconst 1, 1) := by decide +kernel
theorem dX8_traceTold_125 : decode cX8_traceTold 125 = .ok (.isub, 1) := by decide +kernel
theorem dX8_traceTold_126 : decode cX8_traceTold 126 = .ok (.istore_n 3, 1) := by decide +kernel
theorem dX8_traceTold_127 : decode cX8_traceTold 127 = .ok (.iload_n 3, 1) := by decide +kernel
theorem dX8_traceTold_128 : decode cX8_traceTold 128 = .ok (.ifCond .lt 72, 3) := by decide +kernel
theorem dX8_traceTold_200 : decode cX8_traceTold 200 = .ok (.return_, 1) := by decide +kernel
theorem dX8_traceTold_131 : decode cX8_traceTold 131 = .ok (.iconst 0, 1) := by decide +kernel
theorem dX8_traceTold_132 : decode cX8_traceTold 132 = .ok (.istore 4, 2) := by decide +kernel
theorem dX8_traceTold_134 : decode cX8_traceTold 134 = .ok (.iload 4, 2) := by decide +kernel
theorem dX8_traceTold_136 : decode cX8_traceTold 136 = .ok (.aload_n 0, 1) := by decide +kernel
theorem dX8_traceTold_137 : decode cX8_traceTold 137 = .ok (.getfield 59, 3) := by decide +kernel
theorem dX8_traceTold_140 : decode cX8_traceTold 140 = .ok (.if_icmp .ge 54, 3) := by decide +kernel
theorem dX8_traceTold_194 : decode cX8_traceTold 194 = .ok (.iinc 3 (-1), 3) := by decide +kernel
theorem dX8_traceTold_197 : decode cX8_traceTold 197 = .ok (.goto (-70), 3) := by decide +kernel
theorem dX8_traceTold_143 : decode cX8_traceTold 143 = .ok (.aload_n 0, 1) := by decide +kernel
theorem dX8_traceTold_144 : decode cX8_traceTold 144 = .ok (.getfield 32, 3) := by decide +kernel
theorem dX8_traceTold_147 : decode cX8_traceTold 147 = .ok (.iload 4, 2) := by decide +kernel
theorem dX8_traceTold_149 : decode cX8_traceTold 149 = .ok (.iaload, 1) := by decide +kernel
theorem dX8_traceTold_150 : decode cX8_traceTold 150 = .ok (.iload_n 3, 1) := by decide +kernel
theorem dX8_traceTold_151 : decode cX8_traceTold 151 = .ok (.if_icmp .gt 43, 3) := by decide +kernel
theorem dX8_traceTold_154 : decode cX8_traceTold 154 = .ok (.aload_n 0, 1) := by decide +kernel
theorem dX8_traceTold_155 : decode cX8_traceTold 155 = .ok (.iload 4, 2) := by decide +kernel
theorem dX8_traceTold_157 : decode cX8_traceTold 157 = .ok (.iload_n 3, 1) := by decide +kernel
theorem dX8_traceTold_158 : decode cX8_traceTold 158 = .ok (.invokevirtual 129, 3) := by decide +kernel
theorem dX8_traceTold_161 : decode cX8_traceTold 161 = .ok (.ifCond .eq 27, 3) := by decide +kernel
theorem dX8_traceTold_188 : decode cX8_traceTold 188 = .ok (.iinc 4 1, 3) := by decide +kernel
theorem dX8_traceTold_191 : decode cX8_traceTold 191 = .ok (.goto (-57), 3) := by decide +kernel
theorem dX8_traceTold_164 : decode cX8_traceTold 164 = .ok (.aload_n 0, 1) := by decide +kernel
theorem dX8_traceTold_165 : decode cX8_traceTold 165 = .ok (.iload 4, 2) := by decide +kernel
theorem dX8_traceTold_167 : decode cX8_traceTold 167 = .ok (.iload_n 3, 1) := by decide +kernel
theorem q_5_50 : Cond.code yX8_firstDeedOn prog_10_method_19_code 4 (some FieldType.int) ∈ gw := gw_5 (i := 50) (rfl) rfl
theorem q_5_49 : Cond.instanceMethod yX8_firstDeedOn ∈ gw := gw_5 (i := 49) (by decide +kernel) rfl
theorem q_s_45 : Cond.selects "BeaconDelay$Ways" yX8_firstDeedOn yX8_firstDeedOn ∈ gw := gw_s (i := 45) (by decide +kernel) rfl
theorem mt_X8_firstDeedOn : MtV yX8_firstDeedOn cX8_firstDeedOn 4 (some .int) 2 := ⟨⟨q_5_50, q_1_18, by decide +kernel, by decide +kernel, by decide +kernel⟩, q_5_49, q_s_45⟩
theorem q_5_47 : Cond.methodLink "BeaconDelay$Ways" 133 yX8_firstDeedOn ∈ gw := gw_5 (i := 47) (by decide +kernel) rfl
theorem dX8_traceTold_168 : decode cX8_traceTold 168 = .ok (.invokevirtual 133, 3) := by decide +kernel
theorem dX8_traceTold_171 : decode cX8_traceTold 171 = .ok (.iconst (-1), 1) := by decide +kernel
theorem dX8_traceTold_172 : decode cX8_traceTold 172 = .ok (.if_icmp .ne 16, 3) := by decide +kernel
theorem dX8_traceTold_175 : decode cX8_traceTold 175 = .ok (.aload_n 0, 1) := by decide +kernel
theorem dX8_traceTold_176 : decode cX8_traceTold 176 = .ok (.getfield 50, 3) := by decide +kernel
theorem dX8_traceTold_179 : decode cX8_traceTold 179 = .ok (.iload 4, 2) := by decide +kernel
theorem dX8_traceTold_181 : decode cX8_traceTold 181 = .ok (.dup2, 1) := by decide +kernel
theorem dX8_traceTold_182 : decode cX8_traceTold 182 = .ok (.iaload, 1) := by decide +kernel
theorem dX8_traceTold_183 : decode cX8_traceTold 183 = .ok (.iconst 1, 1) := by decide +kernel
theorem dX8_traceTold_184 : decode cX8_traceTold 184 = .ok (.iload_n 3, 1) := by decide +kernel
theorem dX8_traceTold_185 : decode cX8_traceTold 185 = .ok (.ishl, 1) := by decide +kernel
theorem dX8_traceTold_186 : decode cX8_traceTold 186 = .ok (.isub, 1) := by decide +kernel
theorem dX8_traceTold_187 : decode cX8_traceTold 187 = .ok (.iastore, 1) := by decide +kernel
theorem dX8_traceTold_14 : decode cX8_traceTold 14 = .ok (.iconst 0, 1) := by decide +kernel
theorem dX8_traceTold_15 : decode cX8_traceTold 15 = .ok (.istore 4, 2) := by decide +kernel
theorem dX8_traceTold_17 : decode cX8_traceTold 17 = .ok (.iload 4, 2) := by decide +kernel
theorem dX8_traceTold_19 : decode cX8_traceTold 19 = .ok (.aload_n 0, 1) := by decide +kernel
theorem dX8_traceTold_20 : decode cX8_traceTold 20 = .ok (.getfield 59, 3) := by decide +kernel
theorem dX8_traceTold_23 : decode cX8_traceTold 23 = .ok (.if_icmp .ge 91, 3) := by decide +kernel
theorem dX8_traceTold_114 : decode cX8_traceTold 114 = .ok (.iinc 3 1, 3) := by decide +kernel
theorem dX8_traceTold_117 : decode cX8_traceTold 117 = .ok (.goto (-111), 3) := by decide +kernel
theorem dX8_traceTold_26 : decode cX8_traceTold 26 = .ok (.aload_n 0, 1) := by decide +kernel
theorem dX8_traceTold_27 : decode cX8_traceTold 27 = .ok (.getfield 32, 3) := by decide +kernel
theorem dX8_traceTold_30 : decode cX8_traceTold 30 = .ok (.iload 4, 2) := by decide +kernel
theorem dX8_traceTold_32 : decode cX8_traceTold 32 = .ok (.iaload, 1) := by decide +kernel
theorem dX8_traceTold_33 : decode cX8_traceTold 33 = .ok (.iload_n 3, 1) := by decide +kernel
theorem dX8_traceTold_34 : decode cX8_traceTold 34 = .ok (.if_icmp .gt 80, 3) := by decide +kernel
theorem dX8_traceTold_37 : decode cX8_traceTold 37 = .ok (.iconst 0, 1) := by decide +kernel
theorem dX8_traceTold_38 : decode cX8_traceTold 38 = .ok (.istore 5, 2) := by decide +kernel
theorem dX8_traceTold_40 : decode cX8_traceTold 40 = .ok (.iload 5, 2) := by decide +kernel
theorem dX8_traceTold_42 : decode cX8_traceTold 42 = .ok (.aload_n 0, 1) := by decide +kernel
theorem dX8_traceTold_43 : decode cX8_traceTold 43 = .ok (.getfield 77, 3) := by decide +kernel
theorem dX8_traceTold_46 : decode cX8_traceTold 46 = .ok (.if_icmp .ge 62, 3) := by decide +kernel
theorem dX8_traceTold_108 : decode cX8_traceTold 108 = .ok (.iinc 4 1, 3) := by decide +kernel
theorem dX8_traceTold_111 : decode cX8_traceTold 111 = .ok (.goto (-94), 3) := by decide +kernel
theorem dX8_traceTold_49 : decode cX8_traceTold 49 = .ok (.aload_n 0, 1) := by decide +kernel
theorem dX8_traceTold_50 : decode cX8_traceTold 50 = .ok (.iload 4, 2) := by decide +kernel
theorem dX8_traceTold_52 : decode cX8_traceTold 52 = .ok (.iload_n 3, 1) := by decide +kernel
theorem dX8_traceTold_53 : decode cX8_traceTold 53 = .ok (.invokevirtual 129, 3) := by decide +kernel
theorem dX8_traceTold_56 : decode cX8_traceTold 56 = .ok (.ifCond .eq 52, 3) := by decide +kernel
theorem dX8_traceTold_59 : decode cX8_traceTold 59 = .ok (.aload_n 0, 1) := by decide +kernel
theorem dX8_traceTold_60 : decode cX8_traceTold 60 = .ok (.aload_n 0, 1) := by decide +kernel
theorem dX8_traceTold_61 : decode cX8_traceTold 61 = .ok (.iload 4, 2) := by decide +kernel
theorem dX8_traceTold_63 : decode cX8_traceTold 63 = .ok (.iload 5, 2) := by decide +kernel
theorem dX8_traceTold_65 : decode cX8_traceTold 65 = .ok (.invokevirtual 124, 3) := by decide +kernel
theorem dX8_traceTold_68 : decode cX8_traceTold 68 = .ok (.iload_n 2, 1) := by decide +kernel
theorem dX8_traceTold_69 : decode cX8_traceTold 69 = .ok (.aload_n 1, 1) := by decide +kernel
theorem dX8_traceTold_70 : decode cX8_traceTold 70 = .ok (.getfield 110, 3) := by decide +kernel
theorem dX8_traceTold_73 : decode cX8_traceTold 73 = .ok (.iload_n 3, 1) := by decide +kernel
theorem dX8_traceTold_74 : decode cX8_traceTold 74 = .ok (.laload, 1) := by decide +kernel
theorem dX8_traceTold_75 : decode cX8_traceTold 75 = .ok (.invokevirtual 114, 3) := by decide +kernel
theorem dX8_traceTold_78 : decode cX8_traceTold 78 = .ok (.ifCond .eq 24, 3) := by decide +kernel
theorem dX8_traceTold_102 : decode cX8_traceTold 102 = .ok (.iinc 5 1, 3) := by decide +kernel
theorem dX8_traceTold_105 : decode cX8_traceTold 105 = .ok (.goto (-65), 3) := by decide +kernel
theorem dX8_traceTold_81 : decode cX8_traceTold 81 = .ok (.aload_n 0, 1) := by decide +kernel
theorem dX8_traceTold_82 : decode cX8_traceTold 82 = .ok (.getfield 50, 3) := by decide +kernel
theorem dX8_traceTold_85 : decode cX8_traceTold 85 = .ok (.aload_n 0, 1) := by decide +kernel
theorem dX8_traceTold_86 : decode cX8_traceTold 86 = .ok (.iload 4, 2) := by decide +kernel
theorem dX8_traceTold_88 : decode cX8_traceTold 88 = .ok (.iload 5, 2) := by decide +kernel
theorem dX8_traceTold_90 : decode cX8_traceTold 90 = .ok (.invokevirtual 124, 3) := by decide +kernel
theorem dX8_traceTold_93 : decode cX8_traceTold 93 = .ok (.dup2, 1) := by decide +kernel
theorem dX8_traceTold_94 : decode cX8_traceTold 94 = .ok (.iaload, 1) := by decide +kernel
theorem dX8_traceTold_95 : decode cX8_traceTold 95 = .ok (.iconst 1, 1) := by decide +kernel
theorem dX8_traceTold_96 : decode cX8_traceTold 96 = .ok (.iload_n 3, 1) := by decide +kernel
theorem dX8_traceTold_97 : decode cX8_traceTold 97 = .ok (.iconst 1, 1) := by decide +kernel
theorem dX8_traceTold_98 : decode cX8_traceTold 98 = .ok (.iadd, 1) := by decide +kernel
theorem dX8_traceTold_99 : decode cX8_traceTold 99 = .ok (.ishl, 1) := by decide +kernel
theorem dX8_traceTold_100 : decode cX8_traceTold 100 = .ok (.ior, 1) := by decide +kernel
theorem dX8_traceTold_101 : decode cX8_traceTold 101 = .ok (.iastore, 1) := by decide +kernel
set_option maxHeartbeats 4000000 in
set_option maxRecDepth 100000 in
theorem k_X8_traceTold_0 (l : Launch) (V : GV) (n : Nat) (L : Nat) (Yw : Nat → Nat) (y : Nat → Nat) (a2 : Int32) (py33_1 : Int32) (py33_2 : Int32) (fy34 : Nat → Int64) (pYw0_0 : Int32) (wa : Nat) (pYw0_5 : Int32) (pYw0_6 : Int32) (wb : Nat) (pYw0_14 : Int32) (pYw0_15 : Int32) (pYw0_16 : Int32) (fYw1 : Nat → Int32) (fYw2 : Nat → Int32) (fwa : Nat → Int32) (fYw6 : Nat → Int32) (hn : 1 ≤ n ∧ n ≤ 3646) (hL : 1 ≤ L ∧ L ≤ 10000) (ba2 : iv 0 3 a2) (bpy33_1 : iv (-1) 40 py33_1) (bpYw0_0 : iv 0 4 pYw0_0) (bpYw0_5 : iv 0 ((n : Int)) pYw0_5) (bpYw0_6 : iv 0 4 pYw0_6) (bpYw0_14 : iv 0 4 pYw0_14) (bpYw0_15 : iv 0 9 pYw0_15) (bpYw0_16 : iv 0 ((n : Int)) pYw0_16) (tfYw1 : ∀ j, iv 0 ((L : Int) - 1) (fYw1 j)) (tfYw6 : ∀ j, iv 0 ((n : Int) - 1) (fYw6 j)) : Ct l V yX8_traceTold (.code yX8_traceTold cX8_traceTold 6 none) 4 [.ref (Yw 0), .ref (y 33), .int a2] [(y 33, .inr (7, o7_rii (y 34) py33_1 py33_2)), (y 34, aJ V 40 fy34), (Yw 0, .inr (8, o8_iirrriirrrrrrriii pYw0_0 (nI n) (Yw 1) (Yw 2) wa pYw0_5 pYw0_6 (y 19) (Yw 4) (Yw 5) (Yw 6) (Yw 7) (Yw 8) wb pYw0_14 pYw0_15 pYw0_16)), (Yw 1, aI V n fYw1), (Yw 2, aI V n fYw2), (wa, aI V n fwa), (Yw 6, aI V (n * 4) fYw6)] 0 0 (QV V (fun (w : va_W) => ∃ (g0 : Nat → Int32), w = [(y 33, .inr (7, o7_rii (y 34) py33_1 py33_2)), (y 34, aJ V 40 fy34), (Yw 0, .inr (8, o8_iirrriirrrrrrriii pYw0_0 (nI n) (Yw 1) (Yw 2) wa pYw0_5 pYw0_6 (y 19) (Yw 4) (Yw 5) (Yw 6) (Yw 7) (Yw 8) wb pYw0_14 pYw0_15 pYw0_16)), (Yw 1, aI V n fYw1), (Yw 2, aI V n fYw2), (wa, aI V n g0), (Yw 6, aI V (n * 4) fYw6)])) := by
  refine Ct.of (by decide) (Nat.le_of_ble_eq_true rfl) (fun p e s m below meth c A ls hx hb hr hml hown hlk hnm hg hP hK hD hE hA hS hl => ?_)
  have hl : lv_has ls 6 [(0, .ref (Yw 0)), (1, .ref (y 33)), (2, .int a2)] := hl
  refine lv_aload_n hx hb dX8_traceTold_0 rfl (lv_at hl 0 rfl) ?_
  refine jnV (wr := [(y 33, .inr (7, o7_rii (y 34) py33_1 py33_2)), (y 34, aJ V 40 fy34), (Yw 1, aI V n fYw1), (Yw 2, aI V n fYw2), (Yw 6, aI V (n * 4) fYw6)]) (rnV (rest := []) ⟨hx, hb, hml, hown, hg⟩ (k_X8_beginSpread_0 l V n Yw y pYw0_0 wa pYw0_5 pYw0_6 wb pYw0_14 pYw0_15 pYw0_16 fwa hn bpYw0_0 bpYw0_5 bpYw0_6 bpYw0_14 bpYw0_15 bpYw0_16) mt_X8_beginSpread q_4_168 ⟨Nat.le_of_ble_eq_true rfl, Nat.le_of_ble_eq_true rfl⟩ hK hP hD hS hA hE [2, 5] rfl rfl 2 rfl rfl rfl rfl hl.1 rfl (Nat.le_of_ble_eq_true rfl) dX8_traceTold_1 ⟨Nat.le_of_ble_eq_true rfl, Nat.le_of_ble_eq_true rfl⟩) hP hD hS hA [2, 5] [0, 1, 3, 4, 6] rfl rfl rfl (by decide) (fun  w H locs hw hP hD hS => ?_)
  obtain ⟨f_1, rfl⟩ := hw
  have hP : va_P V.1 vwCl [(y 33, .inr (7, o7_rii (y 34) py33_1 py33_2)), (y 34, aJ V 40 fy34), (Yw 1, aI V n fYw1), (Yw 2, aI V n fYw2), (Yw 6, aI V (n * 4) fYw6), (Yw 0, .inr (8, o8_iirrriirrrrrrriii pYw0_0 (nI n) (Yw 1) (Yw 2) wa pYw0_5 pYw0_6 (y 19) (Yw 4) (Yw 5) (Yw 6) (Yw 7) (Yw 8) wb pYw0_14 pYw0_15 pYw0_16)), (wa, aI V n f_1)] H := hP
  have hD := cpD hP hD
  refine lv_iconst (v := 0) hx hb dX8_traceTold_4 (by decide) ?_
  refine lv_istore_n (lv' := [(3, .int 0), (0, .ref (Yw 0)), (1, .ref (y 33)), (2, .int a2)]) hx hb dX8_traceTold_5 rfl hl (by decide) rfl (fun ls hl => ?_)
  refine loopF (X := fun (n_4 : Nat) (H : Heap) (locs : List Loc) (ls : Array Slot) => ∃ (u_2 : Int32) (f_3 : Nat → Int32), (iv 0 2147483647 u_2) ∧ n_4 = (2147483647 - (u_2 : Int32).toInt).toNat ∧ va_P V.1 vwCl [(y 33, .inr (7, o7_rii (y 34) py33_1 py33_2)), (y 34, aJ V 40 fy34), (Yw 1, aI V n fYw1), (Yw 2, aI V n fYw2), (Yw 6, aI V (n * 4) fYw6), (Yw 0, .inr (8, o8_iirrriirrrrrrriii pYw0_0 (nI n) (Yw 1) (Yw 2) wa pYw0_5 pYw0_6 (y 19) (Yw 4) (Yw 5) (Yw 6) (Yw 7) (Yw 8) wb pYw0_14 pYw0_15 pYw0_16)), (wa, aI V n f_3)] H ∧ va_D A [(y 33, .inr (7, o7_rii (y 34) py33_1 py33_2)), (y 34, aJ V 40 fy34), (Yw 1, aI V n fYw1), (Yw 2, aI V n fYw2), (Yw 6, aI V (n * 4) fYw6), (Yw 0, .inr (8, o8_iirrriirrrrrrriii pYw0_0 (nI n) (Yw 1) (Yw 2) wa pYw0_5 pYw0_6 (y 19) (Yw 4) (Yw 5) (Yw 6) (Yw 7) (Yw 8) wb pYw0_14 pYw0_15 pYw0_16)), (wa, aI V n f_3)] ∧ va_S A s.heap H locs ∧ lv_has ls 6 [(3, .int u_2), (0, .ref (Yw 0)), (1, .ref (y 33)), (2, .int a2)]) (g := fun ls => F0 m 6 ls []) (fun n_4 H locs ls hX ihn_4 => ?_) _ ⟨0, f_1, (iv_c (0 : Int32) (by decide)), rfl, hP, hD, hS, lv_sub hl [0, 1, 2, 3] rfl⟩
  obtain ⟨u_2, f_3, bu_2, en_4, hP, hD, hS, hl⟩ := hX
  refine lv_iload_n hx hb dX8_traceTold_6 rfl (lv_at hl 0 rfl) ?_
  refine lv_aload_n hx hb dX8_traceTold_7 rfl (lv_at hl 2 rfl) ?_
  refine va_get (ci := 7) (v := .int py33_1) (C := RX7) (T := TX7) (N := 3) hx hb hg inX7 hown hK hP 0 rfl rfl 1 (by decide) (hg _ q_2_1) (fun _ h9 => h9) rfl dX8_traceTold_8 ?_
  refine lv_icmp_ge (tgt := 120) hx hb dX8_traceTold_11 (by decide) (fun c_5 => ?_) (fun c_5 => ?_)
  · refine lv_aload_n hx hb dX8_traceTold_120 rfl (lv_at hl 2 rfl) ?_
    refine va_get (ci := 7) (v := .int py33_1) (C := RX7) (T := TX7) (N := 3) hx hb hg inX7 hown hK hP 0 rfl rfl 1 (by decide) (hg _ q_2_1) (fun _ h9 => h9) rfl dX8_traceTold_121 ?_
    refine lv_iconst (v := 1) hx hb dX8_traceTold_124 (by decide) ?_
    refine lv_isub hx hb dX8_traceTold_125 ?_
    refine lv_topi (fun x_6 ex_6 => ?_)
    have bx_6 : iv (-2) 39 x_6 := by rw [ex_6]; exact iv_sub bpy33_1 (iv_c (1 : Int32) (a := 1) (b := 1) (by decide)) (by first | decide | omega)
    refine lv_istore_n (lv' := [(3, .int x_6), (0, .ref (Yw 0)), (1, .ref (y 33)), (2, .int a2)]) hx hb dX8_traceTold_126 rfl hl (by decide) rfl (fun ls hl => ?_)
    refine loopF (X := fun (n_9 : Nat) (H : Heap) (locs : List Loc) (ls : Array Slot) => ∃ (u_7 : Int32) (f_8 : Nat → Int32), (iv (-2) 2147483647 u_7) ∧ n_9 = ((u_7 : Int32).toInt + 2147483648).toNat ∧ va_P V.1 vwCl [(y 33, .inr (7, o7_rii (y 34) py33_1 py33_2)), (y 34, aJ V 40 fy34), (Yw 1, aI V n fYw1), (Yw 2, aI V n fYw2), (Yw 6, aI V (n * 4) fYw6), (Yw 0, .inr (8, o8_iirrriirrrrrrriii pYw0_0 (nI n) (Yw 1) (Yw 2) wa pYw0_5 pYw0_6 (y 19) (Yw 4) (Yw 5) (Yw 6) (Yw 7) (Yw 8) wb pYw0_14 pYw0_15 pYw0_16)), (wa, aI V n f_8)] H ∧ va_D A [(y 33, .inr (7, o7_rii (y 34) py33_1 py33_2)), (y 34, aJ V 40 fy34), (Yw 1, aI V n fYw1), (Yw 2, aI V n fYw2), (Yw 6, aI V (n * 4) fYw6), (Yw 0, .inr (8, o8_iirrriirrrrrrriii pYw0_0 (nI n) (Yw 1) (Yw 2) wa pYw0_5 pYw0_6 (y 19) (Yw 4) (Yw 5) (Yw 6) (Yw 7) (Yw 8) wb pYw0_14 pYw0_15 pYw0_16)), (wa, aI V n f_8)] ∧ va_S A s.heap H locs ∧ lv_has ls 6 [(3, .int u_7), (0, .ref (Yw 0)), (1, .ref (y 33)), (2, .int a2)]) (g := fun ls => F0 m 127 ls []) (fun n_9 H locs ls hX ihn_9 => ?_) _ ⟨x_6, f_3, (iv_w bx_6 (by first | decide | omega)), rfl, hP, hD, hS, lv_sub hl [0, 1, 2, 3] rfl⟩
    obtain ⟨u_7, f_8, bu_7, en_9, hP, hD, hS, hl⟩ := hX
    refine lv_iload_n hx hb dX8_traceTold_127 rfl (lv_at hl 0 rfl) ?_
    refine lv_if_lt (tgt := 200) hx hb dX8_traceTold_128 (by decide) (fun c_10 => ?_) (fun c_10 => ?_)
    · have b_11 : iv (-2) (-1) u_7 := iv_l1 c_10 bu_7 (iv_c (0 : Int32) (a := 0) (b := 0) (by decide)) (by first | decide | omega)
      have hP := subP (ws' := [(y 33, .inr (7, o7_rii (y 34) py33_1 py33_2)), (y 34, aJ V 40 fy34), (Yw 0, .inr (8, o8_iirrriirrrrrrriii pYw0_0 (nI n) (Yw 1) (Yw 2) wa pYw0_5 pYw0_6 (y 19) (Yw 4) (Yw 5) (Yw 6) (Yw 7) (Yw 8) wb pYw0_14 pYw0_15 pYw0_16)), (Yw 1, aI V n fYw1), (Yw 2, aI V n fYw2), (wa, aI V n f_8), (Yw 6, aI V (n * 4) fYw6)]) hP [0, 1, 5, 2, 3, 6, 4] rfl
      have hD := subD hP hD [0, 1, 5, 2, 3, 6, 4] rfl rfl
      exact fiV hx hb hr hlk hK hP hD hS dX8_traceTold_200 (Nat.le_of_ble_eq_true rfl) (Nat.le_of_ble_eq_true rfl) (⟨f_8, rfl⟩)
    · have b_12 : iv 0 2147483647 u_7 := iv_e2 (Int32.not_lt.mp c_10) (iv_c (0 : Int32) (a := 0) (b := 0) (by decide)) bu_7 (by first | decide | omega)
      refine lv_iconst (v := 0) hx hb dX8_traceTold_131 (by decide) ?_
      refine lv_istore (lv' := [(4, .int 0), (3, .int u_7), (0, .ref (Yw 0)), (1, .ref (y 33)), (2, .int a2)]) hx hb dX8_traceTold_132 hl (by decide) rfl (fun ls hl => ?_)
      refine loopF (X := fun (n_15 : Nat) (H : Heap) (locs : List Loc) (ls : Array Slot) => ∃ (u_13 : Int32) (f_14 : Nat → Int32), (iv 0 2147483647 u_13) ∧ n_15 = (2147483647 - (u_13 : Int32).toInt).toNat ∧ va_P V.1 vwCl [(y 33, .inr (7, o7_rii (y 34) py33_1 py33_2)), (y 34, aJ V 40 fy34), (Yw 1, aI V n fYw1), (Yw 2, aI V n fYw2), (Yw 6, aI V (n * 4) fYw6), (Yw 0, .inr (8, o8_iirrriirrrrrrriii pYw0_0 (nI n) (Yw 1) (Yw 2) wa pYw0_5 pYw0_6 (y 19) (Yw 4) (Yw 5) (Yw 6) (Yw 7) (Yw 8) wb pYw0_14 pYw0_15 pYw0_16)), (wa, aI V n f_14)] H ∧ va_D A [(y 33, .inr (7, o7_rii (y 34) py33_1 py33_2)), (y 34, aJ V 40 fy34), (Yw 1, aI V n fYw1), (Yw 2, aI V n fYw2), (Yw 6, aI V (n * 4) fYw6), (Yw 0, .inr (8, o8_iirrriirrrrrrriii pYw0_0 (nI n) (Yw 1) (Yw 2) wa pYw0_5 pYw0_6 (y 19) (Yw 4) (Yw 5) (Yw 6) (Yw 7) (Yw 8) wb pYw0_14 pYw0_15 pYw0_16)), (wa, aI V n f_14)] ∧ va_S A s.heap H locs ∧ lv_has ls 6 [(4, .int u_13), (3, .int u_7), (0, .ref (Yw 0)), (1, .ref (y 33)), (2, .int a2)]) (g := fun ls => F0 m 134 ls []) (fun n_15 H locs ls hX ihn_15 => ?_) _ ⟨0, f_8, (iv_c (0 : Int32) (by decide)), rfl, hP, hD, hS, lv_sub hl [0, 1, 2, 3, 4] rfl⟩
      obtain ⟨u_13, f_14, bu_13, en_15, hP, hD, hS, hl⟩ := hX
      refine lv_iload hx hb dX8_traceTold_134 (lv_at hl 0 rfl) ?_
      refine lv_aload_n hx hb dX8_traceTold_136 rfl (lv_at hl 2 rfl) ?_
      refine va_get (ci := 8) (v := .int pYw0_16) (C := RX8) (T := TX8) (N := 17) hx hb hg inX8 hown hK hP 5 rfl rfl 16 (by decide) (hg _ q_4_90) (fun _ h9 => h9) rfl dX8_traceTold_137 ?_
      refine lv_icmp_ge (tgt := 194) hx hb dX8_traceTold_140 (by decide) (fun c_16 => ?_) (fun c_16 => ?_)
      · obtain ⟨x_17, ex_17⟩ : ∃ z9 : Int32, z9 = u_7 + (-1) := ⟨_, rfl⟩
        have bx_17 : iv (-1) 2147483646 x_17 := by rw [ex_17]; exact iv_add b_12 (iv_c ((-1) : Int32) (a := (-1)) (b := (-1)) (by first | decide | omega)) (by first | decide | omega)
        refine lv_iinc (v := x_17) (lv' := [(3, .int x_17), (4, .int u_13), (0, .ref (Yw 0)), (1, .ref (y 33)), (2, .int a2)]) hx hb dX8_traceTold_194 hl (k := 1) rfl (by rw [ex_17]; rfl) (by decide) rfl (fun ls hl => ?_)
        refine lv_goto (tgt := 127) hx hb dX8_traceTold_197 (by decide) ?_
        exact ihn_9 _ _ _ _ (by rw [en_9, ex_17]; exact mu_dn b_12 (by first | decide | omega)) ⟨x_17, f_14, (iv_w bx_17 (by first | decide | omega)), rfl, hP, hD, hS, lv_sub hl [0, 2, 3, 4] rfl⟩
      · have b_18 : iv 0 ((n : Int) - 1) u_13 := iv_l1 (Int32.not_le.mp c_16) bu_13 bpYw0_16 (by first | decide | omega)
        have b_19 : iv 1 ((n : Int)) pYw0_16 := iv_l2 (Int32.not_le.mp c_16) bu_13 bpYw0_16 (by first | decide | omega)
        refine lv_aload_n hx hb dX8_traceTold_143 rfl (lv_at hl 2 rfl) ?_
        refine va_get (ci := 8) (v := .ref (Yw 2)) (C := RX8) (T := TX8) (N := 17) hx hb hg inX8 hown hK hP 5 rfl rfl 3 (by decide) (hg _ q_4_72) (fun _ h9 => h9) rfl dX8_traceTold_144 ?_
        refine lv_iload hx hb dX8_traceTold_147 (lv_at hl 0 rfl) ?_
        refine va_iald hx hb hK hP 3 0 rfl rfl (iv_in b_18 (by first | decide | omega)) dX8_traceTold_149 ?_
        refine lv_topi (fun x_20 ex_20 => ?_)
        refine lv_iload_n hx hb dX8_traceTold_150 rfl (lv_at hl 1 rfl) ?_
        refine lv_icmp_gt (tgt := 194) hx hb dX8_traceTold_151 (by decide) (fun c_21 => ?_) (fun c_21 => ?_)
        · have b_22 : iv 0 2147483646 u_7 := iv_l1 c_21 b_12 (iv_top x_20) (by first | decide | omega)
          have b_23 : iv 1 2147483647 x_20 := iv_l2 c_21 b_12 (iv_top x_20) (by first | decide | omega)
          obtain ⟨x_24, ex_24⟩ : ∃ z9 : Int32, z9 = u_7 + (-1) := ⟨_, rfl⟩
          have bx_24 : iv (-1) 2147483645 x_24 := by rw [ex_24]; exact iv_add b_22 (iv_c ((-1) : Int32) (a := (-1)) (b := (-1)) (by first | decide | omega)) (by first | decide | omega)
          refine lv_iinc (v := x_24) (lv' := [(3, .int x_24), (4, .int u_13), (0, .ref (Yw 0)), (1, .ref (y 33)), (2, .int a2)]) hx hb dX8_traceTold_194 hl (k := 1) rfl (by rw [ex_24]; rfl) (by decide) rfl (fun ls hl => ?_)
          refine lv_goto (tgt := 127) hx hb dX8_traceTold_197 (by decide) ?_
          exact ihn_9 _ _ _ _ (by rw [en_9, ex_24]; exact mu_dn b_22 (by first | decide | omega)) ⟨x_24, f_14, (iv_w bx_24 (by first | decide | omega)), rfl, hP, hD, hS, lv_sub hl [0, 2, 3, 4] rfl⟩
        · refine lv_aload_n hx hb dX8_traceTold_154 rfl (lv_at hl 2 rfl) ?_
          refine lv_iload hx hb dX8_traceTold_155 (lv_at hl 0 rfl) ?_
          refine lv_iload_n hx hb dX8_traceTold_157 rfl (lv_at hl 1 rfl) ?_
          refine jnI (wr := [(y 33, .inr (7, o7_rii (y 34) py33_1 py33_2)), (y 34, aJ V 40 fy34), (Yw 1, aI V n fYw1), (Yw 2, aI V n fYw2), (Yw 6, aI V (n * 4) fYw6)]) (rnV (rest := []) ⟨hx, hb, hml, hown, hg⟩ (k_X8_hasBit_0 l V n Yw y u_13 u_7 pYw0_0 wa pYw0_5 pYw0_6 wb pYw0_14 pYw0_15 pYw0_16 f_14 hn b_18 bpYw0_0 bpYw0_5 bpYw0_6 bpYw0_14 bpYw0_15 (iv_w b_19 (by first | decide | omega))) mt_X8_hasBit q_5_43 ⟨Nat.le_of_ble_eq_true rfl, Nat.le_of_ble_eq_true rfl⟩ hK hP hD hS hA hE [5, 6] rfl rfl 5 rfl rfl rfl rfl hl.1 rfl (Nat.le_of_ble_eq_true rfl) dX8_traceTold_158 ⟨Nat.le_of_ble_eq_true rfl, Nat.le_of_ble_eq_true rfl⟩) hP hD hS hA [5, 6] [0, 1, 2, 3, 4] rfl rfl rfl (by decide) (fun r_25 w H locs hw hP hD hS => ?_)
          obtain ⟨br_25, rfl⟩ := hw
          have hP : va_P V.1 vwCl [(y 33, .inr (7, o7_rii (y 34) py33_1 py33_2)), (y 34, aJ V 40 fy34), (Yw 1, aI V n fYw1), (Yw 2, aI V n fYw2), (Yw 6, aI V (n * 4) fYw6), (Yw 0, .inr (8, o8_iirrriirrrrrrriii pYw0_0 (nI n) (Yw 1) (Yw 2) wa pYw0_5 pYw0_6 (y 19) (Yw 4) (Yw 5) (Yw 6) (Yw 7) (Yw 8) wb pYw0_14 pYw0_15 pYw0_16)), (wa, aI V n f_14)] H := hP
          have hD := cpD hP hD
          refine lv_if_eq (tgt := 188) hx hb dX8_traceTold_161 (by decide) (fun c_26 => ?_) (fun c_26 => ?_)
          · have b_27 : iv 0 0 r_25 := iv_q c_26 (iv_c (0 : Int32) (a := 0) (b := 0) (by decide))
            obtain ⟨x_28, ex_28⟩ : ∃ z9 : Int32, z9 = u_13 + 1 := ⟨_, rfl⟩
            have bx_28 : iv 1 ((n : Int)) x_28 := by rw [ex_28]; exact iv_add b_18 (iv_c (1 : Int32) (a := 1) (b := 1) (by first | decide | omega)) (by first | decide | omega)
            refine lv_iinc (v := x_28) (lv' := [(4, .int x_28), (3, .int u_7), (0, .ref (Yw 0)), (1, .ref (y 33)), (2, .int a2)]) hx hb dX8_traceTold_188 hl (k := 0) rfl (by rw [ex_28]; rfl) (by decide) rfl (fun ls hl => ?_)
            refine lv_goto (tgt := 134) hx hb dX8_traceTold_191 (by decide) ?_
            exact ihn_15 _ _ _ _ (by rw [en_15, ex_28]; exact mu_up b_18 (by first | decide | omega)) ⟨x_28, f_14, (iv_w bx_28 (by first | decide | omega)), rfl, hP, hD, hS, lv_sub hl [0, 1, 2, 3, 4] rfl⟩
          · have b_29 : iv 1 1 r_25 := iv_n0 c_26 br_25 (iv_c (0 : Int32) (a := 0) (b := 0) (by decide)) (by first | decide | omega)
            refine lv_aload_n hx hb dX8_traceTold_164 rfl (lv_at hl 2 rfl) ?_
            refine lv_iload hx hb dX8_traceTold_165 (lv_at hl 0 rfl) ?_
            refine lv_iload_n hx hb dX8_traceTold_167 rfl (lv_at hl 1 rfl) ?_
            refine jnI (wr := [(y 33, .inr (7, o7_rii (y 34) py33_1 py33_2)), (y 34, aJ V 40 fy34), (Yw 1, aI V n fYw1), (Yw 2, aI V n fYw2)]) (rnV (rest := []) ⟨hx, hb, hml, hown, hg⟩ (k_X8_firstDeedOn_0 l V n Yw y u_13 u_7 pYw0_0 wa pYw0_5 pYw0_6 wb pYw0_14 pYw0_15 pYw0_16 f_14 fYw6 hn b_18 bpYw0_0 bpYw0_5 bpYw0_6 bpYw0_14 bpYw0_15 (iv_w b_19 (by first | decide | omega)) tfYw6) mt_X8_firstDeedOn q_5_47 ⟨Nat.le_of_ble_eq_true rfl, Nat.le_of_ble_eq_true rfl⟩ hK hP hD hS hA hE [5, 6, 4] rfl rfl 5 rfl rfl rfl rfl hl.1 rfl (Nat.le_of_ble_eq_true rfl) dX8_traceTold_168 ⟨Nat.le_of_ble_eq_true rfl, Nat.le_of_ble_eq_true rfl⟩) hP hD hS hA [5, 6, 4] [0, 1, 2, 3] rfl rfl rfl (by decide) (fun r_30 w H locs hw hP hD hS => ?_)
            obtain ⟨br_30, rfl⟩ := hw
            have hP : va_P V.1 vwCl [(y 33, .inr (7, o7_rii (y 34) py33_1 py33_2)), (y 34, aJ V 40 fy34), (Yw 1, aI V n fYw1), (Yw 2, aI V n fYw2), (Yw 0, .inr (8, o8_iirrriirrrrrrriii pYw0_0 (nI n) (Yw 1) (Yw 2) wa pYw0_5 pYw0_6 (y 19) (Yw 4) (Yw 5) (Yw 6) (Yw 7) (Yw 8) wb pYw0_14 pYw0_15 pYw0_16)), (wa, aI V n f_14), (Yw 6, aI V (n * 4) fYw6)] H := hP
            have hD := cpD hP hD
            refine lv_iconst (v := (-1)) hx hb dX8_traceTold_171 (by decide) ?_
            refine lv_icmp_ne (tgt := 188) hx hb dX8_traceTold_172 (by decide) (fun c_31 => ?_) (fun c_31 => ?_)
            · have b_32 : iv 0 3 r_30 := iv_n0 c_31 br_30 (iv_c ((-1) : Int32) (a := (-1)) (b := (-1)) (by decide)) (by first | decide | omega)
              obtain ⟨x_33, ex_33⟩ : ∃ z9 : Int32, z9 = u_13 + 1 := ⟨_, rfl⟩
              have bx_33 : iv 1 ((n : Int)) x_33 := by rw [ex_33]; exact iv_add b_18 (iv_c (1 : Int32) (a := 1) (b := 1) (by first | decide | omega)) (by first | decide | omega)
              refine lv_iinc (v := x_33) (lv' := [(4, .int x_33), (3, .int u_7), (0, .ref (Yw 0)), (1, .ref (y 33)), (2, .int a2)]) hx hb dX8_traceTold_188 hl (k := 0) rfl (by rw [ex_33]; rfl) (by decide) rfl (fun ls hl => ?_)
              refine lv_goto (tgt := 134) hx hb dX8_traceTold_191 (by decide) ?_
              have hP := subP (ws' := [(y 33, .inr (7, o7_rii (y 34) py33_1 py33_2)), (y 34, aJ V 40 fy34), (Yw 1, aI V n fYw1), (Yw 2, aI V n fYw2), (Yw 6, aI V (n * 4) fYw6), (Yw 0, .inr (8, o8_iirrriirrrrrrriii pYw0_0 (nI n) (Yw 1) (Yw 2) wa pYw0_5 pYw0_6 (y 19) (Yw 4) (Yw 5) (Yw 6) (Yw 7) (Yw 8) wb pYw0_14 pYw0_15 pYw0_16)), (wa, aI V n f_14)]) hP [0, 1, 2, 3, 6, 4, 5] rfl
              have hD := subD hP hD [0, 1, 2, 3, 6, 4, 5] rfl rfl
              exact ihn_15 _ _ _ _ (by rw [en_15, ex_33]; exact mu_up b_18 (by first | decide | omega)) ⟨x_33, f_14, (iv_w bx_33 (by first | decide | omega)), rfl, hP, hD, hS, lv_sub hl [0, 1, 2, 3, 4] rfl⟩
            · have b_34 : iv (-1) (-1) r_30 := iv_q c_31 (iv_c ((-1) : Int32) (a := (-1)) (b := (-1)) (by decide))
              refine lv_aload_n hx hb dX8_traceTold_175 rfl (lv_at hl 2 rfl) ?_
              refine va_get (ci := 8) (v := .ref wa) (C := RX8) (T := TX8) (N := 17) hx hb hg inX8 hown hK hP 4 rfl rfl 4 (by decide) (hg _ q_4_74) (fun _ h9 => h9) rfl dX8_traceTold_176 ?_
              refine lv_iload hx hb dX8_traceTold_179 (lv_at hl 0 rfl) ?_
              refine lv_dup2_11 hx hb dX8_traceTold_181 rfl rfl ?_
              refine va_iald hx hb hK hP 5 0 rfl rfl (iv_in b_18 (by first | decide | omega)) dX8_traceTold_182 ?_
              refine lv_topi (fun x_35 ex_35 => ?_)
              refine lv_iconst (v := 1) hx hb dX8_traceTold_183 (by decide) ?_
              refine lv_iload_n hx hb dX8_traceTold_184 rfl (lv_at hl 1 rfl) ?_
              refine lv_ishl hx hb dX8_traceTold_185 ?_
              refine lv_topi (fun x_36 ex_36 => ?_)
              refine lv_isub hx hb dX8_traceTold_186 ?_
              refine lv_topi (fun x_37 ex_37 => ?_)
              refine va_iast hx hb hK hP hD hS 5 0 rfl rfl (iv_in b_18 (by first | decide | omega)) dX8_traceTold_187 (fun H locs hP hD hS => ?_)
              obtain ⟨f_38, hP, hD⟩ : ∃ f_38 : Nat → Int32, va_P V.1 vwCl [(y 33, .inr (7, o7_rii (y 34) py33_1 py33_2)), (y 34, aJ V 40 fy34), (Yw 1, aI V n fYw1), (Yw 2, aI V n fYw2), (Yw 0, .inr (8, o8_iirrriirrrrrrriii pYw0_0 (nI n) (Yw 1) (Yw 2) wa pYw0_5 pYw0_6 (y 19) (Yw 4) (Yw 5) (Yw 6) (Yw 7) (Yw 8) wb pYw0_14 pYw0_15 pYw0_16)), (wa, aI V n f_38), (Yw 6, aI V (n * 4) fYw6)] H ∧ va_D A [(y 33, .inr (7, o7_rii (y 34) py33_1 py33_2)), (y 34, aJ V 40 fy34), (Yw 1, aI V n fYw1), (Yw 2, aI V n fYw2), (Yw 0, .inr (8, o8_iirrriirrrrrrriii pYw0_0 (nI n) (Yw 1) (Yw 2) wa pYw0_5 pYw0_6 (y 19) (Yw 4) (Yw 5) (Yw 6) (Yw 7) (Yw 8) wb pYw0_14 pYw0_15 pYw0_16)), (wa, aI V n f_38), (Yw 6, aI V (n * 4) fYw6)] := ⟨_, hP, hD⟩
              obtain ⟨x_39, ex_39⟩ : ∃ z9 : Int32, z9 = u_13 + 1 := ⟨_, rfl⟩
              have bx_39 : iv 1 ((n : Int)) x_39 := by rw [ex_39]; exact iv_add b_18 (iv_c (1 : Int32) (a := 1) (b := 1) (by first | decide | omega)) (by first | decide | omega)
              refine lv_iinc (v := x_39) (lv' := [(4, .int x_39), (3, .int u_7), (0, .ref (Yw 0)), (1, .ref (y 33)), (2, .int a2)]) hx hb dX8_traceTold_188 hl (k := 0) rfl (by rw [ex_39]; rfl) (by decide) rfl (fun ls hl => ?_)
              refine lv_goto (tgt := 134) hx hb dX8_traceTold_191 (by decide) ?_
              have hP := subP (ws' := [(y 33, .inr (7, o7_rii (y 34) py33_1 py33_2)), (y 34, aJ V 40 fy34), (Yw 1, aI V n fYw1), (Yw 2, aI V n fYw2), (Yw 6, aI V (n * 4) fYw6), (Yw 0, .inr (8, o8_iirrriirrrrrrriii pYw0_0 (nI n) (Yw 1) (Yw 2) wa pYw0_5 pYw0_6 (y 19) (Yw 4) (Yw 5) (Yw 6) (Yw 7) (Yw 8) wb pYw0_14 pYw0_15 pYw0_16)), (wa, aI V n f_38)]) hP [0, 1, 2, 3, 6, 4, 5] rfl
              have hD := subD hP hD [0, 1, 2, 3, 6, 4, 5] rfl rfl
              exact ihn_15 _ _ _ _ (by rw [en_15, ex_39]; exact mu_up b_18 (by first | decide | omega)) ⟨x_39, f_38, (iv_w bx_39 (by first | decide | omega)), rfl, hP, hD, hS, lv_sub hl [0, 1, 2, 3, 4] rfl⟩
  · have b_40 : iv 0 39 u_2 := iv_l1 (Int32.not_le.mp c_5) bu_2 bpy33_1 (by first | decide | omega)
    have b_41 : iv 1 40 py33_1 := iv_l2 (Int32.not_le.mp c_5) bu_2 bpy33_1 (by first | decide | omega)
    refine lv_iconst (v := 0) hx hb dX8_traceTold_14 (by decide) ?_
    refine lv_istore (lv' := [(4, .int 0), (3, .int u_2), (0, .ref (Yw 0)), (1, .ref (y 33)), (2, .int a2)]) hx hb dX8_traceTold_15 hl (by decide) rfl (fun ls hl => ?_)
    refine loopF (X := fun (n_44 : Nat) (H : Heap) (locs : List Loc) (ls : Array Slot) => ∃ (u_42 : Int32) (f_43 : Nat → Int32), (iv 0 2147483647 u_42) ∧ n_44 = (2147483647 - (u_42 : Int32).toInt).toNat ∧ va_P V.1 vwCl [(y 33, .inr (7, o7_rii (y 34) py33_1 py33_2)), (y 34, aJ V 40 fy34), (Yw 1, aI V n fYw1), (Yw 2, aI V n fYw2), (Yw 6, aI V (n * 4) fYw6), (Yw 0, .inr (8, o8_iirrriirrrrrrriii pYw0_0 (nI n) (Yw 1) (Yw 2) wa pYw0_5 pYw0_6 (y 19) (Yw 4) (Yw 5) (Yw 6) (Yw 7) (Yw 8) wb pYw0_14 pYw0_15 pYw0_16)), (wa, aI V n f_43)] H ∧ va_D A [(y 33, .inr (7, o7_rii (y 34) py33_1 py33_2)), (y 34, aJ V 40 fy34), (Yw 1, aI V n fYw1), (Yw 2, aI V n fYw2), (Yw 6, aI V (n * 4) fYw6), (Yw 0, .inr (8, o8_iirrriirrrrrrriii pYw0_0 (nI n) (Yw 1) (Yw 2) wa pYw0_5 pYw0_6 (y 19) (Yw 4) (Yw 5) (Yw 6) (Yw 7) (Yw 8) wb pYw0_14 pYw0_15 pYw0_16)), (wa, aI V n f_43)] ∧ va_S A s.heap H locs ∧ lv_has ls 6 [(4, .int u_42), (3, .int u_2), (0, .ref (Yw 0)), (1, .ref (y 33)), (2, .int a2)]) (g := fun ls => F0 m 17 ls []) (fun n_44 H locs ls hX ihn_44 => ?_) _ ⟨0, f_3, (iv_c (0 : Int32) (by decide)), rfl, hP, hD, hS, lv_sub hl [0, 1, 2, 3, 4] rfl⟩
    obtain ⟨u_42, f_43, bu_42, en_44, hP, hD, hS, hl⟩ := hX
    refine lv_iload hx hb dX8_traceTold_17 (lv_at hl 0 rfl) ?_
    refine lv_aload_n hx hb dX8_traceTold_19 rfl (lv_at hl 2 rfl) ?_
    refine va_get (ci := 8) (v := .int pYw0_16) (C := RX8) (T := TX8) (N := 17) hx hb hg inX8 hown hK hP 5 rfl rfl 16 (by decide) (hg _ q_4_90) (fun _ h9 => h9) rfl dX8_traceTold_20 ?_
    refine lv_icmp_ge (tgt := 114) hx hb dX8_traceTold_23 (by decide) (fun c_45 => ?_) (fun c_45 => ?_)
    · obtain ⟨x_46, ex_46⟩ : ∃ z9 : Int32, z9 = u_2 + 1 := ⟨_, rfl⟩
      have bx_46 : iv 1 40 x_46 := by rw [ex_46]; exact iv_add b_40 (iv_c (1 : Int32) (a := 1) (b := 1) (by first | decide | omega)) (by first | decide | omega)
      refine lv_iinc (v := x_46) (lv' := [(3, .int x_46), (4, .int u_42), (0, .ref (Yw 0)), (1, .ref (y 33)), (2, .int a2)]) hx hb dX8_traceTold_114 hl (k := 1) rfl (by rw [ex_46]; rfl) (by decide) rfl (fun ls hl => ?_)
      refine lv_goto (tgt := 6) hx hb dX8_traceTold_117 (by decide) ?_
      exact ihn_4 _ _ _ _ (by rw [en_4, ex_46]; exact mu_up b_40 (by first | decide | omega)) ⟨x_46, f_43, (iv_w bx_46 (by first | decide | omega)), rfl, hP, hD, hS, lv_sub hl [0, 2, 3, 4] rfl⟩
    · have b_47 : iv 0 ((n : Int) - 1) u_42 := iv_l1 (Int32.not_le.mp c_45) bu_42 bpYw0_16 (by first | decide | omega)
      have b_48 : iv 1 ((n : Int)) pYw0_16 := iv_l2 (Int32.not_le.mp c_45) bu_42 bpYw0_16 (by first | decide | omega)
      refine lv_aload_n hx hb dX8_traceTold_26 rfl (lv_at hl 2 rfl) ?_
      refine va_get (ci := 8) (v := .ref (Yw 2)) (C := RX8) (T := TX8) (N := 17) hx hb hg inX8 hown hK hP 5 rfl rfl 3 (by decide) (hg _ q_4_72) (fun _ h9 => h9) rfl dX8_traceTold_27 ?_
      refine lv_iload hx hb dX8_traceTold_30 (lv_at hl 0 rfl) ?_
      refine va_iald hx hb hK hP 3 0 rfl rfl (iv_in b_47 (by first | decide | omega)) dX8_traceTold_32 ?_
      refine lv_topi (fun x_49 ex_49 => ?_)
      refine lv_iload_n hx hb dX8_traceTold_33 rfl (lv_at hl 1 rfl) ?_
      refine lv_icmp_gt (tgt := 114) hx hb dX8_traceTold_34 (by decide) (fun c_50 => ?_) (fun c_50 => ?_)
      · have b_51 : iv 1 2147483647 x_49 := iv_l2 c_50 b_40 (iv_top x_49) (by first | decide | omega)
        obtain ⟨x_52, ex_52⟩ : ∃ z9 : Int32, z9 = u_2 + 1 := ⟨_, rfl⟩
        have bx_52 : iv 1 40 x_52 := by rw [ex_52]; exact iv_add b_40 (iv_c (1 : Int32) (a := 1) (b := 1) (by first | decide | omega)) (by first | decide | omega)
        refine lv_iinc (v := x_52) (lv' := [(3, .int x_52), (4, .int u_42), (0, .ref (Yw 0)), (1, .ref (y 33)), (2, .int a2)]) hx hb dX8_traceTold_114 hl (k := 1) rfl (by rw [ex_52]; rfl) (by decide) rfl (fun ls hl => ?_)
        refine lv_goto (tgt := 6) hx hb dX8_traceTold_117 (by decide) ?_
        exact ihn_4 _ _ _ _ (by rw [en_4, ex_52]; exact mu_up b_40 (by first | decide | omega)) ⟨x_52, f_43, (iv_w bx_52 (by first | decide | omega)), rfl, hP, hD, hS, lv_sub hl [0, 2, 3, 4] rfl⟩
      · have b_53 : iv (-2147483648) 39 x_49 := iv_e1 (Int32.not_lt.mp c_50) (iv_top x_49) b_40 (by first | decide | omega)
        refine lv_iconst (v := 0) hx hb dX8_traceTold_37 (by decide) ?_
        refine lv_istore (lv' := [(5, .int 0), (4, .int u_42), (3, .int u_2), (0, .ref (Yw 0)), (1, .ref (y 33)), (2, .int a2)]) hx hb dX8_traceTold_38 hl (by decide) rfl (fun ls hl => ?_)
        refine loopF (X := fun (n_56 : Nat) (H : Heap) (locs : List Loc) (ls : Array Slot) => ∃ (u_54 : Int32) (f_55 : Nat → Int32), (iv 0 2147483647 u_54) ∧ n_56 = (2147483647 - (u_54 : Int32).toInt).toNat ∧ va_P V.1 vwCl [(y 33, .inr (7, o7_rii (y 34) py33_1 py33_2)), (y 34, aJ V 40 fy34), (Yw 1, aI V n fYw1), (Yw 2, aI V n fYw2), (Yw 6, aI V (n * 4) fYw6), (Yw 0, .inr (8, o8_iirrriirrrrrrriii pYw0_0 (nI n) (Yw 1) (Yw 2) wa pYw0_5 pYw0_6 (y 19) (Yw 4) (Yw 5) (Yw 6) (Yw 7) (Yw 8) wb pYw0_14 pYw0_15 pYw0_16)), (wa, aI V n f_55)] H ∧ va_D A [(y 33, .inr (7, o7_rii (y 34) py33_1 py33_2)), (y 34, aJ V 40 fy34), (Yw 1, aI V n fYw1), (Yw 2, aI V n fYw2), (Yw 6, aI V (n * 4) fYw6), (Yw 0, .inr (8, o8_iirrriirrrrrrriii pYw0_0 (nI n) (Yw 1) (Yw 2) wa pYw0_5 pYw0_6 (y 19) (Yw 4) (Yw 5) (Yw 6) (Yw 7) (Yw 8) wb pYw0_14 pYw0_15 pYw0_16)), (wa, aI V n f_55)] ∧ va_S A s.heap H locs ∧ lv_has ls 6 [(5, .int u_54), (4, .int u_42), (3, .int u_2), (0, .ref (Yw 0)), (1, .ref (y 33)), (2, .int a2)]) (g := fun ls => F0 m 40 ls []) (fun n_56 H locs ls hX ihn_56 => ?_) _ ⟨0, f_43, (iv_c (0 : Int32) (by decide)), rfl, hP, hD, hS, lv_sub hl [0, 1, 2, 3, 4, 5] rfl⟩
        obtain ⟨u_54, f_55, bu_54, en_56, hP, hD, hS, hl⟩ := hX
        refine lv_iload hx hb dX8_traceTold_40 (lv_at hl 0 rfl) ?_
        refine lv_aload_n hx hb dX8_traceTold_42 rfl (lv_at hl 3 rfl) ?_
        refine va_get (ci := 8) (v := .int pYw0_6) (C := RX8) (T := TX8) (N := 17) hx hb hg inX8 hown hK hP 5 rfl rfl 6 (by decide) (hg _ q_4_80) (fun _ h9 => h9) rfl dX8_traceTold_43 ?_
        refine lv_icmp_ge (tgt := 108) hx hb dX8_traceTold_46 (by decide) (fun c_57 => ?_) (fun c_57 => ?_)
        · obtain ⟨x_58, ex_58⟩ : ∃ z9 : Int32, z9 = u_42 + 1 := ⟨_, rfl⟩
          have bx_58 : iv 1 ((n : Int)) x_58 := by rw [ex_58]; exact iv_add b_47 (iv_c (1 : Int32) (a := 1) (b := 1) (by first | decide | omega)) (by first | decide | omega)
          refine lv_iinc (v := x_58) (lv' := [(4, .int x_58), (5, .int u_54), (3, .int u_2), (0, .ref (Yw 0)), (1, .ref (y 33)), (2, .int a2)]) hx hb dX8_traceTold_108 hl (k := 1) rfl (by rw [ex_58]; rfl) (by decide) rfl (fun ls hl => ?_)
          refine lv_goto (tgt := 17) hx hb dX8_traceTold_111 (by decide) ?_
          exact ihn_44 _ _ _ _ (by rw [en_44, ex_58]; exact mu_up b_47 (by first | decide | omega)) ⟨x_58, f_55, (iv_w bx_58 (by first | decide | omega)), rfl, hP, hD, hS, lv_sub hl [0, 2, 3, 4, 5] rfl⟩
        · have b_59 : iv 0 3 u_54 := iv_l1 (Int32.not_le.mp c_57) bu_54 bpYw0_6 (by first | decide | omega)
          have b_60 : iv 1 4 pYw0_6 := iv_l2 (Int32.not_le.mp c_57) bu_54 bpYw0_6 (by first | decide | omega)
          refine lv_aload_n hx hb dX8_traceTold_49 rfl (lv_at hl 3 rfl) ?_
          refine lv_iload hx hb dX8_traceTold_50 (lv_at hl 1 rfl) ?_
          refine lv_iload_n hx hb dX8_traceTold_52 rfl (lv_at hl 2 rfl) ?_
          refine jnI (wr := [(y 33, .inr (7, o7_rii (y 34) py33_1 py33_2)), (y 34, aJ V 40 fy34), (Yw 1, aI V n fYw1), (Yw 2, aI V n fYw2), (Yw 6, aI V (n * 4) fYw6)]) (rnV (rest := []) ⟨hx, hb, hml, hown, hg⟩ (k_X8_hasBit_0 l V n Yw y u_42 u_2 pYw0_0 wa pYw0_5 pYw0_6 wb pYw0_14 pYw0_15 pYw0_16 f_55 hn b_47 bpYw0_0 bpYw0_5 (iv_w b_60 (by first | decide | omega)) bpYw0_14 bpYw0_15 (iv_w b_48 (by first | decide | omega))) mt_X8_hasBit q_5_43 ⟨Nat.le_of_ble_eq_true rfl, Nat.le_of_ble_eq_true rfl⟩ hK hP hD hS hA hE [5, 6] rfl rfl 5 rfl rfl rfl rfl hl.1 rfl (Nat.le_of_ble_eq_true rfl) dX8_traceTold_53 ⟨Nat.le_of_ble_eq_true rfl, Nat.le_of_ble_eq_true rfl⟩) hP hD hS hA [5, 6] [0, 1, 2, 3, 4] rfl rfl rfl (by decide) (fun r_61 w H locs hw hP hD hS => ?_)
          obtain ⟨br_61, rfl⟩ := hw
          have hP : va_P V.1 vwCl [(y 33, .inr (7, o7_rii (y 34) py33_1 py33_2)), (y 34, aJ V 40 fy34), (Yw 1, aI V n fYw1), (Yw 2, aI V n fYw2), (Yw 6, aI V (n * 4) fYw6), (Yw 0, .inr (8, o8_iirrriirrrrrrriii pYw0_0 (nI n) (Yw 1) (Yw 2) wa pYw0_5 pYw0_6 (y 19) (Yw 4) (Yw 5) (Yw 6) (Yw 7) (Yw 8) wb pYw0_14 pYw0_15 pYw0_16)), (wa, aI V n f_55)] H := hP
          have hD := cpD hP hD
          refine lv_if_eq (tgt := 108) hx hb dX8_traceTold_56 (by decide) (fun c_62 => ?_) (fun c_62 => ?_)
          · have b_63 : iv 0 0 r_61 := iv_q c_62 (iv_c (0 : Int32) (a := 0) (b := 0) (by decide))
            obtain ⟨x_64, ex_64⟩ : ∃ z9 : Int32, z9 = u_42 + 1 := ⟨_, rfl⟩
            have bx_64 : iv 1 ((n : Int)) x_64 := by rw [ex_64]; exact iv_add b_47 (iv_c (1 : Int32) (a := 1) (b := 1) (by first | decide | omega)) (by first | decide | omega)
            refine lv_iinc (v := x_64) (lv' := [(4, .int x_64), (5, .int u_54), (3, .int u_2), (0, .ref (Yw 0)), (1, .ref (y 33)), (2, .int a2)]) hx hb dX8_traceTold_108 hl (k := 1) rfl (by rw [ex_64]; rfl) (by decide) rfl (fun ls hl => ?_)
            refine lv_goto (tgt := 17) hx hb dX8_traceTold_111 (by decide) ?_
            exact ihn_44 _ _ _ _ (by rw [en_44, ex_64]; exact mu_up b_47 (by first | decide | omega)) ⟨x_64, f_55, (iv_w bx_64 (by first | decide | omega)), rfl, hP, hD, hS, lv_sub hl [0, 2, 3, 4, 5] rfl⟩
          · have b_65 : iv 1 1 r_61 := iv_n0 c_62 br_61 (iv_c (0 : Int32) (a := 0) (b := 0) (by decide)) (by first | decide | omega)
            refine lv_aload_n hx hb dX8_traceTold_59 rfl (lv_at hl 3 rfl) ?_
            refine lv_aload_n hx hb dX8_traceTold_60 rfl (lv_at hl 3 rfl) ?_
            refine lv_iload hx hb dX8_traceTold_61 (lv_at hl 1 rfl) ?_
            refine lv_iload hx hb dX8_traceTold_63 (lv_at hl 0 rfl) ?_
            refine jnI (wr := [(y 33, .inr (7, o7_rii (y 34) py33_1 py33_2)), (y 34, aJ V 40 fy34), (Yw 1, aI V n fYw1), (Yw 2, aI V n fYw2), (wa, aI V n f_55)]) (rnV (rest := [.ref (Yw 0)]) ⟨hx, hb, hml, hown, hg⟩ (k_X8_behind_0 l V n Yw y u_42 u_54 pYw0_0 wa pYw0_5 pYw0_6 wb pYw0_14 pYw0_15 pYw0_16 fYw6 hn b_47 b_59 bpYw0_0 bpYw0_5 (iv_w b_60 (by first | decide | omega)) bpYw0_14 bpYw0_15 (iv_w b_48 (by first | decide | omega)) tfYw6) mt_X8_behind q_4_182 ⟨Nat.le_of_ble_eq_true rfl, Nat.le_of_ble_eq_true rfl⟩ hK hP hD hS hA hE [5, 4] rfl rfl 5 rfl rfl rfl rfl hl.1 rfl (Nat.le_of_ble_eq_true rfl) dX8_traceTold_65 ⟨Nat.le_of_ble_eq_true rfl, Nat.le_of_ble_eq_true rfl⟩) hP hD hS hA [5, 4] [0, 1, 2, 3, 6] rfl rfl rfl (by decide) (fun r_66 w H locs hw hP hD hS => ?_)
            obtain ⟨br_66, er_66, rfl⟩ := hw
            have hP : va_P V.1 vwCl [(y 33, .inr (7, o7_rii (y 34) py33_1 py33_2)), (y 34, aJ V 40 fy34), (Yw 1, aI V n fYw1), (Yw 2, aI V n fYw2), (wa, aI V n f_55), (Yw 0, .inr (8, o8_iirrriirrrrrrriii pYw0_0 (nI n) (Yw 1) (Yw 2) wa pYw0_5 pYw0_6 (y 19) (Yw 4) (Yw 5) (Yw 6) (Yw 7) (Yw 8) wb pYw0_14 pYw0_15 pYw0_16)), (Yw 6, aI V (n * 4) fYw6)] H := hP
            have hD := cpD hP hD
            refine lv_iload_n hx hb dX8_traceTold_68 rfl (lv_at hl 5 rfl) ?_
            refine lv_aload_n hx hb dX8_traceTold_69 rfl (lv_at hl 4 rfl) ?_
            refine va_get (ci := 7) (v := .ref (y 34)) (C := RX7) (T := TX7) (N := 3) hx hb hg inX7 hown hK hP 0 rfl rfl 0 (by decide) (hg _ q_1_238) (fun _ h9 => h9) rfl dX8_traceTold_70 ?_
            refine lv_iload_n hx hb dX8_traceTold_73 rfl (lv_at hl 2 rfl) ?_
            refine va_lald hx hb hK hP 1 2 rfl rfl (iv_in b_40 (by first | decide | omega)) dX8_traceTold_74 ?_
            refine lv_topl (fun j_67 ej_67 => ?_)
            refine jnI (wr := [(y 33, .inr (7, o7_rii (y 34) py33_1 py33_2)), (y 34, aJ V 40 fy34), (Yw 2, aI V n fYw2), (wa, aI V n f_55), (Yw 6, aI V (n * 4) fYw6)]) (rnV (rest := []) ⟨hx, hb, hml, hown, hg⟩ (k_X8_isAsTold_0 l V n L Yw y r_66 a2 j_67 pYw0_0 wa pYw0_5 pYw0_6 wb pYw0_14 pYw0_15 pYw0_16 fYw1 hn hL br_66 ba2 bpYw0_0 bpYw0_5 (iv_w b_60 (by first | decide | omega)) bpYw0_14 bpYw0_15 (iv_w b_48 (by first | decide | omega)) tfYw1) mt_X8_isAsTold q_5_30 ⟨Nat.le_of_ble_eq_true rfl, Nat.le_of_ble_eq_true rfl⟩ hK hP hD hS hA hE [5, 2] rfl rfl 5 rfl rfl rfl rfl hl.1 rfl (Nat.le_of_ble_eq_true rfl) dX8_traceTold_75 ⟨Nat.le_of_ble_eq_true rfl, Nat.le_of_ble_eq_true rfl⟩) hP hD hS hA [5, 2] [0, 1, 3, 4, 6] rfl rfl rfl (by decide) (fun r_68 w H locs hw hP hD hS => ?_)
            obtain ⟨br_68, rfl⟩ := hw
            have hP : va_P V.1 vwCl [(y 33, .inr (7, o7_rii (y 34) py33_1 py33_2)), (y 34, aJ V 40 fy34), (Yw 2, aI V n fYw2), (wa, aI V n f_55), (Yw 6, aI V (n * 4) fYw6), (Yw 0, .inr (8, o8_iirrriirrrrrrriii pYw0_0 (nI n) (Yw 1) (Yw 2) wa pYw0_5 pYw0_6 (y 19) (Yw 4) (Yw 5) (Yw 6) (Yw 7) (Yw 8) wb pYw0_14 pYw0_15 pYw0_16)), (Yw 1, aI V n fYw1)] H := hP
            have hD := cpD hP hD
            refine lv_if_eq (tgt := 102) hx hb dX8_traceTold_78 (by decide) (fun c_69 => ?_) (fun c_69 => ?_)
            · have b_70 : iv 0 0 r_68 := iv_q c_69 (iv_c (0 : Int32) (a := 0) (b := 0) (by decide))
              obtain ⟨x_71, ex_71⟩ : ∃ z9 : Int32, z9 = u_54 + 1 := ⟨_, rfl⟩
              have bx_71 : iv 1 4 x_71 := by rw [ex_71]; exact iv_add b_59 (iv_c (1 : Int32) (a := 1) (b := 1) (by first | decide | omega)) (by first | decide | omega)
              refine lv_iinc (v := x_71) (lv' := [(5, .int x_71), (4, .int u_42), (3, .int u_2), (0, .ref (Yw 0)), (1, .ref (y 33)), (2, .int a2)]) hx hb dX8_traceTold_102 hl (k := 0) rfl (by rw [ex_71]; rfl) (by decide) rfl (fun ls hl => ?_)
              refine lv_goto (tgt := 40) hx hb dX8_traceTold_105 (by decide) ?_
              have hP := subP (ws' := [(y 33, .inr (7, o7_rii (y 34) py33_1 py33_2)), (y 34, aJ V 40 fy34), (Yw 1, aI V n fYw1), (Yw 2, aI V n fYw2), (Yw 6, aI V (n * 4) fYw6), (Yw 0, .inr (8, o8_iirrriirrrrrrriii pYw0_0 (nI n) (Yw 1) (Yw 2) wa pYw0_5 pYw0_6 (y 19) (Yw 4) (Yw 5) (Yw 6) (Yw 7) (Yw 8) wb pYw0_14 pYw0_15 pYw0_16)), (wa, aI V n f_55)]) hP [0, 1, 6, 2, 4, 5, 3] rfl
              have hD := subD hP hD [0, 1, 6, 2, 4, 5, 3] rfl rfl
              exact ihn_56 _ _ _ _ (by rw [en_56, ex_71]; exact mu_up b_59 (by first | decide | omega)) ⟨x_71, f_55, (iv_w bx_71 (by first | decide | omega)), rfl, hP, hD, hS, lv_sub hl [0, 1, 2, 3, 4, 5] rfl⟩
            · have b_72 : iv 1 1 r_68 := iv_n0 c_69 br_68 (iv_c (0 : Int32) (a := 0) (b := 0) (by decide)) (by first | decide | omega)
              refine lv_aload_n hx hb dX8_traceTold_81 rfl (lv_at hl 3 rfl) ?_
              refine va_get (ci := 8) (v := .ref wa) (C := RX8) (T := TX8) (N := 17) hx hb hg inX8 hown hK hP 5 rfl rfl 4 (by decide) (hg _ q_4_74) (fun _ h9 => h9) rfl dX8_traceTold_82 ?_
              refine lv_aload_n hx hb dX8_traceTold_85 rfl (lv_at hl 3 rfl) ?_
              refine lv_iload hx hb dX8_traceTold_86 (lv_at hl 1 rfl) ?_
              refine lv_iload hx hb dX8_traceTold_88 (lv_at hl 0 rfl) ?_
              refine jnI (wr := [(y 33, .inr (7, o7_rii (y 34) py33_1 py33_2)), (y 34, aJ V 40 fy34), (Yw 2, aI V n fYw2), (wa, aI V n f_55), (Yw 1, aI V n fYw1)]) (rnV (rest := [.ref wa]) ⟨hx, hb, hml, hown, hg⟩ (k_X8_behind_0 l V n Yw y u_42 u_54 pYw0_0 wa pYw0_5 pYw0_6 wb pYw0_14 pYw0_15 pYw0_16 fYw6 hn b_47 b_59 bpYw0_0 bpYw0_5 (iv_w b_60 (by first | decide | omega)) bpYw0_14 bpYw0_15 (iv_w b_48 (by first | decide | omega)) tfYw6) mt_X8_behind q_4_182 ⟨Nat.le_of_ble_eq_true rfl, Nat.le_of_ble_eq_true rfl⟩ hK hP hD hS hA hE [5, 4] rfl rfl 5 rfl rfl rfl rfl hl.1 rfl (Nat.le_of_ble_eq_true rfl) dX8_traceTold_90 ⟨Nat.le_of_ble_eq_true rfl, Nat.le_of_ble_eq_true rfl⟩) hP hD hS hA [5, 4] [0, 1, 2, 3, 6] rfl rfl rfl (by decide) (fun r_73 w H locs hw hP hD hS => ?_)
              obtain ⟨br_73, er_73, rfl⟩ := hw
              have e9_r_73 : r_73 = r_66 := er_73.trans er_66.symm
              rw [e9_r_73]
              have hP : va_P V.1 vwCl [(y 33, .inr (7, o7_rii (y 34) py33_1 py33_2)), (y 34, aJ V 40 fy34), (Yw 2, aI V n fYw2), (wa, aI V n f_55), (Yw 1, aI V n fYw1), (Yw 0, .inr (8, o8_iirrriirrrrrrriii pYw0_0 (nI n) (Yw 1) (Yw 2) wa pYw0_5 pYw0_6 (y 19) (Yw 4) (Yw 5) (Yw 6) (Yw 7) (Yw 8) wb pYw0_14 pYw0_15 pYw0_16)), (Yw 6, aI V (n * 4) fYw6)] H := hP
              have hD := cpD hP hD
              refine lv_dup2_11 hx hb dX8_traceTold_93 rfl rfl ?_
              refine va_iald hx hb hK hP 3 0 rfl rfl (iv_in br_66 (by first | decide | omega)) dX8_traceTold_94 ?_
              refine lv_topi (fun x_74 ex_74 => ?_)
              refine lv_iconst (v := 1) hx hb dX8_traceTold_95 (by decide) ?_
              refine lv_iload_n hx hb dX8_traceTold_96 rfl (lv_at hl 2 rfl) ?_
              refine lv_iconst (v := 1) hx hb dX8_traceTold_97 (by decide) ?_
              refine lv_iadd hx hb dX8_traceTold_98 ?_
              refine lv_topi (fun x_75 ex_75 => ?_)
              have bx_75 : iv 1 40 x_75 := by rw [ex_75]; exact iv_add b_40 (iv_c (1 : Int32) (a := 1) (b := 1) (by decide)) (by first | decide | omega)
              refine lv_ishl hx hb dX8_traceTold_99 ?_
              refine lv_topi (fun x_76 ex_76 => ?_)
              refine lv_ior hx hb dX8_traceTold_100 ?_
              refine lv_topi (fun x_77 ex_77 => ?_)
              refine va_iast hx hb hK hP hD hS 3 0 rfl rfl (iv_in br_66 (by first | decide | omega)) dX8_traceTold_101 (fun H locs hP hD hS => ?_)
              obtain ⟨f_78, hP, hD⟩ : ∃ f_78 : Nat → Int32, va_P V.1 vwCl [(y 33, .inr (7, o7_rii (y 34) py33_1 py33_2)), (y 34, aJ V 40 fy34), (Yw 2, aI V n fYw2), (wa, aI V n f_78), (Yw 1, aI V n fYw1), (Yw 0, .inr (8, o8_iirrriirrrrrrriii pYw0_0 (nI n) (Yw 1) (Yw 2) wa pYw0_5 pYw0_6 (y 19) (Yw 4) (Yw 5) (Yw 6) (Yw 7) (Yw 8) wb pYw0_14 pYw0_15 pYw0_16)), (Yw 6, aI V (n * 4) fYw6)] H ∧ va_D A [(y 33, .inr (7, o7_rii (y 34) py33_1 py33_2)), (y 34, aJ V 40 fy34), (Yw 2, aI V n fYw2), (wa, aI V n f_78), (Yw 1, aI V n fYw1), (Yw 0, .inr (8, o8_iirrriirrrrrrriii pYw0_0 (nI n) (Yw 1) (Yw 2) wa pYw0_5 pYw0_6 (y 19) (Yw 4) (Yw 5) (Yw 6) (Yw 7) (Yw 8) wb pYw0_14 pYw0_15 pYw0_16)), (Yw 6, aI V (n * 4) fYw6)] := ⟨_, hP, hD⟩
              obtain ⟨x_79, ex_79⟩ : ∃ z9 : Int32, z9 = u_54 + 1 := ⟨_, rfl⟩
              have bx_79 : iv 1 4 x_79 := by rw [ex_79]; exact iv_add b_59 (iv_c (1 : Int32) (a := 1) (b := 1) (by first | decide | omega)) (by first | decide | omega)
              refine lv_iinc (v := x_79) (lv' := [(5, .int x_79), (4, .int u_42), (3, .int u_2), (0, .ref (Yw 0)), (1, .ref (y 33)), (2, .int a2)]) hx hb dX8_traceTold_102 hl (k := 0) rfl (by rw [ex_79]; rfl) (by decide) rfl (fun ls hl => ?_)
              refine lv_goto (tgt := 40) hx hb dX8_traceTold_105 (by decide) ?_
              have hP := subP (ws' := [(y 33, .inr (7, o7_rii (y 34) py33_1 py33_2)), (y 34, aJ V 40 fy34), (Yw 1, aI V n fYw1), (Yw 2, aI V n fYw2), (Yw 6, aI V (n * 4) fYw6), (Yw 0, .inr (8, o8_iirrriirrrrrrriii pYw0_0 (nI n) (Yw 1) (Yw 2) wa pYw0_5 pYw0_6 (y 19) (Yw 4) (Yw 5) (Yw 6) (Yw 7) (Yw 8) wb pYw0_14 pYw0_15 pYw0_16)), (wa, aI V n f_78)]) hP [0, 1, 4, 2, 6, 5, 3] rfl
              have hD := subD hP hD [0, 1, 4, 2, 6, 5, 3] rfl rfl
              exact ihn_56 _ _ _ _ (by rw [en_56, ex_79]; exact mu_up b_59 (by first | decide | omega)) ⟨x_79, f_78, (iv_w bx_79 (by first | decide | omega)), rfl, hP, hD, hS, lv_sub hl [0, 1, 2, 3, 4, 5] rfl⟩
theorem dX8_firstTraced_0 : decode cX8_firstTraced 0 = .ok (.iconst 0, 1) := by decide +kernel
theorem dX8_firstTraced_1 : decode cX8_firstTraced 1 = .ok (.istore_n 2, 1) := by decide +kernel
theorem dX8_firstTraced_2 : decode cX8_firstTraced 2 = .ok (.iconst (-1), 1) := by decide +kernel
theorem dX8_firstTraced_3 : decode cX8_firstTraced 3 = .ok (.istore_n 3, 1) := by decide +kernel
theorem dX8_firstTraced_4 : decode cX8_firstTraced 4 = .ok (.iconst 0, 1) := by decide +kernel
theorem dX8_firstTraced_5 : decode cX8_firstTraced 5 = .ok (.istore 4, 2) := by decide +kernel
theorem dX8_firstTraced_7 : decode cX8_firstTraced 7 = .ok (.iload 4, 2) := by decide +kernel
theorem dX8_firstTraced_9 : decode cX8_firstTraced 9 = .ok (.iload_n 1, 1) := by decide +kernel
theorem dX8_firstTraced_10 : decode cX8_firstTraced 10 = .ok (.if_icmp .gt 45, 3) := by decide +kernel
theorem dX8_firstTraced_55 : decode cX8_firstTraced 55 = .ok (.iload_n 3, 1) := by decide +kernel
theorem dX8_firstTraced_56 : decode cX8_firstTraced 56 = .ok (.ireturn, 1) := by decide +kernel
theorem dX8_firstTraced_13 : decode cX8_firstTraced 13 = .ok (.aload_n 0, 1) := by decide +kernel
theorem dX8_firstTraced_14 : decode cX8_firstTraced 14 = .ok (.iload_n 2, 1) := by decide +kernel
theorem dX8_firstTraced_15 : decode cX8_firstTraced 15 = .ok (.iload 4, 2) := by decide +kernel
theorem dX8_firstTraced_17 : decode cX8_firstTraced 17 = .ok (.invokevirtual 129, 3) := by decide +kernel
theorem dX8_firstTraced_20 : decode cX8_firstTraced 20 = .ok (.ifCond .eq 13, 3) := by decide +kernel
theorem dX8_firstTraced_33 : decode cX8_firstTraced 33 = .ok (.iconst (-1), 1) := by decide +kernel
theorem dX8_firstTraced_34 : decode cX8_firstTraced 34 = .ok (.istore_n 3, 1) := by decide +kernel
theorem dX8_firstTraced_35 : decode cX8_firstTraced 35 = .ok (.iload_n 3, 1) := by decide +kernel
theorem dX8_firstTraced_36 : decode cX8_firstTraced 36 = .ok (.iconst (-1), 1) := by decide +kernel
theorem dX8_firstTraced_37 : decode cX8_firstTraced 37 = .ok (.if_icmp .ne 5, 3) := by decide +kernel
theorem dX8_firstTraced_40 : decode cX8_firstTraced 40 = .ok (.iconst (-1), 1) := by decide +kernel
theorem dX8_firstTraced_41 : decode cX8_firstTraced 41 = .ok (.ireturn, 1) := by decide +kernel
theorem dX8_firstTraced_23 : decode cX8_firstTraced 23 = .ok (.aload_n 0, 1) := by decide +kernel
theorem dX8_firstTraced_24 : decode cX8_firstTraced 24 = .ok (.iload_n 2, 1) := by decide +kernel
theorem dX8_firstTraced_25 : decode cX8_firstTraced 25 = .ok (.iload 4, 2) := by decide +kernel
theorem dX8_firstTraced_27 : decode cX8_firstTraced 27 = .ok (.invokevirtual 133, 3) := by decide +kernel
theorem dX8_firstTraced_30 : decode cX8_firstTraced 30 = .ok (.goto 4, 3) := by decide +kernel
theorem dX8_firstTraced_42 : decode cX8_firstTraced 42 = .ok (.aload_n 0, 1) := by decide +kernel
theorem dX8_firstTraced_43 : decode cX8_firstTraced 43 = .ok (.iload_n 2, 1) := by decide +kernel
theorem dX8_firstTraced_44 : decode cX8_firstTraced 44 = .ok (.iload_n 3, 1) := by decide +kernel
theorem dX8_firstTraced_45 : decode cX8_firstTraced 45 = .ok (.invokevirtual 124, 3) := by decide +kernel
theorem dX8_firstTraced_48 : decode cX8_firstTraced 48 = .ok (.istore_n 2, 1) := by decide +kernel
theorem dX8_firstTraced_49 : decode cX8_firstTraced 49 = .ok (.iinc 4 1, 3) := by decide +kernel
theorem dX8_firstTraced_52 : decode cX8_firstTraced 52 = .ok (.goto (-45), 3) := by decide +kernel
set_option maxHeartbeats 4000000 in
set_option maxRecDepth 100000 in
theorem k_X8_firstTraced_0 (l : Launch) (V : GV) (n : Nat) (Yw : Nat → Nat) (y : Nat → Nat) (a1 : Int32) (pYw0_0 : Int32) (wa : Nat) (pYw0_5 : Int32) (pYw0_6 : Int32) (wb : Nat) (pYw0_14 : Int32) (pYw0_15 : Int32) (pYw0_16 : Int32) (fwa : Nat → Int32) (fYw6 : Nat → Int32) (hn : 1 ≤ n ∧ n ≤ 3646) (ba1 : iv 0 39 a1) (bpYw0_0 : iv 0 4 pYw0_0) (bpYw0_5 : iv 0 ((n : Int)) pYw0_5) (bpYw0_6 : iv 0 4 pYw0_6) (bpYw0_14 : iv 0 4 pYw0_14) (bpYw0_15 : iv 0 9 pYw0_15) (bpYw0_16 : iv 0 ((n : Int)) pYw0_16) (tfYw6 : ∀ j, iv 0 ((n : Int) - 1) (fYw6 j)) : Ct l V yX8_firstTraced (.code yX8_firstTraced cX8_firstTraced 5 (some .int)) 3 [.ref (Yw 0), .int a1] [(Yw 0, .inr (8, o8_iirrriirrrrrrriii pYw0_0 (nI n) (Yw 1) (Yw 2) wa pYw0_5 pYw0_6 (y 19) (Yw 4) (Yw 5) (Yw 6) (Yw 7) (Yw 8) wb pYw0_14 pYw0_15 pYw0_16)), (wa, aI V n fwa), (Yw 6, aI V (n * 4) fYw6)] 0 0 (QI V (fun (r : Int32) (w : va_W) => iv (-1) 3 r ∧ w = [(Yw 0, .inr (8, o8_iirrriirrrrrrriii pYw0_0 (nI n) (Yw 1) (Yw 2) wa pYw0_5 pYw0_6 (y 19) (Yw 4) (Yw 5) (Yw 6) (Yw 7) (Yw 8) wb pYw0_14 pYw0_15 pYw0_16)), (wa, aI V n fwa), (Yw 6, aI V (n * 4) fYw6)])) := by
  refine Ct.of (by decide) (Nat.le_of_ble_eq_true rfl) (fun p e s m below meth c A ls hx hb hr hml hown hlk hnm hg hP hK hD hE hA hS hl => ?_)
  have hl : lv_has ls 5 [(0, .ref (Yw 0)), (1, .int a1)] := hl
  refine lv_iconst (v := 0) hx hb dX8_firstTraced_0 (by decide) ?_
  refine lv_istore_n (lv' := [(2, .int 0), (0, .ref (Yw 0)), (1, .int a1)]) hx hb dX8_firstTraced_1 rfl hl (by decide) rfl (fun ls hl => ?_)
  refine lv_iconst (v := (-1)) hx hb dX8_firstTraced_2 (by decide) ?_
  refine lv_istore_n (lv' := [(3, .int (-1)), (2, .int 0), (0, .ref (Yw 0)), (1, .int a1)]) hx hb dX8_firstTraced_3 rfl hl (by decide) rfl (fun ls hl => ?_)
  refine lv_iconst (v := 0) hx hb dX8_firstTraced_4 (by decide) ?_
  refine lv_istore (lv' := [(4, .int 0), (3, .int (-1)), (2, .int 0), (0, .ref (Yw 0)), (1, .int a1)]) hx hb dX8_firstTraced_5 hl (by decide) rfl (fun ls hl => ?_)
  refine loopF (X := fun (n_4 : Nat) (H : Heap) (locs : List Loc) (ls : Array Slot) => ∃ (u_1 : Int32) (u_2 : Int32) (u_3 : Int32), (iv 0 2147483647 u_1) ∧ (iv (-1) 3 u_2) ∧ (iv 0 ((n : Int) - 1) u_3) ∧ n_4 = (2147483647 - (u_1 : Int32).toInt).toNat ∧ va_P V.1 vwCl [(Yw 0, .inr (8, o8_iirrriirrrrrrriii pYw0_0 (nI n) (Yw 1) (Yw 2) wa pYw0_5 pYw0_6 (y 19) (Yw 4) (Yw 5) (Yw 6) (Yw 7) (Yw 8) wb pYw0_14 pYw0_15 pYw0_16)), (wa, aI V n fwa), (Yw 6, aI V (n * 4) fYw6)] H ∧ va_D A [(Yw 0, .inr (8, o8_iirrriirrrrrrriii pYw0_0 (nI n) (Yw 1) (Yw 2) wa pYw0_5 pYw0_6 (y 19) (Yw 4) (Yw 5) (Yw 6) (Yw 7) (Yw 8) wb pYw0_14 pYw0_15 pYw0_16)), (wa, aI V n fwa), (Yw 6, aI V (n * 4) fYw6)] ∧ va_S A s.heap H locs ∧ lv_has ls 5 [(4, .int u_1), (3, .int u_2), (2, .int u_3), (0, .ref (Yw 0)), (1, .int a1)]) (g := fun ls => F0 m 7 ls []) (fun n_4 H locs ls hX ihn_4 => ?_) _ ⟨0, (-1), 0, (iv_c (0 : Int32) (by decide)), (iv_c ((-1) : Int32) (by decide)), (iv_w (iv_c (0 : Int32) (a := 0) (b := 0) (by decide)) (by first | decide | omega)), rfl, hP, hD, hS, lv_sub hl [0, 1, 2, 3, 4] rfl⟩
  obtain ⟨u_1, u_2, u_3, bu_1, bu_2, bu_3, en_4, hP, hD, hS, hl⟩ := hX
  refine lv_iload hx hb dX8_firstTraced_7 (lv_at hl 0 rfl) ?_
  refine lv_iload_n hx hb dX8_firstTraced_9 rfl (lv_at hl 4 rfl) ?_
  refine lv_icmp_gt (tgt := 55) hx hb dX8_firstTraced_10 (by decide) (fun c_5 => ?_) (fun c_5 => ?_)
  · have b_6 : iv 1 2147483647 u_1 := iv_l2 c_5 ba1 bu_1 (by first | decide | omega)
    refine lv_iload_n hx hb dX8_firstTraced_55 rfl (lv_at hl 1 rfl) ?_
    exact fiI hx hb hr hlk hK hP hD hS dX8_firstTraced_56 (Nat.le_of_ble_eq_true rfl) (Nat.le_of_ble_eq_true rfl) (⟨bu_2, rfl⟩)
  · have b_7 : iv 0 39 u_1 := iv_e1 (Int32.not_lt.mp c_5) bu_1 ba1 (by first | decide | omega)
    refine lv_aload_n hx hb dX8_firstTraced_13 rfl (lv_at hl 3 rfl) ?_
    refine lv_iload_n hx hb dX8_firstTraced_14 rfl (lv_at hl 2 rfl) ?_
    refine lv_iload hx hb dX8_firstTraced_15 (lv_at hl 0 rfl) ?_
    refine jnI (wr := [(Yw 6, aI V (n * 4) fYw6)]) (rnV (rest := []) ⟨hx, hb, hml, hown, hg⟩ (k_X8_hasBit_0 l V n Yw y u_3 u_1 pYw0_0 wa pYw0_5 pYw0_6 wb pYw0_14 pYw0_15 pYw0_16 fwa hn bu_3 bpYw0_0 bpYw0_5 bpYw0_6 bpYw0_14 bpYw0_15 bpYw0_16) mt_X8_hasBit q_5_43 ⟨Nat.le_of_ble_eq_true rfl, Nat.le_of_ble_eq_true rfl⟩ hK hP hD hS hA hE [0, 1] rfl rfl 0 rfl rfl rfl rfl hl.1 rfl (Nat.le_of_ble_eq_true rfl) dX8_firstTraced_17 ⟨Nat.le_of_ble_eq_true rfl, Nat.le_of_ble_eq_true rfl⟩) hP hD hS hA [0, 1] [2] rfl rfl rfl (by decide) (fun r_8 w H locs hw hP hD hS => ?_)
    obtain ⟨br_8, rfl⟩ := hw
    have hP : va_P V.1 vwCl [(Yw 6, aI V (n * 4) fYw6), (Yw 0, .inr (8, o8_iirrriirrrrrrriii pYw0_0 (nI n) (Yw 1) (Yw 2) wa pYw0_5 pYw0_6 (y 19) (Yw 4) (Yw 5) (Yw 6) (Yw 7) (Yw 8) wb pYw0_14 pYw0_15 pYw0_16)), (wa, aI V n fwa)] H := hP
    have hD := cpD hP hD
    refine lv_if_eq (tgt := 33) hx hb dX8_firstTraced_20 (by decide) (fun c_9 => ?_) (fun c_9 => ?_)
    · have b_10 : iv 0 0 r_8 := iv_q c_9 (iv_c (0 : Int32) (a := 0) (b := 0) (by decide))
      refine lv_iconst (v := (-1)) hx hb dX8_firstTraced_33 (by decide) ?_
      refine lv_istore_n (lv' := [(3, .int (-1)), (4, .int u_1), (2, .int u_3), (0, .ref (Yw 0)), (1, .int a1)]) hx hb dX8_firstTraced_34 rfl hl (by decide) rfl (fun ls hl => ?_)
      refine lv_iload_n hx hb dX8_firstTraced_35 rfl (lv_at hl 0 rfl) ?_
      refine lv_iconst (v := (-1)) hx hb dX8_firstTraced_36 (by decide) ?_
      refine lv_icmp_ne (tgt := 42) hx hb dX8_firstTraced_37 (by decide) (fun c_12 => absurd c_12 (by decide)) (fun _ => ?_)
      refine lv_iconst (v := (-1)) hx hb dX8_firstTraced_40 (by decide) ?_
      have hP := subP (ws' := [(Yw 0, .inr (8, o8_iirrriirrrrrrriii pYw0_0 (nI n) (Yw 1) (Yw 2) wa pYw0_5 pYw0_6 (y 19) (Yw 4) (Yw 5) (Yw 6) (Yw 7) (Yw 8) wb pYw0_14 pYw0_15 pYw0_16)), (wa, aI V n fwa), (Yw 6, aI V (n * 4) fYw6)]) hP [1, 2, 0] rfl
      have hD := subD hP hD [1, 2, 0] rfl rfl
      exact fiI hx hb hr hlk hK hP hD hS dX8_firstTraced_41 (Nat.le_of_ble_eq_true rfl) (Nat.le_of_ble_eq_true rfl) (⟨(iv_c ((-1) : Int32) (by decide)), rfl⟩)
    · have b_13 : iv 1 1 r_8 := iv_n0 c_9 br_8 (iv_c (0 : Int32) (a := 0) (b := 0) (by decide)) (by first | decide | omega)
      refine lv_aload_n hx hb dX8_firstTraced_23 rfl (lv_at hl 3 rfl) ?_
      refine lv_iload_n hx hb dX8_firstTraced_24 rfl (lv_at hl 2 rfl) ?_
      refine lv_iload hx hb dX8_firstTraced_25 (lv_at hl 0 rfl) ?_
      refine jnI (wr := []) (rnV (rest := []) ⟨hx, hb, hml, hown, hg⟩ (k_X8_firstDeedOn_0 l V n Yw y u_3 u_1 pYw0_0 wa pYw0_5 pYw0_6 wb pYw0_14 pYw0_15 pYw0_16 fwa fYw6 hn bu_3 bpYw0_0 bpYw0_5 bpYw0_6 bpYw0_14 bpYw0_15 bpYw0_16 tfYw6) mt_X8_firstDeedOn q_5_47 ⟨Nat.le_of_ble_eq_true rfl, Nat.le_of_ble_eq_true rfl⟩ hK hP hD hS hA hE [1, 2, 0] rfl rfl 1 rfl rfl rfl rfl hl.1 rfl (Nat.le_of_ble_eq_true rfl) dX8_firstTraced_27 ⟨Nat.le_of_ble_eq_true rfl, Nat.le_of_ble_eq_true rfl⟩) hP hD hS hA [1, 2, 0] [] rfl rfl rfl (by decide) (fun r_14 w H locs hw hP hD hS => ?_)
      obtain ⟨br_14, rfl⟩ := hw
      have hP : va_P V.1 vwCl [(Yw 0, .inr (8, o8_iirrriirrrrrrriii pYw0_0 (nI n) (Yw 1) (Yw 2) wa pYw0_5 pYw0_6 (y 19) (Yw 4) (Yw 5) (Yw 6) (Yw 7) (Yw 8) wb pYw0_14 pYw0_15 pYw0_16)), (wa, aI V n fwa), (Yw 6, aI V (n * 4) fYw6)] H := hP
      have hD := cpD hP hD
      refine lv_goto (tgt := 34) hx hb dX8_firstTraced_30 (by decide) ?_
      refine lv_istore_n (lv' := [(3, .int r_14), (4, .int u_1), (2, .int u_3), (0, .ref (Yw 0)), (1, .int a1)]) hx hb dX8_firstTraced_34 rfl hl (by decide) rfl (fun ls hl => ?_)
      refine lv_iload_n hx hb dX8_firstTraced_35 rfl (lv_at hl 0 rfl) ?_
      refine lv_iconst (v := (-1)) hx hb dX8_firstTraced_36 (by decide) ?_
      refine lv_icmp_ne (tgt := 42) hx hb dX8_firstTraced_37 (by decide) (fun c_15 => ?_) (fun c_15 => ?_)
      · have b_16 : iv 0 3 r_14 := iv_n0 c_15 br_14 (iv_c ((-1) : Int32) (a := (-1)) (b := (-1)) (by decide)) (by first | decide | omega)
        refine lv_aload_n hx hb dX8_firstTraced_42 rfl (lv_at hl 3 rfl) ?_
        refine lv_iload_n hx hb dX8_firstTraced_43 rfl (lv_at hl 2 rfl) ?_
        refine lv_iload_n hx hb dX8_firstTraced_44 rfl (lv_at hl 0 rfl) ?_
        refine jnI (wr := [(wa, aI V n fwa)]) (rnV (rest := []) ⟨hx, hb, hml, hown, hg⟩ (k_X8_behind_0 l V n Yw y u_3 r_14 pYw0_0 wa pYw0_5 pYw0_6 wb pYw0_14 pYw0_15 pYw0_16 fYw6 hn bu_3 b_16 bpYw0_0 bpYw0_5 bpYw0_6 bpYw0_14 bpYw0_15 bpYw0_16 tfYw6) mt_X8_behind q_4_182 ⟨Nat.le_of_ble_eq_true rfl, Nat.le_of_ble_eq_true rfl⟩ hK hP hD hS hA hE [0, 2] rfl rfl 0 rfl rfl rfl rfl hl.1 rfl (Nat.le_of_ble_eq_true rfl) dX8_firstTraced_45 ⟨Nat.le_of_ble_eq_true rfl, Nat.le_of_ble_eq_true rfl⟩) hP hD hS hA [0, 2] [1] rfl rfl rfl (by decide) (fun r_17 w H locs hw hP hD hS => ?_)
        obtain ⟨br_17, er_17, rfl⟩ := hw
        have hP : va_P V.1 vwCl [(wa, aI V n fwa), (Yw 0, .inr (8, o8_iirrriirrrrrrriii pYw0_0 (nI n) (Yw 1) (Yw 2) wa pYw0_5 pYw0_6 (y 19) (Yw 4) (Yw 5) (Yw 6) (Yw 7) (Yw 8) wb pYw0_14 pYw0_15 pYw0_16)), (Yw 6, aI V (n * 4) fYw6)] H := hP
        have hD := cpD hP hD
        refine lv_istore_n (lv' := [(2, .int r_17), (3, .int r_14), (4, .int u_1), (0, .ref (Yw 0)), (1, .int a1)]) hx hb dX8_firstTraced_48 rfl hl (by decide) rfl (fun ls hl => ?_)
        obtain ⟨x_18, ex_18⟩ : ∃ z9 : Int32, z9 = u_1 + 1 := ⟨_, rfl⟩
        have bx_18 : iv 1 40 x_18 := by rw [ex_18]; exact iv_add b_7 (iv_c (1 : Int32) (a := 1) (b := 1) (by first | decide | omega)) (by first | decide | omega)
        refine lv_iinc (v := x_18) (lv' := [(4, .int x_18), (2, .int r_17), (3, .int r_14), (0, .ref (Yw 0)), (1, .int a1)]) hx hb dX8_firstTraced_49 hl (k := 2) rfl (by rw [ex_18]; rfl) (by decide) rfl (fun ls hl => ?_)
        refine lv_goto (tgt := 7) hx hb dX8_firstTraced_52 (by decide) ?_
        have hP := subP (ws' := [(Yw 0, .inr (8, o8_iirrriirrrrrrriii pYw0_0 (nI n) (Yw 1) (Yw 2) wa pYw0_5 pYw0_6 (y 19) (Yw 4) (Yw 5) (Yw 6) (Yw 7) (Yw 8) wb pYw0_14 pYw0_15 pYw0_16)), (wa, aI V n fwa), (Yw 6, aI V (n * 4) fYw6)]) hP [1, 0, 2] rfl
        have hD := subD hP hD [1, 0, 2] rfl rfl
        exact ihn_4 _ _ _ _ (by rw [en_4, ex_18]; exact mu_up b_7 (by first | decide | omega)) ⟨x_18, r_14, r_17, (iv_w bx_18 (by first | decide | omega)), (iv_w b_16 (by first | decide | omega)), br_17, rfl, hP, hD, hS, lv_sub hl [0, 2, 1, 3, 4] rfl⟩
      · have b_19 : iv (-1) (-1) r_14 := iv_q c_15 (iv_c ((-1) : Int32) (a := (-1)) (b := (-1)) (by decide))
        refine lv_iconst (v := (-1)) hx hb dX8_firstTraced_40 (by decide) ?_
        exact fiI hx hb hr hlk hK hP hD hS dX8_firstTraced_41 (Nat.le_of_ble_eq_true rfl) (Nat.le_of_ble_eq_true rfl) (⟨(iv_c ((-1) : Int32) (by decide)), rfl⟩)
theorem dX8_allTraced_0 : decode cX8_allTraced 0 = .ok (.iconst 0, 1) := by decide +kernel
theorem dX8_allTraced_1 : decode cX8_allTraced 1 = .ok (.istore_n 2, 1) := by decide +kernel
theorem dX8_allTraced_2 : decode cX8_allTraced 2 = .ok (.iconst 0, 1) := by decide +kernel
theorem dX8_allTraced_3 : decode cX8_allTraced 3 = .ok (.istore_n 3, 1) := by decide +kernel
theorem dX8_allTraced_4 : decode cX8_allTraced 4 = .ok (.iload_n 3, 1) := by decide +kernel
theorem dX8_allTraced_5 : decode cX8_allTraced 5 = .ok (.aload_n 0, 1) := by decide +kernel
theorem dX8_allTraced_6 : decode cX8_allTraced 6 = .ok (.getfield 59, 3) := by decide +kernel
theorem dX8_allTraced_9 : decode cX8_allTraced 9 = .ok (.if_icmp .ge 70, 3) := by decide +kernel
theorem dX8_allTraced_79 : decode cX8_allTraced 79 = .ok (.iload_n 2, 1) := by decide +kernel
theorem dX8_allTraced_80 : decode cX8_allTraced 80 = .ok (.ireturn, 1) := by decide +kernel
theorem dX8_allTraced_12 : decode cX8_allTraced 12 = .ok (.aload_n 0, 1) := by decide +kernel
theorem dX8_allTraced_13 : decode cX8_allTraced 13 = .ok (.getfield 32, 3) := by decide +kernel
theorem dX8_allTraced_16 : decode cX8_allTraced 16 = .ok (.iload_n 3, 1) := by decide +kernel
theorem dX8_allTraced_17 : decode cX8_allTraced 17 = .ok (.iaload, 1) := by decide +kernel
theorem dX8_allTraced_18 : decode cX8_allTraced 18 = .ok (.iload_n 1, 1) := by decide +kernel
theorem dX8_allTraced_19 : decode cX8_allTraced 19 = .ok (.if_icmp .gt 60, 3) := by decide +kernel
theorem dX8_allTraced_22 : decode cX8_allTraced 22 = .ok (.iconst 0, 1) := by decide +kernel
theorem dX8_allTraced_23 : decode cX8_allTraced 23 = .ok (.istore 4, 2) := by decide +kernel
theorem dX8_allTraced_25 : decode cX8_allTraced 25 = .ok (.iload 4, 2) := by decide +kernel
theorem dX8_allTraced_27 : decode cX8_allTraced 27 = .ok (.aload_n 0, 1) := by decide +kernel
theorem dX8_allTraced_28 : decode cX8_allTraced 28 = .ok (.getfield 77, 3) := by decide +kernel
theorem dX8_allTraced_31 : decode cX8_allTraced 31 = .ok (.if_icmp .ge 42, 3) := by decide +kernel
theorem dX8_allTraced_73 : decode cX8_allTraced 73 = .ok (.iinc 3 1, 3) := by decide +kernel
theorem dX8_allTraced_76 : decode cX8_allTraced 76 = .ok (.goto (-72), 3) := by decide +kernel
theorem dX8_allTraced_34 : decode cX8_allTraced 34 = .ok (.aload_n 0, 1) := by decide +kernel
theorem dX8_allTraced_35 : decode cX8_allTraced 35 = .ok (.iload_n 3, 1) := by decide +kernel
theorem dX8_allTraced_36 : decode cX8_allTraced 36 = .ok (.iload_n 1, 1) := by decide +kernel
theorem dX8_allTraced_37 : decode cX8_allTraced 37 = .ok (.invokevirtual 129, 3) := by decide +kernel
theorem dX8_allTraced_40 : decode cX8_allTraced 40 = .ok (.ifCond .eq 33, 3) := by decide +kernel
theorem dX8_allTraced_43 : decode cX8_allTraced 43 = .ok (.aload_n 0, 1) := by decide +kernel
theorem dX8_allTraced_44 : decode cX8_allTraced 44 = .ok (.aload_n 0, 1) := by decide +kernel
theorem dX8_allTraced_45 : decode cX8_allTraced 45 = .ok (.iload_n 3, 1) := by decide +kernel
theorem dX8_allTraced_46 : decode cX8_allTraced 46 = .ok (.iload 4, 2) := by decide +kernel
theorem dX8_allTraced_48 : decode cX8_allTraced 48 = .ok (.invokevirtual 124, 3) := by decide +kernel
theorem dX8_allTraced_51 : decode cX8_allTraced 51 = .ok (.iload_n 1, 1) := by decide +kernel
theorem dX8_allTraced_52 : decode cX8_allTraced 52 = .ok (.iconst 1, 1) := by decide +kernel
theorem dX8_allTraced_53 : decode cX8_allTraced 53 = .ok (.iadd, 1) := by decide +kernel
theorem dX8_allTraced_54 : decode cX8_allTraced 54 = .ok (.invokevirtual 129, 3) := by decide +kernel
theorem dX8_allTraced_57 : decode cX8_allTraced 57 = .ok (.ifCond .eq 10, 3) := by decide +kernel
theorem dX8_allTraced_67 : decode cX8_allTraced 67 = .ok (.iinc 4 1, 3) := by decide +kernel
theorem dX8_allTraced_70 : decode cX8_allTraced 70 = .ok (.goto (-45), 3) := by decide +kernel
theorem dX8_allTraced_60 : decode cX8_allTraced 60 = .ok (.iload_n 2, 1) := by decide +kernel
theorem dX8_allTraced_61 : decode cX8_allTraced 61 = .ok (.iconst 1, 1) := by decide +kernel
theorem dX8_allTraced_62 : decode cX8_allTraced 62 = .ok (.iload 4, 2) := by decide +kernel
theorem dX8_allTraced_64 : decode cX8_allTraced 64 = .ok (.ishl, 1) := by decide +kernel
theorem dX8_allTraced_65 : decode cX8_allTraced 65 = .ok (.ior, 1) := by decide +kernel
theorem dX8_allTraced_66 : decode cX8_allTraced 66 = .ok (.istore_n 2, 1) := by decide +kernel
set_option maxHeartbeats 4000000 in
set_option maxRecDepth 100000 in
theorem k_X8_allTraced_0 (l : Launch) (V : GV) (n : Nat) (Yw : Nat → Nat) (y : Nat → Nat) (a1 : Int32) (pYw0_0 : Int32) (wa : Nat) (pYw0_5 : Int32) (pYw0_6 : Int32) (wb : Nat) (pYw0_14 : Int32) (pYw0_15 : Int32) (pYw0_16 : Int32) (fYw2 : Nat → Int32) (fwa : Nat → Int32) (fYw6 : Nat → Int32) (hn : 1 ≤ n ∧ n ≤ 3646) (ba1 : iv 0 39 a1) (bpYw0_0 : iv 0 4 pYw0_0) (bpYw0_5 : iv 0 ((n : Int)) pYw0_5) (bpYw0_6 : iv 0 4 pYw0_6) (bpYw0_14 : iv 0 4 pYw0_14) (bpYw0_15 : iv 0 9 pYw0_15) (bpYw0_16 : iv 0 ((n : Int)) pYw0_16) (tfYw6 : ∀ j, iv 0 ((n : Int) - 1) (fYw6 j)) : Ct l V yX8_allTraced (.code yX8_allTraced cX8_allTraced 5 (some .int)) 2 [.ref (Yw 0), .int a1] [(Yw 0, .inr (8, o8_iirrriirrrrrrriii pYw0_0 (nI n) (Yw 1) (Yw 2) wa pYw0_5 pYw0_6 (y 19) (Yw 4) (Yw 5) (Yw 6) (Yw 7) (Yw 8) wb pYw0_14 pYw0_15 pYw0_16)), (Yw 2, aI V n fYw2), (wa, aI V n fwa), (Yw 6, aI V (n * 4) fYw6)] 0 0 (QI V (fun (r : Int32) (w : va_W) => w = [(Yw 0, .inr (8, o8_iirrriirrrrrrriii pYw0_0 (nI n) (Yw 1) (Yw 2) wa pYw0_5 pYw0_6 (y 19) (Yw 4) (Yw 5) (Yw 6) (Yw 7) (Yw 8) wb pYw0_14 pYw0_15 pYw0_16)), (Yw 2, aI V n fYw2), (wa, aI V n fwa), (Yw 6, aI V (n * 4) fYw6)])) := by
  refine Ct.of (by decide) (Nat.le_of_ble_eq_true rfl) (fun p e s m below meth c A ls hx hb hr hml hown hlk hnm hg hP hK hD hE hA hS hl => ?_)
  have hl : lv_has ls 5 [(0, .ref (Yw 0)), (1, .int a1)] := hl
  refine lv_iconst (v := 0) hx hb dX8_allTraced_0 (by decide) ?_
  refine lv_istore_n (lv' := [(2, .int 0), (0, .ref (Yw 0)), (1, .int a1)]) hx hb dX8_allTraced_1 rfl hl (by decide) rfl (fun ls hl => ?_)
  refine lv_iconst (v := 0) hx hb dX8_allTraced_2 (by decide) ?_
  refine lv_istore_n (lv' := [(3, .int 0), (2, .int 0), (0, .ref (Yw 0)), (1, .int a1)]) hx hb dX8_allTraced_3 rfl hl (by decide) rfl (fun ls hl => ?_)
  refine loopF (X := fun (n_3 : Nat) (H : Heap) (locs : List Loc) (ls : Array Slot) => ∃ (u_1 : Int32) (u_2 : Int32), (iv 0 2147483647 u_1) ∧ n_3 = (2147483647 - (u_1 : Int32).toInt).toNat ∧ va_P V.1 vwCl [(Yw 0, .inr (8, o8_iirrriirrrrrrriii pYw0_0 (nI n) (Yw 1) (Yw 2) wa pYw0_5 pYw0_6 (y 19) (Yw 4) (Yw 5) (Yw 6) (Yw 7) (Yw 8) wb pYw0_14 pYw0_15 pYw0_16)), (Yw 2, aI V n fYw2), (wa, aI V n fwa), (Yw 6, aI V (n * 4) fYw6)] H ∧ va_D A [(Yw 0, .inr (8, o8_iirrriirrrrrrriii pYw0_0 (nI n) (Yw 1) (Yw 2) wa pYw0_5 pYw0_6 (y 19) (Yw 4) (Yw 5) (Yw 6) (Yw 7) (Yw 8) wb pYw0_14 pYw0_15 pYw0_16)), (Yw 2, aI V n fYw2), (wa, aI V n fwa), (Yw 6, aI V (n * 4) fYw6)] ∧ va_S A s.heap H locs ∧ lv_has ls 5 [(3, .int u_1), (2, .int u_2), (0, .ref (Yw 0)), (1, .int a1)]) (g := fun ls => F0 m 4 ls []) (fun n_3 H locs ls hX ihn_3 => ?_) _ ⟨0, 0, (iv_c (0 : Int32) (by decide)), rfl, hP, hD, hS, lv_sub hl [0, 1, 2, 3] rfl⟩
  obtain ⟨u_1, u_2, bu_1, en_3, hP, hD, hS, hl⟩ := hX
  refine lv_iload_n hx hb dX8_allTraced_4 rfl (lv_at hl 0 rfl) ?_
  refine lv_aload_n hx hb dX8_allTraced_5 rfl (lv_at hl 2 rfl) ?_
  refine va_get (ci := 8) (v := .int pYw0_16) (C := RX8) (T := TX8) (N := 17) hx hb hg inX8 hown hK hP 0 rfl rfl 16 (by decide) (hg _ q_4_90) (fun _ h9 => h9) rfl dX8_allTraced_6 ?_
  refine lv_icmp_ge (tgt := 79) hx hb dX8_allTraced_9 (by decide) (fun c_4 => ?_) (fun c_4 => ?_)
  · refine lv_iload_n hx hb dX8_allTraced_79 rfl (lv_at hl 1 rfl) ?_
    exact fiI hx hb hr hlk hK hP hD hS dX8_allTraced_80 (Nat.le_of_ble_eq_true rfl) (Nat.le_of_ble_eq_true rfl) (rfl)
  · have b_5 : iv 0 ((n : Int) - 1) u_1 := iv_l1 (Int32.not_le.mp c_4) bu_1 bpYw0_16 (by first | decide | omega)
    have b_6 : iv 1 ((n : Int)) pYw0_16 := iv_l2 (Int32.not_le.mp c_4) bu_1 bpYw0_16 (by first | decide | omega)
    refine lv_aload_n hx hb dX8_allTraced_12 rfl (lv_at hl 2 rfl) ?_
    refine va_get (ci := 8) (v := .ref (Yw 2)) (C := RX8) (T := TX8) (N := 17) hx hb hg inX8 hown hK hP 0 rfl rfl 3 (by decide) (hg _ q_4_72) (fun _ h9 => h9) rfl dX8_allTraced_13 ?_
    refine lv_iload_n hx hb dX8_allTraced_16 rfl (lv_at hl 0 rfl) ?_
    refine va_iald hx hb hK hP 1 0 rfl rfl (iv_in b_5 (by first | decide | omega)) dX8_allTraced_17 ?_
    refine lv_topi (fun x_7 ex_7 => ?_)
    refine lv_iload_n hx hb dX8_allTraced_18 rfl (lv_at hl 3 rfl) ?_
    refine lv_icmp_gt (tgt := 79) hx hb dX8_allTraced_19 (by decide) (fun c_8 => ?_) (fun c_8 => ?_)
    · have b_9 : iv 1 2147483647 x_7 := iv_l2 c_8 ba1 (iv_top x_7) (by first | decide | omega)
      refine lv_iload_n hx hb dX8_allTraced_79 rfl (lv_at hl 1 rfl) ?_
      exact fiI hx hb hr hlk hK hP hD hS dX8_allTraced_80 (Nat.le_of_ble_eq_true rfl) (Nat.le_of_ble_eq_true rfl) (rfl)
    · have b_10 : iv (-2147483648) 39 x_7 := iv_e1 (Int32.not_lt.mp c_8) (iv_top x_7) ba1 (by first | decide | omega)
      refine lv_iconst (v := 0) hx hb dX8_allTraced_22 (by decide) ?_
      refine lv_istore (lv' := [(4, .int 0), (3, .int u_1), (2, .int u_2), (0, .ref (Yw 0)), (1, .int a1)]) hx hb dX8_allTraced_23 hl (by decide) rfl (fun ls hl => ?_)
      refine loopF (X := fun (n_13 : Nat) (H : Heap) (locs : List Loc) (ls : Array Slot) => ∃ (u_11 : Int32) (u_12 : Int32), (iv 0 2147483647 u_11) ∧ n_13 = (2147483647 - (u_11 : Int32).toInt).toNat ∧ va_P V.1 vwCl [(Yw 0, .inr (8, o8_iirrriirrrrrrriii pYw0_0 (nI n) (Yw 1) (Yw 2) wa pYw0_5 pYw0_6 (y 19) (Yw 4) (Yw 5) (Yw 6) (Yw 7) (Yw 8) wb pYw0_14 pYw0_15 pYw0_16)), (Yw 2, aI V n fYw2), (wa, aI V n fwa), (Yw 6, aI V (n * 4) fYw6)] H ∧ va_D A [(Yw 0, .inr (8, o8_iirrriirrrrrrriii pYw0_0 (nI n) (Yw 1) (Yw 2) wa pYw0_5 pYw0_6 (y 19) (Yw 4) (Yw 5) (Yw 6) (Yw 7) (Yw 8) wb pYw0_14 pYw0_15 pYw0_16)), (Yw 2, aI V n fYw2), (wa, aI V n fwa), (Yw 6, aI V (n * 4) fYw6)] ∧ va_S A s.heap H locs ∧ lv_has ls 5 [(4, .int u_11), (3, .int u_1), (2, .int u_12), (0, .ref (Yw 0)), (1, .int a1)]) (g := fun ls => F0 m 25 ls []) (fun n_13 H locs ls hX ihn_13 => ?_) _ ⟨0, u_2, (iv_c (0 : Int32) (by decide)), rfl, hP, hD, hS, lv_sub hl [0, 1, 2, 3, 4] rfl⟩
      obtain ⟨u_11, u_12, bu_11, en_13, hP, hD, hS, hl⟩ := hX
      refine lv_iload hx hb dX8_allTraced_25 (lv_at hl 0 rfl) ?_
      refine lv_aload_n hx hb dX8_allTraced_27 rfl (lv_at hl 3 rfl) ?_
      refine va_get (ci := 8) (v := .int pYw0_6) (C := RX8) (T := TX8) (N := 17) hx hb hg inX8 hown hK hP 0 rfl rfl 6 (by decide) (hg _ q_4_80) (fun _ h9 => h9) rfl dX8_allTraced_28 ?_
      refine lv_icmp_ge (tgt := 73) hx hb dX8_allTraced_31 (by decide) (fun c_14 => ?_) (fun c_14 => ?_)
      · obtain ⟨x_15, ex_15⟩ : ∃ z9 : Int32, z9 = u_1 + 1 := ⟨_, rfl⟩
        have bx_15 : iv 1 ((n : Int)) x_15 := by rw [ex_15]; exact iv_add b_5 (iv_c (1 : Int32) (a := 1) (b := 1) (by first | decide | omega)) (by first | decide | omega)
        refine lv_iinc (v := x_15) (lv' := [(3, .int x_15), (4, .int u_11), (2, .int u_12), (0, .ref (Yw 0)), (1, .int a1)]) hx hb dX8_allTraced_73 hl (k := 1) rfl (by rw [ex_15]; rfl) (by decide) rfl (fun ls hl => ?_)
        refine lv_goto (tgt := 4) hx hb dX8_allTraced_76 (by decide) ?_
        exact ihn_3 _ _ _ _ (by rw [en_3, ex_15]; exact mu_up b_5 (by first | decide | omega)) ⟨x_15, u_12, (iv_w bx_15 (by first | decide | omega)), rfl, hP, hD, hS, lv_sub hl [0, 2, 3, 4] rfl⟩
      · have b_16 : iv 0 3 u_11 := iv_l1 (Int32.not_le.mp c_14) bu_11 bpYw0_6 (by first | decide | omega)
        have b_17 : iv 1 4 pYw0_6 := iv_l2 (Int32.not_le.mp c_14) bu_11 bpYw0_6 (by first | decide | omega)
        refine lv_aload_n hx hb dX8_allTraced_34 rfl (lv_at hl 3 rfl) ?_
        refine lv_iload_n hx hb dX8_allTraced_35 rfl (lv_at hl 1 rfl) ?_
        refine lv_iload_n hx hb dX8_allTraced_36 rfl (lv_at hl 4 rfl) ?_
        refine jnI (wr := [(Yw 2, aI V n fYw2), (Yw 6, aI V (n * 4) fYw6)]) (rnV (rest := []) ⟨hx, hb, hml, hown, hg⟩ (k_X8_hasBit_0 l V n Yw y u_1 a1 pYw0_0 wa pYw0_5 pYw0_6 wb pYw0_14 pYw0_15 pYw0_16 fwa hn b_5 bpYw0_0 bpYw0_5 (iv_w b_17 (by first | decide | omega)) bpYw0_14 bpYw0_15 (iv_w b_6 (by first | decide | omega))) mt_X8_hasBit q_5_43 ⟨Nat.le_of_ble_eq_true rfl, Nat.le_of_ble_eq_true rfl⟩ hK hP hD hS hA hE [0, 2] rfl rfl 0 rfl rfl rfl rfl hl.1 rfl (Nat.le_of_ble_eq_true rfl) dX8_allTraced_37 ⟨Nat.le_of_ble_eq_true rfl, Nat.le_of_ble_eq_true rfl⟩) hP hD hS hA [0, 2] [1, 3] rfl rfl rfl (by decide) (fun r_18 w H locs hw hP hD hS => ?_)
        obtain ⟨br_18, rfl⟩ := hw
        have hP : va_P V.1 vwCl [(Yw 2, aI V n fYw2), (Yw 6, aI V (n * 4) fYw6), (Yw 0, .inr (8, o8_iirrriirrrrrrriii pYw0_0 (nI n) (Yw 1) (Yw 2) wa pYw0_5 pYw0_6 (y 19) (Yw 4) (Yw 5) (Yw 6) (Yw 7) (Yw 8) wb pYw0_14 pYw0_15 pYw0_16)), (wa, aI V n fwa)] H := hP
        have hD := cpD hP hD
        refine lv_if_eq (tgt := 73) hx hb dX8_allTraced_40 (by decide) (fun c_19 => ?_) (fun c_19 => ?_)
        · have b_20 : iv 0 0 r_18 := iv_q c_19 (iv_c (0 : Int32) (a := 0) (b := 0) (by decide))
          obtain ⟨x_21, ex_21⟩ : ∃ z9 : Int32, z9 = u_1 + 1 := ⟨_, rfl⟩
          have bx_21 : iv 1 ((n : Int)) x_21 := by rw [ex_21]; exact iv_add b_5 (iv_c (1 : Int32) (a := 1) (b := 1) (by first | decide | omega)) (by first | decide | omega)
          refine lv_iinc (v := x_21) (lv' := [(3, .int x_21), (4, .int u_11), (2, .int u_12), (0, .ref (Yw 0)), (1, .int a1)]) hx hb dX8_allTraced_73 hl (k := 1) rfl (by rw [ex_21]; rfl) (by decide) rfl (fun ls hl => ?_)
          refine lv_goto (tgt := 4) hx hb dX8_allTraced_76 (by decide) ?_
          have hP := subP (ws' := [(Yw 0, .inr (8, o8_iirrriirrrrrrriii pYw0_0 (nI n) (Yw 1) (Yw 2) wa pYw0_5 pYw0_6 (y 19) (Yw 4) (Yw 5) (Yw 6) (Yw 7) (Yw 8) wb pYw0_14 pYw0_15 pYw0_16)), (Yw 2, aI V n fYw2), (wa, aI V n fwa), (Yw 6, aI V (n * 4) fYw6)]) hP [2, 0, 3, 1] rfl
          have hD := subD hP hD [2, 0, 3, 1] rfl rfl
          exact ihn_3 _ _ _ _ (by rw [en_3, ex_21]; exact mu_up b_5 (by first | decide | omega)) ⟨x_21, u_12, (iv_w bx_21 (by first | decide | omega)), rfl, hP, hD, hS, lv_sub hl [0, 2, 3, 4] rfl⟩
        · have b_22 : iv 1 1 r_18 := iv_n0 c_19 br_18 (iv_c (0 : Int32) (a := 0) (b := 0) (by decide)) (by first | decide | omega)
          refine lv_aload_n hx hb dX8_allTraced_43 rfl (lv_at hl 3 rfl) ?_
          refine lv_aload_n hx hb dX8_allTraced_44 rfl (lv_at hl 3 rfl) ?_
          refine lv_iload_n hx hb dX8_allTraced_45 rfl (lv_at hl 1 rfl) ?_
          refine lv_iload hx hb dX8_allTraced_46 (lv_at hl 0 rfl) ?_
          refine jnI (wr := [(Yw 2, aI V n fYw2), (wa, aI V n fwa)]) (rnV (rest := [.ref (Yw 0)]) ⟨hx, hb, hml, hown, hg⟩ (k_X8_behind_0 l V n Yw y u_1 u_11 pYw0_0 wa pYw0_5 pYw0_6 wb pYw0_14 pYw0_15 pYw0_16 fYw6 hn b_5 b_16 bpYw0_0 bpYw0_5 (iv_w b_17 (by first | decide | omega)) bpYw0_14 bpYw0_15 (iv_w b_6 (by first | decide | omega)) tfYw6) mt_X8_behind q_4_182 ⟨Nat.le_of_ble_eq_true rfl, Nat.le_of_ble_eq_true rfl⟩ hK hP hD hS hA hE [2, 1] rfl rfl 2 rfl rfl rfl rfl hl.1 rfl (Nat.le_of_ble_eq_true rfl) dX8_allTraced_48 ⟨Nat.le_of_ble_eq_true rfl, Nat.le_of_ble_eq_true rfl⟩) hP hD hS hA [2, 1] [0, 3] rfl rfl rfl (by decide) (fun r_23 w H locs hw hP hD hS => ?_)
          obtain ⟨br_23, er_23, rfl⟩ := hw
          have hP : va_P V.1 vwCl [(Yw 2, aI V n fYw2), (wa, aI V n fwa), (Yw 0, .inr (8, o8_iirrriirrrrrrriii pYw0_0 (nI n) (Yw 1) (Yw 2) wa pYw0_5 pYw0_6 (y 19) (Yw 4) (Yw 5) (Yw 6) (Yw 7) (Yw 8) wb pYw0_14 pYw0_15 pYw0_16)), (Yw 6, aI V (n * 4) fYw6)] H := hP
          have hD := cpD hP hD
          refine lv_iload_n hx hb dX8_allTraced_51 rfl (lv_at hl 4 rfl) ?_
          refine lv_iconst (v := 1) hx hb dX8_allTraced_52 (by decide) ?_
          refine lv_iadd hx hb dX8_allTraced_53 ?_
          refine lv_topi (fun x_24 ex_24 => ?_)
          have bx_24 : iv 1 40 x_24 := by rw [ex_24]; exact iv_add ba1 (iv_c (1 : Int32) (a := 1) (b := 1) (by decide)) (by first | decide | omega)
          refine jnI (wr := [(Yw 2, aI V n fYw2), (Yw 6, aI V (n * 4) fYw6)]) (rnV (rest := []) ⟨hx, hb, hml, hown, hg⟩ (k_X8_hasBit_0 l V n Yw y r_23 x_24 pYw0_0 wa pYw0_5 pYw0_6 wb pYw0_14 pYw0_15 pYw0_16 fwa hn br_23 bpYw0_0 bpYw0_5 (iv_w b_17 (by first | decide | omega)) bpYw0_14 bpYw0_15 (iv_w b_6 (by first | decide | omega))) mt_X8_hasBit q_5_43 ⟨Nat.le_of_ble_eq_true rfl, Nat.le_of_ble_eq_true rfl⟩ hK hP hD hS hA hE [2, 1] rfl rfl 2 rfl rfl rfl rfl hl.1 rfl (Nat.le_of_ble_eq_true rfl) dX8_allTraced_54 ⟨Nat.le_of_ble_eq_true rfl, Nat.le_of_ble_eq_true rfl⟩) hP hD hS hA [2, 1] [0, 3] rfl rfl rfl (by decide) (fun r_25 w H locs hw hP hD hS => ?_)
          obtain ⟨br_25, rfl⟩ := hw
          have hP : va_P V.1 vwCl [(Yw 2, aI V n fYw2), (Yw 6, aI V (n * 4) fYw6), (Yw 0, .inr (8, o8_iirrriirrrrrrriii pYw0_0 (nI n) (Yw 1) (Yw 2) wa pYw0_5 pYw0_6 (y 19) (Yw 4) (Yw 5) (Yw 6) (Yw 7) (Yw 8) wb pYw0_14 pYw0_15 pYw0_16)), (wa, aI V n fwa)] H := hP
          have hD := cpD hP hD
          refine lv_if_eq (tgt := 67) hx hb dX8_allTraced_57 (by decide) (fun c_26 => ?_) (fun c_26 => ?_)
          · have b_27 : iv 0 0 r_25 := iv_q c_26 (iv_c (0 : Int32) (a := 0) (b := 0) (by decide))
            obtain ⟨x_28, ex_28⟩ : ∃ z9 : Int32, z9 = u_11 + 1 := ⟨_, rfl⟩
            have bx_28 : iv 1 4 x_28 := by rw [ex_28]; exact iv_add b_16 (iv_c (1 : Int32) (a := 1) (b := 1) (by first | decide | omega)) (by first | decide | omega)
            refine lv_iinc (v := x_28) (lv' := [(4, .int x_28), (3, .int u_1), (2, .int u_12), (0, .ref (Yw 0)), (1, .int a1)]) hx hb dX8_allTraced_67 hl (k := 0) rfl (by rw [ex_28]; rfl) (by decide) rfl (fun ls hl => ?_)
            refine lv_goto (tgt := 25) hx hb dX8_allTraced_70 (by decide) ?_
            have hP := subP (ws' := [(Yw 0, .inr (8, o8_iirrriirrrrrrriii pYw0_0 (nI n) (Yw 1) (Yw 2) wa pYw0_5 pYw0_6 (y 19) (Yw 4) (Yw 5) (Yw 6) (Yw 7) (Yw 8) wb pYw0_14 pYw0_15 pYw0_16)), (Yw 2, aI V n fYw2), (wa, aI V n fwa), (Yw 6, aI V (n * 4) fYw6)]) hP [2, 0, 3, 1] rfl
            have hD := subD hP hD [2, 0, 3, 1] rfl rfl
            exact ihn_13 _ _ _ _ (by rw [en_13, ex_28]; exact mu_up b_16 (by first | decide | omega)) ⟨x_28, u_12, (iv_w bx_28 (by first | decide | omega)), rfl, hP, hD, hS, lv_sub hl [0, 1, 2, 3, 4] rfl⟩
          · have b_29 : iv 1 1 r_25 := iv_n0 c_26 br_25 (iv_c (0 : Int32) (a := 0) (b := 0) (by decide)) (by first | decide | omega)
            refine lv_iload_n hx hb dX8_allTraced_60 rfl (lv_at hl 2 rfl) ?_
            refine lv_iconst (v := 1) hx hb dX8_allTraced_61 (by decide) ?_
            refine lv_iload hx hb dX8_allTraced_62 (lv_at hl 0 rfl) ?_
            refine lv_ishl hx hb dX8_allTraced_64 ?_
            refine lv_topi (fun x_30 ex_30 => ?_)
            refine lv_ior hx hb dX8_allTraced_65 ?_
            refine lv_topi (fun x_31 ex_31 => ?_)
            refine lv_istore_n (lv' := [(2, .int x_31), (4, .int u_11), (3, .int u_1), (0, .ref (Yw 0)), (1, .int a1)]) hx hb dX8_allTraced_66 rfl hl (by decide) rfl (fun ls hl => ?_)
            obtain ⟨x_32, ex_32⟩ : ∃ z9 : Int32, z9 = u_11 + 1 := ⟨_, rfl⟩
            have bx_32 : iv 1 4 x_32 := by rw [ex_32]; exact iv_add b_16 (iv_c (1 : Int32) (a := 1) (b := 1) (by first | decide | omega)) (by first | decide | omega)
            refine lv_iinc (v := x_32) (lv' := [(4, .int x_32), (2, .int x_31), (3, .int u_1), (0, .ref (Yw 0)), (1, .int a1)]) hx hb dX8_allTraced_67 hl (k := 1) rfl (by rw [ex_32]; rfl) (by decide) rfl (fun ls hl => ?_)
            refine lv_goto (tgt := 25) hx hb dX8_allTraced_70 (by decide) ?_
            have hP := subP (ws' := [(Yw 0, .inr (8, o8_iirrriirrrrrrriii pYw0_0 (nI n) (Yw 1) (Yw 2) wa pYw0_5 pYw0_6 (y 19) (Yw 4) (Yw 5) (Yw 6) (Yw 7) (Yw 8) wb pYw0_14 pYw0_15 pYw0_16)), (Yw 2, aI V n fYw2), (wa, aI V n fwa), (Yw 6, aI V (n * 4) fYw6)]) hP [2, 0, 3, 1] rfl
            have hD := subD hP hD [2, 0, 3, 1] rfl rfl
            exact ihn_13 _ _ _ _ (by rw [en_13, ex_32]; exact mu_up b_16 (by first | decide | omega)) ⟨x_32, x_31, (iv_w bx_32 (by first | decide | omega)), rfl, hP, hD, hS, lv_sub hl [0, 2, 1, 3, 4] rfl⟩
theorem dX8_isAbove_0 : decode cX8_isAbove 0 = .ok (.iconst 0, 1) := by decide +kernel
theorem dX8_isAbove_1 : decode cX8_isAbove 1 = .ok (.istore_n 3, 1) := by decide +kernel
theorem dX8_isAbove_2 : decode cX8_isAbove 2 = .ok (.iload_n 3, 1) := by decide +kernel
theorem dX8_isAbove_3 : decode cX8_isAbove 3 = .ok (.aload_n 0, 1) := by decide +kernel
theorem dX8_isAbove_4 : decode cX8_isAbove 4 = .ok (.getfield 68, 3) := by decide +kernel
theorem dX8_isAbove_7 : decode cX8_isAbove 7 = .ok (.if_icmp .ge 25, 3) := by decide +kernel
theorem dX8_isAbove_32 : decode cX8_isAbove 32 = .ok (.iconst 1, 1) := by decide +kernel
theorem dX8_isAbove_33 : decode cX8_isAbove 33 = .ok (.ireturn, 1) := by decide +kernel
theorem dX8_isAbove_10 : decode cX8_isAbove 10 = .ok (.aload_n 0, 1) := by decide +kernel
theorem dX8_isAbove_11 : decode cX8_isAbove 11 = .ok (.getfield 29, 3) := by decide +kernel
theorem dX8_isAbove_14 : decode cX8_isAbove 14 = .ok (.iload_n 1, 1) := by decide +kernel
theorem dX8_isAbove_15 : decode cX8_isAbove 15 = .ok (.iaload, 1) := by decide +kernel
theorem dX8_isAbove_16 : decode cX8_isAbove 16 = .ok (.iload_n 3, 1) := by decide +kernel
theorem dX8_isAbove_17 : decode cX8_isAbove 17 = .ok (.invokestatic 94, 3) := by decide +kernel
theorem dX8_isAbove_20 : decode cX8_isAbove 20 = .ok (.iload_n 2, 1) := by decide +kernel
theorem dX8_isAbove_21 : decode cX8_isAbove 21 = .ok (.if_icmp .ge 5, 3) := by decide +kernel
theorem dX8_isAbove_26 : decode cX8_isAbove 26 = .ok (.iinc 3 1, 3) := by decide +kernel
theorem dX8_isAbove_29 : decode cX8_isAbove 29 = .ok (.goto (-27), 3) := by decide +kernel
theorem dX8_isAbove_24 : decode cX8_isAbove 24 = .ok (.iconst 0, 1) := by decide +kernel
theorem dX8_isAbove_25 : decode cX8_isAbove 25 = .ok (.ireturn, 1) := by decide +kernel
set_option maxHeartbeats 4000000 in
set_option maxRecDepth 100000 in
theorem k_X8_isAbove_0 (l : Launch) (V : GV) (n : Nat) (L : Nat) (Yw : Nat → Nat) (y : Nat → Nat) (a1 : Int32) (a2 : Int32) (pYw0_0 : Int32) (wa : Nat) (pYw0_5 : Int32) (pYw0_6 : Int32) (wb : Nat) (pYw0_14 : Int32) (pYw0_15 : Int32) (pYw0_16 : Int32) (fYw1 : Nat → Int32) (hn : 1 ≤ n ∧ n ≤ 3646) (hL : 1 ≤ L ∧ L ≤ 10000) (ba1 : iv 0 ((n : Int) - 1) a1) (bpYw0_0 : iv 0 4 pYw0_0) (bpYw0_5 : iv 0 ((n : Int)) pYw0_5) (bpYw0_6 : iv 0 4 pYw0_6) (bpYw0_14 : iv 0 4 pYw0_14) (bpYw0_15 : iv 0 9 pYw0_15) (bpYw0_16 : iv 0 ((n : Int)) pYw0_16) (tfYw1 : ∀ j, iv 0 ((L : Int) - 1) (fYw1 j)) : Ct l V yX8_isAbove (.code yX8_isAbove cX8_isAbove 4 (some .boolean)) 2 [.ref (Yw 0), .int a1, .int a2] [(Yw 0, .inr (8, o8_iirrriirrrrrrriii pYw0_0 (nI n) (Yw 1) (Yw 2) wa pYw0_5 pYw0_6 (y 19) (Yw 4) (Yw 5) (Yw 6) (Yw 7) (Yw 8) wb pYw0_14 pYw0_15 pYw0_16)), (Yw 1, aI V n fYw1)] 0 0 (QI V (fun (r : Int32) (w : va_W) => iv 0 1 r ∧ w = [(Yw 0, .inr (8, o8_iirrriirrrrrrriii pYw0_0 (nI n) (Yw 1) (Yw 2) wa pYw0_5 pYw0_6 (y 19) (Yw 4) (Yw 5) (Yw 6) (Yw 7) (Yw 8) wb pYw0_14 pYw0_15 pYw0_16)), (Yw 1, aI V n fYw1)])) := by
  refine Ct.of (by decide) (Nat.le_of_ble_eq_true rfl) (fun p e s m below meth c A ls hx hb hr hml hown hlk hnm hg hP hK hD hE hA hS hl => ?_)
  have hl : lv_has ls 4 [(0, .ref (Yw 0)), (1, .int a1), (2, .int a2)] := hl
  refine lv_iconst (v := 0) hx hb dX8_isAbove_0 (by decide) ?_
  refine lv_istore_n (lv' := [(3, .int 0), (0, .ref (Yw 0)), (1, .int a1), (2, .int a2)]) hx hb dX8_isAbove_1 rfl hl (by decide) rfl (fun ls hl => ?_)
  refine loopF (X := fun (n_2 : Nat) (H : Heap) (locs : List Loc) (ls : Array Slot) => ∃ (u_1 : Int32), (iv 0 2147483647 u_1) ∧ n_2 = (2147483647 - (u_1 : Int32).toInt).toNat ∧ va_P V.1 vwCl [(Yw 0, .inr (8, o8_iirrriirrrrrrriii pYw0_0 (nI n) (Yw 1) (Yw 2) wa pYw0_5 pYw0_6 (y 19) (Yw 4) (Yw 5) (Yw 6) (Yw 7) (Yw 8) wb pYw0_14 pYw0_15 pYw0_16)), (Yw 1, aI V n fYw1)] H ∧ va_D A [(Yw 0, .inr (8, o8_iirrriirrrrrrriii pYw0_0 (nI n) (Yw 1) (Yw 2) wa pYw0_5 pYw0_6 (y 19) (Yw 4) (Yw 5) (Yw 6) (Yw 7) (Yw 8) wb pYw0_14 pYw0_15 pYw0_16)), (Yw 1, aI V n fYw1)] ∧ va_S A s.heap H locs ∧ lv_has ls 4 [(3, .int u_1), (0, .ref (Yw 0)), (1, .int a1), (2, .int a2)]) (g := fun ls => F0 m 2 ls []) (fun n_2 H locs ls hX ihn_2 => ?_) _ ⟨0, (iv_c (0 : Int32) (by decide)), rfl, hP, hD, hS, lv_sub hl [0, 1, 2, 3] rfl⟩
  obtain ⟨u_1, bu_1, en_2, hP, hD, hS, hl⟩ := hX
  refine lv_iload_n hx hb dX8_isAbove_2 rfl (lv_at hl 0 rfl) ?_
  refine lv_aload_n hx hb dX8_isAbove_3 rfl (lv_at hl 1 rfl) ?_
  refine va_get (ci := 8) (v := .int pYw0_14) (C := RX8) (T := TX8) (N := 17) hx hb hg inX8 hown hK hP 0 rfl rfl 14 (by decide) (hg _ q_4_88) (fun _ h9 => h9) rfl dX8_isAbove_4 ?_
  refine lv_icmp_ge (tgt := 32) hx hb dX8_isAbove_7 (by decide) (fun c_3 => ?_) (fun c_3 => ?_)
  · refine lv_iconst (v := 1) hx hb dX8_isAbove_32 (by decide) ?_
    exact fiZ rfl hx hb hr hlk hK hP hD hS dX8_isAbove_33 (Nat.le_of_ble_eq_true rfl) (Nat.le_of_ble_eq_true rfl) (⟨(iv_c (1 : Int32) (by decide)), rfl⟩)
  · have b_4 : iv 0 3 u_1 := iv_l1 (Int32.not_le.mp c_3) bu_1 bpYw0_14 (by first | decide | omega)
    have b_5 : iv 1 4 pYw0_14 := iv_l2 (Int32.not_le.mp c_3) bu_1 bpYw0_14 (by first | decide | omega)
    refine lv_aload_n hx hb dX8_isAbove_10 rfl (lv_at hl 1 rfl) ?_
    refine va_get (ci := 8) (v := .ref (Yw 1)) (C := RX8) (T := TX8) (N := 17) hx hb hg inX8 hown hK hP 0 rfl rfl 2 (by decide) (hg _ q_4_69) (fun _ h9 => h9) rfl dX8_isAbove_11 ?_
    refine lv_iload_n hx hb dX8_isAbove_14 rfl (lv_at hl 2 rfl) ?_
    refine va_iald hx hb hK hP 1 0 rfl rfl (iv_in ba1 (by first | decide | omega)) dX8_isAbove_15 ?_
    refine lv_topi (fun x_6 ex_6 => ?_)
    have bx_6 : iv 0 ((L : Int) - 1) x_6 := by rw [ex_6]; exact tfYw1 _
    refine lv_iload_n hx hb dX8_isAbove_16 rfl (lv_at hl 0 rfl) ?_
    refine jnI (wr := [(Yw 0, .inr (8, o8_iirrriirrrrrrriii pYw0_0 (nI n) (Yw 1) (Yw 2) wa pYw0_5 pYw0_6 (y 19) (Yw 4) (Yw 5) (Yw 6) (Yw 7) (Yw 8) wb pYw0_14 pYw0_15 pYw0_16)), (Yw 1, aI V n fYw1)]) (rnSN (rest := []) ⟨hx, hb, hml, hown, hg⟩ (k_X9_stackIn_0 l V x_6 u_1 (iv_w bx_6 (by first | decide | omega)) (iv_w b_4 (by first | decide | omega))) mt_X9_stackIn (show ("BeaconDelay$Ways", 94, yX9_stackIn) ∈ nM by decide) ⟨Nat.le_of_ble_eq_true rfl, Nat.le_of_ble_eq_true rfl⟩ hK hP hD hS hA hE [] rfl rfl rfl hl.1 rfl (Nat.le_of_ble_eq_true rfl) dX8_isAbove_17 ⟨Nat.le_of_ble_eq_true rfl, Nat.le_of_ble_eq_true rfl⟩) hP hD hS hA [] [0, 1] rfl rfl rfl (by decide) (fun r_7 w H locs hw hP hD hS => ?_)
    obtain ⟨br_7, er_7, et_8, rfl⟩ := hw
    have hP : va_P V.1 vwCl [(Yw 0, .inr (8, o8_iirrriirrrrrrriii pYw0_0 (nI n) (Yw 1) (Yw 2) wa pYw0_5 pYw0_6 (y 19) (Yw 4) (Yw 5) (Yw 6) (Yw 7) (Yw 8) wb pYw0_14 pYw0_15 pYw0_16)), (Yw 1, aI V n fYw1)] H := hP
    have hD := cpD hP hD
    refine lv_iload_n hx hb dX8_isAbove_20 rfl (lv_at hl 3 rfl) ?_
    refine lv_icmp_ge (tgt := 26) hx hb dX8_isAbove_21 (by decide) (fun c_9 => ?_) (fun c_9 => ?_)
    · have b_10 : iv (-2147483648) 4 a2 := iv_e1 c_9 (iv_top a2) br_7 (by first | decide | omega)
      obtain ⟨x_11, ex_11⟩ : ∃ z9 : Int32, z9 = u_1 + 1 := ⟨_, rfl⟩
      have bx_11 : iv 1 4 x_11 := by rw [ex_11]; exact iv_add b_4 (iv_c (1 : Int32) (a := 1) (b := 1) (by first | decide | omega)) (by first | decide | omega)
      refine lv_iinc (v := x_11) (lv' := [(3, .int x_11), (0, .ref (Yw 0)), (1, .int a1), (2, .int a2)]) hx hb dX8_isAbove_26 hl (k := 0) rfl (by rw [ex_11]; rfl) (by decide) rfl (fun ls hl => ?_)
      refine lv_goto (tgt := 2) hx hb dX8_isAbove_29 (by decide) ?_
      exact ihn_2 _ _ _ _ (by rw [en_2, ex_11]; exact mu_up b_4 (by first | decide | omega)) ⟨x_11, (iv_w bx_11 (by first | decide | omega)), rfl, hP, hD, hS, lv_sub hl [0, 1, 2, 3] rfl⟩
    · have b_12 : iv 1 2147483647 a2 := iv_l2 (Int32.not_le.mp c_9) br_7 (iv_top a2) (by first | decide | omega)
      refine lv_iconst (v := 0) hx hb dX8_isAbove_24 (by decide) ?_
      exact fiZ rfl hx hb hr hlk hK hP hD hS dX8_isAbove_25 (Nat.le_of_ble_eq_true rfl) (Nat.le_of_ble_eq_true rfl) (⟨(iv_c (0 : Int32) (by decide)), rfl⟩)
theorem dX8_countComersAbove_0 : decode cX8_countComersAbove 0 = .ok (.aload_n 0, 1) := by decide +kernel
theorem dX8_countComersAbove_1 : decode cX8_countComersAbove 1 = .ok (.getfield 50, 3) := by decide +kernel
theorem dX8_countComersAbove_4 : decode cX8_countComersAbove 4 = .ok (.iconst 0, 1) := by decide +kernel
theorem dX8_countComersAbove_5 : decode cX8_countComersAbove 5 = .ok (.aload_n 0, 1) := by decide +kernel
theorem dX8_countComersAbove_6 : decode cX8_countComersAbove 6 = .ok (.getfield 56, 3) := by decide +kernel
theorem dX8_countComersAbove_9 : decode cX8_countComersAbove 9 = .ok (.iconst 0, 1) := by decide +kernel
theorem dX8_countComersAbove_10 : decode cX8_countComersAbove 10 = .ok (.invokestatic 118, 3) := by decide +kernel
theorem dX8_countComersAbove_13 : decode cX8_countComersAbove 13 = .ok (.aload_n 0, 1) := by decide +kernel
theorem dX8_countComersAbove_14 : decode cX8_countComersAbove 14 = .ok (.getfield 53, 3) := by decide +kernel
theorem dX8_countComersAbove_17 : decode cX8_countComersAbove 17 = .ok (.iconst 0, 1) := by decide +kernel
theorem dX8_countComersAbove_18 : decode cX8_countComersAbove 18 = .ok (.aload_n 0, 1) := by decide +kernel
theorem dX8_countComersAbove_19 : decode cX8_countComersAbove 19 = .ok (.getfield 56, 3) := by decide +kernel
theorem dX8_countComersAbove_22 : decode cX8_countComersAbove 22 = .ok (.iconst 0, 1) := by decide +kernel
theorem dX8_countComersAbove_23 : decode cX8_countComersAbove 23 = .ok (.invokestatic 118, 3) := by decide +kernel
theorem dX8_countComersAbove_26 : decode cX8_countComersAbove 26 = .ok (.aload_n 0, 1) := by decide +kernel
theorem q_4_85 : Cond.fieldLink "BeaconDelay$Ways" 47 "BeaconDelay$Ways" "queue" "[I" ∈ gw := gw_4 (i := 85) (by decide +kernel) rfl
theorem dX8_countComersAbove_27 : decode cX8_countComersAbove 27 = .ok (.getfield 47, 3) := by decide +kernel
theorem dX8_countComersAbove_30 : decode cX8_countComersAbove 30 = .ok (.iconst 0, 1) := by decide +kernel
theorem dX8_countComersAbove_31 : decode cX8_countComersAbove 31 = .ok (.iconst 0, 1) := by decide +kernel
theorem dX8_countComersAbove_32 : decode cX8_countComersAbove 32 = .ok (.iastore, 1) := by decide +kernel
theorem dX8_countComersAbove_33 : decode cX8_countComersAbove 33 = .ok (.iconst 1, 1) := by decide +kernel
theorem dX8_countComersAbove_34 : decode cX8_countComersAbove 34 = .ok (.istore_n 2, 1) := by decide +kernel
theorem dX8_countComersAbove_35 : decode cX8_countComersAbove 35 = .ok (.iconst 0, 1) := by decide +kernel
theorem dX8_countComersAbove_36 : decode cX8_countComersAbove 36 = .ok (.istore_n 3, 1) := by decide +kernel
theorem dX8_countComersAbove_37 : decode cX8_countComersAbove 37 = .ok (.iload_n 3, 1) := by decide +kernel
theorem dX8_countComersAbove_38 : decode cX8_countComersAbove 38 = .ok (.iload_n 2, 1) := by decide +kernel
theorem dX8_countComersAbove_39 : decode cX8_countComersAbove 39 = .ok (.if_icmp .ge 104, 3) := by decide +kernel
theorem dX8_countComersAbove_143 : decode cX8_countComersAbove 143 = .ok (.iload_n 2, 1) := by decide +kernel
theorem dX8_countComersAbove_144 : decode cX8_countComersAbove 144 = .ok (.ireturn, 1) := by decide +kernel
theorem dX8_countComersAbove_42 : decode cX8_countComersAbove 42 = .ok (.iload_n 3, 1) := by decide +kernel
theorem dX8_countComersAbove_43 : decode cX8_countComersAbove 43 = .ok (.aload_n 0, 1) := by decide +kernel
theorem dX8_countComersAbove_44 : decode cX8_countComersAbove 44 = .ok (.getfield 26, 3) := by decide +kernel
theorem dX8_countComersAbove_47 : decode cX8_countComersAbove 47 = .ok (.if_icmp .ge 96, 3) := by decide +kernel
theorem dX8_countComersAbove_50 : decode cX8_countComersAbove 50 = .ok (.iconst 0, 1) := by decide +kernel
theorem dX8_countComersAbove_51 : decode cX8_countComersAbove 51 = .ok (.istore 4, 2) := by decide +kernel
theorem dX8_countComersAbove_53 : decode cX8_countComersAbove 53 = .ok (.iload 4, 2) := by decide +kernel
theorem dX8_countComersAbove_55 : decode cX8_countComersAbove 55 = .ok (.aload_n 0, 1) := by decide +kernel
theorem dX8_countComersAbove_56 : decode cX8_countComersAbove 56 = .ok (.getfield 77, 3) := by decide +kernel
theorem dX8_countComersAbove_59 : decode cX8_countComersAbove 59 = .ok (.if_icmp .ge 78, 3) := by decide +kernel
theorem dX8_countComersAbove_137 : decode cX8_countComersAbove 137 = .ok (.iinc 3 1, 3) := by decide +kernel
theorem dX8_countComersAbove_140 : decode cX8_countComersAbove 140 = .ok (.goto (-103), 3) := by decide +kernel
theorem dX8_countComersAbove_62 : decode cX8_countComersAbove 62 = .ok (.aload_n 0, 1) := by decide +kernel
theorem dX8_countComersAbove_63 : decode cX8_countComersAbove 63 = .ok (.aload_n 0, 1) := by decide +kernel
theorem dX8_countComersAbove_64 : decode cX8_countComersAbove 64 = .ok (.getfield 47, 3) := by decide +kernel
theorem dX8_countComersAbove_67 : decode cX8_countComersAbove 67 = .ok (.iload_n 3, 1) := by decide +kernel
theorem dX8_countComersAbove_68 : decode cX8_countComersAbove 68 = .ok (.iaload, 1) := by decide +kernel
theorem dX8_countComersAbove_69 : decode cX8_countComersAbove 69 = .ok (.iload 4, 2) := by decide +kernel
theorem dX8_countComersAbove_71 : decode cX8_countComersAbove 71 = .ok (.invokevirtual 124, 3) := by decide +kernel
theorem dX8_countComersAbove_74 : decode cX8_countComersAbove 74 = .ok (.istore 5, 2) := by decide +kernel
theorem dX8_countComersAbove_76 : decode cX8_countComersAbove 76 = .ok (.aload_n 0, 1) := by decide +kernel
theorem dX8_countComersAbove_77 : decode cX8_countComersAbove 77 = .ok (.iload 5, 2) := by decide +kernel
theorem dX8_countComersAbove_79 : decode cX8_countComersAbove 79 = .ok (.iload_n 1, 1) := by decide +kernel
theorem q_4_208 : Cond.code yX8_isAbove prog_10_method_22_code 4 (some FieldType.boolean) ∈ gw := gw_4 (i := 208) (rfl) rfl
theorem q_4_207 : Cond.instanceMethod yX8_isAbove ∈ gw := gw_4 (i := 207) (by decide +kernel) rfl
theorem q_s_38 : Cond.selects "BeaconDelay$Ways" yX8_isAbove yX8_isAbove ∈ gw := gw_s (i := 38) (by decide +kernel) rfl
theorem mt_X8_isAbove : MtV yX8_isAbove cX8_isAbove 4 (some .boolean) 2 := ⟨⟨q_4_208, q_1_18, by decide +kernel, by decide +kernel, by decide +kernel⟩, q_4_207, q_s_38⟩
theorem q_4_205 : Cond.methodLink "BeaconDelay$Ways" 144 yX8_isAbove ∈ gw := gw_4 (i := 205) (by decide +kernel) rfl
theorem dX8_countComersAbove_80 : decode cX8_countComersAbove 80 = .ok (.invokevirtual 144, 3) := by decide +kernel
theorem dX8_countComersAbove_83 : decode cX8_countComersAbove 83 = .ok (.ifCond .eq 48, 3) := by decide +kernel
theorem dX8_countComersAbove_131 : decode cX8_countComersAbove 131 = .ok (.iinc 4 1, 3) := by decide +kernel
theorem dX8_countComersAbove_134 : decode cX8_countComersAbove 134 = .ok (.goto (-81), 3) := by decide +kernel
theorem dX8_countComersAbove_86 : decode cX8_countComersAbove 86 = .ok (.aload_n 0, 1) := by decide +kernel
theorem dX8_countComersAbove_87 : decode cX8_countComersAbove 87 = .ok (.getfield 50, 3) := by decide +kernel
theorem dX8_countComersAbove_90 : decode cX8_countComersAbove 90 = .ok (.iload 5, 2) := by decide +kernel
theorem dX8_countComersAbove_92 : decode cX8_countComersAbove 92 = .ok (.iaload, 1) := by decide +kernel
theorem dX8_countComersAbove_93 : decode cX8_countComersAbove 93 = .ok (.ifCond .ne 27, 3) := by decide +kernel
theorem dX8_countComersAbove_120 : decode cX8_countComersAbove 120 = .ok (.aload_n 0, 1) := by decide +kernel
theorem dX8_countComersAbove_121 : decode cX8_countComersAbove 121 = .ok (.getfield 50, 3) := by decide +kernel
theorem dX8_countComersAbove_124 : decode cX8_countComersAbove 124 = .ok (.iload 5, 2) := by decide +kernel
theorem dX8_countComersAbove_126 : decode cX8_countComersAbove 126 = .ok (.dup2, 1) := by decide +kernel
theorem dX8_countComersAbove_127 : decode cX8_countComersAbove 127 = .ok (.iaload, 1) := by decide +kernel
theorem dX8_countComersAbove_128 : decode cX8_countComersAbove 128 = .ok (.iconst 1, 1) := by decide +kernel
theorem dX8_countComersAbove_129 : decode cX8_countComersAbove 129 = .ok (.iadd, 1) := by decide +kernel
theorem dX8_countComersAbove_130 : decode cX8_countComersAbove 130 = .ok (.iastore, 1) := by decide +kernel
theorem dX8_countComersAbove_96 : decode cX8_countComersAbove 96 = .ok (.iload 5, 2) := by decide +kernel
theorem dX8_countComersAbove_98 : decode cX8_countComersAbove 98 = .ok (.ifCond .eq 22, 3) := by decide +kernel
theorem dX8_countComersAbove_101 : decode cX8_countComersAbove 101 = .ok (.iload_n 2, 1) := by decide +kernel
theorem dX8_countComersAbove_102 : decode cX8_countComersAbove 102 = .ok (.aload_n 0, 1) := by decide +kernel
theorem dX8_countComersAbove_103 : decode cX8_countComersAbove 103 = .ok (.getfield 26, 3) := by decide +kernel
theorem dX8_countComersAbove_106 : decode cX8_countComersAbove 106 = .ok (.if_icmp .ge 14, 3) := by decide +kernel
theorem dX8_countComersAbove_109 : decode cX8_countComersAbove 109 = .ok (.aload_n 0, 1) := by decide +kernel
theorem dX8_countComersAbove_110 : decode cX8_countComersAbove 110 = .ok (.getfield 47, 3) := by decide +kernel
theorem dX8_countComersAbove_113 : decode cX8_countComersAbove 113 = .ok (.iload_n 2, 1) := by decide +kernel
theorem dX8_countComersAbove_114 : decode cX8_countComersAbove 114 = .ok (.iload 5, 2) := by decide +kernel
theorem dX8_countComersAbove_116 : decode cX8_countComersAbove 116 = .ok (.iastore, 1) := by decide +kernel
theorem dX8_countComersAbove_117 : decode cX8_countComersAbove 117 = .ok (.iinc 2 1, 3) := by decide +kernel
set_option maxHeartbeats 4000000 in
set_option maxRecDepth 100000 in
theorem k_X8_countComersAbove_0 (l : Launch) (V : GV) (n : Nat) (L : Nat) (Yw : Nat → Nat) (y : Nat → Nat) (a1 : Int32) (pYw0_0 : Int32) (wa : Nat) (pYw0_5 : Int32) (pYw0_6 : Int32) (wb : Nat) (pYw0_14 : Int32) (pYw0_15 : Int32) (pYw0_16 : Int32) (fYw1 : Nat → Int32) (fwa : Nat → Int32) (fYw6 : Nat → Int32) (fYw7 : Nat → Int32) (fwb : Nat → Int32) (hn : 1 ≤ n ∧ n ≤ 3646) (hL : 1 ≤ L ∧ L ≤ 10000) (bpYw0_0 : iv 0 4 pYw0_0) (bpYw0_5 : iv 0 ((n : Int)) pYw0_5) (bpYw0_6 : iv 0 4 pYw0_6) (bpYw0_14 : iv 0 4 pYw0_14) (bpYw0_15 : iv 0 9 pYw0_15) (bpYw0_16 : iv 0 ((n : Int)) pYw0_16) (tfYw1 : ∀ j, iv 0 ((L : Int) - 1) (fYw1 j)) (tfYw6 : ∀ j, iv 0 ((n : Int) - 1) (fYw6 j)) (tfYw7 : ∀ j, iv 0 ((n : Int) - 1) (fYw7 j)) : Ct l V yX8_countComersAbove (.code yX8_countComersAbove cX8_countComersAbove 6 (some .int)) 3 [.ref (Yw 0), .int a1] [(Yw 0, .inr (8, o8_iirrriirrrrrrriii pYw0_0 (nI n) (Yw 1) (Yw 2) wa pYw0_5 pYw0_6 (y 19) (Yw 4) (Yw 5) (Yw 6) (Yw 7) (Yw 8) wb pYw0_14 pYw0_15 pYw0_16)), (Yw 1, aI V n fYw1), (wa, aI V n fwa), (Yw 6, aI V (n * 4) fYw6), (Yw 7, aI V n fYw7), (wb, aI V n fwb)] 0 0 (QI V (fun (r : Int32) (w : va_W) => ∃ (g0 : Nat → Int32) (g1 : Nat → Int32) (g2 : Nat → Int32), (∀ j, iv 0 ((n : Int) - 1) (g1 j)) ∧ iv 0 ((n : Int)) r ∧ w = [(Yw 0, .inr (8, o8_iirrriirrrrrrriii pYw0_0 (nI n) (Yw 1) (Yw 2) wa pYw0_5 pYw0_6 (y 19) (Yw 4) (Yw 5) (Yw 6) (Yw 7) (Yw 8) wb pYw0_14 pYw0_15 pYw0_16)), (Yw 1, aI V n fYw1), (wa, aI V n g0), (Yw 6, aI V (n * 4) fYw6), (Yw 7, aI V n g1), (wb, aI V n g2)])) := by
  refine Ct.of (by decide) (Nat.le_of_ble_eq_true rfl) (fun p e s m below meth c A ls hx hb hr hml hown hlk hnm hg hP hK hD hE hA hS hl => ?_)
  have hl : lv_has ls 6 [(0, .ref (Yw 0)), (1, .int a1)] := hl
  refine lv_aload_n hx hb dX8_countComersAbove_0 rfl (lv_at hl 0 rfl) ?_
  refine va_get (ci := 8) (v := .ref wa) (C := RX8) (T := TX8) (N := 17) hx hb hg inX8 hown hK hP 0 rfl rfl 4 (by decide) (hg _ q_4_74) (fun _ h9 => h9) rfl dX8_countComersAbove_1 ?_
  refine lv_iconst (v := 0) hx hb dX8_countComersAbove_4 (by decide) ?_
  refine lv_aload_n hx hb dX8_countComersAbove_5 rfl (lv_at hl 0 rfl) ?_
  refine va_get (ci := 8) (v := .int pYw0_5) (C := RX8) (T := TX8) (N := 17) hx hb hg inX8 hown hK hP 0 rfl rfl 5 (by decide) (hg _ q_4_76) (fun _ h9 => h9) rfl dX8_countComersAbove_6 ?_
  refine lv_iconst (v := 0) hx hb dX8_countComersAbove_9 (by decide) ?_
  refine jnV (wr := [(Yw 0, .inr (8, o8_iirrriirrrrrrriii pYw0_0 (nI n) (Yw 1) (Yw 2) wa pYw0_5 pYw0_6 (y 19) (Yw 4) (Yw 5) (Yw 6) (Yw 7) (Yw 8) wb pYw0_14 pYw0_15 pYw0_16)), (Yw 1, aI V n fYw1), (Yw 6, aI V (n * 4) fYw6), (Yw 7, aI V n fYw7), (wb, aI V n fwb)]) (rnS (rest := []) ⟨hx, hb, hml, hown, hg⟩ (k_J7_fill_fda19_0 l V n 0 pYw0_5 0 wa fwa hn (iv_c (0 : Int32) (by decide)) bpYw0_5) mt_J7_fill_fda19 q_4_172 ⟨Nat.le_of_ble_eq_true rfl, Nat.le_of_ble_eq_true rfl⟩ hK hP hD hS hA hE [2] rfl rfl rfl hl.1 rfl (Nat.le_of_ble_eq_true rfl) dX8_countComersAbove_10 ⟨Nat.le_of_ble_eq_true rfl, Nat.le_of_ble_eq_true rfl⟩) hP hD hS hA [2] [0, 1, 3, 4, 5] rfl rfl rfl (by decide) (fun  w H locs hw hP hD hS => ?_)
  obtain ⟨f_1, rfl⟩ := hw
  have hP : va_P V.1 vwCl [(Yw 0, .inr (8, o8_iirrriirrrrrrriii pYw0_0 (nI n) (Yw 1) (Yw 2) wa pYw0_5 pYw0_6 (y 19) (Yw 4) (Yw 5) (Yw 6) (Yw 7) (Yw 8) wb pYw0_14 pYw0_15 pYw0_16)), (Yw 1, aI V n fYw1), (Yw 6, aI V (n * 4) fYw6), (Yw 7, aI V n fYw7), (wb, aI V n fwb), (wa, aI V n f_1)] H := hP
  have hD := cpD hP hD
  refine lv_aload_n hx hb dX8_countComersAbove_13 rfl (lv_at hl 0 rfl) ?_
  refine va_get (ci := 8) (v := .ref wb) (C := RX8) (T := TX8) (N := 17) hx hb hg inX8 hown hK hP 0 rfl rfl 13 (by decide) (hg _ q_4_87) (fun _ h9 => h9) rfl dX8_countComersAbove_14 ?_
  refine lv_iconst (v := 0) hx hb dX8_countComersAbove_17 (by decide) ?_
  refine lv_aload_n hx hb dX8_countComersAbove_18 rfl (lv_at hl 0 rfl) ?_
  refine va_get (ci := 8) (v := .int pYw0_5) (C := RX8) (T := TX8) (N := 17) hx hb hg inX8 hown hK hP 0 rfl rfl 5 (by decide) (hg _ q_4_76) (fun _ h9 => h9) rfl dX8_countComersAbove_19 ?_
  refine lv_iconst (v := 0) hx hb dX8_countComersAbove_22 (by decide) ?_
  refine jnV (wr := [(Yw 0, .inr (8, o8_iirrriirrrrrrriii pYw0_0 (nI n) (Yw 1) (Yw 2) wa pYw0_5 pYw0_6 (y 19) (Yw 4) (Yw 5) (Yw 6) (Yw 7) (Yw 8) wb pYw0_14 pYw0_15 pYw0_16)), (Yw 1, aI V n fYw1), (Yw 6, aI V (n * 4) fYw6), (Yw 7, aI V n fYw7), (wa, aI V n f_1)]) (rnS (rest := []) ⟨hx, hb, hml, hown, hg⟩ (k_J7_fill_fda19_1 l V n 0 pYw0_5 0 wb fwb hn (iv_c (0 : Int32) (by decide)) bpYw0_5) mt_J7_fill_fda19 q_4_172 ⟨Nat.le_of_ble_eq_true rfl, Nat.le_of_ble_eq_true rfl⟩ hK hP hD hS hA hE [4] rfl rfl rfl hl.1 rfl (Nat.le_of_ble_eq_true rfl) dX8_countComersAbove_23 ⟨Nat.le_of_ble_eq_true rfl, Nat.le_of_ble_eq_true rfl⟩) hP hD hS hA [4] [0, 1, 2, 3, 5] rfl rfl rfl (by decide) (fun  w H locs hw hP hD hS => ?_)
  obtain ⟨f_2, rfl⟩ := hw
  have hP : va_P V.1 vwCl [(Yw 0, .inr (8, o8_iirrriirrrrrrriii pYw0_0 (nI n) (Yw 1) (Yw 2) wa pYw0_5 pYw0_6 (y 19) (Yw 4) (Yw 5) (Yw 6) (Yw 7) (Yw 8) wb pYw0_14 pYw0_15 pYw0_16)), (Yw 1, aI V n fYw1), (Yw 6, aI V (n * 4) fYw6), (Yw 7, aI V n fYw7), (wa, aI V n f_1), (wb, aI V n f_2)] H := hP
  have hD := cpD hP hD
  refine lv_aload_n hx hb dX8_countComersAbove_26 rfl (lv_at hl 0 rfl) ?_
  refine va_get (ci := 8) (v := .ref (Yw 7)) (C := RX8) (T := TX8) (N := 17) hx hb hg inX8 hown hK hP 0 rfl rfl 11 (by decide) (hg _ q_4_85) (fun _ h9 => h9) rfl dX8_countComersAbove_27 ?_
  refine lv_iconst (v := 0) hx hb dX8_countComersAbove_30 (by decide) ?_
  refine lv_iconst (v := 0) hx hb dX8_countComersAbove_31 (by decide) ?_
  refine va_iast hx hb hK hP hD hS 3 0 rfl rfl (iv_in (iv_c (0 : Int32) (a := 0) (b := 0) (by decide)) (by first | decide | omega)) dX8_countComersAbove_32 (fun H locs hP hD hS => ?_)
  obtain ⟨f_3, tf_3, hP, hD⟩ : ∃ f_3 : Nat → Int32, (∀ j, iv 0 ((n : Int) - 1) (f_3 j)) ∧ va_P V.1 vwCl [(Yw 0, .inr (8, o8_iirrriirrrrrrriii pYw0_0 (nI n) (Yw 1) (Yw 2) wa pYw0_5 pYw0_6 (y 19) (Yw 4) (Yw 5) (Yw 6) (Yw 7) (Yw 8) wb pYw0_14 pYw0_15 pYw0_16)), (Yw 1, aI V n fYw1), (Yw 6, aI V (n * 4) fYw6), (Yw 7, aI V n f_3), (wa, aI V n f_1), (wb, aI V n f_2)] H ∧ va_D A [(Yw 0, .inr (8, o8_iirrriirrrrrrriii pYw0_0 (nI n) (Yw 1) (Yw 2) wa pYw0_5 pYw0_6 (y 19) (Yw 4) (Yw 5) (Yw 6) (Yw 7) (Yw 8) wb pYw0_14 pYw0_15 pYw0_16)), (Yw 1, aI V n fYw1), (Yw 6, aI V (n * 4) fYw6), (Yw 7, aI V n f_3), (wa, aI V n f_1), (wb, aI V n f_2)] := ⟨_, ivU tfYw7 _ (iv_w (iv_c (0 : Int32) (a := 0) (b := 0) (by decide)) (by first | decide | omega)), hP, hD⟩
  refine lv_iconst (v := 1) hx hb dX8_countComersAbove_33 (by decide) ?_
  refine lv_istore_n (lv' := [(2, .int 1), (0, .ref (Yw 0)), (1, .int a1)]) hx hb dX8_countComersAbove_34 rfl hl (by decide) rfl (fun ls hl => ?_)
  refine lv_iconst (v := 0) hx hb dX8_countComersAbove_35 (by decide) ?_
  refine lv_istore_n (lv' := [(3, .int 0), (2, .int 1), (0, .ref (Yw 0)), (1, .int a1)]) hx hb dX8_countComersAbove_36 rfl hl (by decide) rfl (fun ls hl => ?_)
  refine loopF (X := fun (n_8 : Nat) (H : Heap) (locs : List Loc) (ls : Array Slot) => ∃ (u_4 : Int32) (u_5 : Int32) (f_6 : Nat → Int32) (f_7 : Nat → Int32), (iv 0 2147483647 u_4) ∧ (iv 0 ((n : Int)) u_5) ∧ (∀ j, iv 0 ((n : Int) - 1) (f_6 j)) ∧ n_8 = (2147483647 - (u_4 : Int32).toInt).toNat ∧ va_P V.1 vwCl [(Yw 0, .inr (8, o8_iirrriirrrrrrriii pYw0_0 (nI n) (Yw 1) (Yw 2) wa pYw0_5 pYw0_6 (y 19) (Yw 4) (Yw 5) (Yw 6) (Yw 7) (Yw 8) wb pYw0_14 pYw0_15 pYw0_16)), (Yw 1, aI V n fYw1), (Yw 6, aI V (n * 4) fYw6), (Yw 7, aI V n f_6), (wa, aI V n f_7), (wb, aI V n f_2)] H ∧ va_D A [(Yw 0, .inr (8, o8_iirrriirrrrrrriii pYw0_0 (nI n) (Yw 1) (Yw 2) wa pYw0_5 pYw0_6 (y 19) (Yw 4) (Yw 5) (Yw 6) (Yw 7) (Yw 8) wb pYw0_14 pYw0_15 pYw0_16)), (Yw 1, aI V n fYw1), (Yw 6, aI V (n * 4) fYw6), (Yw 7, aI V n f_6), (wa, aI V n f_7), (wb, aI V n f_2)] ∧ va_S A s.heap H locs ∧ lv_has ls 6 [(3, .int u_4), (2, .int u_5), (0, .ref (Yw 0)), (1, .int a1)]) (g := fun ls => F0 m 37 ls []) (fun n_8 H locs ls hX ihn_8 => ?_) _ ⟨0, 1, f_3, f_1, (iv_c (0 : Int32) (by decide)), (iv_w (iv_c (1 : Int32) (a := 1) (b := 1) (by decide)) (by first | decide | omega)), tf_3, rfl, hP, hD, hS, lv_sub hl [0, 1, 2, 3] rfl⟩
  obtain ⟨u_4, u_5, f_6, f_7, bu_4, bu_5, tf_6, en_8, hP, hD, hS, hl⟩ := hX
  refine lv_iload_n hx hb dX8_countComersAbove_37 rfl (lv_at hl 0 rfl) ?_
  refine lv_iload_n hx hb dX8_countComersAbove_38 rfl (lv_at hl 1 rfl) ?_
  refine lv_icmp_ge (tgt := 143) hx hb dX8_countComersAbove_39 (by decide) (fun c_9 => ?_) (fun c_9 => ?_)
  · refine lv_iload_n hx hb dX8_countComersAbove_143 rfl (lv_at hl 1 rfl) ?_
    have hP := subP (ws' := [(Yw 0, .inr (8, o8_iirrriirrrrrrriii pYw0_0 (nI n) (Yw 1) (Yw 2) wa pYw0_5 pYw0_6 (y 19) (Yw 4) (Yw 5) (Yw 6) (Yw 7) (Yw 8) wb pYw0_14 pYw0_15 pYw0_16)), (Yw 1, aI V n fYw1), (wa, aI V n f_7), (Yw 6, aI V (n * 4) fYw6), (Yw 7, aI V n f_6), (wb, aI V n f_2)]) hP [0, 1, 4, 2, 3, 5] rfl
    have hD := subD hP hD [0, 1, 4, 2, 3, 5] rfl rfl
    exact fiI hx hb hr hlk hK hP hD hS dX8_countComersAbove_144 (Nat.le_of_ble_eq_true rfl) (Nat.le_of_ble_eq_true rfl) (⟨f_7, f_6, f_2, tf_6, bu_5, rfl⟩)
  · have b_10 : iv 0 ((n : Int) - 1) u_4 := iv_l1 (Int32.not_le.mp c_9) bu_4 bu_5 (by first | decide | omega)
    have b_11 : iv 1 ((n : Int)) u_5 := iv_l2 (Int32.not_le.mp c_9) bu_4 bu_5 (by first | decide | omega)
    refine lv_iload_n hx hb dX8_countComersAbove_42 rfl (lv_at hl 0 rfl) ?_
    refine lv_aload_n hx hb dX8_countComersAbove_43 rfl (lv_at hl 2 rfl) ?_
    refine va_get (ci := 8) (v := .int (nI n)) (C := RX8) (T := TX8) (N := 17) hx hb hg inX8 hown hK hP 0 rfl rfl 1 (by decide) (hg _ q_4_67) (fun _ h9 => h9) rfl dX8_countComersAbove_44 ?_
    refine lv_icmp_ge (tgt := 143) hx hb dX8_countComersAbove_47 (by decide) (fun c_12 => absurd c_12 (iv_nle (iv_nI (by omega)) b_10 (by first | decide | omega))) (fun _ => ?_)
    refine lv_iconst (v := 0) hx hb dX8_countComersAbove_50 (by decide) ?_
    refine lv_istore (lv' := [(4, .int 0), (3, .int u_4), (2, .int u_5), (0, .ref (Yw 0)), (1, .int a1)]) hx hb dX8_countComersAbove_51 hl (by decide) rfl (fun ls hl => ?_)
    refine loopF (X := fun (n_17 : Nat) (H : Heap) (locs : List Loc) (ls : Array Slot) => ∃ (u_13 : Int32) (u_14 : Int32) (f_15 : Nat → Int32) (f_16 : Nat → Int32), (iv 0 2147483647 u_13) ∧ (iv 0 ((n : Int)) u_14) ∧ (∀ j, iv 0 ((n : Int) - 1) (f_15 j)) ∧ n_17 = (2147483647 - (u_13 : Int32).toInt).toNat ∧ va_P V.1 vwCl [(Yw 0, .inr (8, o8_iirrriirrrrrrriii pYw0_0 (nI n) (Yw 1) (Yw 2) wa pYw0_5 pYw0_6 (y 19) (Yw 4) (Yw 5) (Yw 6) (Yw 7) (Yw 8) wb pYw0_14 pYw0_15 pYw0_16)), (Yw 1, aI V n fYw1), (Yw 6, aI V (n * 4) fYw6), (Yw 7, aI V n f_15), (wa, aI V n f_16), (wb, aI V n f_2)] H ∧ va_D A [(Yw 0, .inr (8, o8_iirrriirrrrrrriii pYw0_0 (nI n) (Yw 1) (Yw 2) wa pYw0_5 pYw0_6 (y 19) (Yw 4) (Yw 5) (Yw 6) (Yw 7) (Yw 8) wb pYw0_14 pYw0_15 pYw0_16)), (Yw 1, aI V n fYw1), (Yw 6, aI V (n * 4) fYw6), (Yw 7, aI V n f_15), (wa, aI V n f_16), (wb, aI V n f_2)] ∧ va_S A s.heap H locs ∧ lv_has ls 6 [(4, .int u_13), (3, .int u_4), (2, .int u_14), (0, .ref (Yw 0)), (1, .int a1)]) (g := fun ls => F0 m 53 ls []) (fun n_17 H locs ls hX ihn_17 => ?_) _ ⟨0, u_5, f_6, f_7, (iv_c (0 : Int32) (by decide)), (iv_w b_11 (by first | decide | omega)), tf_6, rfl, hP, hD, hS, lv_sub hl [0, 1, 2, 3, 4] rfl⟩
    obtain ⟨u_13, u_14, f_15, f_16, bu_13, bu_14, tf_15, en_17, hP, hD, hS, hl⟩ := hX
    refine lv_iload hx hb dX8_countComersAbove_53 (lv_at hl 0 rfl) ?_
    refine lv_aload_n hx hb dX8_countComersAbove_55 rfl (lv_at hl 3 rfl) ?_
    refine va_get (ci := 8) (v := .int pYw0_6) (C := RX8) (T := TX8) (N := 17) hx hb hg inX8 hown hK hP 0 rfl rfl 6 (by decide) (hg _ q_4_80) (fun _ h9 => h9) rfl dX8_countComersAbove_56 ?_
    refine lv_icmp_ge (tgt := 137) hx hb dX8_countComersAbove_59 (by decide) (fun c_18 => ?_) (fun c_18 => ?_)
    · obtain ⟨x_19, ex_19⟩ : ∃ z9 : Int32, z9 = u_4 + 1 := ⟨_, rfl⟩
      have bx_19 : iv 1 ((n : Int)) x_19 := by rw [ex_19]; exact iv_add b_10 (iv_c (1 : Int32) (a := 1) (b := 1) (by first | decide | omega)) (by first | decide | omega)
      refine lv_iinc (v := x_19) (lv' := [(3, .int x_19), (4, .int u_13), (2, .int u_14), (0, .ref (Yw 0)), (1, .int a1)]) hx hb dX8_countComersAbove_137 hl (k := 1) rfl (by rw [ex_19]; rfl) (by decide) rfl (fun ls hl => ?_)
      refine lv_goto (tgt := 37) hx hb dX8_countComersAbove_140 (by decide) ?_
      exact ihn_8 _ _ _ _ (by rw [en_8, ex_19]; exact mu_up b_10 (by first | decide | omega)) ⟨x_19, u_14, f_15, f_16, (iv_w bx_19 (by first | decide | omega)), bu_14, tf_15, rfl, hP, hD, hS, lv_sub hl [0, 2, 3, 4] rfl⟩
    · have b_20 : iv 0 3 u_13 := iv_l1 (Int32.not_le.mp c_18) bu_13 bpYw0_6 (by first | decide | omega)
      have b_21 : iv 1 4 pYw0_6 := iv_l2 (Int32.not_le.mp c_18) bu_13 bpYw0_6 (by first | decide | omega)
      refine lv_aload_n hx hb dX8_countComersAbove_62 rfl (lv_at hl 3 rfl) ?_
      refine lv_aload_n hx hb dX8_countComersAbove_63 rfl (lv_at hl 3 rfl) ?_
      refine va_get (ci := 8) (v := .ref (Yw 7)) (C := RX8) (T := TX8) (N := 17) hx hb hg inX8 hown hK hP 0 rfl rfl 11 (by decide) (hg _ q_4_85) (fun _ h9 => h9) rfl dX8_countComersAbove_64 ?_
      refine lv_iload_n hx hb dX8_countComersAbove_67 rfl (lv_at hl 1 rfl) ?_
      refine va_iald hx hb hK hP 3 0 rfl rfl (iv_in b_10 (by first | decide | omega)) dX8_countComersAbove_68 ?_
      refine lv_topi (fun x_22 ex_22 => ?_)
      have bx_22 : iv 0 ((n : Int) - 1) x_22 := by rw [ex_22]; exact tf_15 _
      refine lv_iload hx hb dX8_countComersAbove_69 (lv_at hl 0 rfl) ?_
      refine jnI (wr := [(Yw 1, aI V n fYw1), (Yw 7, aI V n f_15), (wa, aI V n f_16), (wb, aI V n f_2)]) (rnV (rest := []) ⟨hx, hb, hml, hown, hg⟩ (k_X8_behind_0 l V n Yw y x_22 u_13 pYw0_0 wa pYw0_5 pYw0_6 wb pYw0_14 pYw0_15 pYw0_16 fYw6 hn bx_22 b_20 bpYw0_0 bpYw0_5 (iv_w b_21 (by first | decide | omega)) bpYw0_14 bpYw0_15 bpYw0_16 tfYw6) mt_X8_behind q_4_182 ⟨Nat.le_of_ble_eq_true rfl, Nat.le_of_ble_eq_true rfl⟩ hK hP hD hS hA hE [0, 2] rfl rfl 0 rfl rfl rfl rfl hl.1 rfl (Nat.le_of_ble_eq_true rfl) dX8_countComersAbove_71 ⟨Nat.le_of_ble_eq_true rfl, Nat.le_of_ble_eq_true rfl⟩) hP hD hS hA [0, 2] [1, 3, 4, 5] rfl rfl rfl (by decide) (fun r_23 w H locs hw hP hD hS => ?_)
      obtain ⟨br_23, er_23, rfl⟩ := hw
      have hP : va_P V.1 vwCl [(Yw 1, aI V n fYw1), (Yw 7, aI V n f_15), (wa, aI V n f_16), (wb, aI V n f_2), (Yw 0, .inr (8, o8_iirrriirrrrrrriii pYw0_0 (nI n) (Yw 1) (Yw 2) wa pYw0_5 pYw0_6 (y 19) (Yw 4) (Yw 5) (Yw 6) (Yw 7) (Yw 8) wb pYw0_14 pYw0_15 pYw0_16)), (Yw 6, aI V (n * 4) fYw6)] H := hP
      have hD := cpD hP hD
      refine lv_istore (lv' := [(5, .int r_23), (4, .int u_13), (3, .int u_4), (2, .int u_14), (0, .ref (Yw 0)), (1, .int a1)]) hx hb dX8_countComersAbove_74 hl (by decide) rfl (fun ls hl => ?_)
      refine lv_aload_n hx hb dX8_countComersAbove_76 rfl (lv_at hl 4 rfl) ?_
      refine lv_iload hx hb dX8_countComersAbove_77 (lv_at hl 0 rfl) ?_
      refine lv_iload_n hx hb dX8_countComersAbove_79 rfl (lv_at hl 5 rfl) ?_
      refine jnI (wr := [(Yw 7, aI V n f_15), (wa, aI V n f_16), (wb, aI V n f_2), (Yw 6, aI V (n * 4) fYw6)]) (rnV (rest := []) ⟨hx, hb, hml, hown, hg⟩ (k_X8_isAbove_0 l V n L Yw y r_23 a1 pYw0_0 wa pYw0_5 pYw0_6 wb pYw0_14 pYw0_15 pYw0_16 fYw1 hn hL br_23 bpYw0_0 bpYw0_5 (iv_w b_21 (by first | decide | omega)) bpYw0_14 bpYw0_15 bpYw0_16 tfYw1) mt_X8_isAbove q_4_205 ⟨Nat.le_of_ble_eq_true rfl, Nat.le_of_ble_eq_true rfl⟩ hK hP hD hS hA hE [4, 0] rfl rfl 4 rfl rfl rfl rfl hl.1 rfl (Nat.le_of_ble_eq_true rfl) dX8_countComersAbove_80 ⟨Nat.le_of_ble_eq_true rfl, Nat.le_of_ble_eq_true rfl⟩) hP hD hS hA [4, 0] [1, 2, 3, 5] rfl rfl rfl (by decide) (fun r_24 w H locs hw hP hD hS => ?_)
      obtain ⟨br_24, rfl⟩ := hw
      have hP : va_P V.1 vwCl [(Yw 7, aI V n f_15), (wa, aI V n f_16), (wb, aI V n f_2), (Yw 6, aI V (n * 4) fYw6), (Yw 0, .inr (8, o8_iirrriirrrrrrriii pYw0_0 (nI n) (Yw 1) (Yw 2) wa pYw0_5 pYw0_6 (y 19) (Yw 4) (Yw 5) (Yw 6) (Yw 7) (Yw 8) wb pYw0_14 pYw0_15 pYw0_16)), (Yw 1, aI V n fYw1)] H := hP
      have hD := cpD hP hD
      refine lv_if_eq (tgt := 131) hx hb dX8_countComersAbove_83 (by decide) (fun c_25 => ?_) (fun c_25 => ?_)
      · have b_26 : iv 0 0 r_24 := iv_q c_25 (iv_c (0 : Int32) (a := 0) (b := 0) (by decide))
        obtain ⟨x_27, ex_27⟩ : ∃ z9 : Int32, z9 = u_13 + 1 := ⟨_, rfl⟩
        have bx_27 : iv 1 4 x_27 := by rw [ex_27]; exact iv_add b_20 (iv_c (1 : Int32) (a := 1) (b := 1) (by first | decide | omega)) (by first | decide | omega)
        refine lv_iinc (v := x_27) (lv' := [(4, .int x_27), (5, .int r_23), (3, .int u_4), (2, .int u_14), (0, .ref (Yw 0)), (1, .int a1)]) hx hb dX8_countComersAbove_131 hl (k := 1) rfl (by rw [ex_27]; rfl) (by decide) rfl (fun ls hl => ?_)
        refine lv_goto (tgt := 53) hx hb dX8_countComersAbove_134 (by decide) ?_
        have hP := subP (ws' := [(Yw 0, .inr (8, o8_iirrriirrrrrrriii pYw0_0 (nI n) (Yw 1) (Yw 2) wa pYw0_5 pYw0_6 (y 19) (Yw 4) (Yw 5) (Yw 6) (Yw 7) (Yw 8) wb pYw0_14 pYw0_15 pYw0_16)), (Yw 1, aI V n fYw1), (Yw 6, aI V (n * 4) fYw6), (Yw 7, aI V n f_15), (wa, aI V n f_16), (wb, aI V n f_2)]) hP [4, 5, 3, 0, 1, 2] rfl
        have hD := subD hP hD [4, 5, 3, 0, 1, 2] rfl rfl
        exact ihn_17 _ _ _ _ (by rw [en_17, ex_27]; exact mu_up b_20 (by first | decide | omega)) ⟨x_27, u_14, f_15, f_16, (iv_w bx_27 (by first | decide | omega)), bu_14, tf_15, rfl, hP, hD, hS, lv_sub hl [0, 2, 3, 4, 5] rfl⟩
      · have b_28 : iv 1 1 r_24 := iv_n0 c_25 br_24 (iv_c (0 : Int32) (a := 0) (b := 0) (by decide)) (by first | decide | omega)
        refine lv_aload_n hx hb dX8_countComersAbove_86 rfl (lv_at hl 4 rfl) ?_
        refine va_get (ci := 8) (v := .ref wa) (C := RX8) (T := TX8) (N := 17) hx hb hg inX8 hown hK hP 4 rfl rfl 4 (by decide) (hg _ q_4_74) (fun _ h9 => h9) rfl dX8_countComersAbove_87 ?_
        refine lv_iload hx hb dX8_countComersAbove_90 (lv_at hl 0 rfl) ?_
        refine va_iald hx hb hK hP 1 0 rfl rfl (iv_in br_23 (by first | decide | omega)) dX8_countComersAbove_92 ?_
        refine lv_topi (fun x_29 ex_29 => ?_)
        refine lv_if_ne (tgt := 120) hx hb dX8_countComersAbove_93 (by decide) (fun c_30 => ?_) (fun c_30 => ?_)
        · refine lv_aload_n hx hb dX8_countComersAbove_120 rfl (lv_at hl 4 rfl) ?_
          refine va_get (ci := 8) (v := .ref wa) (C := RX8) (T := TX8) (N := 17) hx hb hg inX8 hown hK hP 4 rfl rfl 4 (by decide) (hg _ q_4_74) (fun _ h9 => h9) rfl dX8_countComersAbove_121 ?_
          refine lv_iload hx hb dX8_countComersAbove_124 (lv_at hl 0 rfl) ?_
          refine lv_dup2_11 hx hb dX8_countComersAbove_126 rfl rfl ?_
          refine va_iald hx hb hK hP 1 0 rfl rfl (iv_in br_23 (by first | decide | omega)) dX8_countComersAbove_127 ?_
          refine lv_topi (fun x_31 ex_31 => ?_)
          refine lv_iconst (v := 1) hx hb dX8_countComersAbove_128 (by decide) ?_
          refine lv_iadd hx hb dX8_countComersAbove_129 ?_
          refine lv_topi (fun x_32 ex_32 => ?_)
          refine va_iast hx hb hK hP hD hS 1 0 rfl rfl (iv_in br_23 (by first | decide | omega)) dX8_countComersAbove_130 (fun H locs hP hD hS => ?_)
          obtain ⟨f_33, hP, hD⟩ : ∃ f_33 : Nat → Int32, va_P V.1 vwCl [(Yw 7, aI V n f_15), (wa, aI V n f_33), (wb, aI V n f_2), (Yw 6, aI V (n * 4) fYw6), (Yw 0, .inr (8, o8_iirrriirrrrrrriii pYw0_0 (nI n) (Yw 1) (Yw 2) wa pYw0_5 pYw0_6 (y 19) (Yw 4) (Yw 5) (Yw 6) (Yw 7) (Yw 8) wb pYw0_14 pYw0_15 pYw0_16)), (Yw 1, aI V n fYw1)] H ∧ va_D A [(Yw 7, aI V n f_15), (wa, aI V n f_33), (wb, aI V n f_2), (Yw 6, aI V (n * 4) fYw6), (Yw 0, .inr (8, o8_iirrriirrrrrrriii pYw0_0 (nI n) (Yw 1) (Yw 2) wa pYw0_5 pYw0_6 (y 19) (Yw 4) (Yw 5) (Yw 6) (Yw 7) (Yw 8) wb pYw0_14 pYw0_15 pYw0_16)), (Yw 1, aI V n fYw1)] := ⟨_, hP, hD⟩
          obtain ⟨x_34, ex_34⟩ : ∃ z9 : Int32, z9 = u_13 + 1 := ⟨_, rfl⟩
          have bx_34 : iv 1 4 x_34 := by rw [ex_34]; exact iv_add b_20 (iv_c (1 : Int32) (a := 1) (b := 1) (by first | decide | omega)) (by first | decide | omega)
          refine lv_iinc (v := x_34) (lv' := [(4, .int x_34), (5, .int r_23), (3, .int u_4), (2, .int u_14), (0, .ref (Yw 0)), (1, .int a1)]) hx hb dX8_countComersAbove_131 hl (k := 1) rfl (by rw [ex_34]; rfl) (by decide) rfl (fun ls hl => ?_)
          refine lv_goto (tgt := 53) hx hb dX8_countComersAbove_134 (by decide) ?_
          have hP := subP (ws' := [(Yw 0, .inr (8, o8_iirrriirrrrrrriii pYw0_0 (nI n) (Yw 1) (Yw 2) wa pYw0_5 pYw0_6 (y 19) (Yw 4) (Yw 5) (Yw 6) (Yw 7) (Yw 8) wb pYw0_14 pYw0_15 pYw0_16)), (Yw 1, aI V n fYw1), (Yw 6, aI V (n * 4) fYw6), (Yw 7, aI V n f_15), (wa, aI V n f_33), (wb, aI V n f_2)]) hP [4, 5, 3, 0, 1, 2] rfl
          have hD := subD hP hD [4, 5, 3, 0, 1, 2] rfl rfl
          exact ihn_17 _ _ _ _ (by rw [en_17, ex_34]; exact mu_up b_20 (by first | decide | omega)) ⟨x_34, u_14, f_15, f_33, (iv_w bx_34 (by first | decide | omega)), bu_14, tf_15, rfl, hP, hD, hS, lv_sub hl [0, 2, 3, 4, 5] rfl⟩
        · have b_35 : iv 0 0 x_29 := iv_q c_30 (iv_c (0 : Int32) (a := 0) (b := 0) (by decide))
          refine lv_iload hx hb dX8_countComersAbove_96 (lv_at hl 0 rfl) ?_
          refine lv_if_eq (tgt := 120) hx hb dX8_countComersAbove_98 (by decide) (fun c_36 => ?_) (fun c_36 => ?_)
          · refine lv_aload_n hx hb dX8_countComersAbove_120 rfl (lv_at hl 4 rfl) ?_
            refine va_get (ci := 8) (v := .ref wa) (C := RX8) (T := TX8) (N := 17) hx hb hg inX8 hown hK hP 4 rfl rfl 4 (by decide) (hg _ q_4_74) (fun _ h9 => h9) rfl dX8_countComersAbove_121 ?_
            refine lv_iload hx hb dX8_countComersAbove_124 (lv_at hl 0 rfl) ?_
            refine lv_dup2_11 hx hb dX8_countComersAbove_126 rfl rfl ?_
            refine va_iald hx hb hK hP 1 0 rfl rfl (iv_in br_23 (by first | decide | omega)) dX8_countComersAbove_127 ?_
            refine lv_topi (fun x_37 ex_37 => ?_)
            refine lv_iconst (v := 1) hx hb dX8_countComersAbove_128 (by decide) ?_
            refine lv_iadd hx hb dX8_countComersAbove_129 ?_
            refine lv_topi (fun x_38 ex_38 => ?_)
            refine va_iast hx hb hK hP hD hS 1 0 rfl rfl (iv_in br_23 (by first | decide | omega)) dX8_countComersAbove_130 (fun H locs hP hD hS => ?_)
            obtain ⟨f_39, hP, hD⟩ : ∃ f_39 : Nat → Int32, va_P V.1 vwCl [(Yw 7, aI V n f_15), (wa, aI V n f_39), (wb, aI V n f_2), (Yw 6, aI V (n * 4) fYw6), (Yw 0, .inr (8, o8_iirrriirrrrrrriii pYw0_0 (nI n) (Yw 1) (Yw 2) wa pYw0_5 pYw0_6 (y 19) (Yw 4) (Yw 5) (Yw 6) (Yw 7) (Yw 8) wb pYw0_14 pYw0_15 pYw0_16)), (Yw 1, aI V n fYw1)] H ∧ va_D A [(Yw 7, aI V n f_15), (wa, aI V n f_39), (wb, aI V n f_2), (Yw 6, aI V (n * 4) fYw6), (Yw 0, .inr (8, o8_iirrriirrrrrrriii pYw0_0 (nI n) (Yw 1) (Yw 2) wa pYw0_5 pYw0_6 (y 19) (Yw 4) (Yw 5) (Yw 6) (Yw 7) (Yw 8) wb pYw0_14 pYw0_15 pYw0_16)), (Yw 1, aI V n fYw1)] := ⟨_, hP, hD⟩
            obtain ⟨x_40, ex_40⟩ : ∃ z9 : Int32, z9 = u_13 + 1 := ⟨_, rfl⟩
            have bx_40 : iv 1 4 x_40 := by rw [ex_40]; exact iv_add b_20 (iv_c (1 : Int32) (a := 1) (b := 1) (by first | decide | omega)) (by first | decide | omega)
            refine lv_iinc (v := x_40) (lv' := [(4, .int x_40), (5, .int r_23), (3, .int u_4), (2, .int u_14), (0, .ref (Yw 0)), (1, .int a1)]) hx hb dX8_countComersAbove_131 hl (k := 1) rfl (by rw [ex_40]; rfl) (by decide) rfl (fun ls hl => ?_)
            refine lv_goto (tgt := 53) hx hb dX8_countComersAbove_134 (by decide) ?_
            have hP := subP (ws' := [(Yw 0, .inr (8, o8_iirrriirrrrrrriii pYw0_0 (nI n) (Yw 1) (Yw 2) wa pYw0_5 pYw0_6 (y 19) (Yw 4) (Yw 5) (Yw 6) (Yw 7) (Yw 8) wb pYw0_14 pYw0_15 pYw0_16)), (Yw 1, aI V n fYw1), (Yw 6, aI V (n * 4) fYw6), (Yw 7, aI V n f_15), (wa, aI V n f_39), (wb, aI V n f_2)]) hP [4, 5, 3, 0, 1, 2] rfl
            have hD := subD hP hD [4, 5, 3, 0, 1, 2] rfl rfl
            exact ihn_17 _ _ _ _ (by rw [en_17, ex_40]; exact mu_up b_20 (by first | decide | omega)) ⟨x_40, u_14, f_15, f_39, (iv_w bx_40 (by first | decide | omega)), bu_14, tf_15, rfl, hP, hD, hS, lv_sub hl [0, 2, 3, 4, 5] rfl⟩
          · have b_41 : iv 1 ((n : Int) - 1) r_23 := iv_n0 c_36 br_23 (iv_c (0 : Int32) (a := 0) (b := 0) (by decide)) (by first | decide | omega)
            refine lv_iload_n hx hb dX8_countComersAbove_101 rfl (lv_at hl 3 rfl) ?_
            refine lv_aload_n hx hb dX8_countComersAbove_102 rfl (lv_at hl 4 rfl) ?_
            refine va_get (ci := 8) (v := .int (nI n)) (C := RX8) (T := TX8) (N := 17) hx hb hg inX8 hown hK hP 4 rfl rfl 1 (by decide) (hg _ q_4_67) (fun _ h9 => h9) rfl dX8_countComersAbove_103 ?_
            refine lv_icmp_ge (tgt := 120) hx hb dX8_countComersAbove_106 (by decide) (fun c_42 => ?_) (fun c_42 => ?_)
            · have b_43 : iv ((n : Int)) ((n : Int)) u_14 := iv_e2 c_42 (iv_nI (by omega)) bu_14 (by first | decide | omega)
              refine lv_aload_n hx hb dX8_countComersAbove_120 rfl (lv_at hl 4 rfl) ?_
              refine va_get (ci := 8) (v := .ref wa) (C := RX8) (T := TX8) (N := 17) hx hb hg inX8 hown hK hP 4 rfl rfl 4 (by decide) (hg _ q_4_74) (fun _ h9 => h9) rfl dX8_countComersAbove_121 ?_
              refine lv_iload hx hb dX8_countComersAbove_124 (lv_at hl 0 rfl) ?_
              refine lv_dup2_11 hx hb dX8_countComersAbove_126 rfl rfl ?_
              refine va_iald hx hb hK hP 1 0 rfl rfl (iv_in b_41 (by first | decide | omega)) dX8_countComersAbove_127 ?_
              refine lv_topi (fun x_44 ex_44 => ?_)
              refine lv_iconst (v := 1) hx hb dX8_countComersAbove_128 (by decide) ?_
              refine lv_iadd hx hb dX8_countComersAbove_129 ?_
              refine lv_topi (fun x_45 ex_45 => ?_)
              refine va_iast hx hb hK hP hD hS 1 0 rfl rfl (iv_in b_41 (by first | decide | omega)) dX8_countComersAbove_130 (fun H locs hP hD hS => ?_)
              obtain ⟨f_46, hP, hD⟩ : ∃ f_46 : Nat → Int32, va_P V.1 vwCl [(Yw 7, aI V n f_15), (wa, aI V n f_46), (wb, aI V n f_2), (Yw 6, aI V (n * 4) fYw6), (Yw 0, .inr (8, o8_iirrriirrrrrrriii pYw0_0 (nI n) (Yw 1) (Yw 2) wa pYw0_5 pYw0_6 (y 19) (Yw 4) (Yw 5) (Yw 6) (Yw 7) (Yw 8) wb pYw0_14 pYw0_15 pYw0_16)), (Yw 1, aI V n fYw1)] H ∧ va_D A [(Yw 7, aI V n f_15), (wa, aI V n f_46), (wb, aI V n f_2), (Yw 6, aI V (n * 4) fYw6), (Yw 0, .inr (8, o8_iirrriirrrrrrriii pYw0_0 (nI n) (Yw 1) (Yw 2) wa pYw0_5 pYw0_6 (y 19) (Yw 4) (Yw 5) (Yw 6) (Yw 7) (Yw 8) wb pYw0_14 pYw0_15 pYw0_16)), (Yw 1, aI V n fYw1)] := ⟨_, hP, hD⟩
              obtain ⟨x_47, ex_47⟩ : ∃ z9 : Int32, z9 = u_13 + 1 := ⟨_, rfl⟩
              have bx_47 : iv 1 4 x_47 := by rw [ex_47]; exact iv_add b_20 (iv_c (1 : Int32) (a := 1) (b := 1) (by first | decide | omega)) (by first | decide | omega)
              refine lv_iinc (v := x_47) (lv' := [(4, .int x_47), (5, .int r_23), (3, .int u_4), (2, .int u_14), (0, .ref (Yw 0)), (1, .int a1)]) hx hb dX8_countComersAbove_131 hl (k := 1) rfl (by rw [ex_47]; rfl) (by decide) rfl (fun ls hl => ?_)
              refine lv_goto (tgt := 53) hx hb dX8_countComersAbove_134 (by decide) ?_
              have hP := subP (ws' := [(Yw 0, .inr (8, o8_iirrriirrrrrrriii pYw0_0 (nI n) (Yw 1) (Yw 2) wa pYw0_5 pYw0_6 (y 19) (Yw 4) (Yw 5) (Yw 6) (Yw 7) (Yw 8) wb pYw0_14 pYw0_15 pYw0_16)), (Yw 1, aI V n fYw1), (Yw 6, aI V (n * 4) fYw6), (Yw 7, aI V n f_15), (wa, aI V n f_46), (wb, aI V n f_2)]) hP [4, 5, 3, 0, 1, 2] rfl
              have hD := subD hP hD [4, 5, 3, 0, 1, 2] rfl rfl
              exact ihn_17 _ _ _ _ (by rw [en_17, ex_47]; exact mu_up b_20 (by first | decide | omega)) ⟨x_47, u_14, f_15, f_46, (iv_w bx_47 (by first | decide | omega)), (iv_w b_43 (by first | decide | omega)), tf_15, rfl, hP, hD, hS, lv_sub hl [0, 2, 3, 4, 5] rfl⟩
            · have b_48 : iv 0 ((n : Int) - 1) u_14 := iv_l1 (Int32.not_le.mp c_42) bu_14 (iv_nI (by omega)) (by first | decide | omega)
              refine lv_aload_n hx hb dX8_countComersAbove_109 rfl (lv_at hl 4 rfl) ?_
              refine va_get (ci := 8) (v := .ref (Yw 7)) (C := RX8) (T := TX8) (N := 17) hx hb hg inX8 hown hK hP 4 rfl rfl 11 (by decide) (hg _ q_4_85) (fun _ h9 => h9) rfl dX8_countComersAbove_110 ?_
              refine lv_iload_n hx hb dX8_countComersAbove_113 rfl (lv_at hl 3 rfl) ?_
              refine lv_iload hx hb dX8_countComersAbove_114 (lv_at hl 0 rfl) ?_
              refine va_iast hx hb hK hP hD hS 0 0 rfl rfl (iv_in b_48 (by first | decide | omega)) dX8_countComersAbove_116 (fun H locs hP hD hS => ?_)
              obtain ⟨f_49, tf_49, hP, hD⟩ : ∃ f_49 : Nat → Int32, (∀ j, iv 0 ((n : Int) - 1) (f_49 j)) ∧ va_P V.1 vwCl [(Yw 7, aI V n f_49), (wa, aI V n f_16), (wb, aI V n f_2), (Yw 6, aI V (n * 4) fYw6), (Yw 0, .inr (8, o8_iirrriirrrrrrriii pYw0_0 (nI n) (Yw 1) (Yw 2) wa pYw0_5 pYw0_6 (y 19) (Yw 4) (Yw 5) (Yw 6) (Yw 7) (Yw 8) wb pYw0_14 pYw0_15 pYw0_16)), (Yw 1, aI V n fYw1)] H ∧ va_D A [(Yw 7, aI V n f_49), (wa, aI V n f_16), (wb, aI V n f_2), (Yw 6, aI V (n * 4) fYw6), (Yw 0, .inr (8, o8_iirrriirrrrrrriii pYw0_0 (nI n) (Yw 1) (Yw 2) wa pYw0_5 pYw0_6 (y 19) (Yw 4) (Yw 5) (Yw 6) (Yw 7) (Yw 8) wb pYw0_14 pYw0_15 pYw0_16)), (Yw 1, aI V n fYw1)] := ⟨_, ivU tf_15 _ (iv_w b_41 (by first | decide | omega)), hP, hD⟩
              obtain ⟨x_50, ex_50⟩ : ∃ z9 : Int32, z9 = u_14 + 1 := ⟨_, rfl⟩
              have bx_50 : iv 1 ((n : Int)) x_50 := by rw [ex_50]; exact iv_add b_48 (iv_c (1 : Int32) (a := 1) (b := 1) (by first | decide | omega)) (by first | decide | omega)
              refine lv_iinc (v := x_50) (lv' := [(2, .int x_50), (5, .int r_23), (4, .int u_13), (3, .int u_4), (0, .ref (Yw 0)), (1, .int a1)]) hx hb dX8_countComersAbove_117 hl (k := 3) rfl (by rw [ex_50]; rfl) (by decide) rfl (fun ls hl => ?_)
              refine lv_aload_n hx hb dX8_countComersAbove_120 rfl (lv_at hl 4 rfl) ?_
              refine va_get (ci := 8) (v := .ref wa) (C := RX8) (T := TX8) (N := 17) hx hb hg inX8 hown hK hP 4 rfl rfl 4 (by decide) (hg _ q_4_74) (fun _ h9 => h9) rfl dX8_countComersAbove_121 ?_
              refine lv_iload hx hb dX8_countComersAbove_124 (lv_at hl 1 rfl) ?_
              refine lv_dup2_11 hx hb dX8_countComersAbove_126 rfl rfl ?_
              refine va_iald hx hb hK hP 1 0 rfl rfl (iv_in b_41 (by first | decide | omega)) dX8_countComersAbove_127 ?_
              refine lv_topi (fun x_51 ex_51 => ?_)
              refine lv_iconst (v := 1) hx hb dX8_countComersAbove_128 (by decide) ?_
              refine lv_iadd hx hb dX8_countComersAbove_129 ?_
              refine lv_topi (fun x_52 ex_52 => ?_)
              refine va_iast hx hb hK hP hD hS 1 0 rfl rfl (iv_in b_41 (by first | decide | omega)) dX8_countComersAbove_130 (fun H locs hP hD hS => ?_)
              obtain ⟨f_53, hP, hD⟩ : ∃ f_53 : Nat → Int32, va_P V.1 vwCl [(Yw 7, aI V n f_49), (wa, aI V n f_53), (wb, aI V n f_2), (Yw 6, aI V (n * 4) fYw6), (Yw 0, .inr (8, o8_iirrriirrrrrrriii pYw0_0 (nI n) (Yw 1) (Yw 2) wa pYw0_5 pYw0_6 (y 19) (Yw 4) (Yw 5) (Yw 6) (Yw 7) (Yw 8) wb pYw0_14 pYw0_15 pYw0_16)), (Yw 1, aI V n fYw1)] H ∧ va_D A [(Yw 7, aI V n f_49), (wa, aI V n f_53), (wb, aI V n f_2), (Yw 6, aI V (n * 4) fYw6), (Yw 0, .inr (8, o8_iirrriirrrrrrriii pYw0_0 (nI n) (Yw 1) (Yw 2) wa pYw0_5 pYw0_6 (y 19) (Yw 4) (Yw 5) (Yw 6) (Yw 7) (Yw 8) wb pYw0_14 pYw0_15 pYw0_16)), (Yw 1, aI V n fYw1)] := ⟨_, hP, hD⟩
              obtain ⟨x_54, ex_54⟩ : ∃ z9 : Int32, z9 = u_13 + 1 := ⟨_, rfl⟩
              have bx_54 : iv 1 4 x_54 := by rw [ex_54]; exact iv_add b_20 (iv_c (1 : Int32) (a := 1) (b := 1) (by first | decide | omega)) (by first | decide | omega)
              refine lv_iinc (v := x_54) (lv' := [(4, .int x_54), (2, .int x_50), (5, .int r_23), (3, .int u_4), (0, .ref (Yw 0)), (1, .int a1)]) hx hb dX8_countComersAbove_131 hl (k := 2) rfl (by rw [ex_54]; rfl) (by decide) rfl (fun ls hl => ?_)
              refine lv_goto (tgt := 53) hx hb dX8_countComersAbove_134 (by decide) ?_
              have hP := subP (ws' := [(Yw 0, .inr (8, o8_iirrriirrrrrrriii pYw0_0 (nI n) (Yw 1) (Yw 2) wa pYw0_5 pYw0_6 (y 19) (Yw 4) (Yw 5) (Yw 6) (Yw 7) (Yw 8) wb pYw0_14 pYw0_15 pYw0_16)), (Yw 1, aI V n fYw1), (Yw 6, aI V (n * 4) fYw6), (Yw 7, aI V n f_49), (wa, aI V n f_53), (wb, aI V n f_2)]) hP [4, 5, 3, 0, 1, 2] rfl
              have hD := subD hP hD [4, 5, 3, 0, 1, 2] rfl rfl
              exact ihn_17 _ _ _ _ (by rw [en_17, ex_54]; exact mu_up b_20 (by first | decide | omega)) ⟨x_54, x_50, f_49, f_53, (iv_w bx_54 (by first | decide | omega)), (iv_w bx_50 (by first | decide | omega)), tf_49, rfl, hP, hD, hS, lv_sub hl [0, 3, 1, 4, 5] rfl⟩
theorem dX8_longestAbove_0 : decode cX8_longestAbove 0 = .ok (.aload_n 0, 1) := by decide +kernel
theorem q_4_199 : Cond.constant "BeaconDelay$Ways" 136 (1000000 : Int32) ∈ gw := gw_4 (i := 199) (by decide +kernel) rfl
theorem dX8_longestAbove_1 : decode cX8_longestAbove 1 = .ok (.ldc 136, 2) := by decide +kernel
theorem q_4_139 : Cond.code yX8_reachTo prog_10_method_5_code 3 none ∈ gw := gw_4 (i := 139) (rfl) rfl
theorem q_4_137 : Cond.instanceMethod yX8_reachTo ∈ gw := gw_4 (i := 137) (by decide +kernel) rfl
theorem q_4_138 : Cond.selects "BeaconDelay$Ways" yX8_reachTo yX8_reachTo ∈ gw := gw_4 (i := 138) (by decide +kernel) rfl
theorem mt_X8_reachTo : MtV yX8_reachTo cX8_reachTo 3 none 1 := ⟨⟨q_4_139, q_1_18, by decide +kernel, by decide +kernel, by decide +kernel⟩, q_4_137, q_4_138⟩
theorem q_4_200 : Cond.methodLink "BeaconDelay$Ways" 137 yX8_reachTo ∈ gw := gw_4 (i := 200) (by decide +kernel) rfl
theorem dX8_longestAbove_3 : decode cX8_longestAbove 3 = .ok (.invokevirtual 137, 3) := by decide +kernel
theorem dX8_longestAbove_6 : decode cX8_longestAbove 6 = .ok (.aload_n 0, 1) := by decide +kernel
theorem dX8_longestAbove_7 : decode cX8_longestAbove 7 = .ok (.iload_n 1, 1) := by decide +kernel
theorem q_4_204 : Cond.code yX8_countComersAbove prog_10_method_24_code 6 (some FieldType.int) ∈ gw := gw_4 (i := 204) (rfl) rfl
theorem q_4_203 : Cond.instanceMethod yX8_countComersAbove ∈ gw := gw_4 (i := 203) (by decide +kernel) rfl
theorem q_s_37 : Cond.selects "BeaconDelay$Ways" yX8_countComersAbove yX8_countComersAbove ∈ gw := gw_s (i := 37) (by decide +kernel) rfl
theorem mt_X8_countComersAbove : MtV yX8_countComersAbove cX8_countComersAbove 6 (some .int) 1 := ⟨⟨q_4_204, q_1_18, by decide +kernel, by decide +kernel, by decide +kernel⟩, q_4_203, q_s_37⟩
theorem q_4_201 : Cond.methodLink "BeaconDelay$Ways" 140 yX8_countComersAbove ∈ gw := gw_4 (i := 201) (by decide +kernel) rfl
theorem dX8_longestAbove_8 : decode cX8_longestAbove 8 = .ok (.invokevirtual 140, 3) := by decide +kernel
theorem dX8_longestAbove_11 : decode cX8_longestAbove 11 = .ok (.istore_n 2, 1) := by decide +kernel
theorem dX8_longestAbove_12 : decode cX8_longestAbove 12 = .ok (.iconst 0, 1) := by decide +kernel
theorem dX8_longestAbove_13 : decode cX8_longestAbove 13 = .ok (.istore_n 3, 1) := by decide +kernel
theorem dX8_longestAbove_14 : decode cX8_longestAbove 14 = .ok (.iconst 0, 1) := by decide +kernel
theorem dX8_longestAbove_15 : decode cX8_longestAbove 15 = .ok (.istore 4, 2) := by decide +kernel
theorem dX8_longestAbove_17 : decode cX8_longestAbove 17 = .ok (.aload_n 0, 1) := by decide +kernel
theorem dX8_longestAbove_18 : decode cX8_longestAbove 18 = .ok (.getfield 50, 3) := by decide +kernel
theorem dX8_longestAbove_21 : decode cX8_longestAbove 21 = .ok (.iconst 0, 1) := by decide +kernel
theorem dX8_longestAbove_22 : decode cX8_longestAbove 22 = .ok (.iaload, 1) := by decide +kernel
theorem dX8_longestAbove_23 : decode cX8_longestAbove 23 = .ok (.ifCond .ne 7, 3) := by decide +kernel
theorem dX8_longestAbove_30 : decode cX8_longestAbove 30 = .ok (.iconst 0, 1) := by decide +kernel
theorem dX8_longestAbove_31 : decode cX8_longestAbove 31 = .ok (.istore 5, 2) := by decide +kernel
theorem dX8_longestAbove_33 : decode cX8_longestAbove 33 = .ok (.aload_n 0, 1) := by decide +kernel
theorem dX8_longestAbove_34 : decode cX8_longestAbove 34 = .ok (.getfield 47, 3) := by decide +kernel
theorem dX8_longestAbove_37 : decode cX8_longestAbove 37 = .ok (.iconst 0, 1) := by decide +kernel
theorem dX8_longestAbove_38 : decode cX8_longestAbove 38 = .ok (.iconst 0, 1) := by decide +kernel
theorem dX8_longestAbove_39 : decode cX8_longestAbove 39 = .ok (.iastore, 1) := by decide +kernel
theorem dX8_longestAbove_40 : decode cX8_longestAbove 40 = .ok (.iload 4, 2) := by decide +kernel
theorem dX8_longestAbove_42 : decode cX8_longestAbove 42 = .ok (.iload 5, 2) := by decide +kernel
theorem dX8_longestAbove_44 : decode cX8_longestAbove 44 = .ok (.if_icmp .ge 145, 3) := by decide +kernel
theorem dX8_longestAbove_189 : decode cX8_longestAbove 189 = .ok (.iload 4, 2) := by decide +kernel
theorem dX8_longestAbove_191 : decode cX8_longestAbove 191 = .ok (.iload_n 2, 1) := by decide +kernel
theorem dX8_longestAbove_192 : decode cX8_longestAbove 192 = .ok (.if_icmp .ge 7, 3) := by decide +kernel
theorem dX8_longestAbove_199 : decode cX8_longestAbove 199 = .ok (.iload_n 3, 1) := by decide +kernel
theorem dX8_longestAbove_200 : decode cX8_longestAbove 200 = .ok (.ireturn, 1) := by decide +kernel
theorem dX8_longestAbove_195 : decode cX8_longestAbove 195 = .ok (.iconst (-1), 1) := by decide +kernel
theorem dX8_longestAbove_196 : decode cX8_longestAbove 196 = .ok (.goto 4, 3) := by decide +kernel
theorem dX8_longestAbove_47 : decode cX8_longestAbove 47 = .ok (.iload 4, 2) := by decide +kernel
theorem dX8_longestAbove_49 : decode cX8_longestAbove 49 = .ok (.aload_n 0, 1) := by decide +kernel
theorem dX8_longestAbove_50 : decode cX8_longestAbove 50 = .ok (.getfield 26, 3) := by decide +kernel
theorem dX8_longestAbove_53 : decode cX8_longestAbove 53 = .ok (.if_icmp .ge 136, 3) := by decide +kernel
theorem dX8_longestAbove_56 : decode cX8_longestAbove 56 = .ok (.aload_n 0, 1) := by decide +kernel
theorem dX8_longestAbove_57 : decode cX8_longestAbove 57 = .ok (.getfield 47, 3) := by decide +kernel
theorem dX8_longestAbove_60 : decode cX8_longestAbove 60 = .ok (.iload 4, 2) := by decide +kernel
theorem dX8_longestAbove_62 : decode cX8_longestAbove 62 = .ok (.iaload, 1) := by decide +kernel
theorem dX8_longestAbove_63 : decode cX8_longestAbove 63 = .ok (.istore 6, 2) := by decide +kernel
theorem dX8_longestAbove_65 : decode cX8_longestAbove 65 = .ok (.iinc 4 1, 3) := by decide +kernel
theorem dX8_longestAbove_68 : decode cX8_longestAbove 68 = .ok (.iload_n 3, 1) := by decide +kernel
theorem dX8_longestAbove_69 : decode cX8_longestAbove 69 = .ok (.aload_n 0, 1) := by decide +kernel
theorem dX8_longestAbove_70 : decode cX8_longestAbove 70 = .ok (.getfield 53, 3) := by decide +kernel
theorem dX8_longestAbove_73 : decode cX8_longestAbove 73 = .ok (.iload 6, 2) := by decide +kernel
theorem dX8_longestAbove_75 : decode cX8_longestAbove 75 = .ok (.iaload, 1) := by decide +kernel
theorem dX8_longestAbove_76 : decode cX8_longestAbove 76 = .ok (.invokestatic 71, 3) := by decide +kernel
theorem dX8_longestAbove_79 : decode cX8_longestAbove 79 = .ok (.istore_n 3, 1) := by decide +kernel
theorem dX8_longestAbove_80 : decode cX8_longestAbove 80 = .ok (.iconst 0, 1) := by decide +kernel
theorem dX8_longestAbove_81 : decode cX8_longestAbove 81 = .ok (.istore 7, 2) := by decide +kernel
theorem dX8_longestAbove_83 : decode cX8_longestAbove 83 = .ok (.iload 7, 2) := by decide +kernel
theorem dX8_longestAbove_85 : decode cX8_longestAbove 85 = .ok (.aload_n 0, 1) := by decide +kernel
theorem dX8_longestAbove_86 : decode cX8_longestAbove 86 = .ok (.getfield 77, 3) := by decide +kernel
theorem dX8_longestAbove_89 : decode cX8_longestAbove 89 = .ok (.if_icmp .ge 97, 3) := by decide +kernel
theorem dX8_longestAbove_186 : decode cX8_longestAbove 186 = .ok (.goto (-146), 3) := by decide +kernel
theorem dX8_longestAbove_92 : decode cX8_longestAbove 92 = .ok (.aload_n 0, 1) := by decide +kernel
theorem dX8_longestAbove_93 : decode cX8_longestAbove 93 = .ok (.iload 6, 2) := by decide +kernel
theorem dX8_longestAbove_95 : decode cX8_longestAbove 95 = .ok (.iload 7, 2) := by decide +kernel
theorem dX8_longestAbove_97 : decode cX8_longestAbove 97 = .ok (.invokevirtual 124, 3) := by decide +kernel
theorem dX8_longestAbove_100 : decode cX8_longestAbove 100 = .ok (.istore 8, 2) := by decide +kernel
theorem dX8_longestAbove_102 : decode cX8_longestAbove 102 = .ok (.aload_n 0, 1) := by decide +kernel
theorem dX8_longestAbove_103 : decode cX8_longestAbove 103 = .ok (.iload 8, 2) := by decide +kernel
theorem dX8_longestAbove_105 : decode cX8_longestAbove 105 = .ok (.iload_n 1, 1) := by decide +kernel
theorem dX8_longestAbove_106 : decode cX8_longestAbove 106 = .ok (.invokevirtual 144, 3) := by decide +kernel
theorem dX8_longestAbove_109 : decode cX8_longestAbove 109 = .ok (.ifCond .eq 71, 3) := by decide +kernel
theorem dX8_longestAbove_180 : decode cX8_longestAbove 180 = .ok (.iinc 7 1, 3) := by decide +kernel
theorem dX8_longestAbove_183 : decode cX8_longestAbove 183 = .ok (.goto (-100), 3) := by decide +kernel
theorem dX8_longestAbove_112 : decode cX8_longestAbove 112 = .ok (.aload_n 0, 1) := by decide +kernel
theorem dX8_longestAbove_113 : decode cX8_longestAbove 113 = .ok (.getfield 53, 3) := by decide +kernel
theorem dX8_longestAbove_116 : decode cX8_longestAbove 116 = .ok (.iload 8, 2) := by decide +kernel
theorem dX8_longestAbove_118 : decode cX8_longestAbove 118 = .ok (.aload_n 0, 1) := by decide +kernel
theorem dX8_longestAbove_119 : decode cX8_longestAbove 119 = .ok (.getfield 53, 3) := by decide +kernel
theorem dX8_longestAbove_122 : decode cX8_longestAbove 122 = .ok (.iload 8, 2) := by decide +kernel
theorem dX8_longestAbove_124 : decode cX8_longestAbove 124 = .ok (.iaload, 1) := by decide +kernel
theorem dX8_longestAbove_125 : decode cX8_longestAbove 125 = .ok (.aload_n 0, 1) := by decide +kernel
theorem dX8_longestAbove_126 : decode cX8_longestAbove 126 = .ok (.getfield 53, 3) := by decide +kernel
theorem dX8_longestAbove_129 : decode cX8_longestAbove 129 = .ok (.iload 6, 2) := by decide +kernel
theorem dX8_longestAbove_131 : decode cX8_longestAbove 131 = .ok (.iaload, 1) := by decide +kernel
theorem dX8_longestAbove_132 : decode cX8_longestAbove 132 = .ok (.iconst 1, 1) := by decide +kernel
theorem dX8_longestAbove_133 : decode cX8_longestAbove 133 = .ok (.iadd, 1) := by decide +kernel
theorem dX8_longestAbove_134 : decode cX8_longestAbove 134 = .ok (.invokestatic 71, 3) := by decide +kernel
theorem dX8_longestAbove_137 : decode cX8_longestAbove 137 = .ok (.iastore, 1) := by decide +kernel
theorem dX8_longestAbove_138 : decode cX8_longestAbove 138 = .ok (.aload_n 0, 1) := by decide +kernel
theorem dX8_longestAbove_139 : decode cX8_longestAbove 139 = .ok (.getfield 50, 3) := by decide +kernel
theorem dX8_longestAbove_142 : decode cX8_longestAbove 142 = .ok (.iload 8, 2) := by decide +kernel
theorem dX8_longestAbove_144 : decode cX8_longestAbove 144 = .ok (.dup2, 1) := by decide +kernel
theorem dX8_longestAbove_145 : decode cX8_longestAbove 145 = .ok (.iaload, 1) := by decide +kernel
theorem dX8_longestAbove_146 : decode cX8_longestAbove 146 = .ok (.iconst 1, 1) := by decide +kernel
theorem dX8_longestAbove_147 : decode cX8_longestAbove 147 = .ok (.isub, 1) := by decide +kernel
theorem dX8_longestAbove_148 : decode cX8_longestAbove 148 = .ok (.iastore, 1) := by decide +kernel
theorem dX8_longestAbove_149 : decode cX8_longestAbove 149 = .ok (.aload_n 0, 1) := by decide +kernel
theorem dX8_longestAbove_150 : decode cX8_longestAbove 150 = .ok (.getfield 50, 3) := by decide +kernel
theorem dX8_longestAbove_153 : decode cX8_longestAbove 153 = .ok (.iload 8, 2) := by decide +kernel
theorem dX8_longestAbove_155 : decode cX8_longestAbove 155 = .ok (.iaload, 1) := by decide +kernel
theorem dX8_longestAbove_156 : decode cX8_longestAbove 156 = .ok (.ifCond .ne 24, 3) := by decide +kernel
theorem dX8_longestAbove_159 : decode cX8_longestAbove 159 = .ok (.iload 5, 2) := by decide +kernel
theorem dX8_longestAbove_161 : decode cX8_longestAbove 161 = .ok (.aload_n 0, 1) := by decide +kernel
theorem dX8_longestAbove_162 : decode cX8_longestAbove 162 = .ok (.getfield 26, 3) := by decide +kernel
theorem dX8_longestAbove_165 : decode cX8_longestAbove 165 = .ok (.if_icmp .ge 15, 3) := by decide +kernel
theorem dX8_longestAbove_168 : decode cX8_longestAbove 168 = .ok (.aload_n 0, 1) := by decide +kernel
theorem dX8_longestAbove_169 : decode cX8_longestAbove 169 = .ok (.getfield 47, 3) := by decide +kernel
theorem dX8_longestAbove_172 : decode cX8_longestAbove 172 = .ok (.iload 5, 2) := by decide +kernel
theorem dX8_longestAbove_174 : decode cX8_longestAbove 174 = .ok (.iload 8, 2) := by decide +kernel
theorem dX8_longestAbove_176 : decode cX8_longestAbove 176 = .ok (.iastore, 1) := by decide +kernel
theorem dX8_longestAbove_177 : decode cX8_longestAbove 177 = .ok (.iinc 5 1, 3) := by decide +kernel
theorem dX8_longestAbove_26 : decode cX8_longestAbove 26 = .ok (.iconst 1, 1) := by decide +kernel
theorem dX8_longestAbove_27 : decode cX8_longestAbove 27 = .ok (.goto 4, 3) := by decide +kernel
set_option maxHeartbeats 4000000 in
set_option maxRecDepth 100000 in
theorem k_X8_longestAbove_0 (l : Launch) (V : GV) (n : Nat) (L : Nat) (Yw : Nat → Nat) (y : Nat → Nat) (D9 : Nat → Int32) (a1 : Int32) (py2_0 : Int32) (py2_1 : Int32) (py2_2 : Int32) (py2_3 : Int32) (py2_4 : Int32) (py2_5 : Int32) (py2_13 : Int32) (py2_14 : Int32) (py2_15 : Int32) (py2_16 : Int32) (py2_17 : Int32) (fy3 : Nat → Int32) (fy9 : Nat → Int32) (fy20 : Nat → Int32) (fy21 : Nat → Int32) (fy22 : Nat → Int32) (pYw0_0 : Int32) (wa : Nat) (pYw0_5 : Int32) (pYw0_6 : Int32) (wb : Nat) (pYw0_14 : Int32) (pYw0_15 : Int32) (pYw0_16 : Int32) (fYw1 : Nat → Int32) (fYw2 : Nat → Int32) (fwa : Nat → Int32) (fYw4 : Nat → Int32) (fYw5 : Nat → Int32) (fYw6 : Nat → Int32) (fYw7 : Nat → Int32) (fYw8 : Nat → Int32) (fwb : Nat → Int32) (hn : 1 ≤ n ∧ n ≤ 3646) (hL : 1 ≤ L ∧ L ≤ 10000) (bpy2_1 : iv 0 4 py2_1) (bpy2_2 : iv 0 4 py2_2) (bpy2_3 : iv 0 8 py2_3) (bpy2_4 : iv 0 9999 py2_4) (bpy2_5 : iv 0 9 py2_5) (bpy2_13 : iv 0 900 py2_13) (bpy2_14 : iv 0 900 py2_14) (bpy2_15 : iv 0 900 py2_15) (bpy2_16 : iv 0 900 py2_16) (bpy2_17 : iv 0 900 py2_17) (tfy20 : ∀ j, iv 0 10 (fy20 j)) (bpYw0_0 : iv 0 4 pYw0_0) (bpYw0_5 : iv 0 ((n : Int)) pYw0_5) (bpYw0_6 : iv 0 4 pYw0_6) (bpYw0_14 : iv 0 4 pYw0_14) (bpYw0_15 : iv 0 9 pYw0_15) (bpYw0_16 : iv 0 ((n : Int)) pYw0_16) (tfYw1 : ∀ j, iv 0 ((L : Int) - 1) (fYw1 j)) (tfYw4 : ∀ j, iv 0 ((n : Int)) (fYw4 j)) (tfYw5 : ∀ j, iv 0 (4 * (n : Int) - 1) (fYw5 j)) (tfYw6 : ∀ j, iv 0 ((n : Int) - 1) (fYw6 j)) (tfYw7 : ∀ j, iv 0 ((n : Int) - 1) (fYw7 j)) (hf0 : WA pYw0_5 fYw4 fYw1) (hf1 : WB pYw0_16 pYw0_6 pYw0_5 fYw6) (hf2 : WC pYw0_5 fYw2) (hL9 : LW D9 fy3 fy9 py2_14 py2_15 py2_16 py2_17) (hK9 : KN D9 fy20) : Ct l V yX8_longestAbove (.code yX8_longestAbove cX8_longestAbove 9 (some .int)) 7 [.ref (Yw 0), .int a1] [(y 2, .inr (1, o1_iiiiiirrrrrrriiiii py2_0 py2_1 py2_2 py2_3 py2_4 py2_5 (y 3) (y 4) (y 5) (y 6) (y 7) (y 8) (y 9) py2_13 py2_14 py2_15 py2_16 py2_17)), (y 3, aI V 4 fy3), (y 9, aI V 900 fy9), (y 19, .inr (4, o4_rrrrrr (y 2) (y 20) (y 21) (y 22) (y 23) (y 24))), (y 20, aI V 2000 fy20), (y 21, aI V 6 fy21), (y 22, aI V 64 fy22), (Yw 0, .inr (8, o8_iirrriirrrrrrriii pYw0_0 (nI n) (Yw 1) (Yw 2) wa pYw0_5 pYw0_6 (y 19) (Yw 4) (Yw 5) (Yw 6) (Yw 7) (Yw 8) wb pYw0_14 pYw0_15 pYw0_16)), (Yw 1, aI V n fYw1), (Yw 2, aI V n fYw2), (wa, aI V n fwa), (Yw 4, aI V L fYw4), (Yw 5, aI V n fYw5), (Yw 6, aI V (n * 4) fYw6), (Yw 7, aI V n fYw7), (Yw 8, aI V 4 fYw8), (wb, aI V n fwb)] 0 0 (QI V (fun (r : Int32) (w : va_W) => ∃ (g0 : Nat → Int32) (g1 : Nat → Int32) (g2 : Nat → Int32) (v3 : Int32) (v4 : Int32) (g5 : Nat → Int32) (g6 : Nat → Int32) (g7 : Nat → Int32) (g8 : Nat → Int32) (g9 : Nat → Int32) (g10 : Nat → Int32) (g11 : Nat → Int32) (g12 : Nat → Int32) (g13 : Nat → Int32), (∀ j, iv 0 10 (g0 j)) ∧ iv 0 ((n : Int)) v3 ∧ iv 0 ((n : Int)) v4 ∧ (∀ j, iv 0 ((L : Int) - 1) (g5 j)) ∧ (∀ j, iv 0 ((n : Int)) (g8 j)) ∧ (∀ j, iv 0 (4 * (n : Int) - 1) (g9 j)) ∧ (∀ j, iv 0 ((n : Int) - 1) (g10 j)) ∧ (∀ j, iv 0 ((n : Int) - 1) (g11 j)) ∧ (WA v3 g8 g5) ∧ (WB v4 pYw0_6 v3 g10) ∧ (WC v3 g6) ∧ KN D9 g0 ∧ w = [(y 2, .inr (1, o1_iiiiiirrrrrrriiiii py2_0 py2_1 py2_2 py2_3 py2_4 py2_5 (y 3) (y 4) (y 5) (y 6) (y 7) (y 8) (y 9) py2_13 py2_14 py2_15 py2_16 py2_17)), (y 3, aI V 4 fy3), (y 9, aI V 900 fy9), (y 19, .inr (4, o4_rrrrrr (y 2) (y 20) (y 21) (y 22) (y 23) (y 24))), (y 20, aI V 2000 g0), (y 21, aI V 6 g1), (y 22, aI V 64 g2), (Yw 0, .inr (8, o8_iirrriirrrrrrriii pYw0_0 (nI n) (Yw 1) (Yw 2) wa v3 pYw0_6 (y 19) (Yw 4) (Yw 5) (Yw 6) (Yw 7) (Yw 8) wb pYw0_14 pYw0_15 v4)), (Yw 1, aI V n g5), (Yw 2, aI V n g6), (wa, aI V n g7), (Yw 4, aI V L g8), (Yw 5, aI V n g9), (Yw 6, aI V (n * 4) g10), (Yw 7, aI V n g11), (Yw 8, aI V 4 g12), (wb, aI V n g13)])) := by
  refine Ct.of (by decide) (Nat.le_of_ble_eq_true rfl) (fun p e s m below meth c A ls hx hb hr hml hown hlk hnm hg hP hK hD hE hA hS hl => ?_)
  have hl : lv_has ls 9 [(0, .ref (Yw 0)), (1, .int a1)] := hl
  refine lv_aload_n hx hb dX8_longestAbove_0 rfl (lv_at hl 0 rfl) ?_
  refine lv_ldc (v := 1000000) hx hb hown (hg _ q_4_199) dX8_longestAbove_1 ?_
  refine jnV (wr := [(wa, aI V n fwa), (Yw 7, aI V n fYw7), (wb, aI V n fwb)]) (rnV (rest := []) ⟨hx, hb, hml, hown, hg⟩ (k_X8_reachTo_0 l V n L Yw y D9 1000000 py2_0 py2_1 py2_2 py2_3 py2_4 py2_5 py2_13 py2_14 py2_15 py2_16 py2_17 fy3 fy9 fy20 fy21 fy22 pYw0_0 wa pYw0_5 pYw0_6 wb pYw0_14 pYw0_15 pYw0_16 fYw1 fYw2 fYw4 fYw5 fYw6 fYw8 hn hL bpy2_1 bpy2_2 bpy2_3 bpy2_4 bpy2_5 bpy2_13 bpy2_14 bpy2_15 bpy2_16 bpy2_17 tfy20 bpYw0_0 bpYw0_5 bpYw0_6 bpYw0_14 bpYw0_15 bpYw0_16 tfYw1 tfYw4 tfYw5 tfYw6 hf0 hf1 hf2 hL9 hK9) mt_X8_reachTo q_4_200 ⟨Nat.le_of_ble_eq_true rfl, Nat.le_of_ble_eq_true rfl⟩ hK hP hD hS hA hE [0, 1, 2, 3, 4, 5, 6, 7, 8, 9, 11, 12, 13, 15] rfl rfl 7 rfl rfl rfl rfl hl.1 rfl (Nat.le_of_ble_eq_true rfl) dX8_longestAbove_3 ⟨Nat.le_of_ble_eq_true rfl, Nat.le_of_ble_eq_true rfl⟩) hP hD hS hA [0, 1, 2, 3, 4, 5, 6, 7, 8, 9, 11, 12, 13, 15] [10, 14, 16] rfl rfl rfl (by decide) (fun  w H locs hw hP hD hS => ?_)
  obtain ⟨f_1, f_2, f_3, v_4, v_5, f_6, f_7, f_8, f_9, f_10, f_11, tf_1, bv_4, bv_5, tf_6, tf_8, tf_9, tf_10, g_12, g_13, g_14, g_15, kn_16, rfl⟩ := hw
  have hP : va_P V.1 vwCl [(wa, aI V n fwa), (Yw 7, aI V n fYw7), (wb, aI V n fwb), (y 2, .inr (1, o1_iiiiiirrrrrrriiiii py2_0 py2_1 py2_2 py2_3 py2_4 py2_5 (y 3) (y 4) (y 5) (y 6) (y 7) (y 8) (y 9) py2_13 py2_14 py2_15 py2_16 py2_17)), (y 3, aI V 4 fy3), (y 9, aI V 900 fy9), (y 19, .inr (4, o4_rrrrrr (y 2) (y 20) (y 21) (y 22) (y 23) (y 24))), (y 20, aI V 2000 f_1), (y 21, aI V 6 f_2), (y 22, aI V 64 f_3), (Yw 0, .inr (8, o8_iirrriirrrrrrriii pYw0_0 (nI n) (Yw 1) (Yw 2) wa v_4 pYw0_6 (y 19) (Yw 4) (Yw 5) (Yw 6) (Yw 7) (Yw 8) wb pYw0_14 pYw0_15 v_5)), (Yw 1, aI V n f_6), (Yw 2, aI V n f_7), (Yw 4, aI V L f_8), (Yw 5, aI V n f_9), (Yw 6, aI V (n * 4) f_10), (Yw 8, aI V 4 f_11)] H := hP
  have hD := cpD hP hD
  refine lv_aload_n hx hb dX8_longestAbove_6 rfl (lv_at hl 0 rfl) ?_
  refine lv_iload_n hx hb dX8_longestAbove_7 rfl (lv_at hl 1 rfl) ?_
  refine jnI (wr := [(y 2, .inr (1, o1_iiiiiirrrrrrriiiii py2_0 py2_1 py2_2 py2_3 py2_4 py2_5 (y 3) (y 4) (y 5) (y 6) (y 7) (y 8) (y 9) py2_13 py2_14 py2_15 py2_16 py2_17)), (y 3, aI V 4 fy3), (y 9, aI V 900 fy9), (y 19, .inr (4, o4_rrrrrr (y 2) (y 20) (y 21) (y 22) (y 23) (y 24))), (y 20, aI V 2000 f_1), (y 21, aI V 6 f_2), (y 22, aI V 64 f_3), (Yw 2, aI V n f_7), (Yw 4, aI V L f_8), (Yw 5, aI V n f_9), (Yw 8, aI V 4 f_11)]) (rnV (rest := []) ⟨hx, hb, hml, hown, hg⟩ (k_X8_countComersAbove_0 l V n L Yw y a1 pYw0_0 wa v_4 pYw0_6 wb pYw0_14 pYw0_15 v_5 f_6 fwa f_10 fYw7 fwb hn hL bpYw0_0 bv_4 bpYw0_6 bpYw0_14 bpYw0_15 bv_5 tf_6 tf_10 tfYw7) mt_X8_countComersAbove q_4_201 ⟨Nat.le_of_ble_eq_true rfl, Nat.le_of_ble_eq_true rfl⟩ hK hP hD hS hA hE [10, 11, 0, 15, 1, 2] rfl rfl 10 rfl rfl rfl rfl hl.1 rfl (Nat.le_of_ble_eq_true rfl) dX8_longestAbove_8 ⟨Nat.le_of_ble_eq_true rfl, Nat.le_of_ble_eq_true rfl⟩) hP hD hS hA [10, 11, 0, 15, 1, 2] [3, 4, 5, 6, 7, 8, 9, 12, 13, 14, 16] rfl rfl rfl (by decide) (fun r_17 w H locs hw hP hD hS => ?_)
  obtain ⟨f_18, f_19, f_20, tf_19, br_17, rfl⟩ := hw
  have hP : va_P V.1 vwCl [(y 2, .inr (1, o1_iiiiiirrrrrrriiiii py2_0 py2_1 py2_2 py2_3 py2_4 py2_5 (y 3) (y 4) (y 5) (y 6) (y 7) (y 8) (y 9) py2_13 py2_14 py2_15 py2_16 py2_17)), (y 3, aI V 4 fy3), (y 9, aI V 900 fy9), (y 19, .inr (4, o4_rrrrrr (y 2) (y 20) (y 21) (y 22) (y 23) (y 24))), (y 20, aI V 2000 f_1), (y 21, aI V 6 f_2), (y 22, aI V 64 f_3), (Yw 2, aI V n f_7), (Yw 4, aI V L f_8), (Yw 5, aI V n f_9), (Yw 8, aI V 4 f_11), (Yw 0, .inr (8, o8_iirrriirrrrrrriii pYw0_0 (nI n) (Yw 1) (Yw 2) wa v_4 pYw0_6 (y 19) (Yw 4) (Yw 5) (Yw 6) (Yw 7) (Yw 8) wb pYw0_14 pYw0_15 v_5)), (Yw 1, aI V n f_6), (wa, aI V n f_18), (Yw 6, aI V (n * 4) f_10), (Yw 7, aI V n f_19), (wb, aI V n f_20)] H := hP
  have hD := cpD hP hD
  refine lv_istore_n (lv' := [(2, .int r_17), (0, .ref (Yw 0)), (1, .int a1)]) hx hb dX8_longestAbove_11 rfl hl (by decide) rfl (fun ls hl => ?_)
  refine lv_iconst (v := 0) hx hb dX8_longestAbove_12 (by decide) ?_
  refine lv_istore_n (lv' := [(3, .int 0), (2, .int r_17), (0, .ref (Yw 0)), (1, .int a1)]) hx hb dX8_longestAbove_13 rfl hl (by decide) rfl (fun ls hl => ?_)
  refine lv_iconst (v := 0) hx hb dX8_longestAbove_14 (by decide) ?_
  refine lv_istore (lv' := [(4, .int 0), (3, .int 0), (2, .int r_17), (0, .ref (Yw 0)), (1, .int a1)]) hx hb dX8_longestAbove_15 hl (by decide) rfl (fun ls hl => ?_)
  refine lv_aload_n hx hb dX8_longestAbove_17 rfl (lv_at hl 3 rfl) ?_
  refine va_get (ci := 8) (v := .ref wa) (C := RX8) (T := TX8) (N := 17) hx hb hg inX8 hown hK hP 11 rfl rfl 4 (by decide) (hg _ q_4_74) (fun _ h9 => h9) rfl dX8_longestAbove_18 ?_
  refine lv_iconst (v := 0) hx hb dX8_longestAbove_21 (by decide) ?_
  refine va_iald hx hb hK hP 13 0 rfl rfl (iv_in (iv_c (0 : Int32) (a := 0) (b := 0) (by decide)) (by first | decide | omega)) dX8_longestAbove_22 ?_
  refine lv_topi (fun x_21 ex_21 => ?_)
  refine lv_if_ne (tgt := 30) hx hb dX8_longestAbove_23 (by decide) (fun c_22 => ?_) (fun c_22 => ?_)
  · refine lv_iconst (v := 0) hx hb dX8_longestAbove_30 (by decide) ?_
    refine lv_istore (lv' := [(5, .int 0), (4, .int 0), (3, .int 0), (2, .int r_17), (0, .ref (Yw 0)), (1, .int a1)]) hx hb dX8_longestAbove_31 hl (by decide) rfl (fun ls hl => ?_)
    refine lv_aload_n hx hb dX8_longestAbove_33 rfl (lv_at hl 4 rfl) ?_
    refine va_get (ci := 8) (v := .ref (Yw 7)) (C := RX8) (T := TX8) (N := 17) hx hb hg inX8 hown hK hP 11 rfl rfl 11 (by decide) (hg _ q_4_85) (fun _ h9 => h9) rfl dX8_longestAbove_34 ?_
    refine lv_iconst (v := 0) hx hb dX8_longestAbove_37 (by decide) ?_
    refine lv_iconst (v := 0) hx hb dX8_longestAbove_38 (by decide) ?_
    refine va_iast hx hb hK hP hD hS 15 0 rfl rfl (iv_in (iv_c (0 : Int32) (a := 0) (b := 0) (by decide)) (by first | decide | omega)) dX8_longestAbove_39 (fun H locs hP hD hS => ?_)
    obtain ⟨f_23, tf_23, hP, hD⟩ : ∃ f_23 : Nat → Int32, (∀ j, iv 0 ((n : Int) - 1) (f_23 j)) ∧ va_P V.1 vwCl [(y 2, .inr (1, o1_iiiiiirrrrrrriiiii py2_0 py2_1 py2_2 py2_3 py2_4 py2_5 (y 3) (y 4) (y 5) (y 6) (y 7) (y 8) (y 9) py2_13 py2_14 py2_15 py2_16 py2_17)), (y 3, aI V 4 fy3), (y 9, aI V 900 fy9), (y 19, .inr (4, o4_rrrrrr (y 2) (y 20) (y 21) (y 22) (y 23) (y 24))), (y 20, aI V 2000 f_1), (y 21, aI V 6 f_2), (y 22, aI V 64 f_3), (Yw 2, aI V n f_7), (Yw 4, aI V L f_8), (Yw 5, aI V n f_9), (Yw 8, aI V 4 f_11), (Yw 0, .inr (8, o8_iirrriirrrrrrriii pYw0_0 (nI n) (Yw 1) (Yw 2) wa v_4 pYw0_6 (y 19) (Yw 4) (Yw 5) (Yw 6) (Yw 7) (Yw 8) wb pYw0_14 pYw0_15 v_5)), (Yw 1, aI V n f_6), (wa, aI V n f_18), (Yw 6, aI V (n * 4) f_10), (Yw 7, aI V n f_23), (wb, aI V n f_20)] H ∧ va_D A [(y 2, .inr (1, o1_iiiiiirrrrrrriiiii py2_0 py2_1 py2_2 py2_3 py2_4 py2_5 (y 3) (y 4) (y 5) (y 6) (y 7) (y 8) (y 9) py2_13 py2_14 py2_15 py2_16 py2_17)), (y 3, aI V 4 fy3), (y 9, aI V 900 fy9), (y 19, .inr (4, o4_rrrrrr (y 2) (y 20) (y 21) (y 22) (y 23) (y 24))), (y 20, aI V 2000 f_1), (y 21, aI V 6 f_2), (y 22, aI V 64 f_3), (Yw 2, aI V n f_7), (Yw 4, aI V L f_8), (Yw 5, aI V n f_9), (Yw 8, aI V 4 f_11), (Yw 0, .inr (8, o8_iirrriirrrrrrriii pYw0_0 (nI n) (Yw 1) (Yw 2) wa v_4 pYw0_6 (y 19) (Yw 4) (Yw 5) (Yw 6) (Yw 7) (Yw 8) wb pYw0_14 pYw0_15 v_5)), (Yw 1, aI V n f_6), (wa, aI V n f_18), (Yw 6, aI V (n * 4) f_10), (Yw 7, aI V n f_23), (wb, aI V n f_20)] := ⟨_, ivU tf_19 _ (iv_w (iv_c (0 : Int32) (a := 0) (b := 0) (by decide)) (by first | decide | omega)), hP, hD⟩
    refine loopF (X := fun (n_30 : Nat) (H : Heap) (locs : List Loc) (ls : Array Slot) => ∃ (u_24 : Int32) (u_25 : Int32) (u_26 : Int32) (f_27 : Nat → Int32) (f_28 : Nat → Int32) (f_29 : Nat → Int32), (iv 0 ((n : Int)) u_24) ∧ (iv 0 ((n : Int)) u_25) ∧ (∀ j, iv 0 ((n : Int) - 1) (f_28 j)) ∧ KN D9 f_1 ∧ n_30 = (2147483647 - (u_25 : Int32).toInt).toNat ∧ va_P V.1 vwCl [(y 2, .inr (1, o1_iiiiiirrrrrrriiiii py2_0 py2_1 py2_2 py2_3 py2_4 py2_5 (y 3) (y 4) (y 5) (y 6) (y 7) (y 8) (y 9) py2_13 py2_14 py2_15 py2_16 py2_17)), (y 3, aI V 4 fy3), (y 9, aI V 900 fy9), (y 19, .inr (4, o4_rrrrrr (y 2) (y 20) (y 21) (y 22) (y 23) (y 24))), (y 20, aI V 2000 f_1), (y 21, aI V 6 f_2), (y 22, aI V 64 f_3), (Yw 2, aI V n f_7), (Yw 4, aI V L f_8), (Yw 5, aI V n f_9), (Yw 8, aI V 4 f_11), (Yw 0, .inr (8, o8_iirrriirrrrrrriii pYw0_0 (nI n) (Yw 1) (Yw 2) wa v_4 pYw0_6 (y 19) (Yw 4) (Yw 5) (Yw 6) (Yw 7) (Yw 8) wb pYw0_14 pYw0_15 v_5)), (Yw 1, aI V n f_6), (wa, aI V n f_27), (Yw 6, aI V (n * 4) f_10), (Yw 7, aI V n f_28), (wb, aI V n f_29)] H ∧ va_D A [(y 2, .inr (1, o1_iiiiiirrrrrrriiiii py2_0 py2_1 py2_2 py2_3 py2_4 py2_5 (y 3) (y 4) (y 5) (y 6) (y 7) (y 8) (y 9) py2_13 py2_14 py2_15 py2_16 py2_17)), (y 3, aI V 4 fy3), (y 9, aI V 900 fy9), (y 19, .inr (4, o4_rrrrrr (y 2) (y 20) (y 21) (y 22) (y 23) (y 24))), (y 20, aI V 2000 f_1), (y 21, aI V 6 f_2), (y 22, aI V 64 f_3), (Yw 2, aI V n f_7), (Yw 4, aI V L f_8), (Yw 5, aI V n f_9), (Yw 8, aI V 4 f_11), (Yw 0, .inr (8, o8_iirrriirrrrrrriii pYw0_0 (nI n) (Yw 1) (Yw 2) wa v_4 pYw0_6 (y 19) (Yw 4) (Yw 5) (Yw 6) (Yw 7) (Yw 8) wb pYw0_14 pYw0_15 v_5)), (Yw 1, aI V n f_6), (wa, aI V n f_27), (Yw 6, aI V (n * 4) f_10), (Yw 7, aI V n f_28), (wb, aI V n f_29)] ∧ va_S A s.heap H locs ∧ lv_has ls 9 [(5, .int u_24), (4, .int u_25), (3, .int u_26), (2, .int r_17), (0, .ref (Yw 0)), (1, .int a1)]) (g := fun ls => F0 m 40 ls []) (fun n_30 H locs ls hX ihn_30 => ?_) _ ⟨0, 0, 0, f_18, f_23, f_20, (iv_w (iv_c (0 : Int32) (a := 0) (b := 0) (by decide)) (by first | decide | omega)), (iv_w (iv_c (0 : Int32) (a := 0) (b := 0) (by decide)) (by first | decide | omega)), tf_23, kn_16, rfl, hP, hD, hS, lv_sub hl [0, 1, 2, 3, 4, 5] rfl⟩
    obtain ⟨u_24, u_25, u_26, f_27, f_28, f_29, bu_24, bu_25, tf_28, knn_30, en_30, hP, hD, hS, hl⟩ := hX
    refine lv_iload hx hb dX8_longestAbove_40 (lv_at hl 1 rfl) ?_
    refine lv_iload hx hb dX8_longestAbove_42 (lv_at hl 0 rfl) ?_
    refine lv_icmp_ge (tgt := 189) hx hb dX8_longestAbove_44 (by decide) (fun c_31 => ?_) (fun c_31 => ?_)
    · refine lv_iload hx hb dX8_longestAbove_189 (lv_at hl 1 rfl) ?_
      refine lv_iload_n hx hb dX8_longestAbove_191 rfl (lv_at hl 3 rfl) ?_
      refine lv_icmp_ge (tgt := 199) hx hb dX8_longestAbove_192 (by decide) (fun c_32 => ?_) (fun c_32 => ?_)
      · refine lv_iload_n hx hb dX8_longestAbove_199 rfl (lv_at hl 2 rfl) ?_
        have hP := subP (ws' := [(y 2, .inr (1, o1_iiiiiirrrrrrriiiii py2_0 py2_1 py2_2 py2_3 py2_4 py2_5 (y 3) (y 4) (y 5) (y 6) (y 7) (y 8) (y 9) py2_13 py2_14 py2_15 py2_16 py2_17)), (y 3, aI V 4 fy3), (y 9, aI V 900 fy9), (y 19, .inr (4, o4_rrrrrr (y 2) (y 20) (y 21) (y 22) (y 23) (y 24))), (y 20, aI V 2000 f_1), (y 21, aI V 6 f_2), (y 22, aI V 64 f_3), (Yw 0, .inr (8, o8_iirrriirrrrrrriii pYw0_0 (nI n) (Yw 1) (Yw 2) wa v_4 pYw0_6 (y 19) (Yw 4) (Yw 5) (Yw 6) (Yw 7) (Yw 8) wb pYw0_14 pYw0_15 v_5)), (Yw 1, aI V n f_6), (Yw 2, aI V n f_7), (wa, aI V n f_27), (Yw 4, aI V L f_8), (Yw 5, aI V n f_9), (Yw 6, aI V (n * 4) f_10), (Yw 7, aI V n f_28), (Yw 8, aI V 4 f_11), (wb, aI V n f_29)]) hP [0, 1, 2, 3, 4, 5, 6, 11, 12, 7, 13, 8, 9, 14, 15, 10, 16] rfl
        have hD := subD hP hD [0, 1, 2, 3, 4, 5, 6, 11, 12, 7, 13, 8, 9, 14, 15, 10, 16] rfl rfl
        exact fiI hx hb hr hlk hK hP hD hS dX8_longestAbove_200 (Nat.le_of_ble_eq_true rfl) (Nat.le_of_ble_eq_true rfl) (⟨f_1, f_2, f_3, v_4, v_5, f_6, f_7, f_27, f_8, f_9, f_10, f_28, f_11, f_29, tf_1, bv_4, bv_5, tf_6, tf_8, tf_9, tf_10, tf_28, g_12, g_13, g_14, knn_30, rfl⟩)
      · have b_33 : iv 0 ((n : Int) - 1) u_25 := iv_l1 (Int32.not_le.mp c_32) bu_25 br_17 (by first | decide | omega)
        have b_34 : iv 1 ((n : Int)) r_17 := iv_l2 (Int32.not_le.mp c_32) bu_25 br_17 (by first | decide | omega)
        refine lv_iconst (v := (-1)) hx hb dX8_longestAbove_195 (by decide) ?_
        refine lv_goto (tgt := 200) hx hb dX8_longestAbove_196 (by decide) ?_
        have hP := subP (ws' := [(y 2, .inr (1, o1_iiiiiirrrrrrriiiii py2_0 py2_1 py2_2 py2_3 py2_4 py2_5 (y 3) (y 4) (y 5) (y 6) (y 7) (y 8) (y 9) py2_13 py2_14 py2_15 py2_16 py2_17)), (y 3, aI V 4 fy3), (y 9, aI V 900 fy9), (y 19, .inr (4, o4_rrrrrr (y 2) (y 20) (y 21) (y 22) (y 23) (y 24))), (y 20, aI V 2000 f_1), (y 21, aI V 6 f_2), (y 22, aI V 64 f_3), (Yw 0, .inr (8, o8_iirrriirrrrrrriii pYw0_0 (nI n) (Yw 1) (Yw 2) wa v_4 pYw0_6 (y 19) (Yw 4) (Yw 5) (Yw 6) (Yw 7) (Yw 8) wb pYw0_14 pYw0_15 v_5)), (Yw 1, aI V n f_6), (Yw 2, aI V n f_7), (wa, aI V n f_27), (Yw 4, aI V L f_8), (Yw 5, aI V n f_9), (Yw 6, aI V (n * 4) f_10), (Yw 7, aI V n f_28), (Yw 8, aI V 4 f_11), (wb, aI V n f_29)]) hP [0, 1, 2, 3, 4, 5, 6, 11, 12, 7, 13, 8, 9, 14, 15, 10, 16] rfl
        have hD := subD hP hD [0, 1, 2, 3, 4, 5, 6, 11, 12, 7, 13, 8, 9, 14, 15, 10, 16] rfl rfl
        exact fiI hx hb hr hlk hK hP hD hS dX8_longestAbove_200 (Nat.le_of_ble_eq_true rfl) (Nat.le_of_ble_eq_true rfl) (⟨f_1, f_2, f_3, v_4, v_5, f_6, f_7, f_27, f_8, f_9, f_10, f_28, f_11, f_29, tf_1, bv_4, bv_5, tf_6, tf_8, tf_9, tf_10, tf_28, g_12, g_13, g_14, knn_30, rfl⟩)
    · have b_35 : iv 0 ((n : Int) - 1) u_25 := iv_l1 (Int32.not_le.mp c_31) bu_25 bu_24 (by first | decide | omega)
      have b_36 : iv 1 ((n : Int)) u_24 := iv_l2 (Int32.not_le.mp c_31) bu_25 bu_24 (by first | decide | omega)
      refine lv_iload hx hb dX8_longestAbove_47 (lv_at hl 1 rfl) ?_
      refine lv_aload_n hx hb dX8_longestAbove_49 rfl (lv_at hl 4 rfl) ?_
      refine va_get (ci := 8) (v := .int (nI n)) (C := RX8) (T := TX8) (N := 17) hx hb hg inX8 hown hK hP 11 rfl rfl 1 (by decide) (hg _ q_4_67) (fun _ h9 => h9) rfl dX8_longestAbove_50 ?_
      refine lv_icmp_ge (tgt := 189) hx hb dX8_longestAbove_53 (by decide) (fun c_37 => absurd c_37 (iv_nle (iv_nI (by omega)) b_35 (by first | decide | omega))) (fun _ => ?_)
      refine lv_aload_n hx hb dX8_longestAbove_56 rfl (lv_at hl 4 rfl) ?_
      refine va_get (ci := 8) (v := .ref (Yw 7)) (C := RX8) (T := TX8) (N := 17) hx hb hg inX8 hown hK hP 11 rfl rfl 11 (by decide) (hg _ q_4_85) (fun _ h9 => h9) rfl dX8_longestAbove_57 ?_
      refine lv_iload hx hb dX8_longestAbove_60 (lv_at hl 1 rfl) ?_
      refine va_iald hx hb hK hP 15 0 rfl rfl (iv_in b_35 (by first | decide | omega)) dX8_longestAbove_62 ?_
      refine lv_topi (fun x_38 ex_38 => ?_)
      have bx_38 : iv 0 ((n : Int) - 1) x_38 := by rw [ex_38]; exact tf_28 _
      refine lv_istore (lv' := [(6, .int x_38), (5, .int u_24), (4, .int u_25), (3, .int u_26), (2, .int r_17), (0, .ref (Yw 0)), (1, .int a1)]) hx hb dX8_longestAbove_63 hl (by decide) rfl (fun ls hl => ?_)
      obtain ⟨x_39, ex_39⟩ : ∃ z9 : Int32, z9 = u_25 + 1 := ⟨_, rfl⟩
      have bx_39 : iv 1 ((n : Int)) x_39 := by rw [ex_39]; exact iv_add b_35 (iv_c (1 : Int32) (a := 1) (b := 1) (by first | decide | omega)) (by first | decide | omega)
      refine lv_iinc (v := x_39) (lv' := [(4, .int x_39), (6, .int x_38), (5, .int u_24), (3, .int u_26), (2, .int r_17), (0, .ref (Yw 0)), (1, .int a1)]) hx hb dX8_longestAbove_65 hl (k := 2) rfl (by rw [ex_39]; rfl) (by decide) rfl (fun ls hl => ?_)
      refine lv_iload_n hx hb dX8_longestAbove_68 rfl (lv_at hl 3 rfl) ?_
      refine lv_aload_n hx hb dX8_longestAbove_69 rfl (lv_at hl 5 rfl) ?_
      refine va_get (ci := 8) (v := .ref wb) (C := RX8) (T := TX8) (N := 17) hx hb hg inX8 hown hK hP 11 rfl rfl 13 (by decide) (hg _ q_4_87) (fun _ h9 => h9) rfl dX8_longestAbove_70 ?_
      refine lv_iload hx hb dX8_longestAbove_73 (lv_at hl 1 rfl) ?_
      refine va_iald hx hb hK hP 16 0 rfl rfl (iv_in bx_38 (by first | decide | omega)) dX8_longestAbove_75 ?_
      refine lv_topi (fun x_40 ex_40 => ?_)
      refine va_mmax hx hb (hml.trans hl.1.symm) hown (hg _ q_4_131) (hg _ q_2_102) (hg _ q_1_10) (hg _ q_2_103) (Nat.le_of_ble_eq_true rfl) (Nat.le_of_ble_eq_true rfl) (Nat.le_of_ble_eq_true rfl) (Nat.le_of_ble_eq_true rfl) dX8_longestAbove_76 ?_
      refine lv_topi (fun x_41 ex_41 => ?_)
      refine lv_istore_n (lv' := [(3, .int x_41), (4, .int x_39), (6, .int x_38), (5, .int u_24), (2, .int r_17), (0, .ref (Yw 0)), (1, .int a1)]) hx hb dX8_longestAbove_79 rfl hl (by decide) rfl (fun ls hl => ?_)
      refine lv_iconst (v := 0) hx hb dX8_longestAbove_80 (by decide) ?_
      refine lv_istore (lv' := [(7, .int 0), (3, .int x_41), (4, .int x_39), (6, .int x_38), (5, .int u_24), (2, .int r_17), (0, .ref (Yw 0)), (1, .int a1)]) hx hb dX8_longestAbove_81 hl (by decide) rfl (fun ls hl => ?_)
      refine loopF (X := fun (n_47 : Nat) (H : Heap) (locs : List Loc) (ls : Array Slot) => ∃ (u_42 : Int32) (u_43 : Int32) (f_44 : Nat → Int32) (f_45 : Nat → Int32) (f_46 : Nat → Int32), (iv 0 2147483647 u_42) ∧ (iv 0 ((n : Int)) u_43) ∧ (∀ j, iv 0 ((n : Int) - 1) (f_45 j)) ∧ KN D9 f_1 ∧ n_47 = (2147483647 - (u_42 : Int32).toInt).toNat ∧ va_P V.1 vwCl [(y 2, .inr (1, o1_iiiiiirrrrrrriiiii py2_0 py2_1 py2_2 py2_3 py2_4 py2_5 (y 3) (y 4) (y 5) (y 6) (y 7) (y 8) (y 9) py2_13 py2_14 py2_15 py2_16 py2_17)), (y 3, aI V 4 fy3), (y 9, aI V 900 fy9), (y 19, .inr (4, o4_rrrrrr (y 2) (y 20) (y 21) (y 22) (y 23) (y 24))), (y 20, aI V 2000 f_1), (y 21, aI V 6 f_2), (y 22, aI V 64 f_3), (Yw 2, aI V n f_7), (Yw 4, aI V L f_8), (Yw 5, aI V n f_9), (Yw 8, aI V 4 f_11), (Yw 0, .inr (8, o8_iirrriirrrrrrriii pYw0_0 (nI n) (Yw 1) (Yw 2) wa v_4 pYw0_6 (y 19) (Yw 4) (Yw 5) (Yw 6) (Yw 7) (Yw 8) wb pYw0_14 pYw0_15 v_5)), (Yw 1, aI V n f_6), (wa, aI V n f_44), (Yw 6, aI V (n * 4) f_10), (Yw 7, aI V n f_45), (wb, aI V n f_46)] H ∧ va_D A [(y 2, .inr (1, o1_iiiiiirrrrrrriiiii py2_0 py2_1 py2_2 py2_3 py2_4 py2_5 (y 3) (y 4) (y 5) (y 6) (y 7) (y 8) (y 9) py2_13 py2_14 py2_15 py2_16 py2_17)), (y 3, aI V 4 fy3), (y 9, aI V 900 fy9), (y 19, .inr (4, o4_rrrrrr (y 2) (y 20) (y 21) (y 22) (y 23) (y 24))), (y 20, aI V 2000 f_1), (y 21, aI V 6 f_2), (y 22, aI V 64 f_3), (Yw 2, aI V n f_7), (Yw 4, aI V L f_8), (Yw 5, aI V n f_9), (Yw 8, aI V 4 f_11), (Yw 0, .inr (8, o8_iirrriirrrrrrriii pYw0_0 (nI n) (Yw 1) (Yw 2) wa v_4 pYw0_6 (y 19) (Yw 4) (Yw 5) (Yw 6) (Yw 7) (Yw 8) wb pYw0_14 pYw0_15 v_5)), (Yw 1, aI V n f_6), (wa, aI V n f_44), (Yw 6, aI V (n * 4) f_10), (Yw 7, aI V n f_45), (wb, aI V n f_46)] ∧ va_S A s.heap H locs ∧ lv_has ls 9 [(7, .int u_42), (3, .int x_41), (4, .int x_39), (6, .int x_38), (5, .int u_43), (2, .int r_17), (0, .ref (Yw 0)), (1, .int a1)]) (g := fun ls => F0 m 83 ls []) (fun n_47 H locs ls hX ihn_47 => ?_) _ ⟨0, u_24, f_27, f_28, f_29, (iv_c (0 : Int32) (by decide)), (iv_w b_36 (by first | decide | omega)), tf_28, knn_30, rfl, hP, hD, hS, lv_sub hl [0, 1, 2, 3, 4, 5, 6, 7] rfl⟩
      obtain ⟨u_42, u_43, f_44, f_45, f_46, bu_42, bu_43, tf_45, knn_47, en_47, hP, hD, hS, hl⟩ := hX
      refine lv_iload hx hb dX8_longestAbove_83 (lv_at hl 0 rfl) ?_
      refine lv_aload_n hx hb dX8_longestAbove_85 rfl (lv_at hl 6 rfl) ?_
      refine va_get (ci := 8) (v := .int pYw0_6) (C := RX8) (T := TX8) (N := 17) hx hb hg inX8 hown hK hP 11 rfl rfl 6 (by decide) (hg _ q_4_80) (fun _ h9 => h9) rfl dX8_longestAbove_86 ?_
      refine lv_icmp_ge (tgt := 186) hx hb dX8_longestAbove_89 (by decide) (fun c_48 => ?_) (fun c_48 => ?_)
      · refine lv_goto (tgt := 40) hx hb dX8_longestAbove_186 (by decide) ?_
        exact ihn_30 _ _ _ _ (by rw [en_30, ex_39]; exact mu_up b_35 (by first | decide | omega)) ⟨u_43, x_39, x_41, f_44, f_45, f_46, bu_43, (iv_w bx_39 (by first | decide | omega)), tf_45, knn_47, rfl, hP, hD, hS, lv_sub hl [4, 2, 1, 5, 6, 7] rfl⟩
      · have b_49 : iv 0 3 u_42 := iv_l1 (Int32.not_le.mp c_48) bu_42 bpYw0_6 (by first | decide | omega)
        have b_50 : iv 1 4 pYw0_6 := iv_l2 (Int32.not_le.mp c_48) bu_42 bpYw0_6 (by first | decide | omega)
        refine lv_aload_n hx hb dX8_longestAbove_92 rfl (lv_at hl 6 rfl) ?_
        refine lv_iload hx hb dX8_longestAbove_93 (lv_at hl 3 rfl) ?_
        refine lv_iload hx hb dX8_longestAbove_95 (lv_at hl 0 rfl) ?_
        refine jnI (wr := [(y 2, .inr (1, o1_iiiiiirrrrrrriiiii py2_0 py2_1 py2_2 py2_3 py2_4 py2_5 (y 3) (y 4) (y 5) (y 6) (y 7) (y 8) (y 9) py2_13 py2_14 py2_15 py2_16 py2_17)), (y 3, aI V 4 fy3), (y 9, aI V 900 fy9), (y 19, .inr (4, o4_rrrrrr (y 2) (y 20) (y 21) (y 22) (y 23) (y 24))), (y 20, aI V 2000 f_1), (y 21, aI V 6 f_2), (y 22, aI V 64 f_3), (Yw 2, aI V n f_7), (Yw 4, aI V L f_8), (Yw 5, aI V n f_9), (Yw 8, aI V 4 f_11), (Yw 1, aI V n f_6), (wa, aI V n f_44), (Yw 7, aI V n f_45), (wb, aI V n f_46)]) (rnV (rest := []) ⟨hx, hb, hml, hown, hg⟩ (k_X8_behind_0 l V n Yw y x_38 u_42 pYw0_0 wa v_4 pYw0_6 wb pYw0_14 pYw0_15 v_5 f_10 hn bx_38 b_49 bpYw0_0 bv_4 (iv_w b_50 (by first | decide | omega)) bpYw0_14 bpYw0_15 bv_5 tf_10) mt_X8_behind q_4_182 ⟨Nat.le_of_ble_eq_true rfl, Nat.le_of_ble_eq_true rfl⟩ hK hP hD hS hA hE [11, 14] rfl rfl 11 rfl rfl rfl rfl hl.1 rfl (Nat.le_of_ble_eq_true rfl) dX8_longestAbove_97 ⟨Nat.le_of_ble_eq_true rfl, Nat.le_of_ble_eq_true rfl⟩) hP hD hS hA [11, 14] [0, 1, 2, 3, 4, 5, 6, 7, 8, 9, 10, 12, 13, 15, 16] rfl rfl rfl (by decide) (fun r_51 w H locs hw hP hD hS => ?_)
        obtain ⟨br_51, er_51, rfl⟩ := hw
        have hP : va_P V.1 vwCl [(y 2, .inr (1, o1_iiiiiirrrrrrriiiii py2_0 py2_1 py2_2 py2_3 py2_4 py2_5 (y 3) (y 4) (y 5) (y 6) (y 7) (y 8) (y 9) py2_13 py2_14 py2_15 py2_16 py2_17)), (y 3, aI V 4 fy3), (y 9, aI V 900 fy9), (y 19, .inr (4, o4_rrrrrr (y 2) (y 20) (y 21) (y 22) (y 23) (y 24))), (y 20, aI V 2000 f_1), (y 21, aI V 6 f_2), (y 22, aI V 64 f_3), (Yw 2, aI V n f_7), (Yw 4, aI V L f_8), (Yw 5, aI V n f_9), (Yw 8, aI V 4 f_11), (Yw 1, aI V n f_6), (wa, aI V n f_44), (Yw 7, aI V n f_45), (wb, aI V n f_46), (Yw 0, .inr (8, o8_iirrriirrrrrrriii pYw0_0 (nI n) (Yw 1) (Yw 2) wa v_4 pYw0_6 (y 19) (Yw 4) (Yw 5) (Yw 6) (Yw 7) (Yw 8) wb pYw0_14 pYw0_15 v_5)), (Yw 6, aI V (n * 4) f_10)] H := hP
        have hD := cpD hP hD
        refine lv_istore (lv' := [(8, .int r_51), (7, .int u_42), (3, .int x_41), (4, .int x_39), (6, .int x_38), (5, .int u_43), (2, .int r_17), (0, .ref (Yw 0)), (1, .int a1)]) hx hb dX8_longestAbove_100 hl (by decide) rfl (fun ls hl => ?_)
        refine lv_aload_n hx hb dX8_longestAbove_102 rfl (lv_at hl 7 rfl) ?_
        refine lv_iload hx hb dX8_longestAbove_103 (lv_at hl 0 rfl) ?_
        refine lv_iload_n hx hb dX8_longestAbove_105 rfl (lv_at hl 8 rfl) ?_
        refine jnI (wr := [(y 2, .inr (1, o1_iiiiiirrrrrrriiiii py2_0 py2_1 py2_2 py2_3 py2_4 py2_5 (y 3) (y 4) (y 5) (y 6) (y 7) (y 8) (y 9) py2_13 py2_14 py2_15 py2_16 py2_17)), (y 3, aI V 4 fy3), (y 9, aI V 900 fy9), (y 19, .inr (4, o4_rrrrrr (y 2) (y 20) (y 21) (y 22) (y 23) (y 24))), (y 20, aI V 2000 f_1), (y 21, aI V 6 f_2), (y 22, aI V 64 f_3), (Yw 2, aI V n f_7), (Yw 4, aI V L f_8), (Yw 5, aI V n f_9), (Yw 8, aI V 4 f_11), (wa, aI V n f_44), (Yw 7, aI V n f_45), (wb, aI V n f_46), (Yw 6, aI V (n * 4) f_10)]) (rnV (rest := []) ⟨hx, hb, hml, hown, hg⟩ (k_X8_isAbove_0 l V n L Yw y r_51 a1 pYw0_0 wa v_4 pYw0_6 wb pYw0_14 pYw0_15 v_5 f_6 hn hL br_51 bpYw0_0 bv_4 (iv_w b_50 (by first | decide | omega)) bpYw0_14 bpYw0_15 bv_5 tf_6) mt_X8_isAbove q_4_205 ⟨Nat.le_of_ble_eq_true rfl, Nat.le_of_ble_eq_true rfl⟩ hK hP hD hS hA hE [15, 11] rfl rfl 15 rfl rfl rfl rfl hl.1 rfl (Nat.le_of_ble_eq_true rfl) dX8_longestAbove_106 ⟨Nat.le_of_ble_eq_true rfl, Nat.le_of_ble_eq_true rfl⟩) hP hD hS hA [15, 11] [0, 1, 2, 3, 4, 5, 6, 7, 8, 9, 10, 12, 13, 14, 16] rfl rfl rfl (by decide) (fun r_52 w H locs hw hP hD hS => ?_)
        obtain ⟨br_52, rfl⟩ := hw
        have hP : va_P V.1 vwCl [(y 2, .inr (1, o1_iiiiiirrrrrrriiiii py2_0 py2_1 py2_2 py2_3 py2_4 py2_5 (y 3) (y 4) (y 5) (y 6) (y 7) (y 8) (y 9) py2_13 py2_14 py2_15 py2_16 py2_17)), (y 3, aI V 4 fy3), (y 9, aI V 900 fy9), (y 19, .inr (4, o4_rrrrrr (y 2) (y 20) (y 21) (y 22) (y 23) (y 24))), (y 20, aI V 2000 f_1), (y 21, aI V 6 f_2), (y 22, aI V 64 f_3), (Yw 2, aI V n f_7), (Yw 4, aI V L f_8), (Yw 5, aI V n f_9), (Yw 8, aI V 4 f_11), (wa, aI V n f_44), (Yw 7, aI V n f_45), (wb, aI V n f_46), (Yw 6, aI V (n * 4) f_10), (Yw 0, .inr (8, o8_iirrriirrrrrrriii pYw0_0 (nI n) (Yw 1) (Yw 2) wa v_4 pYw0_6 (y 19) (Yw 4) (Yw 5) (Yw 6) (Yw 7) (Yw 8) wb pYw0_14 pYw0_15 v_5)), (Yw 1, aI V n f_6)] H := hP
        have hD := cpD hP hD
        refine lv_if_eq (tgt := 180) hx hb dX8_longestAbove_109 (by decide) (fun c_53 => ?_) (fun c_53 => ?_)
        · have b_54 : iv 0 0 r_52 := iv_q c_53 (iv_c (0 : Int32) (a := 0) (b := 0) (by decide))
          obtain ⟨x_55, ex_55⟩ : ∃ z9 : Int32, z9 = u_42 + 1 := ⟨_, rfl⟩
          have bx_55 : iv 1 4 x_55 := by rw [ex_55]; exact iv_add b_49 (iv_c (1 : Int32) (a := 1) (b := 1) (by first | decide | omega)) (by first | decide | omega)
          refine lv_iinc (v := x_55) (lv' := [(7, .int x_55), (8, .int r_51), (3, .int x_41), (4, .int x_39), (6, .int x_38), (5, .int u_43), (2, .int r_17), (0, .ref (Yw 0)), (1, .int a1)]) hx hb dX8_longestAbove_180 hl (k := 1) rfl (by rw [ex_55]; rfl) (by decide) rfl (fun ls hl => ?_)
          refine lv_goto (tgt := 83) hx hb dX8_longestAbove_183 (by decide) ?_
          have hP := subP (ws' := [(y 2, .inr (1, o1_iiiiiirrrrrrriiiii py2_0 py2_1 py2_2 py2_3 py2_4 py2_5 (y 3) (y 4) (y 5) (y 6) (y 7) (y 8) (y 9) py2_13 py2_14 py2_15 py2_16 py2_17)), (y 3, aI V 4 fy3), (y 9, aI V 900 fy9), (y 19, .inr (4, o4_rrrrrr (y 2) (y 20) (y 21) (y 22) (y 23) (y 24))), (y 20, aI V 2000 f_1), (y 21, aI V 6 f_2), (y 22, aI V 64 f_3), (Yw 2, aI V n f_7), (Yw 4, aI V L f_8), (Yw 5, aI V n f_9), (Yw 8, aI V 4 f_11), (Yw 0, .inr (8, o8_iirrriirrrrrrriii pYw0_0 (nI n) (Yw 1) (Yw 2) wa v_4 pYw0_6 (y 19) (Yw 4) (Yw 5) (Yw 6) (Yw 7) (Yw 8) wb pYw0_14 pYw0_15 v_5)), (Yw 1, aI V n f_6), (wa, aI V n f_44), (Yw 6, aI V (n * 4) f_10), (Yw 7, aI V n f_45), (wb, aI V n f_46)]) hP [0, 1, 2, 3, 4, 5, 6, 7, 8, 9, 10, 15, 16, 11, 14, 12, 13] rfl
          have hD := subD hP hD [0, 1, 2, 3, 4, 5, 6, 7, 8, 9, 10, 15, 16, 11, 14, 12, 13] rfl rfl
          exact ihn_47 _ _ _ _ (by rw [en_47, ex_55]; exact mu_up b_49 (by first | decide | omega)) ⟨x_55, u_43, f_44, f_45, f_46, (iv_w bx_55 (by first | decide | omega)), bu_43, tf_45, knn_47, rfl, hP, hD, hS, lv_sub hl [0, 2, 3, 4, 5, 6, 7, 8] rfl⟩
        · have b_56 : iv 1 1 r_52 := iv_n0 c_53 br_52 (iv_c (0 : Int32) (a := 0) (b := 0) (by decide)) (by first | decide | omega)
          refine lv_aload_n hx hb dX8_longestAbove_112 rfl (lv_at hl 7 rfl) ?_
          refine va_get (ci := 8) (v := .ref wb) (C := RX8) (T := TX8) (N := 17) hx hb hg inX8 hown hK hP 15 rfl rfl 13 (by decide) (hg _ q_4_87) (fun _ h9 => h9) rfl dX8_longestAbove_113 ?_
          refine lv_iload hx hb dX8_longestAbove_116 (lv_at hl 0 rfl) ?_
          refine lv_aload_n hx hb dX8_longestAbove_118 rfl (lv_at hl 7 rfl) ?_
          refine va_get (ci := 8) (v := .ref wb) (C := RX8) (T := TX8) (N := 17) hx hb hg inX8 hown hK hP 15 rfl rfl 13 (by decide) (hg _ q_4_87) (fun _ h9 => h9) rfl dX8_longestAbove_119 ?_
          refine lv_iload hx hb dX8_longestAbove_122 (lv_at hl 0 rfl) ?_
          refine va_iald hx hb hK hP 13 0 rfl rfl (iv_in br_51 (by first | decide | omega)) dX8_longestAbove_124 ?_
          refine lv_topi (fun x_57 ex_57 => ?_)
          refine lv_aload_n hx hb dX8_longestAbove_125 rfl (lv_at hl 7 rfl) ?_
          refine va_get (ci := 8) (v := .ref wb) (C := RX8) (T := TX8) (N := 17) hx hb hg inX8 hown hK hP 15 rfl rfl 13 (by decide) (hg _ q_4_87) (fun _ h9 => h9) rfl dX8_longestAbove_126 ?_
          refine lv_iload hx hb dX8_longestAbove_129 (lv_at hl 4 rfl) ?_
          refine va_iald hx hb hK hP 13 0 rfl rfl (iv_in bx_38 (by first | decide | omega)) dX8_longestAbove_131 ?_
          refine lv_topi (fun x_58 ex_58 => ?_)
          refine lv_iconst (v := 1) hx hb dX8_longestAbove_132 (by decide) ?_
          refine lv_iadd hx hb dX8_longestAbove_133 ?_
          refine lv_topi (fun x_59 ex_59 => ?_)
          refine va_mmax hx hb (hml.trans hl.1.symm) hown (hg _ q_4_131) (hg _ q_2_102) (hg _ q_1_10) (hg _ q_2_103) (Nat.le_of_ble_eq_true rfl) (Nat.le_of_ble_eq_true rfl) (Nat.le_of_ble_eq_true rfl) (Nat.le_of_ble_eq_true rfl) dX8_longestAbove_134 ?_
          refine lv_topi (fun x_60 ex_60 => ?_)
          refine va_iast hx hb hK hP hD hS 13 0 rfl rfl (iv_in br_51 (by first | decide | omega)) dX8_longestAbove_137 (fun H locs hP hD hS => ?_)
          obtain ⟨f_61, hP, hD⟩ : ∃ f_61 : Nat → Int32, va_P V.1 vwCl [(y 2, .inr (1, o1_iiiiiirrrrrrriiiii py2_0 py2_1 py2_2 py2_3 py2_4 py2_5 (y 3) (y 4) (y 5) (y 6) (y 7) (y 8) (y 9) py2_13 py2_14 py2_15 py2_16 py2_17)), (y 3, aI V 4 fy3), (y 9, aI V 900 fy9), (y 19, .inr (4, o4_rrrrrr (y 2) (y 20) (y 21) (y 22) (y 23) (y 24))), (y 20, aI V 2000 f_1), (y 21, aI V 6 f_2), (y 22, aI V 64 f_3), (Yw 2, aI V n f_7), (Yw 4, aI V L f_8), (Yw 5, aI V n f_9), (Yw 8, aI V 4 f_11), (wa, aI V n f_44), (Yw 7, aI V n f_45), (wb, aI V n f_61), (Yw 6, aI V (n * 4) f_10), (Yw 0, .inr (8, o8_iirrriirrrrrrriii pYw0_0 (nI n) (Yw 1) (Yw 2) wa v_4 pYw0_6 (y 19) (Yw 4) (Yw 5) (Yw 6) (Yw 7) (Yw 8) wb pYw0_14 pYw0_15 v_5)), (Yw 1, aI V n f_6)] H ∧ va_D A [(y 2, .inr (1, o1_iiiiiirrrrrrriiiii py2_0 py2_1 py2_2 py2_3 py2_4 py2_5 (y 3) (y 4) (y 5) (y 6) (y 7) (y 8) (y 9) py2_13 py2_14 py2_15 py2_16 py2_17)), (y 3, aI V 4 fy3), (y 9, aI V 900 fy9), (y 19, .inr (4, o4_rrrrrr (y 2) (y 20) (y 21) (y 22) (y 23) (y 24))), (y 20, aI V 2000 f_1), (y 21, aI V 6 f_2), (y 22, aI V 64 f_3), (Yw 2, aI V n f_7), (Yw 4, aI V L f_8), (Yw 5, aI V n f_9), (Yw 8, aI V 4 f_11), (wa, aI V n f_44), (Yw 7, aI V n f_45), (wb, aI V n f_61), (Yw 6, aI V (n * 4) f_10), (Yw 0, .inr (8, o8_iirrriirrrrrrriii pYw0_0 (nI n) (Yw 1) (Yw 2) wa v_4 pYw0_6 (y 19) (Yw 4) (Yw 5) (Yw 6) (Yw 7) (Yw 8) wb pYw0_14 pYw0_15 v_5)), (Yw 1, aI V n f_6)] := ⟨_, hP, hD⟩
          refine lv_aload_n hx hb dX8_longestAbove_138 rfl (lv_at hl 7 rfl) ?_
          refine va_get (ci := 8) (v := .ref wa) (C := RX8) (T := TX8) (N := 17) hx hb hg inX8 hown hK hP 15 rfl rfl 4 (by decide) (hg _ q_4_74) (fun _ h9 => h9) rfl dX8_longestAbove_139 ?_
          refine lv_iload hx hb dX8_longestAbove_142 (lv_at hl 0 rfl) ?_
          refine lv_dup2_11 hx hb dX8_longestAbove_144 rfl rfl ?_
          refine va_iald hx hb hK hP 11 0 rfl rfl (iv_in br_51 (by first | decide | omega)) dX8_longestAbove_145 ?_
          refine lv_topi (fun x_62 ex_62 => ?_)
          refine lv_iconst (v := 1) hx hb dX8_longestAbove_146 (by decide) ?_
          refine lv_isub hx hb dX8_longestAbove_147 ?_
          refine lv_topi (fun x_63 ex_63 => ?_)
          refine va_iast hx hb hK hP hD hS 11 0 rfl rfl (iv_in br_51 (by first | decide | omega)) dX8_longestAbove_148 (fun H locs hP hD hS => ?_)
          obtain ⟨f_64, hP, hD⟩ : ∃ f_64 : Nat → Int32, va_P V.1 vwCl [(y 2, .inr (1, o1_iiiiiirrrrrrriiiii py2_0 py2_1 py2_2 py2_3 py2_4 py2_5 (y 3) (y 4) (y 5) (y 6) (y 7) (y 8) (y 9) py2_13 py2_14 py2_15 py2_16 py2_17)), (y 3, aI V 4 fy3), (y 9, aI V 900 fy9), (y 19, .inr (4, o4_rrrrrr (y 2) (y 20) (y 21) (y 22) (y 23) (y 24))), (y 20, aI V 2000 f_1), (y 21, aI V 6 f_2), (y 22, aI V 64 f_3), (Yw 2, aI V n f_7), (Yw 4, aI V L f_8), (Yw 5, aI V n f_9), (Yw 8, aI V 4 f_11), (wa, aI V n f_64), (Yw 7, aI V n f_45), (wb, aI V n f_61), (Yw 6, aI V (n * 4) f_10), (Yw 0, .inr (8, o8_iirrriirrrrrrriii pYw0_0 (nI n) (Yw 1) (Yw 2) wa v_4 pYw0_6 (y 19) (Yw 4) (Yw 5) (Yw 6) (Yw 7) (Yw 8) wb pYw0_14 pYw0_15 v_5)), (Yw 1, aI V n f_6)] H ∧ va_D A [(y 2, .inr (1, o1_iiiiiirrrrrrriiiii py2_0 py2_1 py2_2 py2_3 py2_4 py2_5 (y 3) (y 4) (y 5) (y 6) (y 7) (y 8) (y 9) py2_13 py2_14 py2_15 py2_16 py2_17)), (y 3, aI V 4 fy3), (y 9, aI V 900 fy9), (y 19, .inr (4, o4_rrrrrr (y 2) (y 20) (y 21) (y 22) (y 23) (y 24))), (y 20, aI V 2000 f_1), (y 21, aI V 6 f_2), (y 22, aI V 64 f_3), (Yw 2, aI V n f_7), (Yw 4, aI V L f_8), (Yw 5, aI V n f_9), (Yw 8, aI V 4 f_11), (wa, aI V n f_64), (Yw 7, aI V n f_45), (wb, aI V n f_61), (Yw 6, aI V (n * 4) f_10), (Yw 0, .inr (8, o8_iirrriirrrrrrriii pYw0_0 (nI n) (Yw 1) (Yw 2) wa v_4 pYw0_6 (y 19) (Yw 4) (Yw 5) (Yw 6) (Yw 7) (Yw 8) wb pYw0_14 pYw0_15 v_5)), (Yw 1, aI V n f_6)] := ⟨_, hP, hD⟩
          refine lv_aload_n hx hb dX8_longestAbove_149 rfl (lv_at hl 7 rfl) ?_
          refine va_get (ci := 8) (v := .ref wa) (C := RX8) (T := TX8) (N := 17) hx hb hg inX8 hown hK hP 15 rfl rfl 4 (by decide) (hg _ q_4_74) (fun _ h9 => h9) rfl dX8_longestAbove_150 ?_
          refine lv_iload hx hb dX8_longestAbove_153 (lv_at hl 0 rfl) ?_
          refine va_iald hx hb hK hP 11 0 rfl rfl (iv_in br_51 (by first | decide | omega)) dX8_longestAbove_155 ?_
          refine lv_topi (fun x_65 ex_65 => ?_)
          refine lv_if_ne (tgt := 180) hx hb dX8_longestAbove_156 (by decide) (fun c_66 => ?_) (fun c_66 => ?_)
          · obtain ⟨x_67, ex_67⟩ : ∃ z9 : Int32, z9 = u_42 + 1 := ⟨_, rfl⟩
            have bx_67 : iv 1 4 x_67 := by rw [ex_67]; exact iv_add b_49 (iv_c (1 : Int32) (a := 1) (b := 1) (by first | decide | omega)) (by first | decide | omega)
            refine lv_iinc (v := x_67) (lv' := [(7, .int x_67), (8, .int r_51), (3, .int x_41), (4, .int x_39), (6, .int x_38), (5, .int u_43), (2, .int r_17), (0, .ref (Yw 0)), (1, .int a1)]) hx hb dX8_longestAbove_180 hl (k := 1) rfl (by rw [ex_67]; rfl) (by decide) rfl (fun ls hl => ?_)
            refine lv_goto (tgt := 83) hx hb dX8_longestAbove_183 (by decide) ?_
            have hP := subP (ws' := [(y 2, .inr (1, o1_iiiiiirrrrrrriiiii py2_0 py2_1 py2_2 py2_3 py2_4 py2_5 (y 3) (y 4) (y 5) (y 6) (y 7) (y 8) (y 9) py2_13 py2_14 py2_15 py2_16 py2_17)), (y 3, aI V 4 fy3), (y 9, aI V 900 fy9), (y 19, .inr (4, o4_rrrrrr (y 2) (y 20) (y 21) (y 22) (y 23) (y 24))), (y 20, aI V 2000 f_1), (y 21, aI V 6 f_2), (y 22, aI V 64 f_3), (Yw 2, aI V n f_7), (Yw 4, aI V L f_8), (Yw 5, aI V n f_9), (Yw 8, aI V 4 f_11), (Yw 0, .inr (8, o8_iirrriirrrrrrriii pYw0_0 (nI n) (Yw 1) (Yw 2) wa v_4 pYw0_6 (y 19) (Yw 4) (Yw 5) (Yw 6) (Yw 7) (Yw 8) wb pYw0_14 pYw0_15 v_5)), (Yw 1, aI V n f_6), (wa, aI V n f_64), (Yw 6, aI V (n * 4) f_10), (Yw 7, aI V n f_45), (wb, aI V n f_61)]) hP [0, 1, 2, 3, 4, 5, 6, 7, 8, 9, 10, 15, 16, 11, 14, 12, 13] rfl
            have hD := subD hP hD [0, 1, 2, 3, 4, 5, 6, 7, 8, 9, 10, 15, 16, 11, 14, 12, 13] rfl rfl
            exact ihn_47 _ _ _ _ (by rw [en_47, ex_67]; exact mu_up b_49 (by first | decide | omega)) ⟨x_67, u_43, f_64, f_45, f_61, (iv_w bx_67 (by first | decide | omega)), bu_43, tf_45, knn_47, rfl, hP, hD, hS, lv_sub hl [0, 2, 3, 4, 5, 6, 7, 8] rfl⟩
          · have b_68 : iv 0 0 x_65 := iv_q c_66 (iv_c (0 : Int32) (a := 0) (b := 0) (by decide))
            refine lv_iload hx hb dX8_longestAbove_159 (lv_at hl 5 rfl) ?_
            refine lv_aload_n hx hb dX8_longestAbove_161 rfl (lv_at hl 7 rfl) ?_
            refine va_get (ci := 8) (v := .int (nI n)) (C := RX8) (T := TX8) (N := 17) hx hb hg inX8 hown hK hP 15 rfl rfl 1 (by decide) (hg _ q_4_67) (fun _ h9 => h9) rfl dX8_longestAbove_162 ?_
            refine lv_icmp_ge (tgt := 180) hx hb dX8_longestAbove_165 (by decide) (fun c_69 => ?_) (fun c_69 => ?_)
            · have b_70 : iv ((n : Int)) ((n : Int)) u_43 := iv_e2 c_69 (iv_nI (by omega)) bu_43 (by first | decide | omega)
              obtain ⟨x_71, ex_71⟩ : ∃ z9 : Int32, z9 = u_42 + 1 := ⟨_, rfl⟩
              have bx_71 : iv 1 4 x_71 := by rw [ex_71]; exact iv_add b_49 (iv_c (1 : Int32) (a := 1) (b := 1) (by first | decide | omega)) (by first | decide | omega)
              refine lv_iinc (v := x_71) (lv' := [(7, .int x_71), (8, .int r_51), (3, .int x_41), (4, .int x_39), (6, .int x_38), (5, .int u_43), (2, .int r_17), (0, .ref (Yw 0)), (1, .int a1)]) hx hb dX8_longestAbove_180 hl (k := 1) rfl (by rw [ex_71]; rfl) (by decide) rfl (fun ls hl => ?_)
              refine lv_goto (tgt := 83) hx hb dX8_longestAbove_183 (by decide) ?_
              have hP := subP (ws' := [(y 2, .inr (1, o1_iiiiiirrrrrrriiiii py2_0 py2_1 py2_2 py2_3 py2_4 py2_5 (y 3) (y 4) (y 5) (y 6) (y 7) (y 8) (y 9) py2_13 py2_14 py2_15 py2_16 py2_17)), (y 3, aI V 4 fy3), (y 9, aI V 900 fy9), (y 19, .inr (4, o4_rrrrrr (y 2) (y 20) (y 21) (y 22) (y 23) (y 24))), (y 20, aI V 2000 f_1), (y 21, aI V 6 f_2), (y 22, aI V 64 f_3), (Yw 2, aI V n f_7), (Yw 4, aI V L f_8), (Yw 5, aI V n f_9), (Yw 8, aI V 4 f_11), (Yw 0, .inr (8, o8_iirrriirrrrrrriii pYw0_0 (nI n) (Yw 1) (Yw 2) wa v_4 pYw0_6 (y 19) (Yw 4) (Yw 5) (Yw 6) (Yw 7) (Yw 8) wb pYw0_14 pYw0_15 v_5)), (Yw 1, aI V n f_6), (wa, aI V n f_64), (Yw 6, aI V (n * 4) f_10), (Yw 7, aI V n f_45), (wb, aI V n f_61)]) hP [0, 1, 2, 3, 4, 5, 6, 7, 8, 9, 10, 15, 16, 11, 14, 12, 13] rfl
              have hD := subD hP hD [0, 1, 2, 3, 4, 5, 6, 7, 8, 9, 10, 15, 16, 11, 14, 12, 13] rfl rfl
              exact ihn_47 _ _ _ _ (by rw [en_47, ex_71]; exact mu_up b_49 (by first | decide | omega)) ⟨x_71, u_43, f_64, f_45, f_61, (iv_w bx_71 (by first | decide | omega)), (iv_w b_70 (by first | decide | omega)), tf_45, knn_47, rfl, hP, hD, hS, lv_sub hl [0, 2, 3, 4, 5, 6, 7, 8] rfl⟩
            · have b_72 : iv 0 ((n : Int) - 1) u_43 := iv_l1 (Int32.not_le.mp c_69) bu_43 (iv_nI (by omega)) (by first | decide | omega)
              refine lv_aload_n hx hb dX8_longestAbove_168 rfl (lv_at hl 7 rfl) ?_
              refine va_get (ci := 8) (v := .ref (Yw 7)) (C := RX8) (T := TX8) (N := 17) hx hb hg inX8 hown hK hP 15 rfl rfl 11 (by decide) (hg _ q_4_85) (fun _ h9 => h9) rfl dX8_longestAbove_169 ?_
              refine lv_iload hx hb dX8_longestAbove_172 (lv_at hl 5 rfl) ?_
              refine lv_iload hx hb dX8_longestAbove_174 (lv_at hl 0 rfl) ?_
              refine va_iast hx hb hK hP hD hS 12 0 rfl rfl (iv_in b_72 (by first | decide | omega)) dX8_longestAbove_176 (fun H locs hP hD hS => ?_)
              obtain ⟨f_73, tf_73, hP, hD⟩ : ∃ f_73 : Nat → Int32, (∀ j, iv 0 ((n : Int) - 1) (f_73 j)) ∧ va_P V.1 vwCl [(y 2, .inr (1, o1_iiiiiirrrrrrriiiii py2_0 py2_1 py2_2 py2_3 py2_4 py2_5 (y 3) (y 4) (y 5) (y 6) (y 7) (y 8) (y 9) py2_13 py2_14 py2_15 py2_16 py2_17)), (y 3, aI V 4 fy3), (y 9, aI V 900 fy9), (y 19, .inr (4, o4_rrrrrr (y 2) (y 20) (y 21) (y 22) (y 23) (y 24))), (y 20, aI V 2000 f_1), (y 21, aI V 6 f_2), (y 22, aI V 64 f_3), (Yw 2, aI V n f_7), (Yw 4, aI V L f_8), (Yw 5, aI V n f_9), (Yw 8, aI V 4 f_11), (wa, aI V n f_64), (Yw 7, aI V n f_73), (wb, aI V n f_61), (Yw 6, aI V (n * 4) f_10), (Yw 0, .inr (8, o8_iirrriirrrrrrriii pYw0_0 (nI n) (Yw 1) (Yw 2) wa v_4 pYw0_6 (y 19) (Yw 4) (Yw 5) (Yw 6) (Yw 7) (Yw 8) wb pYw0_14 pYw0_15 v_5)), (Yw 1, aI V n f_6)] H ∧ va_D A [(y 2, .inr (1, o1_iiiiiirrrrrrriiiii py2_0 py2_1 py2_2 py2_3 py2_4 py2_5 (y 3) (y 4) (y 5) (y 6) (y 7) (y 8) (y 9) py2_13 py2_14 py2_15 py2_16 py2_17)), (y 3, aI V 4 fy3), (y 9, aI V 900 fy9), (y 19, .inr (4, o4_rrrrrr (y 2) (y 20) (y 21) (y 22) (y 23) (y 24))), (y 20, aI V 2000 f_1), (y 21, aI V 6 f_2), (y 22, aI V 64 f_3), (Yw 2, aI V n f_7), (Yw 4, aI V L f_8), (Yw 5, aI V n f_9), (Yw 8, aI V 4 f_11), (wa, aI V n f_64), (Yw 7, aI V n f_73), (wb, aI V n f_61), (Yw 6, aI V (n * 4) f_10), (Yw 0, .inr (8, o8_iirrriirrrrrrriii pYw0_0 (nI n) (Yw 1) (Yw 2) wa v_4 pYw0_6 (y 19) (Yw 4) (Yw 5) (Yw 6) (Yw 7) (Yw 8) wb pYw0_14 pYw0_15 v_5)), (Yw 1, aI V n f_6)] := ⟨_, ivU tf_45 _ br_51, hP, hD⟩
              obtain ⟨x_74, ex_74⟩ : ∃ z9 : Int32, z9 = u_43 + 1 := ⟨_, rfl⟩
              have bx_74 : iv 1 ((n : Int)) x_74 := by rw [ex_74]; exact iv_add b_72 (iv_c (1 : Int32) (a := 1) (b := 1) (by first | decide | omega)) (by first | decide | omega)
              refine lv_iinc (v := x_74) (lv' := [(5, .int x_74), (8, .int r_51), (7, .int u_42), (3, .int x_41), (4, .int x_39), (6, .int x_38), (2, .int r_17), (0, .ref (Yw 0)), (1, .int a1)]) hx hb dX8_longestAbove_177 hl (k := 5) rfl (by rw [ex_74]; rfl) (by decide) rfl (fun ls hl => ?_)
              obtain ⟨x_75, ex_75⟩ : ∃ z9 : Int32, z9 = u_42 + 1 := ⟨_, rfl⟩
              have bx_75 : iv 1 4 x_75 := by rw [ex_75]; exact iv_add b_49 (iv_c (1 : Int32) (a := 1) (b := 1) (by first | decide | omega)) (by first | decide | omega)
              refine lv_iinc (v := x_75) (lv' := [(7, .int x_75), (5, .int x_74), (8, .int r_51), (3, .int x_41), (4, .int x_39), (6, .int x_38), (2, .int r_17), (0, .ref (Yw 0)), (1, .int a1)]) hx hb dX8_longestAbove_180 hl (k := 2) rfl (by rw [ex_75]; rfl) (by decide) rfl (fun ls hl => ?_)
              refine lv_goto (tgt := 83) hx hb dX8_longestAbove_183 (by decide) ?_
              have hP := subP (ws' := [(y 2, .inr (1, o1_iiiiiirrrrrrriiiii py2_0 py2_1 py2_2 py2_3 py2_4 py2_5 (y 3) (y 4) (y 5) (y 6) (y 7) (y 8) (y 9) py2_13 py2_14 py2_15 py2_16 py2_17)), (y 3, aI V 4 fy3), (y 9, aI V 900 fy9), (y 19, .inr (4, o4_rrrrrr (y 2) (y 20) (y 21) (y 22) (y 23) (y 24))), (y 20, aI V 2000 f_1), (y 21, aI V 6 f_2), (y 22, aI V 64 f_3), (Yw 2, aI V n f_7), (Yw 4, aI V L f_8), (Yw 5, aI V n f_9), (Yw 8, aI V 4 f_11), (Yw 0, .inr (8, o8_iirrriirrrrrrriii pYw0_0 (nI n) (Yw 1) (Yw 2) wa v_4 pYw0_6 (y 19) (Yw 4) (Yw 5) (Yw 6) (Yw 7) (Yw 8) wb pYw0_14 pYw0_15 v_5)), (Yw 1, aI V n f_6), (wa, aI V n f_64), (Yw 6, aI V (n * 4) f_10), (Yw 7, aI V n f_73), (wb, aI V n f_61)]) hP [0, 1, 2, 3, 4, 5, 6, 7, 8, 9, 10, 15, 16, 11, 14, 12, 13] rfl
              have hD := subD hP hD [0, 1, 2, 3, 4, 5, 6, 7, 8, 9, 10, 15, 16, 11, 14, 12, 13] rfl rfl
              exact ihn_47 _ _ _ _ (by rw [en_47, ex_75]; exact mu_up b_49 (by first | decide | omega)) ⟨x_75, x_74, f_64, f_73, f_61, (iv_w bx_75 (by first | decide | omega)), (iv_w bx_74 (by first | decide | omega)), tf_73, knn_47, rfl, hP, hD, hS, lv_sub hl [0, 3, 4, 5, 1, 6, 7, 8] rfl⟩
  · have b_76 : iv 0 0 x_21 := iv_q c_22 (iv_c (0 : Int32) (a := 0) (b := 0) (by decide))
    refine lv_iconst (v := 1) hx hb dX8_longestAbove_26 (by decide) ?_
    refine lv_goto (tgt := 31) hx hb dX8_longestAbove_27 (by decide) ?_
    refine lv_istore (lv' := [(5, .int 1), (4, .int 0), (3, .int 0), (2, .int r_17), (0, .ref (Yw 0)), (1, .int a1)]) hx hb dX8_longestAbove_31 hl (by decide) rfl (fun ls hl => ?_)
    refine lv_aload_n hx hb dX8_longestAbove_33 rfl (lv_at hl 4 rfl) ?_
    refine va_get (ci := 8) (v := .ref (Yw 7)) (C := RX8) (T := TX8) (N := 17) hx hb hg inX8 hown hK hP 11 rfl rfl 11 (by decide) (hg _ q_4_85) (fun _ h9 => h9) rfl dX8_longestAbove_34 ?_
    refine lv_iconst (v := 0) hx hb dX8_longestAbove_37 (by decide) ?_
    refine lv_iconst (v := 0) hx hb dX8_longestAbove_38 (by decide) ?_
    refine va_iast hx hb hK hP hD hS 15 0 rfl rfl (iv_in (iv_c (0 : Int32) (a := 0) (b := 0) (by decide)) (by first | decide | omega)) dX8_longestAbove_39 (fun H locs hP hD hS => ?_)
    obtain ⟨f_77, tf_77, hP, hD⟩ : ∃ f_77 : Nat → Int32, (∀ j, iv 0 ((n : Int) - 1) (f_77 j)) ∧ va_P V.1 vwCl [(y 2, .inr (1, o1_iiiiiirrrrrrriiiii py2_0 py2_1 py2_2 py2_3 py2_4 py2_5 (y 3) (y 4) (y 5) (y 6) (y 7) (y 8) (y 9) py2_13 py2_14 py2_15 py2_16 py2_17)), (y 3, aI V 4 fy3), (y 9, aI V 900 fy9), (y 19, .inr (4, o4_rrrrrr (y 2) (y 20) (y 21) (y 22) (y 23) (y 24))), (y 20, aI V 2000 f_1), (y 21, aI V 6 f_2), (y 22, aI V 64 f_3), (Yw 2, aI V n f_7), (Yw 4, aI V L f_8), (Yw 5, aI V n f_9), (Yw 8, aI V 4 f_11), (Yw 0, .inr (8, o8_iirrriirrrrrrriii pYw0_0 (nI n) (Yw 1) (Yw 2) wa v_4 pYw0_6 (y 19) (Yw 4) (Yw 5) (Yw 6) (Yw 7) (Yw 8) wb pYw0_14 pYw0_15 v_5)), (Yw 1, aI V n f_6), (wa, aI V n f_18), (Yw 6, aI V (n * 4) f_10), (Yw 7, aI V n f_77), (wb, aI V n f_20)] H ∧ va_D A [(y 2, .inr (1, o1_iiiiiirrrrrrriiiii py2_0 py2_1 py2_2 py2_3 py2_4 py2_5 (y 3) (y 4) (y 5) (y 6) (y 7) (y 8) (y 9) py2_13 py2_14 py2_15 py2_16 py2_17)), (y 3, aI V 4 fy3), (y 9, aI V 900 fy9), (y 19, .inr (4, o4_rrrrrr (y 2) (y 20) (y 21) (y 22) (y 23) (y 24))), (y 20, aI V 2000 f_1), (y 21, aI V 6 f_2), (y 22, aI V 64 f_3), (Yw 2, aI V n f_7), (Yw 4, aI V L f_8), (Yw 5, aI V n f_9), (Yw 8, aI V 4 f_11), (Yw 0, .inr (8, o8_iirrriirrrrrrriii pYw0_0 (nI n) (Yw 1) (Yw 2) wa v_4 pYw0_6 (y 19) (Yw 4) (Yw 5) (Yw 6) (Yw 7) (Yw 8) wb pYw0_14 pYw0_15 v_5)), (Yw 1, aI V n f_6), (wa, aI V n f_18), (Yw 6, aI V (n * 4) f_10), (Yw 7, aI V n f_77), (wb, aI V n f_20)] := ⟨_, ivU tf_19 _ (iv_w (iv_c (0 : Int32) (a := 0) (b := 0) (by decide)) (by first | decide | omega)), hP, hD⟩
    refine loopF (X := fun (n_84 : Nat) (H : Heap) (locs : List Loc) (ls : Array Slot) => ∃ (u_78 : Int32) (u_79 : Int32) (u_80 : Int32) (f_81 : Nat → Int32) (f_82 : Nat → Int32) (f_83 : Nat → Int32), (iv 0 ((n : Int)) u_78) ∧ (iv 0 ((n : Int)) u_79) ∧ (∀ j, iv 0 ((n : Int) - 1) (f_82 j)) ∧ KN D9 f_1 ∧ n_84 = (2147483647 - (u_79 : Int32).toInt).toNat ∧ va_P V.1 vwCl [(y 2, .inr (1, o1_iiiiiirrrrrrriiiii py2_0 py2_1 py2_2 py2_3 py2_4 py2_5 (y 3) (y 4) (y 5) (y 6) (y 7) (y 8) (y 9) py2_13 py2_14 py2_15 py2_16 py2_17)), (y 3, aI V 4 fy3), (y 9, aI V 900 fy9), (y 19, .inr (4, o4_rrrrrr (y 2) (y 20) (y 21) (y 22) (y 23) (y 24))), (y 20, aI V 2000 f_1), (y 21, aI V 6 f_2), (y 22, aI V 64 f_3), (Yw 2, aI V n f_7), (Yw 4, aI V L f_8), (Yw 5, aI V n f_9), (Yw 8, aI V 4 f_11), (Yw 0, .inr (8, o8_iirrriirrrrrrriii pYw0_0 (nI n) (Yw 1) (Yw 2) wa v_4 pYw0_6 (y 19) (Yw 4) (Yw 5) (Yw 6) (Yw 7) (Yw 8) wb pYw0_14 pYw0_15 v_5)), (Yw 1, aI V n f_6), (wa, aI V n f_81), (Yw 6, aI V (n * 4) f_10), (Yw 7, aI V n f_82), (wb, aI V n f_83)] H ∧ va_D A [(y 2, .inr (1, o1_iiiiiirrrrrrriiiii py2_0 py2_1 py2_2 py2_3 py2_4 py2_5 (y 3) (y 4) (y 5) (y 6) (y 7) (y 8) (y 9) py2_13 py2_14 py2_15 py2_16 py2_17)), (y 3, aI V 4 fy3), (y 9, aI V 900 fy9), (y 19, .inr (4, o4_rrrrrr (y 2) (y 20) (y 21) (y 22) (y 23) (y 24))), (y 20, aI V 2000 f_1), (y 21, aI V 6 f_2), (y 22, aI V 64 f_3), (Yw 2, aI V n f_7), (Yw 4, aI V L f_8), (Yw 5, aI V n f_9), (Yw 8, aI V 4 f_11), (Yw 0, .inr (8, o8_iirrriirrrrrrriii pYw0_0 (nI n) (Yw 1) (Yw 2) wa v_4 pYw0_6 (y 19) (Yw 4) (Yw 5) (Yw 6) (Yw 7) (Yw 8) wb pYw0_14 pYw0_15 v_5)), (Yw 1, aI V n f_6), (wa, aI V n f_81), (Yw 6, aI V (n * 4) f_10), (Yw 7, aI V n f_82), (wb, aI V n f_83)] ∧ va_S A s.heap H locs ∧ lv_has ls 9 [(5, .int u_78), (4, .int u_79), (3, .int u_80), (2, .int r_17), (0, .ref (Yw 0)), (1, .int a1)]) (g := fun ls => F0 m 40 ls []) (fun n_84 H locs ls hX ihn_84 => ?_) _ ⟨1, 0, 0, f_18, f_77, f_20, (iv_w (iv_c (1 : Int32) (a := 1) (b := 1) (by decide)) (by first | decide | omega)), (iv_w (iv_c (0 : Int32) (a := 0) (b := 0) (by decide)) (by first | decide | omega)), tf_77, kn_16, rfl, hP, hD, hS, lv_sub hl [0, 1, 2, 3, 4, 5] rfl⟩
    obtain ⟨u_78, u_79, u_80, f_81, f_82, f_83, bu_78, bu_79, tf_82, knn_84, en_84, hP, hD, hS, hl⟩ := hX
    refine lv_iload hx hb dX8_longestAbove_40 (lv_at hl 1 rfl) ?_
    refine lv_iload hx hb dX8_longestAbove_42 (lv_at hl 0 rfl) ?_
    refine lv_icmp_ge (tgt := 189) hx hb dX8_longestAbove_44 (by decide) (fun c_85 => ?_) (fun c_85 => ?_)
    · refine lv_iload hx hb dX8_longestAbove_189 (lv_at hl 1 rfl) ?_
      refine lv_iload_n hx hb dX8_longestAbove_191 rfl (lv_at hl 3 rfl) ?_
      refine lv_icmp_ge (tgt := 199) hx hb dX8_longestAbove_192 (by decide) (fun c_86 => ?_) (fun c_86 => ?_)
      · refine lv_iload_n hx hb dX8_longestAbove_199 rfl (lv_at hl 2 rfl) ?_
        have hP := subP (ws' := [(y 2, .inr (1, o1_iiiiiirrrrrrriiiii py2_0 py2_1 py2_2 py2_3 py2_4 py2_5 (y 3) (y 4) (y 5) (y 6) (y 7) (y 8) (y 9) py2_13 py2_14 py2_15 py2_16 py2_17)), (y 3, aI V 4 fy3), (y 9, aI V 900 fy9), (y 19, .inr (4, o4_rrrrrr (y 2) (y 20) (y 21) (y 22) (y 23) (y 24))), (y 20, aI V 2000 f_1), (y 21, aI V 6 f_2), (y 22, aI V 64 f_3), (Yw 0, .inr (8, o8_iirrriirrrrrrriii pYw0_0 (nI n) (Yw 1) (Yw 2) wa v_4 pYw0_6 (y 19) (Yw 4) (Yw 5) (Yw 6) (Yw 7) (Yw 8) wb pYw0_14 pYw0_15 v_5)), (Yw 1, aI V n f_6), (Yw 2, aI V n f_7), (wa, aI V n f_81), (Yw 4, aI V L f_8), (Yw 5, aI V n f_9), (Yw 6, aI V (n * 4) f_10), (Yw 7, aI V n f_82), (Yw 8, aI V 4 f_11), (wb, aI V n f_83)]) hP [0, 1, 2, 3, 4, 5, 6, 11, 12, 7, 13, 8, 9, 14, 15, 10, 16] rfl
        have hD := subD hP hD [0, 1, 2, 3, 4, 5, 6, 11, 12, 7, 13, 8, 9, 14, 15, 10, 16] rfl rfl
        exact fiI hx hb hr hlk hK hP hD hS dX8_longestAbove_200 (Nat.le_of_ble_eq_true rfl) (Nat.le_of_ble_eq_true rfl) (⟨f_1, f_2, f_3, v_4, v_5, f_6, f_7, f_81, f_8, f_9, f_10, f_82, f_11, f_83, tf_1, bv_4, bv_5, tf_6, tf_8, tf_9, tf_10, tf_82, g_12, g_13, g_14, knn_84, rfl⟩)
      · have b_87 : iv 0 ((n : Int) - 1) u_79 := iv_l1 (Int32.not_le.mp c_86) bu_79 br_17 (by first | decide | omega)
        have b_88 : iv 1 ((n : Int)) r_17 := iv_l2 (Int32.not_le.mp c_86) bu_79 br_17 (by first | decide | omega)
        refine lv_iconst (v := (-1)) hx hb dX8_longestAbove_195 (by decide) ?_
        refine lv_goto (tgt := 200) hx hb dX8_longestAbove_196 (by decide) ?_
        have hP := subP (ws' := [(y 2, .inr (1, o1_iiiiiirrrrrrriiiii py2_0 py2_1 py2_2 py2_3 py2_4 py2_5 (y 3) (y 4) (y 5) (y 6) (y 7) (y 8) (y 9) py2_13 py2_14 py2_15 py2_16 py2_17)), (y 3, aI V 4 fy3), (y 9, aI V 900 fy9), (y 19, .inr (4, o4_rrrrrr (y 2) (y 20) (y 21) (y 22) (y 23) (y 24))), (y 20, aI V 2000 f_1), (y 21, aI V 6 f_2), (y 22, aI V 64 f_3), (Yw 0, .inr (8, o8_iirrriirrrrrrriii pYw0_0 (nI n) (Yw 1) (Yw 2) wa v_4 pYw0_6 (y 19) (Yw 4) (Yw 5) (Yw 6) (Yw 7) (Yw 8) wb pYw0_14 pYw0_15 v_5)), (Yw 1, aI V n f_6), (Yw 2, aI V n f_7), (wa, aI V n f_81), (Yw 4, aI V L f_8), (Yw 5, aI V n f_9), (Yw 6, aI V (n * 4) f_10), (Yw 7, aI V n f_82), (Yw 8, aI V 4 f_11), (wb, aI V n f_83)]) hP [0, 1, 2, 3, 4, 5, 6, 11, 12, 7, 13, 8, 9, 14, 15, 10, 16] rfl
        have hD := subD hP hD [0, 1, 2, 3, 4, 5, 6, 11, 12, 7, 13, 8, 9, 14, 15, 10, 16] rfl rfl
        exact fiI hx hb hr hlk hK hP hD hS dX8_longestAbove_200 (Nat.le_of_ble_eq_true rfl) (Nat.le_of_ble_eq_true rfl) (⟨f_1, f_2, f_3, v_4, v_5, f_6, f_7, f_81, f_8, f_9, f_10, f_82, f_11, f_83, tf_1, bv_4, bv_5, tf_6, tf_8, tf_9, tf_10, tf_82, g_12, g_13, g_14, knn_84, rfl⟩)
    · have b_89 : iv 0 ((n : Int) - 1) u_79 := iv_l1 (Int32.not_le.mp c_85) bu_79 bu_78 (by first | decide | omega)
      have b_90 : iv 1 ((n : Int)) u_78 := iv_l2 (Int32.not_le.mp c_85) bu_79 bu_78 (by first | decide | omega)
      refine lv_iload hx hb dX8_longestAbove_47 (lv_at hl 1 rfl) ?_
      refine lv_aload_n hx hb dX8_longestAbove_49 rfl (lv_at hl 4 rfl) ?_
      refine va_get (ci := 8) (v := .int (nI n)) (C := RX8) (T := TX8) (N := 17) hx hb hg inX8 hown hK hP 11 rfl rfl 1 (by decide) (hg _ q_4_67) (fun _ h9 => h9) rfl dX8_longestAbove_50 ?_
      refine lv_icmp_ge (tgt := 189) hx hb dX8_longestAbove_53 (by decide) (fun c_91 => absurd c_91 (iv_nle (iv_nI (by omega)) b_89 (by first | decide | omega))) (fun _ => ?_)
      refine lv_aload_n hx hb dX8_longestAbove_56 rfl (lv_at hl 4 rfl) ?_
      refine va_get (ci := 8) (v := .ref (Yw 7)) (C := RX8) (T := TX8) (N := 17) hx hb hg inX8 hown hK hP 11 rfl rfl 11 (by decide) (hg _ q_4_85) (fun _ h9 => h9) rfl dX8_longestAbove_57 ?_
      refine lv_iload hx hb dX8_longestAbove_60 (lv_at hl 1 rfl) ?_
      refine va_iald hx hb hK hP 15 0 rfl rfl (iv_in b_89 (by first | decide | omega)) dX8_longestAbove_62 ?_
      refine lv_topi (fun x_92 ex_92 => ?_)
      have bx_92 : iv 0 ((n : Int) - 1) x_92 := by rw [ex_92]; exact tf_82 _
      refine lv_istore (lv' := [(6, .int x_92), (5, .int u_78), (4, .int u_79), (3, .int u_80), (2, .int r_17), (0, .ref (Yw 0)), (1, .int a1)]) hx hb dX8_longestAbove_63 hl (by decide) rfl (fun ls hl => ?_)
      obtain ⟨x_93, ex_93⟩ : ∃ z9 : Int32, z9 = u_79 + 1 := ⟨_, rfl⟩
      have bx_93 : iv 1 ((n : Int)) x_93 := by rw [ex_93]; exact iv_add b_89 (iv_c (1 : Int32) (a := 1) (b := 1) (by first | decide | omega)) (by first | decide | omega)
      refine lv_iinc (v := x_93) (lv' := [(4, .int x_93), (6, .int x_92), (5, .int u_78), (3, .int u_80), (2, .int r_17), (0, .ref (Yw 0)), (1, .int a1)]) hx hb dX8_longestAbove_65 hl (k := 2) rfl (by rw [ex_93]; rfl) (by decide) rfl (fun ls hl => ?_)
      refine lv_iload_n hx hb dX8_longestAbove_68 rfl (lv_at hl 3 rfl) ?_
      refine lv_aload_n hx hb dX8_longestAbove_69 rfl (lv_at hl 5 rfl) ?_
      refine va_get (ci := 8) (v := .ref wb) (C := RX8) (T := TX8) (N := 17) hx hb hg inX8 hown hK hP 11 rfl rfl 13 (by decide) (hg _ q_4_87) (fun _ h9 => h9) rfl dX8_longestAbove_70 ?_
      refine lv_iload hx hb dX8_longestAbove_73 (lv_at hl 1 rfl) ?_
      refine va_iald hx hb hK hP 16 0 rfl rfl (iv_in bx_92 (by first | decide | omega)) dX8_longestAbove_75 ?_
      refine lv_topi (fun x_94 ex_94 => ?_)
      refine va_mmax hx hb (hml.trans hl.1.symm) hown (hg _ q_4_131) (hg _ q_2_102) (hg _ q_1_10) (hg _ q_2_103) (Nat.le_of_ble_eq_true rfl) (Nat.le_of_ble_eq_true rfl) (Nat.le_of_ble_eq_true rfl) (Nat.le_of_ble_eq_true rfl) dX8_longestAbove_76 ?_
      refine lv_topi (fun x_95 ex_95 => ?_)
      refine lv_istore_n (lv' := [(3, .int x_95), (4, .int x_93), (6, .int x_92), (5, .int u_78), (2, .int r_17), (0, .ref (Yw 0)), (1, .int a1)]) hx hb dX8_longestAbove_79 rfl hl (by decide) rfl (fun ls hl => ?_)
      refine lv_iconst (v := 0) hx hb dX8_longestAbove_80 (by decide) ?_
      refine lv_istore (lv' := [(7, .int 0), (3, .int x_95), (4, .int x_93), (6, .int x_92), (5, .int u_78), (2, .int r_17), (0, .ref (Yw 0)), (1, .int a1)]) hx hb dX8_longestAbove_81 hl (by decide) rfl (fun ls hl => ?_)
      refine loopF (X := fun (n_101 : Nat) (H : Heap) (locs : List Loc) (ls : Array Slot) => ∃ (u_96 : Int32) (u_97 : Int32) (f_98 : Nat → Int32) (f_99 : Nat → Int32) (f_100 : Nat → Int32), (iv 0 2147483647 u_96) ∧ (iv 0 ((n : Int)) u_97) ∧ (∀ j, iv 0 ((n : Int) - 1) (f_99 j)) ∧ KN D9 f_1 ∧ n_101 = (2147483647 - (u_96 : Int32).toInt).toNat ∧ va_P V.1 vwCl [(y 2, .inr (1, o1_iiiiiirrrrrrriiiii py2_0 py2_1 py2_2 py2_3 py2_4 py2_5 (y 3) (y 4) (y 5) (y 6) (y 7) (y 8) (y 9) py2_13 py2_14 py2_15 py2_16 py2_17)), (y 3, aI V 4 fy3), (y 9, aI V 900 fy9), (y 19, .inr (4, o4_rrrrrr (y 2) (y 20) (y 21) (y 22) (y 23) (y 24))), (y 20, aI V 2000 f_1), (y 21, aI V 6 f_2), (y 22, aI V 64 f_3), (Yw 2, aI V n f_7), (Yw 4, aI V L f_8), (Yw 5, aI V n f_9), (Yw 8, aI V 4 f_11), (Yw 0, .inr (8, o8_iirrriirrrrrrriii pYw0_0 (nI n) (Yw 1) (Yw 2) wa v_4 pYw0_6 (y 19) (Yw 4) (Yw 5) (Yw 6) (Yw 7) (Yw 8) wb pYw0_14 pYw0_15 v_5)), (Yw 1, aI V n f_6), (wa, aI V n f_98), (Yw 6, aI V (n * 4) f_10), (Yw 7, aI V n f_99), (wb, aI V n f_100)] H ∧ va_D A [(y 2, .inr (1, o1_iiiiiirrrrrrriiiii py2_0 py2_1 py2_2 py2_3 py2_4 py2_5 (y 3) (y 4) (y 5) (y 6) (y 7) (y 8) (y 9) py2_13 py2_14 py2_15 py2_16 py2_17)), (y 3, aI V 4 fy3), (y 9, aI V 900 fy9), (y 19, .inr (4, o4_rrrrrr (y 2) (y 20) (y 21) (y 22) (y 23) (y 24))), (y 20, aI V 2000 f_1), (y 21, aI V 6 f_2), (y 22, aI V 64 f_3), (Yw 2, aI V n f_7), (Yw 4, aI V L f_8), (Yw 5, aI V n f_9), (Yw 8, aI V 4 f_11), (Yw 0, .inr (8, o8_iirrriirrrrrrriii pYw0_0 (nI n) (Yw 1) (Yw 2) wa v_4 pYw0_6 (y 19) (Yw 4) (Yw 5) (Yw 6) (Yw 7) (Yw 8) wb pYw0_14 pYw0_15 v_5)), (Yw 1, aI V n f_6), (wa, aI V n f_98), (Yw 6, aI V (n * 4) f_10), (Yw 7, aI V n f_99), (wb, aI V n f_100)] ∧ va_S A s.heap H locs ∧ lv_has ls 9 [(7, .int u_96), (3, .int x_95), (4, .int x_93), (6, .int x_92), (5, .int u_97), (2, .int r_17), (0, .ref (Yw 0)), (1, .int a1)]) (g := fun ls => F0 m 83 ls []) (fun n_101 H locs ls hX ihn_101 => ?_) _ ⟨0, u_78, f_81, f_82, f_83, (iv_c (0 : Int32) (by decide)), (iv_w b_90 (by first | decide | omega)), tf_82, knn_84, rfl, hP, hD, hS, lv_sub hl [0, 1, 2, 3, 4, 5, 6, 7] rfl⟩
      obtain ⟨u_96, u_97, f_98, f_99, f_100, bu_96, bu_97, tf_99, knn_101, en_101, hP, hD, hS, hl⟩ := hX
      refine lv_iload hx hb dX8_longestAbove_83 (lv_at hl 0 rfl) ?_
      refine lv_aload_n hx hb dX8_longestAbove_85 rfl (lv_at hl 6 rfl) ?_
      refine va_get (ci := 8) (v := .int pYw0_6) (C := RX8) (T := TX8) (N := 17) hx hb hg inX8 hown hK hP 11 rfl rfl 6 (by decide) (hg _ q_4_80) (fun _ h9 => h9) rfl dX8_longestAbove_86 ?_
      refine lv_icmp_ge (tgt := 186) hx hb dX8_longestAbove_89 (by decide) (fun c_102 => ?_) (fun c_102 => ?_)
      · refine lv_goto (tgt := 40) hx hb dX8_longestAbove_186 (by decide) ?_
        exact ihn_84 _ _ _ _ (by rw [en_84, ex_93]; exact mu_up b_89 (by first | decide | omega)) ⟨u_97, x_93, x_95, f_98, f_99, f_100, bu_97, (iv_w bx_93 (by first | decide | omega)), tf_99, knn_101, rfl, hP, hD, hS, lv_sub hl [4, 2, 1, 5, 6, 7] rfl⟩
      · have b_103 : iv 0 3 u_96 := iv_l1 (Int32.not_le.mp c_102) bu_96 bpYw0_6 (by first | decide | omega)
        have b_104 : iv 1 4 pYw0_6 := iv_l2 (Int32.not_le.mp c_102) bu_96 bpYw0_6 (by first | decide | omega)
        refine lv_aload_n hx hb dX8_longestAbove_92 rfl (lv_at hl 6 rfl) ?_
        refine lv_iload hx hb dX8_longestAbove_93 (lv_at hl 3 rfl) ?_
        refine lv_iload hx hb dX8_longestAbove_95 (lv_at hl 0 rfl) ?_
        refine jnI (wr := [(y 2, .inr (1, o1_iiiiiirrrrrrriiiii py2_0 py2_1 py2_2 py2_3 py2_4 py2_5 (y 3) (y 4) (y 5) (y 6) (y 7) (y 8) (y 9) py2_13 py2_14 py2_15 py2_16 py2_17)), (y 3, aI V 4 fy3), (y 9, aI V 900 fy9), (y 19, .inr (4, o4_rrrrrr (y 2) (y 20) (y 21) (y 22) (y 23) (y 24))), (y 20, aI V 2000 f_1), (y 21, aI V 6 f_2), (y 22, aI V 64 f_3), (Yw 2, aI V n f_7), (Yw 4, aI V L f_8), (Yw 5, aI V n f_9), (Yw 8, aI V 4 f_11), (Yw 1, aI V n f_6), (wa, aI V n f_98), (Yw 7, aI V n f_99), (wb, aI V n f_100)]) (rnV (rest := []) ⟨hx, hb, hml, hown, hg⟩ (k_X8_behind_0 l V n Yw y x_92 u_96 pYw0_0 wa v_4 pYw0_6 wb pYw0_14 pYw0_15 v_5 f_10 hn bx_92 b_103 bpYw0_0 bv_4 (iv_w b_104 (by first | decide | omega)) bpYw0_14 bpYw0_15 bv_5 tf_10) mt_X8_behind q_4_182 ⟨Nat.le_of_ble_eq_true rfl, Nat.le_of_ble_eq_true rfl⟩ hK hP hD hS hA hE [11, 14] rfl rfl 11 rfl rfl rfl rfl hl.1 rfl (Nat.le_of_ble_eq_true rfl) dX8_longestAbove_97 ⟨Nat.le_of_ble_eq_true rfl, Nat.le_of_ble_eq_true rfl⟩) hP hD hS hA [11, 14] [0, 1, 2, 3, 4, 5, 6, 7, 8, 9, 10, 12, 13, 15, 16] rfl rfl rfl (by decide) (fun r_105 w H locs hw hP hD hS => ?_)
        obtain ⟨br_105, er_105, rfl⟩ := hw
        have hP : va_P V.1 vwCl [(y 2, .inr (1, o1_iiiiiirrrrrrriiiii py2_0 py2_1 py2_2 py2_3 py2_4 py2_5 (y 3) (y 4) (y 5) (y 6) (y 7) (y 8) (y 9) py2_13 py2_14 py2_15 py2_16 py2_17)), (y 3, aI V 4 fy3), (y 9, aI V 900 fy9), (y 19, .inr (4, o4_rrrrrr (y 2) (y 20) (y 21) (y 22) (y 23) (y 24))), (y 20, aI V 2000 f_1), (y 21, aI V 6 f_2), (y 22, aI V 64 f_3), (Yw 2, aI V n f_7), (Yw 4, aI V L f_8), (Yw 5, aI V n f_9), (Yw 8, aI V 4 f_11), (Yw 1, aI V n f_6), (wa, aI V n f_98), (Yw 7, aI V n f_99), (wb, aI V n f_100), (Yw 0, .inr (8, o8_iirrriirrrrrrriii pYw0_0 (nI n) (Yw 1) (Yw 2) wa v_4 pYw0_6 (y 19) (Yw 4) (Yw 5) (Yw 6) (Yw 7) (Yw 8) wb pYw0_14 pYw0_15 v_5)), (Yw 6, aI V (n * 4) f_10)] H := hP
        have hD := cpD hP hD
        refine lv_istore (lv' := [(8, .int r_105), (7, .int u_96), (3, .int x_95), (4, .int x_93), (6, .int x_92), (5, .int u_97), (2, .int r_17), (0, .ref (Yw 0)), (1, .int a1)]) hx hb dX8_longestAbove_100 hl (by decide) rfl (fun ls hl => ?_)
        refine lv_aload_n hx hb dX8_longestAbove_102 rfl (lv_at hl 7 rfl) ?_
        refine lv_iload hx hb dX8_longestAbove_103 (lv_at hl 0 rfl) ?_
        refine lv_iload_n hx hb dX8_longestAbove_105 rfl (lv_at hl 8 rfl) ?_
        refine jnI (wr := [(y 2, .inr (1, o1_iiiiiirrrrrrriiiii py2_0 py2_1 py2_2 py2_3 py2_4 py2_5 (y 3) (y 4) (y 5) (y 6) (y 7) (y 8) (y 9) py2_13 py2_14 py2_15 py2_16 py2_17)), (y 3, aI V 4 fy3), (y 9, aI V 900 fy9), (y 19, .inr (4, o4_rrrrrr (y 2) (y 20) (y 21) (y 22) (y 23) (y 24))), (y 20, aI V 2000 f_1), (y 21, aI V 6 f_2), (y 22, aI V 64 f_3), (Yw 2, aI V n f_7), (Yw 4, aI V L f_8), (Yw 5, aI V n f_9), (Yw 8, aI V 4 f_11), (wa, aI V n f_98), (Yw 7, aI V n f_99), (wb, aI V n f_100), (Yw 6, aI V (n * 4) f_10)]) (rnV (rest := []) ⟨hx, hb, hml, hown, hg⟩ (k_X8_isAbove_0 l V n L Yw y r_105 a1 pYw0_0 wa v_4 pYw0_6 wb pYw0_14 pYw0_15 v_5 f_6 hn hL br_105 bpYw0_0 bv_4 (iv_w b_104 (by first | decide | omega)) bpYw0_14 bpYw0_15 bv_5 tf_6) mt_X8_isAbove q_4_205 ⟨Nat.le_of_ble_eq_true rfl, Nat.le_of_ble_eq_true rfl⟩ hK hP hD hS hA hE [15, 11] rfl rfl 15 rfl rfl rfl rfl hl.1 rfl (Nat.le_of_ble_eq_true rfl) dX8_longestAbove_106 ⟨Nat.le_of_ble_eq_true rfl, Nat.le_of_ble_eq_true rfl⟩) hP hD hS hA [15, 11] [0, 1, 2, 3, 4, 5, 6, 7, 8, 9, 10, 12, 13, 14, 16] rfl rfl rfl (by decide) (fun r_106 w H locs hw hP hD hS => ?_)
        obtain ⟨br_106, rfl⟩ := hw
        have hP : va_P V.1 vwCl [(y 2, .inr (1, o1_iiiiiirrrrrrriiiii py2_0 py2_1 py2_2 py2_3 py2_4 py2_5 (y 3) (y 4) (y 5) (y 6) (y 7) (y 8) (y 9) py2_13 py2_14 py2_15 py2_16 py2_17)), (y 3, aI V 4 fy3), (y 9, aI V 900 fy9), (y 19, .inr (4, o4_rrrrrr (y 2) (y 20) (y 21) (y 22) (y 23) (y 24))), (y 20, aI V 2000 f_1), (y 21, aI V 6 f_2), (y 22, aI V 64 f_3), (Yw 2, aI V n f_7), (Yw 4, aI V L f_8), (Yw 5, aI V n f_9), (Yw 8, aI V 4 f_11), (wa, aI V n f_98), (Yw 7, aI V n f_99), (wb, aI V n f_100), (Yw 6, aI V (n * 4) f_10), (Yw 0, .inr (8, o8_iirrriirrrrrrriii pYw0_0 (nI n) (Yw 1) (Yw 2) wa v_4 pYw0_6 (y 19) (Yw 4) (Yw 5) (Yw 6) (Yw 7) (Yw 8) wb pYw0_14 pYw0_15 v_5)), (Yw 1, aI V n f_6)] H := hP
        have hD := cpD hP hD
        refine lv_if_eq (tgt := 180) hx hb dX8_longestAbove_109 (by decide) (fun c_107 => ?_) (fun c_107 => ?_)
        · have b_108 : iv 0 0 r_106 := iv_q c_107 (iv_c (0 : Int32) (a := 0) (b := 0) (by decide))
          obtain ⟨x_109, ex_109⟩ : ∃ z9 : Int32, z9 = u_96 + 1 := ⟨_, rfl⟩
          have bx_109 : iv 1 4 x_109 := by rw [ex_109]; exact iv_add b_103 (iv_c (1 : Int32) (a := 1) (b := 1) (by first | decide | omega)) (by first | decide | omega)
          refine lv_iinc (v := x_109) (lv' := [(7, .int x_109), (8, .int r_105), (3, .int x_95), (4, .int x_93), (6, .int x_92), (5, .int u_97), (2, .int r_17), (0, .ref (Yw 0)), (1, .int a1)]) hx hb dX8_longestAbove_180 hl (k := 1) rfl (by rw [ex_109]; rfl) (by decide) rfl (fun ls hl => ?_)
          refine lv_goto (tgt := 83) hx hb dX8_longestAbove_183 (by decide) ?_
          have hP := subP (ws' := [(y 2, .inr (1, o1_iiiiiirrrrrrriiiii py2_0 py2_1 py2_2 py2_3 py2_4 py2_5 (y 3) (y 4) (y 5) (y 6) (y 7) (y 8) (y 9) py2_13 py2_14 py2_15 py2_16 py2_17)), (y 3, aI V 4 fy3), (y 9, aI V 900 fy9), (y 19, .inr (4, o4_rrrrrr (y 2) (y 20) (y 21) (y 22) (y 23) (y 24))), (y 20, aI V 2000 f_1), (y 21, aI V 6 f_2), (y 22, aI V 64 f_3), (Yw 2, aI V n f_7), (Yw 4, aI V L f_8), (Yw 5, aI V n f_9), (Yw 8, aI V 4 f_11), (Yw 0, .inr (8, o8_iirrriirrrrrrriii pYw0_0 (nI n) (Yw 1) (Yw 2) wa v_4 pYw0_6 (y 19) (Yw 4) (Yw 5) (Yw 6) (Yw 7) (Yw 8) wb pYw0_14 pYw0_15 v_5)), (Yw 1, aI V n f_6), (wa, aI V n f_98), (Yw 6, aI V (n * 4) f_10), (Yw 7, aI V n f_99), (wb, aI V n f_100)]) hP [0, 1, 2, 3, 4, 5, 6, 7, 8, 9, 10, 15, 16, 11, 14, 12, 13] rfl
          have hD := subD hP hD [0, 1, 2, 3, 4, 5, 6, 7, 8, 9, 10, 15, 16, 11, 14, 12, 13] rfl rfl
          exact ihn_101 _ _ _ _ (by rw [en_101, ex_109]; exact mu_up b_103 (by first | decide | omega)) ⟨x_109, u_97, f_98, f_99, f_100, (iv_w bx_109 (by first | decide | omega)), bu_97, tf_99, knn_101, rfl, hP, hD, hS, lv_sub hl [0, 2, 3, 4, 5, 6, 7, 8] rfl⟩
        · have b_110 : iv 1 1 r_106 := iv_n0 c_107 br_106 (iv_c (0 : Int32) (a := 0) (b := 0) (by decide)) (by first | decide | omega)
          refine lv_aload_n hx hb dX8_longestAbove_112 rfl (lv_at hl 7 rfl) ?_
          refine va_get (ci := 8) (v := .ref wb) (C := RX8) (T := TX8) (N := 17) hx hb hg inX8 hown hK hP 15 rfl rfl 13 (by decide) (hg _ q_4_87) (fun _ h9 => h9) rfl dX8_longestAbove_113 ?_
          refine lv_iload hx hb dX8_longestAbove_116 (lv_at hl 0 rfl) ?_
          refine lv_aload_n hx hb dX8_longestAbove_118 rfl (lv_at hl 7 rfl) ?_
          refine va_get (ci := 8) (v := .ref wb) (C := RX8) (T := TX8) (N := 17) hx hb hg inX8 hown hK hP 15 rfl rfl 13 (by decide) (hg _ q_4_87) (fun _ h9 => h9) rfl dX8_longestAbove_119 ?_
          refine lv_iload hx hb dX8_longestAbove_122 (lv_at hl 0 rfl) ?_
          refine va_iald hx hb hK hP 13 0 rfl rfl (iv_in br_105 (by first | decide | omega)) dX8_longestAbove_124 ?_
          refine lv_topi (fun x_111 ex_111 => ?_)
          refine lv_aload_n hx hb dX8_longestAbove_125 rfl (lv_at hl 7 rfl) ?_
          refine va_get (ci := 8) (v := .ref wb) (C := RX8) (T := TX8) (N := 17) hx hb hg inX8 hown hK hP 15 rfl rfl 13 (by decide) (hg _ q_4_87) (fun _ h9 => h9) rfl dX8_longestAbove_126 ?_
          refine lv_iload hx hb dX8_longestAbove_129 (lv_at hl 4 rfl) ?_
          refine va_iald hx hb hK hP 13 0 rfl rfl (iv_in bx_92 (by first | decide | omega)) dX8_longestAbove_131 ?_
          refine lv_topi (fun x_112 ex_112 => ?_)
          refine lv_iconst (v := 1) hx hb dX8_longestAbove_132 (by decide) ?_
          refine lv_iadd hx hb dX8_longestAbove_133 ?_
          refine lv_topi (fun x_113 ex_113 => ?_)
          refine va_mmax hx hb (hml.trans hl.1.symm) hown (hg _ q_4_131) (hg _ q_2_102) (hg _ q_1_10) (hg _ q_2_103) (Nat.le_of_ble_eq_true rfl) (Nat.le_of_ble_eq_true rfl) (Nat.le_of_ble_eq_true rfl) (Nat.le_of_ble_eq_true rfl) dX8_longestAbove_134 ?_
          refine lv_topi (fun x_114 ex_114 => ?_)
          refine va_iast hx hb hK hP hD hS 13 0 rfl rfl (iv_in br_105 (by first | decide | omega)) dX8_longestAbove_137 (fun H locs hP hD hS => ?_)
          obtain ⟨f_115, hP, hD⟩ : ∃ f_115 : Nat → Int32, va_P V.1 vwCl [(y 2, .inr (1, o1_iiiiiirrrrrrriiiii py2_0 py2_1 py2_2 py2_3 py2_4 py2_5 (y 3) (y 4) (y 5) (y 6) (y 7) (y 8) (y 9) py2_13 py2_14 py2_15 py2_16 py2_17)), (y 3, aI V 4 fy3), (y 9, aI V 900 fy9), (y 19, .inr (4, o4_rrrrrr (y 2) (y 20) (y 21) (y 22) (y 23) (y 24))), (y 20, aI V 2000 f_1), (y 21, aI V 6 f_2), (y 22, aI V 64 f_3), (Yw 2, aI V n f_7), (Yw 4, aI V L f_8), (Yw 5, aI V n f_9), (Yw 8, aI V 4 f_11), (wa, aI V n f_98), (Yw 7, aI V n f_99), (wb, aI V n f_115), (Yw 6, aI V (n * 4) f_10), (Yw 0, .inr (8, o8_iirrriirrrrrrriii pYw0_0 (nI n) (Yw 1) (Yw 2) wa v_4 pYw0_6 (y 19) (Yw 4) (Yw 5) (Yw 6) (Yw 7) (Yw 8) wb pYw0_14 pYw0_15 v_5)), (Yw 1, aI V n f_6)] H ∧ va_D A [(y 2, .inr (1, o1_iiiiiirrrrrrriiiii py2_0 py2_1 py2_2 py2_3 py2_4 py2_5 (y 3) (y 4) (y 5) (y 6) (y 7) (y 8) (y 9) py2_13 py2_14 py2_15 py2_16 py2_17)), (y 3, aI V 4 fy3), (y 9, aI V 900 fy9), (y 19, .inr (4, o4_rrrrrr (y 2) (y 20) (y 21) (y 22) (y 23) (y 24))), (y 20, aI V 2000 f_1), (y 21, aI V 6 f_2), (y 22, aI V 64 f_3), (Yw 2, aI V n f_7), (Yw 4, aI V L f_8), (Yw 5, aI V n f_9), (Yw 8, aI V 4 f_11), (wa, aI V n f_98), (Yw 7, aI V n f_99), (wb, aI V n f_115), (Yw 6, aI V (n * 4) f_10), (Yw 0, .inr (8, o8_iirrriirrrrrrriii pYw0_0 (nI n) (Yw 1) (Yw 2) wa v_4 pYw0_6 (y 19) (Yw 4) (Yw 5) (Yw 6) (Yw 7) (Yw 8) wb pYw0_14 pYw0_15 v_5)), (Yw 1, aI V n f_6)] := ⟨_, hP, hD⟩
          refine lv_aload_n hx hb dX8_longestAbove_138 rfl (lv_at hl 7 rfl) ?_
          refine va_get (ci := 8) (v := .ref wa) (C := RX8) (T := TX8) (N := 17) hx hb hg inX8 hown hK hP 15 rfl rfl 4 (by decide) (hg _ q_4_74) (fun _ h9 => h9) rfl dX8_longestAbove_139 ?_
          refine lv_iload hx hb dX8_longestAbove_142 (lv_at hl 0 rfl) ?_
          refine lv_dup2_11 hx hb dX8_longestAbove_144 rfl rfl ?_
          refine va_iald hx hb hK hP 11 0 rfl rfl (iv_in br_105 (by first | decide | omega)) dX8_longestAbove_145 ?_
          refine lv_topi (fun x_116 ex_116 => ?_)
          refine lv_iconst (v := 1) hx hb dX8_longestAbove_146 (by decide) ?_
          refine lv_isub hx hb dX8_longestAbove_147 ?_
          refine lv_topi (fun x_117 ex_117 => ?_)
          refine va_iast hx hb hK hP hD hS 11 0 rfl rfl (iv_in br_105 (by first | decide | omega)) dX8_longestAbove_148 (fun H locs hP hD hS => ?_)
          obtain ⟨f_118, hP, hD⟩ : ∃ f_118 : Nat → Int32, va_P V.1 vwCl [(y 2, .inr (1, o1_iiiiiirrrrrrriiiii py2_0 py2_1 py2_2 py2_3 py2_4 py2_5 (y 3) (y 4) (y 5) (y 6) (y 7) (y 8) (y 9) py2_13 py2_14 py2_15 py2_16 py2_17)), (y 3, aI V 4 fy3), (y 9, aI V 900 fy9), (y 19, .inr (4, o4_rrrrrr (y 2) (y 20) (y 21) (y 22) (y 23) (y 24))), (y 20, aI V 2000 f_1), (y 21, aI V 6 f_2), (y 22, aI V 64 f_3), (Yw 2, aI V n f_7), (Yw 4, aI V L f_8), (Yw 5, aI V n f_9), (Yw 8, aI V 4 f_11), (wa, aI V n f_118), (Yw 7, aI V n f_99), (wb, aI V n f_115), (Yw 6, aI V (n * 4) f_10), (Yw 0, .inr (8, o8_iirrriirrrrrrriii pYw0_0 (nI n) (Yw 1) (Yw 2) wa v_4 pYw0_6 (y 19) (Yw 4) (Yw 5) (Yw 6) (Yw 7) (Yw 8) wb pYw0_14 pYw0_15 v_5)), (Yw 1, aI V n f_6)] H ∧ va_D A [(y 2, .inr (1, o1_iiiiiirrrrrrriiiii py2_0 py2_1 py2_2 py2_3 py2_4 py2_5 (y 3) (y 4) (y 5) (y 6) (y 7) (y 8) (y 9) py2_13 py2_14 py2_15 py2_16 py2_17)), (y 3, aI V 4 fy3), (y 9, aI V 900 fy9), (y 19, .inr (4, o4_rrrrrr (y 2) (y 20) (y 21) (y 22) (y 23) (y 24))), (y 20, aI V 2000 f_1), (y 21, aI V 6 f_2), (y 22, aI V 64 f_3), (Yw 2, aI V n f_7), (Yw 4, aI V L f_8), (Yw 5, aI V n f_9), (Yw 8, aI V 4 f_11), (wa, aI V n f_118), (Yw 7, aI V n f_99), (wb, aI V n f_115), (Yw 6, aI V (n * 4) f_10), (Yw 0, .inr (8, o8_iirrriirrrrrrriii pYw0_0 (nI n) (Yw 1) (Yw 2) wa v_4 pYw0_6 (y 19) (Yw 4) (Yw 5) (Yw 6) (Yw 7) (Yw 8) wb pYw0_14 pYw0_15 v_5)), (Yw 1, aI V n f_6)] := ⟨_, hP, hD⟩
          refine lv_aload_n hx hb dX8_longestAbove_149 rfl (lv_at hl 7 rfl) ?_
          refine va_get (ci := 8) (v := .ref wa) (C := RX8) (T := TX8) (N := 17) hx hb hg inX8 hown hK hP 15 rfl rfl 4 (by decide) (hg _ q_4_74) (fun _ h9 => h9) rfl dX8_longestAbove_150 ?_
          refine lv_iload hx hb dX8_longestAbove_153 (lv_at hl 0 rfl) ?_
          refine va_iald hx hb hK hP 11 0 rfl rfl (iv_in br_105 (by first | decide | omega)) dX8_longestAbove_155 ?_
          refine lv_topi (fun x_119 ex_119 => ?_)
          refine lv_if_ne (tgt := 180) hx hb dX8_longestAbove_156 (by decide) (fun c_120 => ?_) (fun c_120 => ?_)
          · obtain ⟨x_121, ex_121⟩ : ∃ z9 : Int32, z9 = u_96 + 1 := ⟨_, rfl⟩
            have bx_121 : iv 1 4 x_121 := by rw [ex_121]; exact iv_add b_103 (iv_c (1 : Int32) (a := 1) (b := 1) (by first | decide | omega)) (by first | decide | omega)
            refine lv_iinc (v := x_121) (lv' := [(7, .int x_121), (8, .int r_105), (3, .int x_95), (4, .int x_93), (6, .int x_92), (5, .int u_97), (2, .int r_17), (0, .ref (Yw 0)), (1, .int a1)]) hx hb dX8_longestAbove_180 hl (k := 1) rfl (by rw [ex_121]; rfl) (by decide) rfl (fun ls hl => ?_)
            refine lv_goto (tgt := 83) hx hb dX8_longestAbove_183 (by decide) ?_
            have hP := subP (ws' := [(y 2, .inr (1, o1_iiiiiirrrrrrriiiii py2_0 py2_1 py2_2 py2_3 py2_4 py2_5 (y 3) (y 4) (y 5) (y 6) (y 7) (y 8) (y 9) py2_13 py2_14 py2_15 py2_16 py2_17)), (y 3, aI V 4 fy3), (y 9, aI V 900 fy9), (y 19, .inr (4, o4_rrrrrr (y 2) (y 20) (y 21) (y 22) (y 23) (y 24))), (y 20, aI V 2000 f_1), (y 21, aI V 6 f_2), (y 22, aI V 64 f_3), (Yw 2, aI V n f_7), (Yw 4, aI V L f_8), (Yw 5, aI V n f_9), (Yw 8, aI V 4 f_11), (Yw 0, .inr (8, o8_iirrriirrrrrrriii pYw0_0 (nI n) (Yw 1) (Yw 2) wa v_4 pYw0_6 (y 19) (Yw 4) (Yw 5) (Yw 6) (Yw 7) (Yw 8) wb pYw0_14 pYw0_15 v_5)), (Yw 1, aI V n f_6), (wa, aI V n f_118), (Yw 6, aI V (n * 4) f_10), (Yw 7, aI V n f_99), (wb, aI V n f_115)]) hP [0, 1, 2, 3, 4, 5, 6, 7, 8, 9, 10, 15, 16, 11, 14, 12, 13] rfl
            have hD := subD hP hD [0, 1, 2, 3, 4, 5, 6, 7, 8, 9, 10, 15, 16, 11, 14, 12, 13] rfl rfl
            exact ihn_101 _ _ _ _ (by rw [en_101, ex_121]; exact mu_up b_103 (by first | decide | omega)) ⟨x_121, u_97, f_118, f_99, f_115, (iv_w bx_121 (by first | decide | omega)), bu_97, tf_99, knn_101, rfl, hP, hD, hS, lv_sub hl [0, 2, 3, 4, 5, 6, 7, 8] rfl⟩
          · have b_122 : iv 0 0 x_119 := iv_q c_120 (iv_c (0 : Int32) (a := 0) (b := 0) (by decide))
            refine lv_iload hx hb dX8_longestAbove_159 (lv_at hl 5 rfl) ?_
            refine lv_aload_n hx hb dX8_longestAbove_161 rfl (lv_at hl 7 rfl) ?_
            refine va_get (ci := 8) (v := .int (nI n)) (C := RX8) (T := TX8) (N := 17) hx hb hg inX8 hown hK hP 15 rfl rfl 1 (by decide) (hg _ q_4_67) (fun _ h9 => h9) rfl dX8_longestAbove_162 ?_
            refine lv_icmp_ge (tgt := 180) hx hb dX8_longestAbove_165 (by decide) (fun c_123 => ?_) (fun c_123 => ?_)
            · have b_124 : iv ((n : Int)) ((n : Int)) u_97 := iv_e2 c_123 (iv_nI (by omega)) bu_97 (by first | decide | omega)
              obtain ⟨x_125, ex_125⟩ : ∃ z9 : Int32, z9 = u_96 + 1 := ⟨_, rfl⟩
              have bx_125 : iv 1 4 x_125 := by rw [ex_125]; exact iv_add b_103 (iv_c (1 : Int32) (a := 1) (b := 1) (by first | decide | omega)) (by first | decide | omega)
              refine lv_iinc (v := x_125) (lv' := [(7, .int x_125), (8, .int r_105), (3, .int x_95), (4, .int x_93), (6, .int x_92), (5, .int u_97), (2, .int r_17), (0, .ref (Yw 0)), (1, .int a1)]) hx hb dX8_longestAbove_180 hl (k := 1) rfl (by rw [ex_125]; rfl) (by decide) rfl (fun ls hl => ?_)
              refine lv_goto (tgt := 83) hx hb dX8_longestAbove_183 (by decide) ?_
              have hP := subP (ws' := [(y 2, .inr (1, o1_iiiiiirrrrrrriiiii py2_0 py2_1 py2_2 py2_3 py2_4 py2_5 (y 3) (y 4) (y 5) (y 6) (y 7) (y 8) (y 9) py2_13 py2_14 py2_15 py2_16 py2_17)), (y 3, aI V 4 fy3), (y 9, aI V 900 fy9), (y 19, .inr (4, o4_rrrrrr (y 2) (y 20) (y 21) (y 22) (y 23) (y 24))), (y 20, aI V 2000 f_1), (y 21, aI V 6 f_2), (y 22, aI V 64 f_3), (Yw 2, aI V n f_7), (Yw 4, aI V L f_8), (Yw 5, aI V n f_9), (Yw 8, aI V 4 f_11), (Yw 0, .inr (8, o8_iirrriirrrrrrriii pYw0_0 (nI n) (Yw 1) (Yw 2) wa v_4 pYw0_6 (y 19) (Yw 4) (Yw 5) (Yw 6) (Yw 7) (Yw 8) wb pYw0_14 pYw0_15 v_5)), (Yw 1, aI V n f_6), (wa, aI V n f_118), (Yw 6, aI V (n * 4) f_10), (Yw 7, aI V n f_99), (wb, aI V n f_115)]) hP [0, 1, 2, 3, 4, 5, 6, 7, 8, 9, 10, 15, 16, 11, 14, 12, 13] rfl
              have hD := subD hP hD [0, 1, 2, 3, 4, 5, 6, 7, 8, 9, 10, 15, 16, 11, 14, 12, 13] rfl rfl
              exact ihn_101 _ _ _ _ (by rw [en_101, ex_125]; exact mu_up b_103 (by first | decide | omega)) ⟨x_125, u_97, f_118, f_99, f_115, (iv_w bx_125 (by first | decide | omega)), (iv_w b_124 (by first | decide | omega)), tf_99, knn_101, rfl, hP, hD, hS, lv_sub hl [0, 2, 3, 4, 5, 6, 7, 8] rfl⟩
            · have b_126 : iv 0 ((n : Int) - 1) u_97 := iv_l1 (Int32.not_le.mp c_123) bu_97 (iv_nI (by omega)) (by first | decide | omega)
              refine lv_aload_n hx hb dX8_longestAbove_168 rfl (lv_at hl 7 rfl) ?_
              refine va_get (ci := 8) (v := .ref (Yw 7)) (C := RX8) (T := TX8) (N := 17) hx hb hg inX8 hown hK hP 15 rfl rfl 11 (by decide) (hg _ q_4_85) (fun _ h9 => h9) rfl dX8_longestAbove_169 ?_
              refine lv_iload hx hb dX8_longestAbove_172 (lv_at hl 5 rfl) ?_
              refine lv_iload hx hb dX8_longestAbove_174 (lv_at hl 0 rfl) ?_
              refine va_iast hx hb hK hP hD hS 12 0 rfl rfl (iv_in b_126 (by first | decide | omega)) dX8_longestAbove_176 (fun H locs hP hD hS => ?_)
              obtain ⟨f_127, tf_127, hP, hD⟩ : ∃ f_127 : Nat → Int32, (∀ j, iv 0 ((n : Int) - 1) (f_127 j)) ∧ va_P V.1 vwCl [(y 2, .inr (1, o1_iiiiiirrrrrrriiiii py2_0 py2_1 py2_2 py2_3 py2_4 py2_5 (y 3) (y 4) (y 5) (y 6) (y 7) (y 8) (y 9) py2_13 py2_14 py2_15 py2_16 py2_17)), (y 3, aI V 4 fy3), (y 9, aI V 900 fy9), (y 19, .inr (4, o4_rrrrrr (y 2) (y 20) (y 21) (y 22) (y 23) (y 24))), (y 20, aI V 2000 f_1), (y 21, aI V 6 f_2), (y 22, aI V 64 f_3), (Yw 2, aI V n f_7), (Yw 4, aI V L f_8), (Yw 5, aI V n f_9), (Yw 8, aI V 4 f_11), (wa, aI V n f_118), (Yw 7, aI V n f_127), (wb, aI V n f_115), (Yw 6, aI V (n * 4) f_10), (Yw 0, .inr (8, o8_iirrriirrrrrrriii pYw0_0 (nI n) (Yw 1) (Yw 2) wa v_4 pYw0_6 (y 19) (Yw 4) (Yw 5) (Yw 6) (Yw 7) (Yw 8) wb pYw0_14 pYw0_15 v_5)), (Yw 1, aI V n f_6)] H ∧ va_D A [(y 2, .inr (1, o1_iiiiiirrrrrrriiiii py2_0 py2_1 py2_2 py2_3 py2_4 py2_5 (y 3) (y 4) (y 5) (y 6) (y 7) (y 8) (y 9) py2_13 py2_14 py2_15 py2_16 py2_17)), (y 3, aI V 4 fy3), (y 9, aI V 900 fy9), (y 19, .inr (4, o4_rrrrrr (y 2) (y 20) (y 21) (y 22) (y 23) (y 24))), (y 20, aI V 2000 f_1), (y 21, aI V 6 f_2), (y 22, aI V 64 f_3), (Yw 2, aI V n f_7), (Yw 4, aI V L f_8), (Yw 5, aI V n f_9), (Yw 8, aI V 4 f_11), (wa, aI V n f_118), (Yw 7, aI V n f_127), (wb, aI V n f_115), (Yw 6, aI V (n * 4) f_10), (Yw 0, .inr (8, o8_iirrriirrrrrrriii pYw0_0 (nI n) (Yw 1) (Yw 2) wa v_4 pYw0_6 (y 19) (Yw 4) (Yw 5) (Yw 6) (Yw 7) (Yw 8) wb pYw0_14 pYw0_15 v_5)), (Yw 1, aI V n f_6)] := ⟨_, ivU tf_99 _ br_105, hP, hD⟩
              obtain ⟨x_128, ex_128⟩ : ∃ z9 : Int32, z9 = u_97 + 1 := ⟨_, rfl⟩
              have bx_128 : iv 1 ((n : Int)) x_128 := by rw [ex_128]; exact iv_add b_126 (iv_c (1 : Int32) (a := 1) (b := 1) (by first | decide | omega)) (by first | decide | omega)
              refine lv_iinc (v := x_128) (lv' := [(5, .int x_128), (8, .int r_105), (7, .int u_96), (3, .int x_95), (4, .int x_93), (6, .int x_92), (2, .int r_17), (0, .ref (Yw 0)), (1, .int a1)]) hx hb dX8_longestAbove_177 hl (k := 5) rfl (by rw [ex_128]; rfl) (by decide) rfl (fun ls hl => ?_)
              obtain ⟨x_129, ex_129⟩ : ∃ z9 : Int32, z9 = u_96 + 1 := ⟨_, rfl⟩
              have bx_129 : iv 1 4 x_129 := by rw [ex_129]; exact iv_add b_103 (iv_c (1 : Int32) (a := 1) (b := 1) (by first | decide | omega)) (by first | decide | omega)
              refine lv_iinc (v := x_129) (lv' := [(7, .int x_129), (5, .int x_128), (8, .int r_105), (3, .int x_95), (4, .int x_93), (6, .int x_92), (2, .int r_17), (0, .ref (Yw 0)), (1, .int a1)]) hx hb dX8_longestAbove_180 hl (k := 2) rfl (by rw [ex_129]; rfl) (by decide) rfl (fun ls hl => ?_)
              refine lv_goto (tgt := 83) hx hb dX8_longestAbove_183 (by decide) ?_
              have hP := subP (ws' := [(y 2, .inr (1, o1_iiiiiirrrrrrriiiii py2_0 py2_1 py2_2 py2_3 py2_4 py2_5 (y 3) (y 4) (y 5) (y 6) (y 7) (y 8) (y 9) py2_13 py2_14 py2_15 py2_16 py2_17)), (y 3, aI V 4 fy3), (y 9, aI V 900 fy9), (y 19, .inr (4, o4_rrrrrr (y 2) (y 20) (y 21) (y 22) (y 23) (y 24))), (y 20, aI V 2000 f_1), (y 21, aI V 6 f_2), (y 22, aI V 64 f_3), (Yw 2, aI V n f_7), (Yw 4, aI V L f_8), (Yw 5, aI V n f_9), (Yw 8, aI V 4 f_11), (Yw 0, .inr (8, o8_iirrriirrrrrrriii pYw0_0 (nI n) (Yw 1) (Yw 2) wa v_4 pYw0_6 (y 19) (Yw 4) (Yw 5) (Yw 6) (Yw 7) (Yw 8) wb pYw0_14 pYw0_15 v_5)), (Yw 1, aI V n f_6), (wa, aI V n f_118), (Yw 6, aI V (n * 4) f_10), (Yw 7, aI V n f_127), (wb, aI V n f_115)]) hP [0, 1, 2, 3, 4, 5, 6, 7, 8, 9, 10, 15, 16, 11, 14, 12, 13] rfl
              have hD := subD hP hD [0, 1, 2, 3, 4, 5, 6, 7, 8, 9, 10, 15, 16, 11, 14, 12, 13] rfl rfl
              exact ihn_101 _ _ _ _ (by rw [en_101, ex_129]; exact mu_up b_103 (by first | decide | omega)) ⟨x_129, x_128, f_118, f_127, f_115, (iv_w bx_129 (by first | decide | omega)), (iv_w bx_128 (by first | decide | omega)), tf_127, knn_101, rfl, hP, hD, hS, lv_sub hl [0, 3, 4, 5, 1, 6, 7, 8] rfl⟩
