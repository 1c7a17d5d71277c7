def o2_irrrrri (x0 : Int32) (x1 : Nat) (x2 : Nat) (x3 : Nat) (x4 : Nat) (x5 : Nat) (x6 : Int32) : List Value := [.int x0, .ref x1, .ref x2, .ref x3, .ref x4, .ref x5, .int x6]
def o9_rirrrrrrrrrriii (x0 : Nat) (x1 : Int32) (x2 : Nat) (x3 : Nat) (x4 : Nat) (x5 : Nat) (x6 : Nat) (x7 : Nat) (x8 : Nat) (x9 : Nat) (x10 : Nat) (x11 : Nat) (x12 : Int32) (x13 : Int32) (x14 : Int32) : List Value := [.ref x0, .int x1, .ref x2, .ref x3, .ref x4, .ref x5, .ref x6, .ref x7, .ref x8, .ref x9, .ref x10, .ref x11, .int x12, .int x13, .int x14]
theorem dX9_forcingFrom_0 : decode cX9_forcingFrom 0 = .ok (.aload_n 0, 1) := by decide +kernel
theorem q_2_47 : Cond.fieldLink "BeaconDelay" 347 "BeaconDelay" "forcing" "LBeaconDelay$Forcing;" ∈ gw := gw_2 (i := 47) (by decide +kernel) rfl
theorem dX9_forcingFrom_1 : decode cX9_forcingFrom 1 = .ok (.getfield 347, 3) := by decide +kernel
theorem dX9_forcingFrom_4 : decode cX9_forcingFrom 4 = .ok (.ifnull 17, 3) := by decide +kernel
theorem dX9_forcingFrom_7 : decode cX9_forcingFrom 7 = .ok (.aload_n 0, 1) := by decide +kernel
theorem dX9_forcingFrom_8 : decode cX9_forcingFrom 8 = .ok (.getfield 347, 3) := by decide +kernel
theorem q_5_101 : Cond.fieldLink "BeaconDelay" 351 "BeaconDelay$Forcing" "size" "I" ∈ gw := gw_5 (i := 101) (by decide +kernel) rfl
theorem dX9_forcingFrom_11 : decode cX9_forcingFrom 11 = .ok (.getfield 351, 3) := by decide +kernel
theorem dX9_forcingFrom_14 : decode cX9_forcingFrom 14 = .ok (.aload_n 1, 1) := by decide +kernel
theorem q_4_68 : Cond.fieldLink "BeaconDelay" 356 "BeaconDelay$Ways" "size" "I" ∈ gw := gw_4 (i := 68) (by decide +kernel) rfl
theorem dX9_forcingFrom_15 : decode cX9_forcingFrom 15 = .ok (.getfield 356, 3) := by decide +kernel
theorem dX9_forcingFrom_18 : decode cX9_forcingFrom 18 = .ok (.if_icmp .ge 18, 3) := by decide +kernel
theorem dX9_forcingFrom_36 : decode cX9_forcingFrom 36 = .ok (.aload_n 0, 1) := by decide +kernel
theorem dX9_forcingFrom_37 : decode cX9_forcingFrom 37 = .ok (.getfield 347, 3) := by decide +kernel
theorem dX9_forcingFrom_40 : decode cX9_forcingFrom 40 = .ok (.areturn, 1) := by decide +kernel
set_option maxHeartbeats 4000000 in
set_option maxRecDepth 100000 in
theorem k_X9_forcingFrom_0 (l : Launch) (V : GV) (n : Nat) (ft : Nat) (Yw : Nat → Nat) (Yf : Nat → Nat) (y : Nat → Nat) (pYf0_6 : Int32) (py0_1 : Int32) (py0_12 : Int32) (py0_13 : Int32) (py0_14 : Int32) (pYw0_0 : Int32) (wa : Nat) (pYw0_5 : Int32) (pYw0_6 : Int32) (wb : Nat) (pYw0_14 : Int32) (pYw0_15 : Int32) (pYw0_16 : Int32) (hn : 1 ≤ n ∧ n ≤ 3646) (hft : 0 ≤ ft ∧ ft ≤ 7290) (bpYf0_6 : iv 0 (2 * (ft : Int) + 2 * (n : Int)) pYf0_6) (bpy0_1 : iv 0 900 py0_1) (bpy0_12 : iv 0 9999 py0_12) (bpy0_13 : iv 0 9 py0_13) (bpYw0_0 : iv 0 4 pYw0_0) (bpYw0_5 : iv 0 ((n : Int)) pYw0_5) (bpYw0_6 : iv 0 4 pYw0_6) (bpYw0_14 : iv 0 4 pYw0_14) (bpYw0_15 : iv 0 9 pYw0_15) (bpYw0_16 : iv 0 ((n : Int)) pYw0_16) : Ct l V yX9_forcingFrom (.code yX9_forcingFrom cX9_forcingFrom 2 (some (.object "BeaconDelay$Forcing"))) 1 [.ref (y 0), .ref (Yw 0)] [(Yf 0, .inr (2, o2_irrrrri (nI (n + ft)) (Yf 1) (Yf 2) (Yf 3) (Yf 4) (Yf 5) pYf0_6)), (y 0, .inr (9, o9_rirrrrrrrrrriii (y 1) py0_1 (y 2) (y 10) (y 19) (y 25) (y 26) (y 30) (y 31) (y 32) (Yw 0) (Yf 0) py0_12 py0_13 py0_14)), (Yw 0, .inr (8, o8_iirrriirrrrrrriii pYw0_0 (nI n) (Yw 1) (Yw 2) wa pYw0_5 pYw0_6 (y 19) (Yw 4) (Yw 5) (Yw 6) (Yw 7) (Yw 8) wb pYw0_14 pYw0_15 pYw0_16))] 0 0 (QR V (fun (r : Nat) (w : va_W) => Yf 0 = r ∧ w = [(Yf 0, .inr (2, o2_irrrrri (nI (n + ft)) (Yf 1) (Yf 2) (Yf 3) (Yf 4) (Yf 5) pYf0_6)), (y 0, .inr (9, o9_rirrrrrrrrrriii (y 1) py0_1 (y 2) (y 10) (y 19) (y 25) (y 26) (y 30) (y 31) (y 32) (Yw 0) (Yf 0) py0_12 py0_13 py0_14)), (Yw 0, .inr (8, o8_iirrriirrrrrrriii pYw0_0 (nI n) (Yw 1) (Yw 2) wa pYw0_5 pYw0_6 (y 19) (Yw 4) (Yw 5) (Yw 6) (Yw 7) (Yw 8) wb pYw0_14 pYw0_15 pYw0_16))])) := by
  refine Ct.of (by decide) (Nat.le_of_ble_eq_true rfl) (fun p e s m below meth c A ls hx hb hr hml hown hlk hnm hg hP hK hD hE hA hS hl => ?_)
  have hl : lv_has ls 2 [(0, .ref (y 0)), (1, .ref (Yw 0))] := hl
  refine lv_aload_n hx hb dX9_forcingFrom_0 rfl (lv_at hl 0 rfl) ?_
  refine va_get (ci := 9) (v := .ref (Yf 0)) (C := RX9) (T := TX9) (N := 15) hx hb hg inX9 hown hK hP 1 rfl rfl 11 (by decide) (hg _ q_2_47) (fun _ h9 => h9) rfl dX9_forcingFrom_1 ?_
  refine lv_ifnull hx hb dX9_forcingFrom_4 ?_
  refine lv_aload_n hx hb dX9_forcingFrom_7 rfl (lv_at hl 0 rfl) ?_
  refine va_get (ci := 9) (v := .ref (Yf 0)) (C := RX9) (T := TX9) (N := 15) hx hb hg inX9 hown hK hP 1 rfl rfl 11 (by decide) (hg _ q_2_47) (fun _ h9 => h9) rfl dX9_forcingFrom_8 ?_
  refine va_get (ci := 2) (v := .int (nI (n + ft))) (C := RX2) (T := TX2) (N := 7) hx hb hg inX2 hown hK hP 0 rfl rfl 0 (by decide) (hg _ q_5_101) (fun _ h9 => h9) rfl dX9_forcingFrom_11 ?_
  refine lv_aload_n hx hb dX9_forcingFrom_14 rfl (lv_at hl 1 rfl) ?_
  refine va_get (ci := 8) (v := .int (nI n)) (C := RX8) (T := TX8) (N := 17) hx hb hg inX8 hown hK hP 2 rfl rfl 1 (by decide) (hg _ q_4_68) (fun _ h9 => h9) rfl dX9_forcingFrom_15 ?_
  refine lv_icmp_ge (tgt := 36) hx hb dX9_forcingFrom_18 (by decide) (fun _ => ?_) (fun c_1 => absurd (iv_le (iv_nI (by omega)) (iv_nIw (a := ((ft : Int) + (n : Int))) (b := ((ft : Int) + (n : Int))) (by omega)) (by first | decide | omega)) c_1)
  refine lv_aload_n hx hb dX9_forcingFrom_36 rfl (lv_at hl 0 rfl) ?_
  refine va_get (ci := 9) (v := .ref (Yf 0)) (C := RX9) (T := TX9) (N := 15) hx hb hg inX9 hown hK hP 1 rfl rfl 11 (by decide) (hg _ q_2_47) (fun _ h9 => h9) rfl dX9_forcingFrom_37 ?_
  exact fiR (Or.inl ⟨_, rfl⟩) hx hb hr hlk hK hP hD hS dX9_forcingFrom_40 (Nat.le_of_ble_eq_true rfl) (Nat.le_of_ble_eq_true rfl) (⟨rfl, rfl⟩)
set_option maxHeartbeats 4000000 in
set_option maxRecDepth 100000 in
theorem k_J7_rangeCheck_23922_1 (l : Launch) (V : GV) (n : Nat) (ft : Nat) (a0 : Int32) (a1 : Int32) (a2 : Int32) (hn : 1 ≤ n ∧ n ≤ 3646) (hft : 0 ≤ ft ∧ ft ≤ 7290) (ba0 : iv ((ft : Int) + (n : Int) + 1) ((ft : Int) + (n : Int) + 1) a0) (ba1 : iv 0 0 a1) (ba2 : iv 1 ((n : Int) + 1) a2) : Ct l V yJ7_rangeCheck_23922 (.code yJ7_rangeCheck_23922 cJ7_rangeCheck_23922 3 none) 1 [.int a0, .int a1, .int a2] [] 0 0 (QV V (fun (w : va_W) => w = [])) := by
  refine Ct.of (by decide) (Nat.le_of_ble_eq_true rfl) (fun p e s m below meth c A ls hx hb hr hml hown hlk hnm hg hP hK hD hE hA hS hl => ?_)
  have hl : lv_has ls 3 [(0, .int a0), (1, .int a1), (2, .int a2)] := hl
  refine lv_iload_n hx hb dJ7_rangeCheck_23922_0 rfl (lv_at hl 1 rfl) ?_
  refine lv_iload_n hx hb dJ7_rangeCheck_23922_1 rfl (lv_at hl 2 rfl) ?_
  refine lv_icmp_le (tgt := 46) hx hb dJ7_rangeCheck_23922_2 (by decide) (fun _ => ?_) (fun c_1 => absurd (iv_le ba1 ba2 (by first | decide | omega)) c_1)
  refine lv_iload_n hx hb dJ7_rangeCheck_23922_46 rfl (lv_at hl 1 rfl) ?_
  refine lv_if_ge (tgt := 59) hx hb dJ7_rangeCheck_23922_47 (by decide) (fun _ => ?_) (fun c_2 => absurd (iv_le (iv_c (0 : Int32) (a := 0) (b := 0) (by decide)) ba1 (by first | decide | omega)) c_2)
  refine lv_iload_n hx hb dJ7_rangeCheck_23922_59 rfl (lv_at hl 2 rfl) ?_
  refine lv_iload_n hx hb dJ7_rangeCheck_23922_60 rfl (lv_at hl 0 rfl) ?_
  refine lv_icmp_le (tgt := 73) hx hb dJ7_rangeCheck_23922_61 (by decide) (fun _ => ?_) (fun c_3 => absurd (iv_le ba2 ba0 (by first | decide | omega)) c_3)
  exact fiV hx hb hr hlk hK hP hD hS dJ7_rangeCheck_23922_73 (Nat.le_of_ble_eq_true rfl) (Nat.le_of_ble_eq_true rfl) (rfl)
set_option maxHeartbeats 4000000 in
set_option maxRecDepth 100000 in
theorem k_J7_fill_fda19_2 (l : Launch) (V : GV) (n : Nat) (ft : Nat) (Yf : Nat → Nat) (a1 : Int32) (a2 : Int32) (a3 : Int32) (fYf4 : Nat → Int32) (hn : 1 ≤ n ∧ n ≤ 3646) (hft : 0 ≤ ft ∧ ft ≤ 7290) (ba1 : iv 0 0 a1) (ba2 : iv 1 ((n : Int) + 1) a2) (ba3 : iv 0 0 a3) (tfYf4 : ∀ j, iv 0 (4 * (ft : Int) + 4 * (n : Int)) (fYf4 j)) : Ct l V yJ7_fill_fda19 (.code yJ7_fill_fda19 cJ7_fill_fda19 5 none) 2 [.ref (Yf 4), .int a1, .int a2, .int a3] [(Yf 4, aI V (n + ft + 1) fYf4)] 0 0 (QV V (fun (w : va_W) => ∃ (g0 : Nat → Int32), (∀ j, iv 0 (4 * (ft : Int) + 4 * (n : Int)) (g0 j)) ∧ (∀ j : Nat, (j : Int) < (a2 : Int32).toInt → g0 j = a3) ∧ w = [(Yf 4, aI V (n + ft + 1) g0)])) := by
  refine Ct.of (by decide) (Nat.le_of_ble_eq_true rfl) (fun p e s m below meth c A ls hx hb hr hml hown hlk hnm hg hP hK hD hE hA hS hl => ?_)
  have hl : lv_has ls 5 [(0, .ref (Yf 4)), (1, .int a1), (2, .int a2), (3, .int a3)] := hl
  refine lv_aload_n hx hb dJ7_fill_fda19_0 rfl (lv_at hl 0 rfl) ?_
  refine va_alen (v := (nI (n + ft + 1))) hx hb hK hP 0 0 rfl rfl rfl dJ7_fill_fda19_1 ?_
  refine lv_iload_n hx hb dJ7_fill_fda19_2 rfl (lv_at hl 1 rfl) ?_
  refine lv_iload_n hx hb dJ7_fill_fda19_3 rfl (lv_at hl 2 rfl) ?_
  refine jnV (wr := [(Yf 4, aI V (n + ft + 1) fYf4)]) (rnS (rest := []) ⟨hx, hb, hml, hown, hg⟩ (k_J7_rangeCheck_23922_1 l V n ft (nI (n + ft + 1)) a1 a2 hn hft (iv_nIw (a := ((ft : Int) + (n : Int) + 1)) (b := ((ft : Int) + (n : Int) + 1)) (by omega)) ba1 ba2) mt_J7_rangeCheck_23922 q_4_175 ⟨Nat.le_of_ble_eq_true rfl, Nat.le_of_ble_eq_true rfl⟩ hK hP hD hS hA hE [] rfl rfl rfl hl.1 rfl (Nat.le_of_ble_eq_true rfl) dJ7_fill_fda19_4 ⟨Nat.le_of_ble_eq_true rfl, Nat.le_of_ble_eq_true rfl⟩) hP hD hS hA [] [0] rfl rfl rfl (by decide) (fun  w H locs hw hP hD hS => ?_)
  subst hw
  have hP : va_P V.1 vwCl [(Yf 4, aI V (n + ft + 1) fYf4)] H := hP
  have hD := cpD hP hD
  refine lv_iload_n hx hb dJ7_fill_fda19_7 rfl (lv_at hl 1 rfl) ?_
  refine lv_istore (lv' := [(4, .int a1), (0, .ref (Yf 4)), (1, .int a1), (2, .int a2), (3, .int a3)]) hx hb dJ7_fill_fda19_8 hl (by decide) rfl (fun ls hl => ?_)
  refine loopF (X := fun (n_3 : Nat) (H : Heap) (locs : List Loc) (ls : Array Slot) => ∃ (u_1 : Int32) (f_2 : Nat → Int32), (iv 0 2147483647 u_1) ∧ (∀ j, iv 0 (4 * (ft : Int) + 4 * (n : Int)) (f_2 j)) ∧ (∀ j : Nat, (j : Int) < (u_1 : Int32).toInt → f_2 j = a3) ∧ n_3 = (2147483647 - (u_1 : Int32).toInt).toNat ∧ va_P V.1 vwCl [(Yf 4, aI V (n + ft + 1) f_2)] H ∧ va_D A [(Yf 4, aI V (n + ft + 1) f_2)] ∧ va_S A s.heap H locs ∧ lv_has ls 5 [(4, .int u_1), (0, .ref (Yf 4)), (1, .int a1), (2, .int a2), (3, .int a3)]) (g := fun ls => F0 m 10 ls []) (fun n_3 H locs ls hX ihn_3 => ?_) _ ⟨a1, fYf4, (iv_w ba1 (by first | decide | omega)), tfYf4, (fun j hj => absurd hj (by have q9 := ba1; unfold iv at q9; omega)), rfl, hP, hD, hS, lv_sub hl [0, 1, 2, 3, 4] rfl⟩
  obtain ⟨u_1, f_2, bu_1, tf_2, inn_3_0, en_3, hP, hD, hS, hl⟩ := hX
  refine lv_iload hx hb dJ7_fill_fda19_10 (lv_at hl 0 rfl) ?_
  refine lv_iload_n hx hb dJ7_fill_fda19_12 rfl (lv_at hl 3 rfl) ?_
  refine lv_icmp_ge (tgt := 27) hx hb dJ7_fill_fda19_13 (by decide) (fun c_4 => ?_) (fun c_4 => ?_)
  · have b_5 : iv 1 2147483647 u_1 := iv_e2 c_4 ba2 bu_1 (by first | decide | omega)
    exact fiV hx hb hr hlk hK hP hD hS dJ7_fill_fda19_27 (Nat.le_of_ble_eq_true rfl) (Nat.le_of_ble_eq_true rfl) (⟨f_2, tf_2, (fun j hj => inn_3_0 j (by have q9 := (Int32.not_lt.mpr c_4); rw [Int32.lt_iff_toInt_lt] at q9; omega)), rfl⟩)
  · have b_6 : iv 0 ((n : Int)) u_1 := iv_l1 (Int32.not_le.mp c_4) bu_1 ba2 (by first | decide | omega)
    refine lv_aload_n hx hb dJ7_fill_fda19_16 rfl (lv_at hl 1 rfl) ?_
    refine lv_iload hx hb dJ7_fill_fda19_17 (lv_at hl 0 rfl) ?_
    refine lv_iload_n hx hb dJ7_fill_fda19_19 rfl (lv_at hl 4 rfl) ?_
    refine va_iast hx hb hK hP hD hS 0 0 rfl rfl (iv_in b_6 (by first | decide | omega)) dJ7_fill_fda19_20 (fun H locs hP hD hS => ?_)
    obtain ⟨f_7, ef_7, tf_7, hP, hD⟩ : ∃ f_7 : Nat → Int32, f_7 = (upd f_2 (u_1 : Int32).toNatClampNeg a3) ∧ (∀ j, iv 0 (4 * (ft : Int) + 4 * (n : Int)) (f_7 j)) ∧ va_P V.1 vwCl [(Yf 4, aI V (n + ft + 1) f_7)] H ∧ va_D A [(Yf 4, aI V (n + ft + 1) f_7)] := ⟨_, rfl, ivU tf_2 _ (iv_w ba3 (by first | decide | omega)), hP, hD⟩
    obtain ⟨x_8, ex_8⟩ : ∃ z9 : Int32, z9 = u_1 + 1 := ⟨_, rfl⟩
    have bx_8 : iv 1 ((n : Int) + 1) x_8 := by rw [ex_8]; exact iv_add b_6 (iv_c (1 : Int32) (a := 1) (b := 1) (by first | decide | omega)) (by first | decide | omega)
    refine lv_iinc (v := x_8) (lv' := [(4, .int x_8), (0, .ref (Yf 4)), (1, .int a1), (2, .int a2), (3, .int a3)]) hx hb dJ7_fill_fda19_21 hl (k := 0) rfl (by rw [ex_8]; rfl) (by decide) rfl (fun ls hl => ?_)
    refine lv_goto (tgt := 10) hx hb dJ7_fill_fda19_24 (by decide) ?_
    exact ihn_3 _ _ _ _ (by rw [en_3, ex_8]; exact mu_up b_6 (by first | decide | omega)) ⟨x_8, f_7, (iv_w bx_8 (by first | decide | omega)), tf_7, (FL_s inn_3_0 b_6 (by omega) ef_7 ex_8), rfl, hP, hD, hS, lv_sub hl [0, 1, 2, 3, 4] rfl⟩
theorem dX2_sortComers_0 : decode cX2_sortComers 0 = .ok (.aload_n 0, 1) := by decide +kernel
theorem q_5_105 : Cond.fieldLink "BeaconDelay$Forcing" 25 "BeaconDelay$Forcing" "begins" "[I" ∈ gw := gw_5 (i := 105) (by decide +kernel) rfl
theorem dX2_sortComers_1 : decode cX2_sortComers 1 = .ok (.getfield 25, 3) := by decide +kernel
theorem dX2_sortComers_4 : decode cX2_sortComers 4 = .ok (.iconst 0, 1) := by decide +kernel
theorem dX2_sortComers_5 : decode cX2_sortComers 5 = .ok (.aload_n 1, 1) := by decide +kernel
theorem q_4_77 : Cond.fieldLink "BeaconDelay$Forcing" 55 "BeaconDelay$Ways" "count" "I" ∈ gw := gw_4 (i := 77) (by decide +kernel) rfl
theorem dX2_sortComers_6 : decode cX2_sortComers 6 = .ok (.getfield 55, 3) := by decide +kernel
theorem dX2_sortComers_9 : decode cX2_sortComers 9 = .ok (.iconst 1, 1) := by decide +kernel
theorem dX2_sortComers_10 : decode cX2_sortComers 10 = .ok (.iadd, 1) := by decide +kernel
theorem dX2_sortComers_11 : decode cX2_sortComers 11 = .ok (.iconst 0, 1) := by decide +kernel
theorem q_5_131 : Cond.methodLink "BeaconDelay$Forcing" 58 yJ7_fill_fda19 ∈ gw := gw_5 (i := 131) (by decide +kernel) rfl
theorem dX2_sortComers_12 : decode cX2_sortComers 12 = .ok (.invokestatic 58, 3) := by decide +kernel
theorem dX2_sortComers_15 : decode cX2_sortComers 15 = .ok (.iconst 0, 1) := by decide +kernel
theorem dX2_sortComers_16 : decode cX2_sortComers 16 = .ok (.istore_n 2, 1) := by decide +kernel
theorem dX2_sortComers_17 : decode cX2_sortComers 17 = .ok (.iload_n 2, 1) := by decide +kernel
theorem dX2_sortComers_18 : decode cX2_sortComers 18 = .ok (.aload_n 1, 1) := by decide +kernel
theorem dX2_sortComers_19 : decode cX2_sortComers 19 = .ok (.getfield 55, 3) := by decide +kernel
theorem dX2_sortComers_22 : decode cX2_sortComers 22 = .ok (.if_icmp .ge 40, 3) := by decide +kernel
theorem dX2_sortComers_62 : decode cX2_sortComers 62 = .ok (.iconst 1, 1) := by decide +kernel
theorem dX2_sortComers_63 : decode cX2_sortComers 63 = .ok (.istore_n 2, 1) := by decide +kernel
theorem dX2_sortComers_64 : decode cX2_sortComers 64 = .ok (.iload_n 2, 1) := by decide +kernel
theorem dX2_sortComers_65 : decode cX2_sortComers 65 = .ok (.aload_n 1, 1) := by decide +kernel
theorem dX2_sortComers_66 : decode cX2_sortComers 66 = .ok (.getfield 55, 3) := by decide +kernel
theorem dX2_sortComers_69 : decode cX2_sortComers 69 = .ok (.if_icmp .gt 26, 3) := by decide +kernel
theorem dX2_sortComers_95 : decode cX2_sortComers 95 = .ok (.iconst 0, 1) := by decide +kernel
theorem dX2_sortComers_96 : decode cX2_sortComers 96 = .ok (.istore_n 2, 1) := by decide +kernel
theorem dX2_sortComers_97 : decode cX2_sortComers 97 = .ok (.iload_n 2, 1) := by decide +kernel
theorem dX2_sortComers_98 : decode cX2_sortComers 98 = .ok (.aload_n 1, 1) := by decide +kernel
theorem dX2_sortComers_99 : decode cX2_sortComers 99 = .ok (.getfield 55, 3) := by decide +kernel
theorem dX2_sortComers_102 : decode cX2_sortComers 102 = .ok (.if_icmp .ge 57, 3) := by decide +kernel
theorem dX2_sortComers_159 : decode cX2_sortComers 159 = .ok (.return_, 1) := by decide +kernel
theorem dX2_sortComers_105 : decode cX2_sortComers 105 = .ok (.iconst 0, 1) := by decide +kernel
theorem dX2_sortComers_106 : decode cX2_sortComers 106 = .ok (.istore_n 3, 1) := by decide +kernel
theorem dX2_sortComers_107 : decode cX2_sortComers 107 = .ok (.iload_n 3, 1) := by decide +kernel
theorem dX2_sortComers_108 : decode cX2_sortComers 108 = .ok (.aload_n 1, 1) := by decide +kernel
theorem q_4_79 : Cond.fieldLink "BeaconDelay$Forcing" 46 "BeaconDelay$Ways" "deeds" "I" ∈ gw := gw_4 (i := 79) (by decide +kernel) rfl
theorem dX2_sortComers_109 : decode cX2_sortComers 109 = .ok (.getfield 46, 3) := by decide +kernel
theorem dX2_sortComers_112 : decode cX2_sortComers 112 = .ok (.if_icmp .ge 41, 3) := by decide +kernel
theorem dX2_sortComers_153 : decode cX2_sortComers 153 = .ok (.iinc 2 1, 3) := by decide +kernel
theorem dX2_sortComers_156 : decode cX2_sortComers 156 = .ok (.goto (-59), 3) := by decide +kernel
theorem dX2_sortComers_115 : decode cX2_sortComers 115 = .ok (.aload_n 1, 1) := by decide +kernel
theorem dX2_sortComers_116 : decode cX2_sortComers 116 = .ok (.iload_n 2, 1) := by decide +kernel
theorem dX2_sortComers_117 : decode cX2_sortComers 117 = .ok (.iload_n 3, 1) := by decide +kernel
theorem q_5_132 : Cond.methodLink "BeaconDelay$Forcing" 51 yX8_behind ∈ gw := gw_5 (i := 132) (by decide +kernel) rfl
theorem dX2_sortComers_118 : decode cX2_sortComers 118 = .ok (.invokevirtual 51, 3) := by decide +kernel
theorem dX2_sortComers_121 : decode cX2_sortComers 121 = .ok (.istore 4, 2) := by decide +kernel
theorem dX2_sortComers_123 : decode cX2_sortComers 123 = .ok (.aload_n 0, 1) := by decide +kernel
theorem dX2_sortComers_124 : decode cX2_sortComers 124 = .ok (.getfield 25, 3) := by decide +kernel
theorem dX2_sortComers_127 : decode cX2_sortComers 127 = .ok (.iload 4, 2) := by decide +kernel
theorem dX2_sortComers_129 : decode cX2_sortComers 129 = .ok (.dup2, 1) := by decide +kernel
theorem dX2_sortComers_130 : decode cX2_sortComers 130 = .ok (.iaload, 1) := by decide +kernel
theorem dX2_sortComers_131 : decode cX2_sortComers 131 = .ok (.iconst 1, 1) := by decide +kernel
theorem dX2_sortComers_132 : decode cX2_sortComers 132 = .ok (.isub, 1) := by decide +kernel
theorem dX2_sortComers_133 : decode cX2_sortComers 133 = .ok (.iastore, 1) := by decide +kernel
theorem dX2_sortComers_134 : decode cX2_sortComers 134 = .ok (.aload_n 0, 1) := by decide +kernel
theorem q_5_106 : Cond.fieldLink "BeaconDelay$Forcing" 28 "BeaconDelay$Forcing" "comers" "[I" ∈ gw := gw_5 (i := 106) (by decide +kernel) rfl
theorem dX2_sortComers_135 : decode cX2_sortComers 135 = .ok (.getfield 28, 3) := by decide +kernel
theorem dX2_sortComers_138 : decode cX2_sortComers 138 = .ok (.aload_n 0, 1) := by decide +kernel
theorem dX2_sortComers_139 : decode cX2_sortComers 139 = .ok (.getfield 25, 3) := by decide +kernel
theorem dX2_sortComers_142 : decode cX2_sortComers 142 = .ok (.iload 4, 2) := by decide +kernel
theorem dX2_sortComers_144 : decode cX2_sortComers 144 = .ok (.iaload, 1) := by decide +kernel
theorem dX2_sortComers_145 : decode cX2_sortComers 145 = .ok (.iload_n 2, 1) := by decide +kernel
theorem dX2_sortComers_146 : decode cX2_sortComers 146 = .ok (.iastore, 1) := by decide +kernel
theorem dX2_sortComers_147 : decode cX2_sortComers 147 = .ok (.iinc 3 1, 3) := by decide +kernel
theorem dX2_sortComers_150 : decode cX2_sortComers 150 = .ok (.goto (-43), 3) := by decide +kernel
theorem dX2_sortComers_72 : decode cX2_sortComers 72 = .ok (.aload_n 0, 1) := by decide +kernel
theorem dX2_sortComers_73 : decode cX2_sortComers 73 = .ok (.getfield 25, 3) := by decide +kernel
theorem dX2_sortComers_76 : decode cX2_sortComers 76 = .ok (.iload_n 2, 1) := by decide +kernel
theorem dX2_sortComers_77 : decode cX2_sortComers 77 = .ok (.dup2, 1) := by decide +kernel
theorem dX2_sortComers_78 : decode cX2_sortComers 78 = .ok (.iaload, 1) := by decide +kernel
theorem dX2_sortComers_79 : decode cX2_sortComers 79 = .ok (.aload_n 0, 1) := by decide +kernel
theorem dX2_sortComers_80 : decode cX2_sortComers 80 = .ok (.getfield 25, 3) := by decide +kernel
theorem dX2_sortComers_83 : decode cX2_sortComers 83 = .ok (.iload_n 2, 1) := by decide +kernel
theorem dX2_sortComers_84 : decode cX2_sortComers 84 = .ok (.iconst 1, 1) := by decide +kernel
theorem dX2_sortComers_85 : decode cX2_sortComers 85 = .ok (.isub, 1) := by decide +kernel
theorem dX2_sortComers_86 : decode cX2_sortComers 86 = .ok (.iaload, 1) := by decide +kernel
theorem dX2_sortComers_87 : decode cX2_sortComers 87 = .ok (.iadd, 1) := by decide +kernel
theorem dX2_sortComers_88 : decode cX2_sortComers 88 = .ok (.iastore, 1) := by decide +kernel
theorem dX2_sortComers_89 : decode cX2_sortComers 89 = .ok (.iinc 2 1, 3) := by decide +kernel
theorem dX2_sortComers_92 : decode cX2_sortComers 92 = .ok (.goto (-28), 3) := by decide +kernel
theorem dX2_sortComers_25 : decode cX2_sortComers 25 = .ok (.iconst 0, 1) := by decide +kernel
theorem dX2_sortComers_26 : decode cX2_sortComers 26 = .ok (.istore_n 3, 1) := by decide +kernel
theorem dX2_sortComers_27 : decode cX2_sortComers 27 = .ok (.iload_n 3, 1) := by decide +kernel
theorem dX2_sortComers_28 : decode cX2_sortComers 28 = .ok (.aload_n 1, 1) := by decide +kernel
theorem dX2_sortComers_29 : decode cX2_sortComers 29 = .ok (.getfield 46, 3) := by decide +kernel
theorem dX2_sortComers_32 : decode cX2_sortComers 32 = .ok (.if_icmp .ge 24, 3) := by decide +kernel
theorem dX2_sortComers_56 : decode cX2_sortComers 56 = .ok (.iinc 2 1, 3) := by decide +kernel
theorem dX2_sortComers_59 : decode cX2_sortComers 59 = .ok (.goto (-42), 3) := by decide +kernel
theorem dX2_sortComers_35 : decode cX2_sortComers 35 = .ok (.aload_n 0, 1) := by decide +kernel
theorem dX2_sortComers_36 : decode cX2_sortComers 36 = .ok (.getfield 25, 3) := by decide +kernel
theorem dX2_sortComers_39 : decode cX2_sortComers 39 = .ok (.aload_n 1, 1) := by decide +kernel
theorem dX2_sortComers_40 : decode cX2_sortComers 40 = .ok (.iload_n 2, 1) := by decide +kernel
theorem dX2_sortComers_41 : decode cX2_sortComers 41 = .ok (.iload_n 3, 1) := by decide +kernel
theorem dX2_sortComers_42 : decode cX2_sortComers 42 = .ok (.invokevirtual 51, 3) := by decide +kernel
theorem dX2_sortComers_45 : decode cX2_sortComers 45 = .ok (.dup2, 1) := by decide +kernel
theorem dX2_sortComers_46 : decode cX2_sortComers 46 = .ok (.iaload, 1) := by decide +kernel
theorem dX2_sortComers_47 : decode cX2_sortComers 47 = .ok (.iconst 1, 1) := by decide +kernel
theorem dX2_sortComers_48 : decode cX2_sortComers 48 = .ok (.iadd, 1) := by decide +kernel
theorem dX2_sortComers_49 : decode cX2_sortComers 49 = .ok (.iastore, 1) := by decide +kernel
theorem dX2_sortComers_50 : decode cX2_sortComers 50 = .ok (.iinc 3 1, 3) := by decide +kernel
theorem dX2_sortComers_53 : decode cX2_sortComers 53 = .ok (.goto (-26), 3) := by decide +kernel
set_option maxHeartbeats 4000000 in
set_option maxRecDepth 100000 in
theorem k_X2_sortComers_0 (l : Launch) (V : GV) (n : Nat) (ft : Nat) (Yw : Nat → Nat) (Yf : Nat → Nat) (y : Nat → Nat) (fYf4 : Nat → Int32) (fYf5 : Nat → Int32) (fYw6 : Nat → Int32) (pYf0_6 : Int32) (pYw0_0 : Int32) (wa : Nat) (pYw0_5 : Int32) (pYw0_6 : Int32) (wb : Nat) (pYw0_14 : Int32) (pYw0_15 : Int32) (pYw0_16 : Int32) (hn : 1 ≤ n ∧ n ≤ 3646) (hft : 0 ≤ ft ∧ ft ≤ 7290) (tfYf4 : ∀ j, iv 0 (4 * (ft : Int) + 4 * (n : Int)) (fYf4 j)) (tfYf5 : ∀ j, iv 0 ((ft : Int) + (n : Int) - 1) (fYf5 j)) (tfYw6 : ∀ j, iv 0 ((n : Int) - 1) (fYw6 j)) (bpYf0_6 : iv 0 (2 * (ft : Int) + 2 * (n : Int)) pYf0_6) (bpYw0_0 : iv 0 4 pYw0_0) (bpYw0_5 : iv 0 ((n : Int)) pYw0_5) (bpYw0_6 : iv 0 4 pYw0_6) (bpYw0_14 : iv 0 4 pYw0_14) (bpYw0_15 : iv 0 9 pYw0_15) (bpYw0_16 : iv 0 ((n : Int)) pYw0_16) (hf0 : WB pYw0_16 pYw0_6 pYw0_5 fYw6) (hf1 : (pYw0_5 : Int32).toInt ≤ (pYw0_16 : Int32).toInt) : Ct l V yX2_sortComers (.code yX2_sortComers cX2_sortComers 5 none) 3 [.ref (Yf 0), .ref (Yw 0)] [(Yf 4, aI V (n + ft + 1) fYf4), (Yf 5, aI V ((n + ft) * 4) fYf5), (Yw 6, aI V (n * 4) fYw6), (Yf 0, .inr (2, o2_irrrrri (nI (n + ft)) (Yf 1) (Yf 2) (Yf 3) (Yf 4) (Yf 5) pYf0_6)), (Yw 0, .inr (8, o8_iirrriirrrrrrriii pYw0_0 (nI n) (Yw 1) (Yw 2) wa pYw0_5 pYw0_6 (y 19) (Yw 4) (Yw 5) (Yw 6) (Yw 7) (Yw 8) wb pYw0_14 pYw0_15 pYw0_16))] 0 0 (QV V (fun (w : va_W) => ∃ (g0 : Nat → Int32) (g1 : Nat → Int32), (∀ j, iv 0 (4 * (ft : Int) + 4 * (n : Int)) (g0 j)) ∧ (∀ j, iv 0 ((ft : Int) + (n : Int) - 1) (g1 j)) ∧ w = [(Yf 4, aI V (n + ft + 1) g0), (Yf 5, aI V ((n + ft) * 4) g1), (Yw 6, aI V (n * 4) fYw6), (Yf 0, .inr (2, o2_irrrrri (nI (n + ft)) (Yf 1) (Yf 2) (Yf 3) (Yf 4) (Yf 5) pYf0_6)), (Yw 0, .inr (8, o8_iirrriirrrrrrriii pYw0_0 (nI n) (Yw 1) (Yw 2) wa pYw0_5 pYw0_6 (y 19) (Yw 4) (Yw 5) (Yw 6) (Yw 7) (Yw 8) wb pYw0_14 pYw0_15 pYw0_16))])) := by
  refine Ct.of (by decide) (Nat.le_of_ble_eq_true rfl) (fun p e s m below meth c A ls hx hb hr hml hown hlk hnm hg hP hK hD hE hA hS hl => ?_)
  have hl : lv_has ls 5 [(0, .ref (Yf 0)), (1, .ref (Yw 0))] := hl
  refine lv_aload_n hx hb dX2_sortComers_0 rfl (lv_at hl 0 rfl) ?_
  refine va_get (ci := 2) (v := .ref (Yf 4)) (C := RX2) (T := TX2) (N := 7) hx hb hg inX2 hown hK hP 3 rfl rfl 4 (by decide) (hg _ q_5_105) (fun _ h9 => h9) rfl dX2_sortComers_1 ?_
  refine lv_iconst (v := 0) hx hb dX2_sortComers_4 (by decide) ?_
  refine lv_aload_n hx hb dX2_sortComers_5 rfl (lv_at hl 1 rfl) ?_
  refine va_get (ci := 8) (v := .int pYw0_5) (C := RX8) (T := TX8) (N := 17) hx hb hg inX8 hown hK hP 4 rfl rfl 5 (by decide) (hg _ q_4_77) (fun _ h9 => h9) rfl dX2_sortComers_6 ?_
  refine lv_iconst (v := 1) hx hb dX2_sortComers_9 (by decide) ?_
  refine lv_iadd hx hb dX2_sortComers_10 ?_
  refine lv_topi (fun x_1 ex_1 => ?_)
  have bx_1 : iv 1 ((n : Int) + 1) x_1 := by rw [ex_1]; exact iv_add bpYw0_5 (iv_c (1 : Int32) (a := 1) (b := 1) (by decide)) (by first | decide | omega)
  refine lv_iconst (v := 0) hx hb dX2_sortComers_11 (by decide) ?_
  refine jnV (wr := [(Yf 5, aI V ((n + ft) * 4) fYf5), (Yw 6, aI V (n * 4) fYw6), (Yf 0, .inr (2, o2_irrrrri (nI (n + ft)) (Yf 1) (Yf 2) (Yf 3) (Yf 4) (Yf 5) pYf0_6)), (Yw 0, .inr (8, o8_iirrriirrrrrrriii pYw0_0 (nI n) (Yw 1) (Yw 2) wa pYw0_5 pYw0_6 (y 19) (Yw 4) (Yw 5) (Yw 6) (Yw 7) (Yw 8) wb pYw0_14 pYw0_15 pYw0_16))]) (rnS (rest := []) ⟨hx, hb, hml, hown, hg⟩ (k_J7_fill_fda19_2 l V n ft Yf 0 x_1 0 fYf4 hn hft (iv_c (0 : Int32) (by decide)) bx_1 (iv_c (0 : Int32) (by decide)) tfYf4) mt_J7_fill_fda19 q_5_131 ⟨Nat.le_of_ble_eq_true rfl, Nat.le_of_ble_eq_true rfl⟩ hK hP hD hS hA hE [0] rfl rfl rfl hl.1 rfl (Nat.le_of_ble_eq_true rfl) dX2_sortComers_12 ⟨Nat.le_of_ble_eq_true rfl, Nat.le_of_ble_eq_true rfl⟩) hP hD hS hA [0] [1, 2, 3, 4] rfl rfl rfl (by decide) (fun  w H locs hw hP hD hS => ?_)
  obtain ⟨f_2, tf_2, g_3, rfl⟩ := hw
  have hP : va_P V.1 vwCl [(Yf 5, aI V ((n + ft) * 4) fYf5), (Yw 6, aI V (n * 4) fYw6), (Yf 0, .inr (2, o2_irrrrri (nI (n + ft)) (Yf 1) (Yf 2) (Yf 3) (Yf 4) (Yf 5) pYf0_6)), (Yw 0, .inr (8, o8_iirrriirrrrrrriii pYw0_0 (nI n) (Yw 1) (Yw 2) wa pYw0_5 pYw0_6 (y 19) (Yw 4) (Yw 5) (Yw 6) (Yw 7) (Yw 8) wb pYw0_14 pYw0_15 pYw0_16)), (Yf 4, aI V (n + ft + 1) f_2)] H := hP
  have hD := cpD hP hD
  refine lv_iconst (v := 0) hx hb dX2_sortComers_15 (by decide) ?_
  refine lv_istore_n (lv' := [(2, .int 0), (0, .ref (Yf 0)), (1, .ref (Yw 0))]) hx hb dX2_sortComers_16 rfl hl (by decide) rfl (fun ls hl => ?_)
  refine loopF (X := fun (n_6 : Nat) (H : Heap) (locs : List Loc) (ls : Array Slot) => ∃ (u_4 : Int32) (f_5 : Nat → Int32), (iv 0 ((n : Int)) u_4) ∧ (∀ j, iv 0 (4 * (ft : Int) + 4 * (n : Int)) (f_5 j)) ∧ (P1 f_5 fYw6 pYw0_5 pYw0_6 u_4 (0 : Int32)) ∧ ((u_4 : Int32).toInt ≤ (pYw0_5 : Int32).toInt) ∧ n_6 = (2147483647 - (u_4 : Int32).toInt).toNat ∧ va_P V.1 vwCl [(Yf 5, aI V ((n + ft) * 4) fYf5), (Yw 6, aI V (n * 4) fYw6), (Yf 0, .inr (2, o2_irrrrri (nI (n + ft)) (Yf 1) (Yf 2) (Yf 3) (Yf 4) (Yf 5) pYf0_6)), (Yw 0, .inr (8, o8_iirrriirrrrrrriii pYw0_0 (nI n) (Yw 1) (Yw 2) wa pYw0_5 pYw0_6 (y 19) (Yw 4) (Yw 5) (Yw 6) (Yw 7) (Yw 8) wb pYw0_14 pYw0_15 pYw0_16)), (Yf 4, aI V (n + ft + 1) f_5)] H ∧ va_D A [(Yf 5, aI V ((n + ft) * 4) fYf5), (Yw 6, aI V (n * 4) fYw6), (Yf 0, .inr (2, o2_irrrrri (nI (n + ft)) (Yf 1) (Yf 2) (Yf 3) (Yf 4) (Yf 5) pYf0_6)), (Yw 0, .inr (8, o8_iirrriirrrrrrriii pYw0_0 (nI n) (Yw 1) (Yw 2) wa pYw0_5 pYw0_6 (y 19) (Yw 4) (Yw 5) (Yw 6) (Yw 7) (Yw 8) wb pYw0_14 pYw0_15 pYw0_16)), (Yf 4, aI V (n + ft + 1) f_5)] ∧ va_S A s.heap H locs ∧ lv_has ls 5 [(2, .int u_4), (0, .ref (Yf 0)), (1, .ref (Yw 0))]) (g := fun ls => F0 m 17 ls []) (fun n_6 H locs ls hX ihn_6 => ?_) _ ⟨0, f_2, (iv_w (iv_c (0 : Int32) (a := 0) (b := 0) (by decide)) (by first | decide | omega)), tf_2, (P1_0 g_3 ex_1 bpYw0_5 (by omega) (by decide) (by decide)), (by have q9 := bpYw0_5; have h9 : (0 : Int32).toInt = 0 := (by decide); unfold iv at q9; omega), rfl, hP, hD, hS, lv_sub hl [0, 1, 2] rfl⟩
  obtain ⟨u_4, f_5, bu_4, tf_5, inn_6_0, inn_6_1, en_6, hP, hD, hS, hl⟩ := hX
  refine lv_iload_n hx hb dX2_sortComers_17 rfl (lv_at hl 0 rfl) ?_
  refine lv_aload_n hx hb dX2_sortComers_18 rfl (lv_at hl 2 rfl) ?_
  refine va_get (ci := 8) (v := .int pYw0_5) (C := RX8) (T := TX8) (N := 17) hx hb hg inX8 hown hK hP 3 rfl rfl 5 (by decide) (hg _ q_4_77) (fun _ h9 => h9) rfl dX2_sortComers_19 ?_
  refine lv_icmp_ge (tgt := 62) hx hb dX2_sortComers_22 (by decide) (fun c_7 => ?_) (fun c_7 => ?_)
  · refine lv_iconst (v := 1) hx hb dX2_sortComers_62 (by decide) ?_
    refine lv_istore_n (lv' := [(2, .int 1), (0, .ref (Yf 0)), (1, .ref (Yw 0))]) hx hb dX2_sortComers_63 rfl hl (by decide) rfl (fun ls hl => ?_)
    refine loopF (X := fun (n_10 : Nat) (H : Heap) (locs : List Loc) (ls : Array Slot) => ∃ (u_8 : Int32) (f_9 : Nat → Int32), (iv 1 ((n : Int) + 1) u_8) ∧ (∀ j, iv 0 (4 * (ft : Int) + 4 * (n : Int)) (f_9 j)) ∧ (P2 f_9 fYw6 pYw0_5 pYw0_6 u_8) ∧ n_10 = (2147483647 - (u_8 : Int32).toInt).toNat ∧ va_P V.1 vwCl [(Yf 5, aI V ((n + ft) * 4) fYf5), (Yw 6, aI V (n * 4) fYw6), (Yf 0, .inr (2, o2_irrrrri (nI (n + ft)) (Yf 1) (Yf 2) (Yf 3) (Yf 4) (Yf 5) pYf0_6)), (Yw 0, .inr (8, o8_iirrriirrrrrrriii pYw0_0 (nI n) (Yw 1) (Yw 2) wa pYw0_5 pYw0_6 (y 19) (Yw 4) (Yw 5) (Yw 6) (Yw 7) (Yw 8) wb pYw0_14 pYw0_15 pYw0_16)), (Yf 4, aI V (n + ft + 1) f_9)] H ∧ va_D A [(Yf 5, aI V ((n + ft) * 4) fYf5), (Yw 6, aI V (n * 4) fYw6), (Yf 0, .inr (2, o2_irrrrri (nI (n + ft)) (Yf 1) (Yf 2) (Yf 3) (Yf 4) (Yf 5) pYf0_6)), (Yw 0, .inr (8, o8_iirrriirrrrrrriii pYw0_0 (nI n) (Yw 1) (Yw 2) wa pYw0_5 pYw0_6 (y 19) (Yw 4) (Yw 5) (Yw 6) (Yw 7) (Yw 8) wb pYw0_14 pYw0_15 pYw0_16)), (Yf 4, aI V (n + ft + 1) f_9)] ∧ va_S A s.heap H locs ∧ lv_has ls 5 [(2, .int u_8), (0, .ref (Yf 0)), (1, .ref (Yw 0))]) (g := fun ls => F0 m 64 ls []) (fun n_10 H locs ls hX ihn_10 => ?_) _ ⟨1, f_5, (iv_w (iv_c (1 : Int32) (a := 1) (b := 1) (by decide)) (by first | decide | omega)), tf_5, (P2_0 inn_6_0 (Int32.not_lt.mpr c_7) inn_6_1 (by decide) (by decide) (by have q9 := bu_4; unfold iv at q9; omega)), rfl, hP, hD, hS, lv_sub hl [0, 1, 2] rfl⟩
    obtain ⟨u_8, f_9, bu_8, tf_9, inn_10_0, en_10, hP, hD, hS, hl⟩ := hX
    refine lv_iload_n hx hb dX2_sortComers_64 rfl (lv_at hl 0 rfl) ?_
    refine lv_aload_n hx hb dX2_sortComers_65 rfl (lv_at hl 2 rfl) ?_
    refine va_get (ci := 8) (v := .int pYw0_5) (C := RX8) (T := TX8) (N := 17) hx hb hg inX8 hown hK hP 3 rfl rfl 5 (by decide) (hg _ q_4_77) (fun _ h9 => h9) rfl dX2_sortComers_66 ?_
    refine lv_icmp_gt (tgt := 95) hx hb dX2_sortComers_69 (by decide) (fun c_11 => ?_) (fun c_11 => ?_)
    · refine lv_iconst (v := 0) hx hb dX2_sortComers_95 (by decide) ?_
      refine lv_istore_n (lv' := [(2, .int 0), (0, .ref (Yf 0)), (1, .ref (Yw 0))]) hx hb dX2_sortComers_96 rfl hl (by decide) rfl (fun ls hl => ?_)
      refine loopF (X := fun (n_15 : Nat) (H : Heap) (locs : List Loc) (ls : Array Slot) => ∃ (u_12 : Int32) (f_13 : Nat → Int32) (f_14 : Nat → Int32), (iv 0 ((n : Int)) u_12) ∧ (∀ j, iv 0 ((ft : Int) + (n : Int) - 1) (f_13 j)) ∧ (∀ j, iv 0 (4 * (ft : Int) + 4 * (n : Int)) (f_14 j)) ∧ (P3 f_14 fYw6 pYw0_5 pYw0_6 u_12 (0 : Int32)) ∧ ((u_12 : Int32).toInt ≤ (pYw0_5 : Int32).toInt) ∧ n_15 = (2147483647 - (u_12 : Int32).toInt).toNat ∧ va_P V.1 vwCl [(Yf 5, aI V ((n + ft) * 4) f_13), (Yw 6, aI V (n * 4) fYw6), (Yf 0, .inr (2, o2_irrrrri (nI (n + ft)) (Yf 1) (Yf 2) (Yf 3) (Yf 4) (Yf 5) pYf0_6)), (Yw 0, .inr (8, o8_iirrriirrrrrrriii pYw0_0 (nI n) (Yw 1) (Yw 2) wa pYw0_5 pYw0_6 (y 19) (Yw 4) (Yw 5) (Yw 6) (Yw 7) (Yw 8) wb pYw0_14 pYw0_15 pYw0_16)), (Yf 4, aI V (n + ft + 1) f_14)] H ∧ va_D A [(Yf 5, aI V ((n + ft) * 4) f_13), (Yw 6, aI V (n * 4) fYw6), (Yf 0, .inr (2, o2_irrrrri (nI (n + ft)) (Yf 1) (Yf 2) (Yf 3) (Yf 4) (Yf 5) pYf0_6)), (Yw 0, .inr (8, o8_iirrriirrrrrrriii pYw0_0 (nI n) (Yw 1) (Yw 2) wa pYw0_5 pYw0_6 (y 19) (Yw 4) (Yw 5) (Yw 6) (Yw 7) (Yw 8) wb pYw0_14 pYw0_15 pYw0_16)), (Yf 4, aI V (n + ft + 1) f_14)] ∧ va_S A s.heap H locs ∧ lv_has ls 5 [(2, .int u_12), (0, .ref (Yf 0)), (1, .ref (Yw 0))]) (g := fun ls => F0 m 97 ls []) (fun n_15 H locs ls hX ihn_15 => ?_) _ ⟨0, fYf5, f_9, (iv_w (iv_c (0 : Int32) (a := 0) (b := 0) (by decide)) (by first | decide | omega)), tfYf5, tf_9, (P3_0 inn_10_0 c_11 (by decide) (by decide)), (by have q9 := bpYw0_5; have h9 : (0 : Int32).toInt = 0 := (by decide); unfold iv at q9; omega), rfl, hP, hD, hS, lv_sub hl [0, 1, 2] rfl⟩
      obtain ⟨u_12, f_13, f_14, bu_12, tf_13, tf_14, inn_15_0, inn_15_1, en_15, hP, hD, hS, hl⟩ := hX
      refine lv_iload_n hx hb dX2_sortComers_97 rfl (lv_at hl 0 rfl) ?_
      refine lv_aload_n hx hb dX2_sortComers_98 rfl (lv_at hl 2 rfl) ?_
      refine va_get (ci := 8) (v := .int pYw0_5) (C := RX8) (T := TX8) (N := 17) hx hb hg inX8 hown hK hP 3 rfl rfl 5 (by decide) (hg _ q_4_77) (fun _ h9 => h9) rfl dX2_sortComers_99 ?_
      refine lv_icmp_ge (tgt := 159) hx hb dX2_sortComers_102 (by decide) (fun c_16 => ?_) (fun c_16 => ?_)
      · have hP := subP (ws' := [(Yf 4, aI V (n + ft + 1) f_14), (Yf 5, aI V ((n + ft) * 4) f_13), (Yw 6, aI V (n * 4) fYw6), (Yf 0, .inr (2, o2_irrrrri (nI (n + ft)) (Yf 1) (Yf 2) (Yf 3) (Yf 4) (Yf 5) pYf0_6)), (Yw 0, .inr (8, o8_iirrriirrrrrrriii pYw0_0 (nI n) (Yw 1) (Yw 2) wa pYw0_5 pYw0_6 (y 19) (Yw 4) (Yw 5) (Yw 6) (Yw 7) (Yw 8) wb pYw0_14 pYw0_15 pYw0_16))]) hP [4, 0, 1, 2, 3] rfl
        have hD := subD hP hD [4, 0, 1, 2, 3] rfl rfl
        exact fiV hx hb hr hlk hK hP hD hS dX2_sortComers_159 (Nat.le_of_ble_eq_true rfl) (Nat.le_of_ble_eq_true rfl) (⟨f_14, f_13, tf_14, tf_13, rfl⟩)
      · have b_17 : iv 0 ((n : Int) - 1) u_12 := iv_l1 (Int32.not_le.mp c_16) bu_12 bpYw0_5 (by first | decide | omega)
        have b_18 : iv 1 ((n : Int)) pYw0_5 := iv_l2 (Int32.not_le.mp c_16) bu_12 bpYw0_5 (by first | decide | omega)
        refine lv_iconst (v := 0) hx hb dX2_sortComers_105 (by decide) ?_
        refine lv_istore_n (lv' := [(3, .int 0), (2, .int u_12), (0, .ref (Yf 0)), (1, .ref (Yw 0))]) hx hb dX2_sortComers_106 rfl hl (by decide) rfl (fun ls hl => ?_)
        refine loopF (X := fun (n_22 : Nat) (H : Heap) (locs : List Loc) (ls : Array Slot) => ∃ (u_19 : Int32) (f_20 : Nat → Int32) (f_21 : Nat → Int32), (iv 0 4 u_19) ∧ (∀ j, iv 0 ((ft : Int) + (n : Int) - 1) (f_20 j)) ∧ (∀ j, iv 0 (4 * (ft : Int) + 4 * (n : Int)) (f_21 j)) ∧ (P3 f_21 fYw6 pYw0_5 pYw0_6 u_12 u_19) ∧ ((u_19 : Int32).toInt ≤ (pYw0_6 : Int32).toInt) ∧ n_22 = (2147483647 - (u_19 : Int32).toInt).toNat ∧ va_P V.1 vwCl [(Yf 5, aI V ((n + ft) * 4) f_20), (Yw 6, aI V (n * 4) fYw6), (Yf 0, .inr (2, o2_irrrrri (nI (n + ft)) (Yf 1) (Yf 2) (Yf 3) (Yf 4) (Yf 5) pYf0_6)), (Yw 0, .inr (8, o8_iirrriirrrrrrriii pYw0_0 (nI n) (Yw 1) (Yw 2) wa pYw0_5 pYw0_6 (y 19) (Yw 4) (Yw 5) (Yw 6) (Yw 7) (Yw 8) wb pYw0_14 pYw0_15 pYw0_16)), (Yf 4, aI V (n + ft + 1) f_21)] H ∧ va_D A [(Yf 5, aI V ((n + ft) * 4) f_20), (Yw 6, aI V (n * 4) fYw6), (Yf 0, .inr (2, o2_irrrrri (nI (n + ft)) (Yf 1) (Yf 2) (Yf 3) (Yf 4) (Yf 5) pYf0_6)), (Yw 0, .inr (8, o8_iirrriirrrrrrriii pYw0_0 (nI n) (Yw 1) (Yw 2) wa pYw0_5 pYw0_6 (y 19) (Yw 4) (Yw 5) (Yw 6) (Yw 7) (Yw 8) wb pYw0_14 pYw0_15 pYw0_16)), (Yf 4, aI V (n + ft + 1) f_21)] ∧ va_S A s.heap H locs ∧ lv_has ls 5 [(3, .int u_19), (2, .int u_12), (0, .ref (Yf 0)), (1, .ref (Yw 0))]) (g := fun ls => F0 m 107 ls []) (fun n_22 H locs ls hX ihn_22 => ?_) _ ⟨0, f_13, f_14, (iv_c (0 : Int32) (by decide)), tf_13, tf_14, inn_15_0, (by have q9 : iv 0 4 _ := (iv_w bpYw0_6 (by omega)); have h9 : (0 : Int32).toInt = 0 := (by decide); unfold iv at q9; omega), rfl, hP, hD, hS, lv_sub hl [0, 1, 2, 3] rfl⟩
        obtain ⟨u_19, f_20, f_21, bu_19, tf_20, tf_21, inn_22_0, inn_22_1, en_22, hP, hD, hS, hl⟩ := hX
        refine lv_iload_n hx hb dX2_sortComers_107 rfl (lv_at hl 0 rfl) ?_
        refine lv_aload_n hx hb dX2_sortComers_108 rfl (lv_at hl 3 rfl) ?_
        refine va_get (ci := 8) (v := .int pYw0_6) (C := RX8) (T := TX8) (N := 17) hx hb hg inX8 hown hK hP 3 rfl rfl 6 (by decide) (hg _ q_4_79) (fun _ h9 => h9) rfl dX2_sortComers_109 ?_
        refine lv_icmp_ge (tgt := 153) hx hb dX2_sortComers_112 (by decide) (fun c_23 => ?_) (fun c_23 => ?_)
        · obtain ⟨x_24, ex_24⟩ : ∃ z9 : Int32, z9 = u_12 + 1 := ⟨_, rfl⟩
          have bx_24 : iv 1 ((n : Int)) x_24 := by rw [ex_24]; exact iv_add b_17 (iv_c (1 : Int32) (a := 1) (b := 1) (by first | decide | omega)) (by first | decide | omega)
          refine lv_iinc (v := x_24) (lv' := [(2, .int x_24), (3, .int u_19), (0, .ref (Yf 0)), (1, .ref (Yw 0))]) hx hb dX2_sortComers_153 hl (k := 1) rfl (by rw [ex_24]; rfl) (by decide) rfl (fun ls hl => ?_)
          refine lv_goto (tgt := 97) hx hb dX2_sortComers_156 (by decide) ?_
          exact ihn_15 _ _ _ _ (by rw [en_15, ex_24]; exact mu_up b_17 (by first | decide | omega)) ⟨x_24, f_20, f_21, (iv_w bx_24 (by first | decide | omega)), tf_20, tf_21, (P3_n inn_22_0 (Int32.not_lt.mpr c_23) (iv_w bpYw0_6 (by omega)) inn_22_1 b_17 (by omega) ex_24 (by decide) bu_19.1), (by have q9 := inc_toInt ex_24 b_17 (by omega); have q8 := Int32.lt_iff_toInt_lt.mp (Int32.not_le.mp c_16); omega), rfl, hP, hD, hS, lv_sub hl [0, 2, 3] rfl⟩
        · have b_25 : iv 0 3 u_19 := iv_l1 (Int32.not_le.mp c_23) bu_19 bpYw0_6 (by first | decide | omega)
          have b_26 : iv 1 4 pYw0_6 := iv_l2 (Int32.not_le.mp c_23) bu_19 bpYw0_6 (by first | decide | omega)
          refine lv_aload_n hx hb dX2_sortComers_115 rfl (lv_at hl 3 rfl) ?_
          refine lv_iload_n hx hb dX2_sortComers_116 rfl (lv_at hl 1 rfl) ?_
          refine lv_iload_n hx hb dX2_sortComers_117 rfl (lv_at hl 0 rfl) ?_
          refine jnI (wr := [(Yf 5, aI V ((n + ft) * 4) f_20), (Yf 0, .inr (2, o2_irrrrri (nI (n + ft)) (Yf 1) (Yf 2) (Yf 3) (Yf 4) (Yf 5) pYf0_6)), (Yf 4, aI V (n + ft + 1) f_21)]) (rnV (rest := []) ⟨hx, hb, hml, hown, hg⟩ (k_X8_behind_0 l V n Yw y u_12 u_19 pYw0_0 wa pYw0_5 pYw0_6 wb pYw0_14 pYw0_15 pYw0_16 fYw6 hn b_17 b_25 bpYw0_0 (iv_w b_18 (by first | decide | omega)) (iv_w b_26 (by first | decide | omega)) bpYw0_14 bpYw0_15 bpYw0_16 tfYw6) mt_X8_behind q_5_132 ⟨Nat.le_of_ble_eq_true rfl, Nat.le_of_ble_eq_true rfl⟩ hK hP hD hS hA hE [3, 1] rfl rfl 3 rfl rfl rfl rfl hl.1 rfl (Nat.le_of_ble_eq_true rfl) dX2_sortComers_118 ⟨Nat.le_of_ble_eq_true rfl, Nat.le_of_ble_eq_true rfl⟩) hP hD hS hA [3, 1] [0, 2, 4] rfl rfl rfl (by decide) (fun r_27 w H locs hw hP hD hS => ?_)
          obtain ⟨br_27, er_27, rfl⟩ := hw
          have hP : va_P V.1 vwCl [(Yf 5, aI V ((n + ft) * 4) f_20), (Yf 0, .inr (2, o2_irrrrri (nI (n + ft)) (Yf 1) (Yf 2) (Yf 3) (Yf 4) (Yf 5) pYf0_6)), (Yf 4, aI V (n + ft + 1) f_21), (Yw 0, .inr (8, o8_iirrriirrrrrrriii pYw0_0 (nI n) (Yw 1) (Yw 2) wa pYw0_5 pYw0_6 (y 19) (Yw 4) (Yw 5) (Yw 6) (Yw 7) (Yw 8) wb pYw0_14 pYw0_15 pYw0_16)), (Yw 6, aI V (n * 4) fYw6)] H := hP
          have hD := cpD hP hD
          refine lv_istore (lv' := [(4, .int r_27), (3, .int u_19), (2, .int u_12), (0, .ref (Yf 0)), (1, .ref (Yw 0))]) hx hb dX2_sortComers_121 hl (by decide) rfl (fun ls hl => ?_)
          refine lv_aload_n hx hb dX2_sortComers_123 rfl (lv_at hl 3 rfl) ?_
          refine va_get (ci := 2) (v := .ref (Yf 4)) (C := RX2) (T := TX2) (N := 7) hx hb hg inX2 hown hK hP 1 rfl rfl 4 (by decide) (hg _ q_5_105) (fun _ h9 => h9) rfl dX2_sortComers_124 ?_
          refine lv_iload hx hb dX2_sortComers_127 (lv_at hl 0 rfl) ?_
          refine lv_dup2_11 hx hb dX2_sortComers_129 rfl rfl ?_
          refine va_iald hx hb hK hP 2 0 rfl rfl (iv_in br_27 (by first | decide | omega)) dX2_sortComers_130 ?_
          refine lv_topi (fun x_28 ex_28 => ?_)
          have bx_28 : iv 0 (4 * (ft : Int) + 4 * (n : Int)) x_28 := by rw [ex_28]; exact tf_21 _
          have b_29 : iv 1 (4 * (ft : Int) + 4 * (n : Int)) x_28 := P3_b inn_22_0 (bto_lt hf0 hf1 (Int32.not_le.mp c_16) (Int32.not_le.mp c_23) er_27 b_17 b_25 (by omega)) br_27.1 (bto er_27 b_17 b_25 (by omega) (c := 0) (o := 0) (D := 0)) ex_28 bx_28 b_17 b_25 (Int32.not_le.mp c_16) (Int32.not_le.mp c_23)
          refine lv_iconst (v := 1) hx hb dX2_sortComers_131 (by decide) ?_
          refine lv_isub hx hb dX2_sortComers_132 ?_
          refine lv_topi (fun x_30 ex_30 => ?_)
          have bx_30 : iv 0 (4 * (ft : Int) + 4 * (n : Int) - 1) x_30 := by rw [ex_30]; exact iv_sub b_29 (iv_c (1 : Int32) (a := 1) (b := 1) (by decide)) (by first | decide | omega)
          refine va_iast hx hb hK hP hD hS 2 0 rfl rfl (iv_in br_27 (by first | decide | omega)) dX2_sortComers_133 (fun H locs hP hD hS => ?_)
          obtain ⟨f_31, ef_31, tf_31, hP, hD⟩ : ∃ f_31 : Nat → Int32, f_31 = (upd f_21 (r_27 : Int32).toNatClampNeg x_30) ∧ (∀ j, iv 0 (4 * (ft : Int) + 4 * (n : Int)) (f_31 j)) ∧ va_P V.1 vwCl [(Yf 5, aI V ((n + ft) * 4) f_20), (Yf 0, .inr (2, o2_irrrrri (nI (n + ft)) (Yf 1) (Yf 2) (Yf 3) (Yf 4) (Yf 5) pYf0_6)), (Yf 4, aI V (n + ft + 1) f_31), (Yw 0, .inr (8, o8_iirrriirrrrrrriii pYw0_0 (nI n) (Yw 1) (Yw 2) wa pYw0_5 pYw0_6 (y 19) (Yw 4) (Yw 5) (Yw 6) (Yw 7) (Yw 8) wb pYw0_14 pYw0_15 pYw0_16)), (Yw 6, aI V (n * 4) fYw6)] H ∧ va_D A [(Yf 5, aI V ((n + ft) * 4) f_20), (Yf 0, .inr (2, o2_irrrrri (nI (n + ft)) (Yf 1) (Yf 2) (Yf 3) (Yf 4) (Yf 5) pYf0_6)), (Yf 4, aI V (n + ft + 1) f_31), (Yw 0, .inr (8, o8_iirrriirrrrrrriii pYw0_0 (nI n) (Yw 1) (Yw 2) wa pYw0_5 pYw0_6 (y 19) (Yw 4) (Yw 5) (Yw 6) (Yw 7) (Yw 8) wb pYw0_14 pYw0_15 pYw0_16)), (Yw 6, aI V (n * 4) fYw6)] := ⟨_, rfl, ivU tf_21 _ (iv_w bx_30 (by first | decide | omega)), hP, hD⟩
          refine lv_aload_n hx hb dX2_sortComers_134 rfl (lv_at hl 3 rfl) ?_
          refine va_get (ci := 2) (v := .ref (Yf 5)) (C := RX2) (T := TX2) (N := 7) hx hb hg inX2 hown hK hP 1 rfl rfl 5 (by decide) (hg _ q_5_106) (fun _ h9 => h9) rfl dX2_sortComers_135 ?_
          refine lv_aload_n hx hb dX2_sortComers_138 rfl (lv_at hl 3 rfl) ?_
          refine va_get (ci := 2) (v := .ref (Yf 4)) (C := RX2) (T := TX2) (N := 7) hx hb hg inX2 hown hK hP 1 rfl rfl 4 (by decide) (hg _ q_5_105) (fun _ h9 => h9) rfl dX2_sortComers_139 ?_
          refine lv_iload hx hb dX2_sortComers_142 (lv_at hl 0 rfl) ?_
          refine va_iald hx hb hK hP 2 0 rfl rfl (iv_in br_27 (by first | decide | omega)) dX2_sortComers_144 ?_
          refine lv_topi (fun x_32 ex_32 => ?_)
          have bx_32 : iv 0 (4 * (ft : Int) + 4 * (n : Int)) x_32 := by rw [ex_32]; exact tf_31 _
          have b_33 : iv 0 (4 * (ft : Int) + 4 * (n : Int) - 1) x_32 := by rw [ex_32, ef_31, upd_at]; exact bx_30
          refine lv_iload_n hx hb dX2_sortComers_145 rfl (lv_at hl 2 rfl) ?_
          refine va_iast hx hb hK hP hD hS 0 0 rfl rfl (iv_in b_33 (by first | decide | omega)) dX2_sortComers_146 (fun H locs hP hD hS => ?_)
          obtain ⟨f_34, tf_34, hP, hD⟩ : ∃ f_34 : Nat → Int32, (∀ j, iv 0 ((ft : Int) + (n : Int) - 1) (f_34 j)) ∧ va_P V.1 vwCl [(Yf 5, aI V ((n + ft) * 4) f_34), (Yf 0, .inr (2, o2_irrrrri (nI (n + ft)) (Yf 1) (Yf 2) (Yf 3) (Yf 4) (Yf 5) pYf0_6)), (Yf 4, aI V (n + ft + 1) f_31), (Yw 0, .inr (8, o8_iirrriirrrrrrriii pYw0_0 (nI n) (Yw 1) (Yw 2) wa pYw0_5 pYw0_6 (y 19) (Yw 4) (Yw 5) (Yw 6) (Yw 7) (Yw 8) wb pYw0_14 pYw0_15 pYw0_16)), (Yw 6, aI V (n * 4) fYw6)] H ∧ va_D A [(Yf 5, aI V ((n + ft) * 4) f_34), (Yf 0, .inr (2, o2_irrrrri (nI (n + ft)) (Yf 1) (Yf 2) (Yf 3) (Yf 4) (Yf 5) pYf0_6)), (Yf 4, aI V (n + ft + 1) f_31), (Yw 0, .inr (8, o8_iirrriirrrrrrriii pYw0_0 (nI n) (Yw 1) (Yw 2) wa pYw0_5 pYw0_6 (y 19) (Yw 4) (Yw 5) (Yw 6) (Yw 7) (Yw 8) wb pYw0_14 pYw0_15 pYw0_16)), (Yw 6, aI V (n * 4) fYw6)] := ⟨_, ivU tf_20 _ (iv_w b_17 (by first | decide | omega)), hP, hD⟩
          obtain ⟨x_35, ex_35⟩ : ∃ z9 : Int32, z9 = u_19 + 1 := ⟨_, rfl⟩
          have bx_35 : iv 1 4 x_35 := by rw [ex_35]; exact iv_add b_25 (iv_c (1 : Int32) (a := 1) (b := 1) (by first | decide | omega)) (by first | decide | omega)
          refine lv_iinc (v := x_35) (lv' := [(3, .int x_35), (4, .int r_27), (2, .int u_12), (0, .ref (Yf 0)), (1, .ref (Yw 0))]) hx hb dX2_sortComers_147 hl (k := 1) rfl (by rw [ex_35]; rfl) (by decide) rfl (fun ls hl => ?_)
          refine lv_goto (tgt := 107) hx hb dX2_sortComers_150 (by decide) ?_
          have hP := subP (ws' := [(Yf 5, aI V ((n + ft) * 4) f_34), (Yw 6, aI V (n * 4) fYw6), (Yf 0, .inr (2, o2_irrrrri (nI (n + ft)) (Yf 1) (Yf 2) (Yf 3) (Yf 4) (Yf 5) pYf0_6)), (Yw 0, .inr (8, o8_iirrriirrrrrrriii pYw0_0 (nI n) (Yw 1) (Yw 2) wa pYw0_5 pYw0_6 (y 19) (Yw 4) (Yw 5) (Yw 6) (Yw 7) (Yw 8) wb pYw0_14 pYw0_15 pYw0_16)), (Yf 4, aI V (n + ft + 1) f_31)]) hP [0, 4, 1, 3, 2] rfl
          have hD := subD hP hD [0, 4, 1, 3, 2] rfl rfl
          exact ihn_22 _ _ _ _ (by rw [en_22, ex_35]; exact mu_up b_25 (by first | decide | omega)) ⟨x_35, f_34, f_31, (iv_w bx_35 (by first | decide | omega)), tf_34, tf_31, (P3_s inn_22_0 (bto er_27 b_17 b_25 (by omega) (c := 0) (o := 0) (D := 0)) ex_28 ex_30 (iv_w b_29 (by first | decide | omega)) ef_31 ex_35 b_25 (by omega) (K := (4 * (ft : Int) + 4 * (n : Int)))), (by have q9 := inc_toInt ex_35 b_25 (by omega); have q8 := Int32.lt_iff_toInt_lt.mp (Int32.not_le.mp c_23); omega), rfl, hP, hD, hS, lv_sub hl [0, 2, 3, 4] rfl⟩
    · have b_36 : iv 1 ((n : Int)) u_8 := iv_e1 (Int32.not_lt.mp c_11) bu_8 bpYw0_5 (by first | decide | omega)
      have b_37 : iv 1 ((n : Int)) pYw0_5 := iv_e2 (Int32.not_lt.mp c_11) bu_8 bpYw0_5 (by first | decide | omega)
      refine lv_aload_n hx hb dX2_sortComers_72 rfl (lv_at hl 1 rfl) ?_
      refine va_get (ci := 2) (v := .ref (Yf 4)) (C := RX2) (T := TX2) (N := 7) hx hb hg inX2 hown hK hP 2 rfl rfl 4 (by decide) (hg _ q_5_105) (fun _ h9 => h9) rfl dX2_sortComers_73 ?_
      refine lv_iload_n hx hb dX2_sortComers_76 rfl (lv_at hl 0 rfl) ?_
      refine lv_dup2_11 hx hb dX2_sortComers_77 rfl rfl ?_
      refine va_iald hx hb hK hP 4 0 rfl rfl (iv_in b_36 (by first | decide | omega)) dX2_sortComers_78 ?_
      refine lv_topi (fun x_38 ex_38 => ?_)
      have bx_38 : iv 0 (4 * (ft : Int) + 4 * (n : Int)) x_38 := by rw [ex_38]; exact tf_9 _
      refine lv_aload_n hx hb dX2_sortComers_79 rfl (lv_at hl 1 rfl) ?_
      refine va_get (ci := 2) (v := .ref (Yf 4)) (C := RX2) (T := TX2) (N := 7) hx hb hg inX2 hown hK hP 2 rfl rfl 4 (by decide) (hg _ q_5_105) (fun _ h9 => h9) rfl dX2_sortComers_80 ?_
      refine lv_iload_n hx hb dX2_sortComers_83 rfl (lv_at hl 0 rfl) ?_
      refine lv_iconst (v := 1) hx hb dX2_sortComers_84 (by decide) ?_
      refine lv_isub hx hb dX2_sortComers_85 ?_
      refine lv_topi (fun x_39 ex_39 => ?_)
      have bx_39 : iv 0 ((n : Int) - 1) x_39 := by rw [ex_39]; exact iv_sub b_36 (iv_c (1 : Int32) (a := 1) (b := 1) (by decide)) (by first | decide | omega)
      refine va_iald hx hb hK hP 4 0 rfl rfl (iv_in bx_39 (by first | decide | omega)) dX2_sortComers_86 ?_
      refine lv_topi (fun x_40 ex_40 => ?_)
      have bx_40 : iv 0 (4 * (ft : Int) + 4 * (n : Int)) x_40 := by rw [ex_40]; exact tf_9 _
      refine lv_iadd hx hb dX2_sortComers_87 ?_
      refine lv_topi (fun x_41 ex_41 => ?_)
      have bx_41 : iv 0 (8 * (ft : Int) + 8 * (n : Int)) x_41 := by rw [ex_41]; exact iv_add bx_38 bx_40 (by first | decide | omega)
      have hw_u_8 := P2_sum (K := (n : Int)) inn_10_0 b_36 (by omega) (Int32.le_iff_toInt_le.mp (Int32.not_lt.mp c_11)) (by have q9 := b_37; unfold iv at q9; omega) (by omega) ex_38 ex_39 ex_40 ex_41 (iv_w bpYw0_6 (by omega))
      have b_42 : iv 0 (4 * (n : Int)) x_41 := P2_w hw_u_8 (iv_w bpYw0_6 (by omega)) (by have q9 := b_37; unfold iv at q9; omega) (by have q9 := b_37; unfold iv at q9; omega)
      refine va_iast hx hb hK hP hD hS 4 0 rfl rfl (iv_in b_36 (by first | decide | omega)) dX2_sortComers_88 (fun H locs hP hD hS => ?_)
      obtain ⟨f_43, ef_43, tf_43, hP, hD⟩ : ∃ f_43 : Nat → Int32, f_43 = (upd f_9 (u_8 : Int32).toNatClampNeg x_41) ∧ (∀ j, iv 0 (4 * (ft : Int) + 4 * (n : Int)) (f_43 j)) ∧ va_P V.1 vwCl [(Yf 5, aI V ((n + ft) * 4) fYf5), (Yw 6, aI V (n * 4) fYw6), (Yf 0, .inr (2, o2_irrrrri (nI (n + ft)) (Yf 1) (Yf 2) (Yf 3) (Yf 4) (Yf 5) pYf0_6)), (Yw 0, .inr (8, o8_iirrriirrrrrrriii pYw0_0 (nI n) (Yw 1) (Yw 2) wa pYw0_5 pYw0_6 (y 19) (Yw 4) (Yw 5) (Yw 6) (Yw 7) (Yw 8) wb pYw0_14 pYw0_15 pYw0_16)), (Yf 4, aI V (n + ft + 1) f_43)] H ∧ va_D A [(Yf 5, aI V ((n + ft) * 4) fYf5), (Yw 6, aI V (n * 4) fYw6), (Yf 0, .inr (2, o2_irrrrri (nI (n + ft)) (Yf 1) (Yf 2) (Yf 3) (Yf 4) (Yf 5) pYf0_6)), (Yw 0, .inr (8, o8_iirrriirrrrrrriii pYw0_0 (nI n) (Yw 1) (Yw 2) wa pYw0_5 pYw0_6 (y 19) (Yw 4) (Yw 5) (Yw 6) (Yw 7) (Yw 8) wb pYw0_14 pYw0_15 pYw0_16)), (Yf 4, aI V (n + ft + 1) f_43)] := ⟨_, rfl, ivU tf_9 _ (iv_w b_42 (by first | decide | omega)), hP, hD⟩
      obtain ⟨x_44, ex_44⟩ : ∃ z9 : Int32, z9 = u_8 + 1 := ⟨_, rfl⟩
      have bx_44 : iv 2 ((n : Int) + 1) x_44 := by rw [ex_44]; exact iv_add b_36 (iv_c (1 : Int32) (a := 1) (b := 1) (by first | decide | omega)) (by first | decide | omega)
      refine lv_iinc (v := x_44) (lv' := [(2, .int x_44), (0, .ref (Yf 0)), (1, .ref (Yw 0))]) hx hb dX2_sortComers_89 hl (k := 0) rfl (by rw [ex_44]; rfl) (by decide) rfl (fun ls hl => ?_)
      refine lv_goto (tgt := 64) hx hb dX2_sortComers_92 (by decide) ?_
      exact ihn_10 _ _ _ _ (by rw [en_10, ex_44]; exact mu_up b_36 (by first | decide | omega)) ⟨x_44, f_43, (iv_w bx_44 (by first | decide | omega)), tf_43, (P2_s inn_10_0 b_36 (by omega) hw_u_8 ef_43 ex_44), rfl, hP, hD, hS, lv_sub hl [0, 1, 2] rfl⟩
  · have b_45 : iv 0 ((n : Int) - 1) u_4 := iv_l1 (Int32.not_le.mp c_7) bu_4 bpYw0_5 (by first | decide | omega)
    have b_46 : iv 1 ((n : Int)) pYw0_5 := iv_l2 (Int32.not_le.mp c_7) bu_4 bpYw0_5 (by first | decide | omega)
    refine lv_iconst (v := 0) hx hb dX2_sortComers_25 (by decide) ?_
    refine lv_istore_n (lv' := [(3, .int 0), (2, .int u_4), (0, .ref (Yf 0)), (1, .ref (Yw 0))]) hx hb dX2_sortComers_26 rfl hl (by decide) rfl (fun ls hl => ?_)
    refine loopF (X := fun (n_49 : Nat) (H : Heap) (locs : List Loc) (ls : Array Slot) => ∃ (u_47 : Int32) (f_48 : Nat → Int32), (iv 0 4 u_47) ∧ (∀ j, iv 0 (4 * (ft : Int) + 4 * (n : Int)) (f_48 j)) ∧ (P1 f_48 fYw6 pYw0_5 pYw0_6 u_4 u_47) ∧ ((u_47 : Int32).toInt ≤ (pYw0_6 : Int32).toInt) ∧ n_49 = (2147483647 - (u_47 : Int32).toInt).toNat ∧ va_P V.1 vwCl [(Yf 5, aI V ((n + ft) * 4) fYf5), (Yw 6, aI V (n * 4) fYw6), (Yf 0, .inr (2, o2_irrrrri (nI (n + ft)) (Yf 1) (Yf 2) (Yf 3) (Yf 4) (Yf 5) pYf0_6)), (Yw 0, .inr (8, o8_iirrriirrrrrrriii pYw0_0 (nI n) (Yw 1) (Yw 2) wa pYw0_5 pYw0_6 (y 19) (Yw 4) (Yw 5) (Yw 6) (Yw 7) (Yw 8) wb pYw0_14 pYw0_15 pYw0_16)), (Yf 4, aI V (n + ft + 1) f_48)] H ∧ va_D A [(Yf 5, aI V ((n + ft) * 4) fYf5), (Yw 6, aI V (n * 4) fYw6), (Yf 0, .inr (2, o2_irrrrri (nI (n + ft)) (Yf 1) (Yf 2) (Yf 3) (Yf 4) (Yf 5) pYf0_6)), (Yw 0, .inr (8, o8_iirrriirrrrrrriii pYw0_0 (nI n) (Yw 1) (Yw 2) wa pYw0_5 pYw0_6 (y 19) (Yw 4) (Yw 5) (Yw 6) (Yw 7) (Yw 8) wb pYw0_14 pYw0_15 pYw0_16)), (Yf 4, aI V (n + ft + 1) f_48)] ∧ va_S A s.heap H locs ∧ lv_has ls 5 [(3, .int u_47), (2, .int u_4), (0, .ref (Yf 0)), (1, .ref (Yw 0))]) (g := fun ls => F0 m 27 ls []) (fun n_49 H locs ls hX ihn_49 => ?_) _ ⟨0, f_5, (iv_c (0 : Int32) (by decide)), tf_5, inn_6_0, (by have q9 : iv 0 4 _ := (iv_w bpYw0_6 (by omega)); have h9 : (0 : Int32).toInt = 0 := (by decide); unfold iv at q9; omega), rfl, hP, hD, hS, lv_sub hl [0, 1, 2, 3] rfl⟩
    obtain ⟨u_47, f_48, bu_47, tf_48, inn_49_0, inn_49_1, en_49, hP, hD, hS, hl⟩ := hX
    refine lv_iload_n hx hb dX2_sortComers_27 rfl (lv_at hl 0 rfl) ?_
    refine lv_aload_n hx hb dX2_sortComers_28 rfl (lv_at hl 3 rfl) ?_
    refine va_get (ci := 8) (v := .int pYw0_6) (C := RX8) (T := TX8) (N := 17) hx hb hg inX8 hown hK hP 3 rfl rfl 6 (by decide) (hg _ q_4_79) (fun _ h9 => h9) rfl dX2_sortComers_29 ?_
    refine lv_icmp_ge (tgt := 56) hx hb dX2_sortComers_32 (by decide) (fun c_50 => ?_) (fun c_50 => ?_)
    · obtain ⟨x_51, ex_51⟩ : ∃ z9 : Int32, z9 = u_4 + 1 := ⟨_, rfl⟩
      have bx_51 : iv 1 ((n : Int)) x_51 := by rw [ex_51]; exact iv_add b_45 (iv_c (1 : Int32) (a := 1) (b := 1) (by first | decide | omega)) (by first | decide | omega)
      refine lv_iinc (v := x_51) (lv' := [(2, .int x_51), (3, .int u_47), (0, .ref (Yf 0)), (1, .ref (Yw 0))]) hx hb dX2_sortComers_56 hl (k := 1) rfl (by rw [ex_51]; rfl) (by decide) rfl (fun ls hl => ?_)
      refine lv_goto (tgt := 17) hx hb dX2_sortComers_59 (by decide) ?_
      exact ihn_6 _ _ _ _ (by rw [en_6, ex_51]; exact mu_up b_45 (by first | decide | omega)) ⟨x_51, f_48, (iv_w bx_51 (by first | decide | omega)), tf_48, (P1_n inn_49_0 (Int32.not_lt.mpr c_50) (iv_w bpYw0_6 (by omega)) inn_49_1 b_45 (by omega) ex_51 (by decide) bu_47.1), (by have q9 := inc_toInt ex_51 b_45 (by omega); have q8 := Int32.lt_iff_toInt_lt.mp (Int32.not_le.mp c_7); omega), rfl, hP, hD, hS, lv_sub hl [0, 2, 3] rfl⟩
    · have b_52 : iv 0 3 u_47 := iv_l1 (Int32.not_le.mp c_50) bu_47 bpYw0_6 (by first | decide | omega)
      have b_53 : iv 1 4 pYw0_6 := iv_l2 (Int32.not_le.mp c_50) bu_47 bpYw0_6 (by first | decide | omega)
      refine lv_aload_n hx hb dX2_sortComers_35 rfl (lv_at hl 2 rfl) ?_
      refine va_get (ci := 2) (v := .ref (Yf 4)) (C := RX2) (T := TX2) (N := 7) hx hb hg inX2 hown hK hP 2 rfl rfl 4 (by decide) (hg _ q_5_105) (fun _ h9 => h9) rfl dX2_sortComers_36 ?_
      refine lv_aload_n hx hb dX2_sortComers_39 rfl (lv_at hl 3 rfl) ?_
      refine lv_iload_n hx hb dX2_sortComers_40 rfl (lv_at hl 1 rfl) ?_
      refine lv_iload_n hx hb dX2_sortComers_41 rfl (lv_at hl 0 rfl) ?_
      refine jnI (wr := [(Yf 5, aI V ((n + ft) * 4) fYf5), (Yf 0, .inr (2, o2_irrrrri (nI (n + ft)) (Yf 1) (Yf 2) (Yf 3) (Yf 4) (Yf 5) pYf0_6)), (Yf 4, aI V (n + ft + 1) f_48)]) (rnV (rest := [.ref (Yf 4)]) ⟨hx, hb, hml, hown, hg⟩ (k_X8_behind_0 l V n Yw y u_4 u_47 pYw0_0 wa pYw0_5 pYw0_6 wb pYw0_14 pYw0_15 pYw0_16 fYw6 hn b_45 b_52 bpYw0_0 (iv_w b_46 (by first | decide | omega)) (iv_w b_53 (by first | decide | omega)) bpYw0_14 bpYw0_15 bpYw0_16 tfYw6) mt_X8_behind q_5_132 ⟨Nat.le_of_ble_eq_true rfl, Nat.le_of_ble_eq_true rfl⟩ hK hP hD hS hA hE [3, 1] rfl rfl 3 rfl rfl rfl rfl hl.1 rfl (Nat.le_of_ble_eq_true rfl) dX2_sortComers_42 ⟨Nat.le_of_ble_eq_true rfl, Nat.le_of_ble_eq_true rfl⟩) hP hD hS hA [3, 1] [0, 2, 4] rfl rfl rfl (by decide) (fun r_54 w H locs hw hP hD hS => ?_)
      obtain ⟨br_54, er_54, rfl⟩ := hw
      have hP : va_P V.1 vwCl [(Yf 5, aI V ((n + ft) * 4) fYf5), (Yf 0, .inr (2, o2_irrrrri (nI (n + ft)) (Yf 1) (Yf 2) (Yf 3) (Yf 4) (Yf 5) pYf0_6)), (Yf 4, aI V (n + ft + 1) f_48), (Yw 0, .inr (8, o8_iirrriirrrrrrriii pYw0_0 (nI n) (Yw 1) (Yw 2) wa pYw0_5 pYw0_6 (y 19) (Yw 4) (Yw 5) (Yw 6) (Yw 7) (Yw 8) wb pYw0_14 pYw0_15 pYw0_16)), (Yw 6, aI V (n * 4) fYw6)] H := hP
      have hD := cpD hP hD
      refine lv_dup2_11 hx hb dX2_sortComers_45 rfl rfl ?_
      refine va_iald hx hb hK hP 2 0 rfl rfl (iv_in br_54 (by first | decide | omega)) dX2_sortComers_46 ?_
      refine lv_topi (fun x_55 ex_55 => ?_)
      have bx_55 : iv 0 (4 * (ft : Int) + 4 * (n : Int)) x_55 := by rw [ex_55]; exact tf_48 _
      have b_56 : iv 0 (4 * (n : Int) - 1) x_55 := iv_w (P1_b inn_49_0 (bto_lt hf0 hf1 (Int32.not_le.mp c_7) (Int32.not_le.mp c_50) er_54 b_45 b_52 (by omega)) br_54.1 ex_55 b_45 b_52 (iv_w b_53 (by omega)) (Int32.not_le.mp c_50)) (by have q9 := b_45; unfold iv at q9; omega)
      refine lv_iconst (v := 1) hx hb dX2_sortComers_47 (by decide) ?_
      refine lv_iadd hx hb dX2_sortComers_48 ?_
      refine lv_topi (fun x_57 ex_57 => ?_)
      have bx_57 : iv 1 (4 * (n : Int)) x_57 := by rw [ex_57]; exact iv_add b_56 (iv_c (1 : Int32) (a := 1) (b := 1) (by decide)) (by first | decide | omega)
      refine va_iast hx hb hK hP hD hS 2 0 rfl rfl (iv_in br_54 (by first | decide | omega)) dX2_sortComers_49 (fun H locs hP hD hS => ?_)
      obtain ⟨f_58, ef_58, tf_58, hP, hD⟩ : ∃ f_58 : Nat → Int32, f_58 = (upd f_48 (r_54 : Int32).toNatClampNeg x_57) ∧ (∀ j, iv 0 (4 * (ft : Int) + 4 * (n : Int)) (f_58 j)) ∧ va_P V.1 vwCl [(Yf 5, aI V ((n + ft) * 4) fYf5), (Yf 0, .inr (2, o2_irrrrri (nI (n + ft)) (Yf 1) (Yf 2) (Yf 3) (Yf 4) (Yf 5) pYf0_6)), (Yf 4, aI V (n + ft + 1) f_58), (Yw 0, .inr (8, o8_iirrriirrrrrrriii pYw0_0 (nI n) (Yw 1) (Yw 2) wa pYw0_5 pYw0_6 (y 19) (Yw 4) (Yw 5) (Yw 6) (Yw 7) (Yw 8) wb pYw0_14 pYw0_15 pYw0_16)), (Yw 6, aI V (n * 4) fYw6)] H ∧ va_D A [(Yf 5, aI V ((n + ft) * 4) fYf5), (Yf 0, .inr (2, o2_irrrrri (nI (n + ft)) (Yf 1) (Yf 2) (Yf 3) (Yf 4) (Yf 5) pYf0_6)), (Yf 4, aI V (n + ft + 1) f_58), (Yw 0, .inr (8, o8_iirrriirrrrrrriii pYw0_0 (nI n) (Yw 1) (Yw 2) wa pYw0_5 pYw0_6 (y 19) (Yw 4) (Yw 5) (Yw 6) (Yw 7) (Yw 8) wb pYw0_14 pYw0_15 pYw0_16)), (Yw 6, aI V (n * 4) fYw6)] := ⟨_, rfl, ivU tf_48 _ (iv_w bx_57 (by first | decide | omega)), hP, hD⟩
      obtain ⟨x_59, ex_59⟩ : ∃ z9 : Int32, z9 = u_47 + 1 := ⟨_, rfl⟩
      have bx_59 : iv 1 4 x_59 := by rw [ex_59]; exact iv_add b_52 (iv_c (1 : Int32) (a := 1) (b := 1) (by first | decide | omega)) (by first | decide | omega)
      refine lv_iinc (v := x_59) (lv' := [(3, .int x_59), (2, .int u_4), (0, .ref (Yf 0)), (1, .ref (Yw 0))]) hx hb dX2_sortComers_50 hl (k := 0) rfl (by rw [ex_59]; rfl) (by decide) rfl (fun ls hl => ?_)
      refine lv_goto (tgt := 27) hx hb dX2_sortComers_53 (by decide) ?_
      have hP := subP (ws' := [(Yf 5, aI V ((n + ft) * 4) fYf5), (Yw 6, aI V (n * 4) fYw6), (Yf 0, .inr (2, o2_irrrrri (nI (n + ft)) (Yf 1) (Yf 2) (Yf 3) (Yf 4) (Yf 5) pYf0_6)), (Yw 0, .inr (8, o8_iirrriirrrrrrriii pYw0_0 (nI n) (Yw 1) (Yw 2) wa pYw0_5 pYw0_6 (y 19) (Yw 4) (Yw 5) (Yw 6) (Yw 7) (Yw 8) wb pYw0_14 pYw0_15 pYw0_16)), (Yf 4, aI V (n + ft + 1) f_58)]) hP [0, 4, 1, 3, 2] rfl
      have hD := subD hP hD [0, 4, 1, 3, 2] rfl rfl
      exact ihn_49 _ _ _ _ (by rw [en_49, ex_59]; exact mu_up b_52 (by first | decide | omega)) ⟨x_59, f_58, (iv_w bx_59 (by first | decide | omega)), tf_58, (P1_s inn_49_0 br_54.1 (bto er_54 b_45 b_52 (by omega) (c := 0) (o := 0) (D := 0)) ex_55 ex_57 b_56 (by omega) ef_58 ex_59 b_52 (by omega)), (by have q9 := inc_toInt ex_59 b_52 (by omega); have q8 := Int32.lt_iff_toInt_lt.mp (Int32.not_le.mp c_50); omega), rfl, hP, hD, hS, lv_sub hl [0, 1, 2, 3] rfl⟩
theorem dX2_settle_0 : decode cX2_settle 0 = .ok (.aload_n 0, 1) := by decide +kernel
theorem q_5_102 : Cond.fieldLink "BeaconDelay$Forcing" 15 "BeaconDelay$Forcing" "within" "[I" ∈ gw := gw_5 (i := 102) (by decide +kernel) rfl
theorem dX2_settle_1 : decode cX2_settle 1 = .ok (.getfield 15, 3) := by decide +kernel
theorem dX2_settle_4 : decode cX2_settle 4 = .ok (.iload_n 1, 1) := by decide +kernel
theorem dX2_settle_5 : decode cX2_settle 5 = .ok (.iload_n 2, 1) := by decide +kernel
theorem dX2_settle_6 : decode cX2_settle 6 = .ok (.iastore, 1) := by decide +kernel
theorem dX2_settle_7 : decode cX2_settle 7 = .ok (.aload_n 0, 1) := by decide +kernel
theorem q_5_104 : Cond.fieldLink "BeaconDelay$Forcing" 22 "BeaconDelay$Forcing" "queue" "[I" ∈ gw := gw_5 (i := 104) (by decide +kernel) rfl
theorem dX2_settle_8 : decode cX2_settle 8 = .ok (.getfield 22, 3) := by decide +kernel
theorem dX2_settle_11 : decode cX2_settle 11 = .ok (.aload_n 0, 1) := by decide +kernel
theorem q_5_107 : Cond.fieldLink "BeaconDelay$Forcing" 39 "BeaconDelay$Forcing" "waiting" "I" ∈ gw := gw_5 (i := 107) (by decide +kernel) rfl
theorem dX2_settle_12 : decode cX2_settle 12 = .ok (.getfield 39, 3) := by decide +kernel
theorem dX2_settle_15 : decode cX2_settle 15 = .ok (.iload_n 1, 1) := by decide +kernel
theorem dX2_settle_16 : decode cX2_settle 16 = .ok (.iastore, 1) := by decide +kernel
theorem dX2_settle_17 : decode cX2_settle 17 = .ok (.aload_n 0, 1) := by decide +kernel
theorem dX2_settle_18 : decode cX2_settle 18 = .ok (.dup, 1) := by decide +kernel
theorem dX2_settle_19 : decode cX2_settle 19 = .ok (.getfield 39, 3) := by decide +kernel
theorem dX2_settle_22 : decode cX2_settle 22 = .ok (.iconst 1, 1) := by decide +kernel
theorem dX2_settle_23 : decode cX2_settle 23 = .ok (.iadd, 1) := by decide +kernel
theorem dX2_settle_24 : decode cX2_settle 24 = .ok (.putfield 39, 3) := by decide +kernel
theorem dX2_settle_27 : decode cX2_settle 27 = .ok (.return_, 1) := by decide +kernel
set_option maxHeartbeats 4000000 in
set_option maxRecDepth 100000 in
theorem k_X2_settle_0 (l : Launch) (V : GV) (n : Nat) (ft : Nat) (Yf : Nat → Nat) (a1 : Int32) (a2 : Int32) (fYf1 : Nat → Int32) (fYf3 : Nat → Int32) (pYf0_6 : Int32) (hn : 1 ≤ n ∧ n ≤ 3646) (hft : 0 ≤ ft ∧ ft ≤ 7290) (ba1 : iv 0 (2 * (ft : Int) + 2 * (n : Int) - 1) a1) (ba2 : iv 0 (2 * (ft : Int) + 2 * (n : Int)) a2) (tfYf1 : ∀ j, iv (-1) (2 * (ft : Int) + 2 * (n : Int)) (fYf1 j)) (tfYf3 : ∀ j, iv 0 (2 * (ft : Int) + 2 * (n : Int) - 1) (fYf3 j)) (bpYf0_6 : iv 0 (2 * (ft : Int) + 2 * (n : Int)) pYf0_6) (hf0 : (pYf0_6 : Int32).toInt < 2 * ((n : Int) + (ft : Int))) : Ct l V yX2_settle (.code yX2_settle cX2_settle 3 none) 1 [.ref (Yf 0), .int a1, .int a2] [(Yf 1, aI V ((n + ft) * 2) fYf1), (Yf 3, aI V ((n + ft) * 2) fYf3), (Yf 0, .inr (2, o2_irrrrri (nI (n + ft)) (Yf 1) (Yf 2) (Yf 3) (Yf 4) (Yf 5) pYf0_6))] 0 0 (QV V (fun (w : va_W) => ∃ (g0 : Nat → Int32) (g1 : Nat → Int32) (v2 : Int32), (∀ j, iv (-1) (2 * (ft : Int) + 2 * (n : Int)) (g0 j)) ∧ (∀ j, iv 0 (2 * (ft : Int) + 2 * (n : Int) - 1) (g1 j)) ∧ iv 0 (2 * (ft : Int) + 2 * (n : Int)) v2 ∧ (g0 = upd fYf1 (a1 : Int32).toNatClampNeg a2) ∧ (g1 = upd fYf3 (pYf0_6 : Int32).toNatClampNeg a1) ∧ (v2 = pYf0_6 + 1) ∧ w = [(Yf 1, aI V ((n + ft) * 2) g0), (Yf 3, aI V ((n + ft) * 2) g1), (Yf 0, .inr (2, o2_irrrrri (nI (n + ft)) (Yf 1) (Yf 2) (Yf 3) (Yf 4) (Yf 5) v2))])) := by
  refine Ct.of (by decide) (Nat.le_of_ble_eq_true rfl) (fun p e s m below meth c A ls hx hb hr hml hown hlk hnm hg hP hK hD hE hA hS hl => ?_)
  have hl : lv_has ls 3 [(0, .ref (Yf 0)), (1, .int a1), (2, .int a2)] := hl
  refine lv_aload_n hx hb dX2_settle_0 rfl (lv_at hl 0 rfl) ?_
  refine va_get (ci := 2) (v := .ref (Yf 1)) (C := RX2) (T := TX2) (N := 7) hx hb hg inX2 hown hK hP 2 rfl rfl 1 (by decide) (hg _ q_5_102) (fun _ h9 => h9) rfl dX2_settle_1 ?_
  refine lv_iload_n hx hb dX2_settle_4 rfl (lv_at hl 1 rfl) ?_
  refine lv_iload_n hx hb dX2_settle_5 rfl (lv_at hl 2 rfl) ?_
  refine va_iast hx hb hK hP hD hS 0 0 rfl rfl (iv_in ba1 (by first | decide | omega)) dX2_settle_6 (fun H locs hP hD hS => ?_)
  obtain ⟨f_1, ef_1, tf_1, hP, hD⟩ : ∃ f_1 : Nat → Int32, f_1 = (upd fYf1 (a1 : Int32).toNatClampNeg a2) ∧ (∀ j, iv (-1) (2 * (ft : Int) + 2 * (n : Int)) (f_1 j)) ∧ va_P V.1 vwCl [(Yf 1, aI V ((n + ft) * 2) f_1), (Yf 3, aI V ((n + ft) * 2) fYf3), (Yf 0, .inr (2, o2_irrrrri (nI (n + ft)) (Yf 1) (Yf 2) (Yf 3) (Yf 4) (Yf 5) pYf0_6))] H ∧ va_D A [(Yf 1, aI V ((n + ft) * 2) f_1), (Yf 3, aI V ((n + ft) * 2) fYf3), (Yf 0, .inr (2, o2_irrrrri (nI (n + ft)) (Yf 1) (Yf 2) (Yf 3) (Yf 4) (Yf 5) pYf0_6))] := ⟨_, rfl, ivU tfYf1 _ (iv_w ba2 (by first | decide | omega)), hP, hD⟩
  refine lv_aload_n hx hb dX2_settle_7 rfl (lv_at hl 0 rfl) ?_
  refine va_get (ci := 2) (v := .ref (Yf 3)) (C := RX2) (T := TX2) (N := 7) hx hb hg inX2 hown hK hP 2 rfl rfl 3 (by decide) (hg _ q_5_104) (fun _ h9 => h9) rfl dX2_settle_8 ?_
  refine lv_aload_n hx hb dX2_settle_11 rfl (lv_at hl 0 rfl) ?_
  refine va_get (ci := 2) (v := .int pYf0_6) (C := RX2) (T := TX2) (N := 7) hx hb hg inX2 hown hK hP 2 rfl rfl 6 (by decide) (hg _ q_5_107) (fun _ h9 => h9) rfl dX2_settle_12 ?_
  have b_2 : iv 0 (2 * (ft : Int) + 2 * (n : Int) - 1) pYf0_6 := by have q9 := hf0; have q8 := bpYf0_6; unfold iv at *; omega
  refine lv_iload_n hx hb dX2_settle_15 rfl (lv_at hl 1 rfl) ?_
  refine va_iast hx hb hK hP hD hS 1 0 rfl rfl (iv_in b_2 (by first | decide | omega)) dX2_settle_16 (fun H locs hP hD hS => ?_)
  obtain ⟨f_3, ef_3, tf_3, hP, hD⟩ : ∃ f_3 : Nat → Int32, f_3 = (upd fYf3 (pYf0_6 : Int32).toNatClampNeg a1) ∧ (∀ j, iv 0 (2 * (ft : Int) + 2 * (n : Int) - 1) (f_3 j)) ∧ va_P V.1 vwCl [(Yf 1, aI V ((n + ft) * 2) f_1), (Yf 3, aI V ((n + ft) * 2) f_3), (Yf 0, .inr (2, o2_irrrrri (nI (n + ft)) (Yf 1) (Yf 2) (Yf 3) (Yf 4) (Yf 5) pYf0_6))] H ∧ va_D A [(Yf 1, aI V ((n + ft) * 2) f_1), (Yf 3, aI V ((n + ft) * 2) f_3), (Yf 0, .inr (2, o2_irrrrri (nI (n + ft)) (Yf 1) (Yf 2) (Yf 3) (Yf 4) (Yf 5) pYf0_6))] := ⟨_, rfl, ivU tfYf3 _ ba1, hP, hD⟩
  refine lv_aload_n hx hb dX2_settle_17 rfl (lv_at hl 0 rfl) ?_
  refine lv_dup hx hb dX2_settle_18 rfl ?_
  refine va_get (ci := 2) (v := .int pYf0_6) (C := RX2) (T := TX2) (N := 7) hx hb hg inX2 hown hK hP 2 rfl rfl 6 (by decide) (hg _ q_5_107) (fun _ h9 => h9) rfl dX2_settle_19 ?_
  refine lv_iconst (v := 1) hx hb dX2_settle_22 (by decide) ?_
  refine lv_iadd hx hb dX2_settle_23 ?_
  refine lv_topi (fun x_4 ex_4 => ?_)
  have bx_4 : iv 1 (2 * (ft : Int) + 2 * (n : Int)) x_4 := by rw [ex_4]; exact iv_add b_2 (iv_c (1 : Int32) (a := 1) (b := 1) (by decide)) (by first | decide | omega)
  refine va_put (ci := 2) (v := .int x_4) (ty := .int) (C := RX2) (T := TX2) (N := 7) hx hb hg inX2 tyX2 tyX2_ok nmX2 hown hK hP hD hS 2 rfl rfl 6 (by decide) (hg _ q_5_107) (fun _ h9 => h9) rfl (by decide +kernel) rfl rfl (Nat.le_of_ble_eq_true rfl) dX2_settle_24 (fun H locs hP hD hS => ?_)
  have hP : va_P V.1 vwCl [(Yf 1, aI V ((n + ft) * 2) f_1), (Yf 3, aI V ((n + ft) * 2) f_3), (Yf 0, .inr (2, o2_irrrrri (nI (n + ft)) (Yf 1) (Yf 2) (Yf 3) (Yf 4) (Yf 5) x_4))] H := hP
  have hD := cpD hP hD
  exact fiV hx hb hr hlk hK hP hD hS dX2_settle_27 (Nat.le_of_ble_eq_true rfl) (Nat.le_of_ble_eq_true rfl) (⟨f_1, f_3, x_4, tf_1, tf_3, (iv_w bx_4 (by first | decide | omega)), ef_1, ef_3, ex_4, rfl⟩)
theorem dX2_beginAt_0 : decode cX2_beginAt 0 = .ok (.aload_n 0, 1) := by decide +kernel
theorem dX2_beginAt_1 : decode cX2_beginAt 1 = .ok (.iconst 0, 1) := by decide +kernel
theorem dX2_beginAt_2 : decode cX2_beginAt 2 = .ok (.putfield 39, 3) := by decide +kernel
theorem dX2_beginAt_5 : decode cX2_beginAt 5 = .ok (.iconst 0, 1) := by decide +kernel
theorem dX2_beginAt_6 : decode cX2_beginAt 6 = .ok (.istore 4, 2) := by decide +kernel
theorem dX2_beginAt_8 : decode cX2_beginAt 8 = .ok (.iload 4, 2) := by decide +kernel
theorem dX2_beginAt_10 : decode cX2_beginAt 10 = .ok (.aload_n 1, 1) := by decide +kernel
theorem dX2_beginAt_11 : decode cX2_beginAt 11 = .ok (.getfield 55, 3) := by decide +kernel
theorem dX2_beginAt_14 : decode cX2_beginAt 14 = .ok (.if_icmp .ge 89, 3) := by decide +kernel
theorem dX2_beginAt_103 : decode cX2_beginAt 103 = .ok (.return_, 1) := by decide +kernel
theorem dX2_beginAt_17 : decode cX2_beginAt 17 = .ok (.aload_n 1, 1) := by decide +kernel
theorem q_4_70 : Cond.fieldLink "BeaconDelay$Forcing" 64 "BeaconDelay$Ways" "met" "[I" ∈ gw := gw_4 (i := 70) (by decide +kernel) rfl
theorem dX2_beginAt_18 : decode cX2_beginAt 18 = .ok (.getfield 64, 3) := by decide +kernel
theorem dX2_beginAt_21 : decode cX2_beginAt 21 = .ok (.iload 4, 2) := by decide +kernel
theorem dX2_beginAt_23 : decode cX2_beginAt 23 = .ok (.iaload, 1) := by decide +kernel
theorem dX2_beginAt_24 : decode cX2_beginAt 24 = .ok (.iload_n 2, 1) := by decide +kernel
theorem dX2_beginAt_25 : decode cX2_beginAt 25 = .ok (.invokestatic 67, 3) := by decide +kernel
theorem dX2_beginAt_28 : decode cX2_beginAt 28 = .ok (.iload_n 3, 1) := by decide +kernel
theorem dX2_beginAt_29 : decode cX2_beginAt 29 = .ok (.if_icmp .ne 7, 3) := by decide +kernel
theorem dX2_beginAt_36 : decode cX2_beginAt 36 = .ok (.iconst 0, 1) := by decide +kernel
theorem dX2_beginAt_37 : decode cX2_beginAt 37 = .ok (.istore 5, 2) := by decide +kernel
theorem dX2_beginAt_39 : decode cX2_beginAt 39 = .ok (.aload_n 0, 1) := by decide +kernel
theorem dX2_beginAt_40 : decode cX2_beginAt 40 = .ok (.getfield 15, 3) := by decide +kernel
theorem dX2_beginAt_43 : decode cX2_beginAt 43 = .ok (.iload 4, 2) := by decide +kernel
theorem dX2_beginAt_45 : decode cX2_beginAt 45 = .ok (.iconst 2, 1) := by decide +kernel
theorem dX2_beginAt_46 : decode cX2_beginAt 46 = .ok (.imul, 1) := by decide +kernel
theorem dX2_beginAt_47 : decode cX2_beginAt 47 = .ok (.iconst (-1), 1) := by decide +kernel
theorem dX2_beginAt_48 : decode cX2_beginAt 48 = .ok (.iastore, 1) := by decide +kernel
theorem dX2_beginAt_49 : decode cX2_beginAt 49 = .ok (.aload_n 0, 1) := by decide +kernel
theorem dX2_beginAt_50 : decode cX2_beginAt 50 = .ok (.getfield 15, 3) := by decide +kernel
theorem dX2_beginAt_53 : decode cX2_beginAt 53 = .ok (.iload 4, 2) := by decide +kernel
theorem dX2_beginAt_55 : decode cX2_beginAt 55 = .ok (.iconst 2, 1) := by decide +kernel
theorem dX2_beginAt_56 : decode cX2_beginAt 56 = .ok (.imul, 1) := by decide +kernel
theorem dX2_beginAt_57 : decode cX2_beginAt 57 = .ok (.iconst 1, 1) := by decide +kernel
theorem dX2_beginAt_58 : decode cX2_beginAt 58 = .ok (.iadd, 1) := by decide +kernel
theorem dX2_beginAt_59 : decode cX2_beginAt 59 = .ok (.iconst (-1), 1) := by decide +kernel
theorem dX2_beginAt_60 : decode cX2_beginAt 60 = .ok (.iastore, 1) := by decide +kernel
theorem dX2_beginAt_61 : decode cX2_beginAt 61 = .ok (.aload_n 0, 1) := by decide +kernel
theorem q_5_103 : Cond.fieldLink "BeaconDelay$Forcing" 19 "BeaconDelay$Forcing" "free" "[I" ∈ gw := gw_5 (i := 103) (by decide +kernel) rfl
theorem dX2_beginAt_62 : decode cX2_beginAt 62 = .ok (.getfield 19, 3) := by decide +kernel
theorem dX2_beginAt_65 : decode cX2_beginAt 65 = .ok (.iload 4, 2) := by decide +kernel
theorem dX2_beginAt_67 : decode cX2_beginAt 67 = .ok (.aload_n 1, 1) := by decide +kernel
theorem dX2_beginAt_68 : decode cX2_beginAt 68 = .ok (.getfield 46, 3) := by decide +kernel
theorem dX2_beginAt_71 : decode cX2_beginAt 71 = .ok (.iastore, 1) := by decide +kernel
theorem dX2_beginAt_72 : decode cX2_beginAt 72 = .ok (.iload 5, 2) := by decide +kernel
theorem dX2_beginAt_74 : decode cX2_beginAt 74 = .ok (.ifCond .eq 23, 3) := by decide +kernel
theorem dX2_beginAt_97 : decode cX2_beginAt 97 = .ok (.iinc 4 1, 3) := by decide +kernel
theorem dX2_beginAt_100 : decode cX2_beginAt 100 = .ok (.goto (-92), 3) := by decide +kernel
theorem dX2_beginAt_32 : decode cX2_beginAt 32 = .ok (.iconst 1, 1) := by decide +kernel
theorem dX2_beginAt_33 : decode cX2_beginAt 33 = .ok (.goto 4, 3) := by decide +kernel
theorem dX2_beginAt_77 : decode cX2_beginAt 77 = .ok (.aload_n 0, 1) := by decide +kernel
theorem dX2_beginAt_78 : decode cX2_beginAt 78 = .ok (.iload 4, 2) := by decide +kernel
theorem dX2_beginAt_80 : decode cX2_beginAt 80 = .ok (.iconst 2, 1) := by decide +kernel
theorem dX2_beginAt_81 : decode cX2_beginAt 81 = .ok (.imul, 1) := by decide +kernel
theorem dX2_beginAt_82 : decode cX2_beginAt 82 = .ok (.iconst 0, 1) := by decide +kernel
theorem q_5_141 : Cond.code yX2_settle prog_4_method_6_code 3 none ∈ gw := gw_5 (i := 141) (rfl) rfl
theorem q_1_20 : Cond.initialized "BeaconDelay$Forcing" ∈ gw := gw_1 (i := 20) (by decide +kernel) rfl
theorem q_5_140 : Cond.instanceMethod yX2_settle ∈ gw := gw_5 (i := 140) (by decide +kernel) rfl
theorem q_s_52 : Cond.selects "BeaconDelay$Forcing" yX2_settle yX2_settle ∈ gw := gw_s (i := 52) (by decide +kernel) rfl
theorem mt_X2_settle : MtV yX2_settle cX2_settle 3 none 2 := ⟨⟨q_5_141, q_1_20, by decide +kernel, by decide +kernel, by decide +kernel⟩, q_5_140, q_s_52⟩
theorem q_5_138 : Cond.methodLink "BeaconDelay$Forcing" 70 yX2_settle ∈ gw := gw_5 (i := 138) (by decide +kernel) rfl
theorem dX2_beginAt_83 : decode cX2_beginAt 83 = .ok (.invokevirtual 70, 3) := by decide +kernel
theorem dX2_beginAt_86 : decode cX2_beginAt 86 = .ok (.aload_n 0, 1) := by decide +kernel
theorem dX2_beginAt_87 : decode cX2_beginAt 87 = .ok (.iload 4, 2) := by decide +kernel
theorem dX2_beginAt_89 : decode cX2_beginAt 89 = .ok (.iconst 2, 1) := by decide +kernel
theorem dX2_beginAt_90 : decode cX2_beginAt 90 = .ok (.imul, 1) := by decide +kernel
theorem dX2_beginAt_91 : decode cX2_beginAt 91 = .ok (.iconst 1, 1) := by decide +kernel
theorem dX2_beginAt_92 : decode cX2_beginAt 92 = .ok (.iadd, 1) := by decide +kernel
theorem dX2_beginAt_93 : decode cX2_beginAt 93 = .ok (.iconst 0, 1) := by decide +kernel
theorem dX2_beginAt_94 : decode cX2_beginAt 94 = .ok (.invokevirtual 70, 3) := by decide +kernel
set_option maxHeartbeats 4000000 in
set_option maxRecDepth 100000 in
theorem k_X2_beginAt_0 (l : Launch) (V : GV) (n : Nat) (L : Nat) (ft : Nat) (Yw : Nat → Nat) (Yf : Nat → Nat) (y : Nat → Nat) (a2 : Int32) (a3 : Int32) (fYf1 : Nat → Int32) (fYf2 : Nat → Int32) (fYf3 : Nat → Int32) (fYw1 : Nat → Int32) (pYf0_6 : Int32) (pYw0_0 : Int32) (wa : Nat) (pYw0_5 : Int32) (pYw0_6 : Int32) (wb : Nat) (pYw0_14 : Int32) (pYw0_15 : Int32) (pYw0_16 : Int32) (hn : 1 ≤ n ∧ n ≤ 3646) (hL : 1 ≤ L ∧ L ≤ 10000) (hft : 0 ≤ ft ∧ ft ≤ 7290) (ba2 : iv 0 3 a2) (tfYf1 : ∀ j, iv (-1) (2 * (ft : Int) + 2 * (n : Int)) (fYf1 j)) (tfYf3 : ∀ j, iv 0 (2 * (ft : Int) + 2 * (n : Int) - 1) (fYf3 j)) (tfYw1 : ∀ j, iv 0 ((L : Int) - 1) (fYw1 j)) (bpYf0_6 : iv 0 (2 * (ft : Int) + 2 * (n : Int)) pYf0_6) (bpYw0_0 : iv 0 4 pYw0_0) (bpYw0_5 : iv 0 ((n : Int)) pYw0_5) (bpYw0_6 : iv 0 4 pYw0_6) (bpYw0_14 : iv 0 4 pYw0_14) (bpYw0_15 : iv 0 9 pYw0_15) (bpYw0_16 : iv 0 ((n : Int)) pYw0_16) : Ct l V yX2_beginAt (.code yX2_beginAt cX2_beginAt 6 none) 2 [.ref (Yf 0), .ref (Yw 0), .int a2, .int a3] [(Yf 1, aI V ((n + ft) * 2) fYf1), (Yf 2, aI V (n + ft) fYf2), (Yf 3, aI V ((n + ft) * 2) fYf3), (Yw 1, aI V n fYw1), (Yf 0, .inr (2, o2_irrrrri (nI (n + ft)) (Yf 1) (Yf 2) (Yf 3) (Yf 4) (Yf 5) pYf0_6)), (Yw 0, .inr (8, o8_iirrriirrrrrrriii pYw0_0 (nI n) (Yw 1) (Yw 2) wa pYw0_5 pYw0_6 (y 19) (Yw 4) (Yw 5) (Yw 6) (Yw 7) (Yw 8) wb pYw0_14 pYw0_15 pYw0_16))] 0 0 (QV V (fun (w : va_W) => ∃ (g0 : Nat → Int32) (g1 : Nat → Int32) (g2 : Nat → Int32) (v3 : Int32), (∀ j, iv (-1) (2 * (ft : Int) + 2 * (n : Int)) (g0 j)) ∧ (∀ j, iv 0 (2 * (ft : Int) + 2 * (n : Int) - 1) (g2 j)) ∧ iv 0 (2 * (ft : Int) + 2 * (n : Int)) v3 ∧ (FQ v3 g0 g2 (2 * ((n : Int) + (ft : Int)))) ∧ (FN v3 g0 ((n + ft) * 2) ((n + ft) * 2)) ∧ w = [(Yf 1, aI V ((n + ft) * 2) g0), (Yf 2, aI V (n + ft) g1), (Yf 3, aI V ((n + ft) * 2) g2), (Yw 1, aI V n fYw1), (Yf 0, .inr (2, o2_irrrrri (nI (n + ft)) (Yf 1) (Yf 2) (Yf 3) (Yf 4) (Yf 5) v3)), (Yw 0, .inr (8, o8_iirrriirrrrrrriii pYw0_0 (nI n) (Yw 1) (Yw 2) wa pYw0_5 pYw0_6 (y 19) (Yw 4) (Yw 5) (Yw 6) (Yw 7) (Yw 8) wb pYw0_14 pYw0_15 pYw0_16))])) := by
  refine Ct.of (by decide) (Nat.le_of_ble_eq_true rfl) (fun p e s m below meth c A ls hx hb hr hml hown hlk hnm hg hP hK hD hE hA hS hl => ?_)
  have hl : lv_has ls 6 [(0, .ref (Yf 0)), (1, .ref (Yw 0)), (2, .int a2), (3, .int a3)] := hl
  refine lv_aload_n hx hb dX2_beginAt_0 rfl (lv_at hl 0 rfl) ?_
  refine lv_iconst (v := 0) hx hb dX2_beginAt_1 (by decide) ?_
  refine va_put (ci := 2) (v := .int 0) (ty := .int) (C := RX2) (T := TX2) (N := 7) hx hb hg inX2 tyX2 tyX2_ok nmX2 hown hK hP hD hS 4 rfl rfl 6 (by decide) (hg _ q_5_107) (fun _ h9 => h9) rfl (by decide +kernel) rfl rfl (Nat.le_of_ble_eq_true rfl) dX2_beginAt_2 (fun H locs hP hD hS => ?_)
  have hP : va_P V.1 vwCl [(Yf 1, aI V ((n + ft) * 2) fYf1), (Yf 2, aI V (n + ft) fYf2), (Yf 3, aI V ((n + ft) * 2) fYf3), (Yw 1, aI V n fYw1), (Yf 0, .inr (2, o2_irrrrri (nI (n + ft)) (Yf 1) (Yf 2) (Yf 3) (Yf 4) (Yf 5) 0)), (Yw 0, .inr (8, o8_iirrriirrrrrrriii pYw0_0 (nI n) (Yw 1) (Yw 2) wa pYw0_5 pYw0_6 (y 19) (Yw 4) (Yw 5) (Yw 6) (Yw 7) (Yw 8) wb pYw0_14 pYw0_15 pYw0_16))] H := hP
  have hD := cpD hP hD
  refine lv_iconst (v := 0) hx hb dX2_beginAt_5 (by decide) ?_
  refine lv_istore (lv' := [(4, .int 0), (0, .ref (Yf 0)), (1, .ref (Yw 0)), (2, .int a2), (3, .int a3)]) hx hb dX2_beginAt_6 hl (by decide) rfl (fun ls hl => ?_)
  refine loopF (X := fun (n_6 : Nat) (H : Heap) (locs : List Loc) (ls : Array Slot) => ∃ (u_1 : Int32) (f_2 : Nat → Int32) (f_3 : Nat → Int32) (f_4 : Nat → Int32) (u_5 : Int32), (iv 0 ((n : Int)) u_1) ∧ (∀ j, iv (-1) (2 * (ft : Int) + 2 * (n : Int)) (f_2 j)) ∧ (∀ j, iv 0 (2 * (ft : Int) + 2 * (n : Int) - 1) (f_4 j)) ∧ (iv 0 (2 * (ft : Int) + 2 * (n : Int)) u_5) ∧ (FQ u_5 f_2 f_4 (2 * (u_1).toInt)) ∧ (FN u_5 f_2 ((u_1).toNatClampNeg * 2) ((u_1).toNatClampNeg * 2)) ∧ n_6 = (2147483647 - (u_1 : Int32).toInt).toNat ∧ va_P V.1 vwCl [(Yf 1, aI V ((n + ft) * 2) f_2), (Yf 2, aI V (n + ft) f_3), (Yf 3, aI V ((n + ft) * 2) f_4), (Yw 1, aI V n fYw1), (Yf 0, .inr (2, o2_irrrrri (nI (n + ft)) (Yf 1) (Yf 2) (Yf 3) (Yf 4) (Yf 5) u_5)), (Yw 0, .inr (8, o8_iirrriirrrrrrriii pYw0_0 (nI n) (Yw 1) (Yw 2) wa pYw0_5 pYw0_6 (y 19) (Yw 4) (Yw 5) (Yw 6) (Yw 7) (Yw 8) wb pYw0_14 pYw0_15 pYw0_16))] H ∧ va_D A [(Yf 1, aI V ((n + ft) * 2) f_2), (Yf 2, aI V (n + ft) f_3), (Yf 3, aI V ((n + ft) * 2) f_4), (Yw 1, aI V n fYw1), (Yf 0, .inr (2, o2_irrrrri (nI (n + ft)) (Yf 1) (Yf 2) (Yf 3) (Yf 4) (Yf 5) u_5)), (Yw 0, .inr (8, o8_iirrriirrrrrrriii pYw0_0 (nI n) (Yw 1) (Yw 2) wa pYw0_5 pYw0_6 (y 19) (Yw 4) (Yw 5) (Yw 6) (Yw 7) (Yw 8) wb pYw0_14 pYw0_15 pYw0_16))] ∧ va_S A s.heap H locs ∧ lv_has ls 6 [(4, .int u_1), (0, .ref (Yf 0)), (1, .ref (Yw 0)), (2, .int a2), (3, .int a3)]) (g := fun ls => F0 m 8 ls []) (fun n_6 H locs ls hX ihn_6 => ?_) _ ⟨0, fYf1, fYf2, fYf3, 0, (iv_w (iv_c (0 : Int32) (a := 0) (b := 0) (by decide)) (by first | decide | omega)), tfYf1, tfYf3, (iv_w (iv_c (0 : Int32) (a := 0) (b := 0) (by decide)) (by first | decide | omega)), (FQ_00 (by decide) _), (FN_00 (by decide)), rfl, hP, hD, hS, lv_sub hl [0, 1, 2, 3, 4] rfl⟩
  obtain ⟨u_1, f_2, f_3, f_4, u_5, bu_1, tf_2, tf_4, bu_5, inn_6_0, inn_6_1, en_6, hP, hD, hS, hl⟩ := hX
  refine lv_iload hx hb dX2_beginAt_8 (lv_at hl 0 rfl) ?_
  refine lv_aload_n hx hb dX2_beginAt_10 rfl (lv_at hl 2 rfl) ?_
  refine va_get (ci := 8) (v := .int pYw0_5) (C := RX8) (T := TX8) (N := 17) hx hb hg inX8 hown hK hP 5 rfl rfl 5 (by decide) (hg _ q_4_77) (fun _ h9 => h9) rfl dX2_beginAt_11 ?_
  refine lv_icmp_ge (tgt := 103) hx hb dX2_beginAt_14 (by decide) (fun c_7 => ?_) (fun c_7 => ?_)
  · exact fiV hx hb hr hlk hK hP hD hS dX2_beginAt_103 (Nat.le_of_ble_eq_true rfl) (Nat.le_of_ble_eq_true rfl) (⟨f_2, f_3, f_4, u_5, tf_2, tf_4, bu_5, (FQ_w inn_6_0 (by have q9 := bu_1; unfold iv at q9; omega)), (BA_e (c := 0) inn_6_1 bu_1 (by omega)), rfl⟩)
  · have b_8 : iv 0 ((n : Int) - 1) u_1 := iv_l1 (Int32.not_le.mp c_7) bu_1 bpYw0_5 (by first | decide | omega)
    have b_9 : iv 1 ((n : Int)) pYw0_5 := iv_l2 (Int32.not_le.mp c_7) bu_1 bpYw0_5 (by first | decide | omega)
    refine lv_aload_n hx hb dX2_beginAt_17 rfl (lv_at hl 2 rfl) ?_
    refine va_get (ci := 8) (v := .ref (Yw 1)) (C := RX8) (T := TX8) (N := 17) hx hb hg inX8 hown hK hP 5 rfl rfl 2 (by decide) (hg _ q_4_70) (fun _ h9 => h9) rfl dX2_beginAt_18 ?_
    refine lv_iload hx hb dX2_beginAt_21 (lv_at hl 0 rfl) ?_
    refine va_iald hx hb hK hP 3 0 rfl rfl (iv_in b_8 (by first | decide | omega)) dX2_beginAt_23 ?_
    refine lv_topi (fun x_10 ex_10 => ?_)
    have bx_10 : iv 0 ((L : Int) - 1) x_10 := by rw [ex_10]; exact tfYw1 _
    refine lv_iload_n hx hb dX2_beginAt_24 rfl (lv_at hl 3 rfl) ?_
    refine jnI (wr := [(Yf 1, aI V ((n + ft) * 2) f_2), (Yf 2, aI V (n + ft) f_3), (Yf 3, aI V ((n + ft) * 2) f_4), (Yw 1, aI V n fYw1), (Yf 0, .inr (2, o2_irrrrri (nI (n + ft)) (Yf 1) (Yf 2) (Yf 3) (Yf 4) (Yf 5) u_5)), (Yw 0, .inr (8, o8_iirrriirrrrrrriii pYw0_0 (nI n) (Yw 1) (Yw 2) wa pYw0_5 pYw0_6 (y 19) (Yw 4) (Yw 5) (Yw 6) (Yw 7) (Yw 8) wb pYw0_14 pYw0_15 pYw0_16))]) (rnSN (rest := []) ⟨hx, hb, hml, hown, hg⟩ (k_X9_stackIn_0 l V x_10 a2 (iv_w bx_10 (by first | decide | omega)) (iv_w ba2 (by first | decide | omega))) mt_X9_stackIn (show ("BeaconDelay$Forcing", 67, yX9_stackIn) ∈ nM by decide) ⟨Nat.le_of_ble_eq_true rfl, Nat.le_of_ble_eq_true rfl⟩ hK hP hD hS hA hE [] rfl rfl rfl hl.1 rfl (Nat.le_of_ble_eq_true rfl) dX2_beginAt_25 ⟨Nat.le_of_ble_eq_true rfl, Nat.le_of_ble_eq_true rfl⟩) hP hD hS hA [] [0, 1, 2, 3, 4, 5] rfl rfl rfl (by decide) (fun r_11 w H locs hw hP hD hS => ?_)
    obtain ⟨br_11, er_11, et_12, rfl⟩ := hw
    have hP : va_P V.1 vwCl [(Yf 1, aI V ((n + ft) * 2) f_2), (Yf 2, aI V (n + ft) f_3), (Yf 3, aI V ((n + ft) * 2) f_4), (Yw 1, aI V n fYw1), (Yf 0, .inr (2, o2_irrrrri (nI (n + ft)) (Yf 1) (Yf 2) (Yf 3) (Yf 4) (Yf 5) u_5)), (Yw 0, .inr (8, o8_iirrriirrrrrrriii pYw0_0 (nI n) (Yw 1) (Yw 2) wa pYw0_5 pYw0_6 (y 19) (Yw 4) (Yw 5) (Yw 6) (Yw 7) (Yw 8) wb pYw0_14 pYw0_15 pYw0_16))] H := hP
    have hD := cpD hP hD
    refine lv_iload_n hx hb dX2_beginAt_28 rfl (lv_at hl 4 rfl) ?_
    refine lv_icmp_ne (tgt := 36) hx hb dX2_beginAt_29 (by decide) (fun c_13 => ?_) (fun c_13 => ?_)
    · refine lv_iconst (v := 0) hx hb dX2_beginAt_36 (by decide) ?_
      refine lv_istore (lv' := [(5, .int 0), (4, .int u_1), (0, .ref (Yf 0)), (1, .ref (Yw 0)), (2, .int a2), (3, .int a3)]) hx hb dX2_beginAt_37 hl (by decide) rfl (fun ls hl => ?_)
      refine lv_aload_n hx hb dX2_beginAt_39 rfl (lv_at hl 2 rfl) ?_
      refine va_get (ci := 2) (v := .ref (Yf 1)) (C := RX2) (T := TX2) (N := 7) hx hb hg inX2 hown hK hP 4 rfl rfl 1 (by decide) (hg _ q_5_102) (fun _ h9 => h9) rfl dX2_beginAt_40 ?_
      refine lv_iload hx hb dX2_beginAt_43 (lv_at hl 1 rfl) ?_
      refine lv_iconst (v := 2) hx hb dX2_beginAt_45 (by decide) ?_
      refine lv_imul hx hb dX2_beginAt_46 ?_
      refine lv_topi (fun x_14 ex_14 => ?_)
      have bx_14 : iv 0 (2 * (n : Int) - 2) x_14 := by rw [ex_14]; exact iv_mulc b_8 (iv_c (2 : Int32) (a := 2) (b := 2) (by decide)) (by first | decide | omega)
      refine lv_iconst (v := (-1)) hx hb dX2_beginAt_47 (by decide) ?_
      refine va_iast hx hb hK hP hD hS 0 0 rfl rfl (iv_in bx_14 (by first | decide | omega)) dX2_beginAt_48 (fun H locs hP hD hS => ?_)
      obtain ⟨f_15, ef_15, tf_15, hP, hD⟩ : ∃ f_15 : Nat → Int32, f_15 = (upd f_2 (x_14 : Int32).toNatClampNeg (-1)) ∧ (∀ j, iv (-1) (2 * (ft : Int) + 2 * (n : Int)) (f_15 j)) ∧ va_P V.1 vwCl [(Yf 1, aI V ((n + ft) * 2) f_15), (Yf 2, aI V (n + ft) f_3), (Yf 3, aI V ((n + ft) * 2) f_4), (Yw 1, aI V n fYw1), (Yf 0, .inr (2, o2_irrrrri (nI (n + ft)) (Yf 1) (Yf 2) (Yf 3) (Yf 4) (Yf 5) u_5)), (Yw 0, .inr (8, o8_iirrriirrrrrrriii pYw0_0 (nI n) (Yw 1) (Yw 2) wa pYw0_5 pYw0_6 (y 19) (Yw 4) (Yw 5) (Yw 6) (Yw 7) (Yw 8) wb pYw0_14 pYw0_15 pYw0_16))] H ∧ va_D A [(Yf 1, aI V ((n + ft) * 2) f_15), (Yf 2, aI V (n + ft) f_3), (Yf 3, aI V ((n + ft) * 2) f_4), (Yw 1, aI V n fYw1), (Yf 0, .inr (2, o2_irrrrri (nI (n + ft)) (Yf 1) (Yf 2) (Yf 3) (Yf 4) (Yf 5) u_5)), (Yw 0, .inr (8, o8_iirrriirrrrrrriii pYw0_0 (nI n) (Yw 1) (Yw 2) wa pYw0_5 pYw0_6 (y 19) (Yw 4) (Yw 5) (Yw 6) (Yw 7) (Yw 8) wb pYw0_14 pYw0_15 pYw0_16))] := ⟨_, rfl, ivU tf_2 _ (iv_w (iv_c ((-1) : Int32) (a := (-1)) (b := (-1)) (by decide)) (by first | decide | omega)), hP, hD⟩
      refine lv_aload_n hx hb dX2_beginAt_49 rfl (lv_at hl 2 rfl) ?_
      refine va_get (ci := 2) (v := .ref (Yf 1)) (C := RX2) (T := TX2) (N := 7) hx hb hg inX2 hown hK hP 4 rfl rfl 1 (by decide) (hg _ q_5_102) (fun _ h9 => h9) rfl dX2_beginAt_50 ?_
      refine lv_iload hx hb dX2_beginAt_53 (lv_at hl 1 rfl) ?_
      refine lv_iconst (v := 2) hx hb dX2_beginAt_55 (by decide) ?_
      refine lv_imul hx hb dX2_beginAt_56 ?_
      refine tpi (y := x_14) ex_14.symm ?_
      refine lv_iconst (v := 1) hx hb dX2_beginAt_57 (by decide) ?_
      refine lv_iadd hx hb dX2_beginAt_58 ?_
      refine lv_topi (fun x_16 ex_16 => ?_)
      have bx_16 : iv 1 (2 * (n : Int) - 1) x_16 := by rw [ex_16]; exact iv_add bx_14 (iv_c (1 : Int32) (a := 1) (b := 1) (by decide)) (by first | decide | omega)
      refine lv_iconst (v := (-1)) hx hb dX2_beginAt_59 (by decide) ?_
      refine va_iast hx hb hK hP hD hS 0 0 rfl rfl (iv_in bx_16 (by first | decide | omega)) dX2_beginAt_60 (fun H locs hP hD hS => ?_)
      obtain ⟨f_17, ef_17, tf_17, hP, hD⟩ : ∃ f_17 : Nat → Int32, f_17 = (upd f_15 (x_16 : Int32).toNatClampNeg (-1)) ∧ (∀ j, iv (-1) (2 * (ft : Int) + 2 * (n : Int)) (f_17 j)) ∧ va_P V.1 vwCl [(Yf 1, aI V ((n + ft) * 2) f_17), (Yf 2, aI V (n + ft) f_3), (Yf 3, aI V ((n + ft) * 2) f_4), (Yw 1, aI V n fYw1), (Yf 0, .inr (2, o2_irrrrri (nI (n + ft)) (Yf 1) (Yf 2) (Yf 3) (Yf 4) (Yf 5) u_5)), (Yw 0, .inr (8, o8_iirrriirrrrrrriii pYw0_0 (nI n) (Yw 1) (Yw 2) wa pYw0_5 pYw0_6 (y 19) (Yw 4) (Yw 5) (Yw 6) (Yw 7) (Yw 8) wb pYw0_14 pYw0_15 pYw0_16))] H ∧ va_D A [(Yf 1, aI V ((n + ft) * 2) f_17), (Yf 2, aI V (n + ft) f_3), (Yf 3, aI V ((n + ft) * 2) f_4), (Yw 1, aI V n fYw1), (Yf 0, .inr (2, o2_irrrrri (nI (n + ft)) (Yf 1) (Yf 2) (Yf 3) (Yf 4) (Yf 5) u_5)), (Yw 0, .inr (8, o8_iirrriirrrrrrriii pYw0_0 (nI n) (Yw 1) (Yw 2) wa pYw0_5 pYw0_6 (y 19) (Yw 4) (Yw 5) (Yw 6) (Yw 7) (Yw 8) wb pYw0_14 pYw0_15 pYw0_16))] := ⟨_, rfl, ivU tf_15 _ (iv_w (iv_c ((-1) : Int32) (a := (-1)) (b := (-1)) (by decide)) (by first | decide | omega)), hP, hD⟩
      refine lv_aload_n hx hb dX2_beginAt_61 rfl (lv_at hl 2 rfl) ?_
      refine va_get (ci := 2) (v := .ref (Yf 2)) (C := RX2) (T := TX2) (N := 7) hx hb hg inX2 hown hK hP 4 rfl rfl 2 (by decide) (hg _ q_5_103) (fun _ h9 => h9) rfl dX2_beginAt_62 ?_
      refine lv_iload hx hb dX2_beginAt_65 (lv_at hl 1 rfl) ?_
      refine lv_aload_n hx hb dX2_beginAt_67 rfl (lv_at hl 3 rfl) ?_
      refine va_get (ci := 8) (v := .int pYw0_6) (C := RX8) (T := TX8) (N := 17) hx hb hg inX8 hown hK hP 5 rfl rfl 6 (by decide) (hg _ q_4_79) (fun _ h9 => h9) rfl dX2_beginAt_68 ?_
      refine va_iast hx hb hK hP hD hS 1 0 rfl rfl (iv_in b_8 (by first | decide | omega)) dX2_beginAt_71 (fun H locs hP hD hS => ?_)
      obtain ⟨f_18, hP, hD⟩ : ∃ f_18 : Nat → Int32, va_P V.1 vwCl [(Yf 1, aI V ((n + ft) * 2) f_17), (Yf 2, aI V (n + ft) f_18), (Yf 3, aI V ((n + ft) * 2) f_4), (Yw 1, aI V n fYw1), (Yf 0, .inr (2, o2_irrrrri (nI (n + ft)) (Yf 1) (Yf 2) (Yf 3) (Yf 4) (Yf 5) u_5)), (Yw 0, .inr (8, o8_iirrriirrrrrrriii pYw0_0 (nI n) (Yw 1) (Yw 2) wa pYw0_5 pYw0_6 (y 19) (Yw 4) (Yw 5) (Yw 6) (Yw 7) (Yw 8) wb pYw0_14 pYw0_15 pYw0_16))] H ∧ va_D A [(Yf 1, aI V ((n + ft) * 2) f_17), (Yf 2, aI V (n + ft) f_18), (Yf 3, aI V ((n + ft) * 2) f_4), (Yw 1, aI V n fYw1), (Yf 0, .inr (2, o2_irrrrri (nI (n + ft)) (Yf 1) (Yf 2) (Yf 3) (Yf 4) (Yf 5) u_5)), (Yw 0, .inr (8, o8_iirrriirrrrrrriii pYw0_0 (nI n) (Yw 1) (Yw 2) wa pYw0_5 pYw0_6 (y 19) (Yw 4) (Yw 5) (Yw 6) (Yw 7) (Yw 8) wb pYw0_14 pYw0_15 pYw0_16))] := ⟨_, hP, hD⟩
      refine lv_iload hx hb dX2_beginAt_72 (lv_at hl 0 rfl) ?_
      refine lv_if_eq (tgt := 97) hx hb dX2_beginAt_74 (by decide) (fun _ => ?_) (fun c_20 => absurd c_20 (by decide))
      obtain ⟨x_21, ex_21⟩ : ∃ z9 : Int32, z9 = u_1 + 1 := ⟨_, rfl⟩
      have bx_21 : iv 1 ((n : Int)) x_21 := by rw [ex_21]; exact iv_add b_8 (iv_c (1 : Int32) (a := 1) (b := 1) (by first | decide | omega)) (by first | decide | omega)
      refine lv_iinc (v := x_21) (lv' := [(4, .int x_21), (5, .int 0), (0, .ref (Yf 0)), (1, .ref (Yw 0)), (2, .int a2), (3, .int a3)]) hx hb dX2_beginAt_97 hl (k := 1) rfl (by rw [ex_21]; rfl) (by decide) rfl (fun ls hl => ?_)
      refine lv_goto (tgt := 8) hx hb dX2_beginAt_100 (by decide) ?_
      exact ihn_6 _ _ _ _ (by rw [en_6, ex_21]; exact mu_up b_8 (by first | decide | omega)) ⟨x_21, f_17, f_18, f_4, u_5, (iv_w bx_21 (by first | decide | omega)), tf_17, tf_4, bu_5, (BA_no inn_6_0 inn_6_1 b_8 (by omega) ex_14 ex_16 ef_15 ef_17 ex_21).1, (BA_no inn_6_0 inn_6_1 b_8 (by omega) ex_14 ex_16 ef_15 ef_17 ex_21).2, rfl, hP, hD, hS, lv_sub hl [0, 2, 3, 4, 5] rfl⟩
    · have b_22 : iv 0 4 a3 := iv_q c_13.symm br_11
      refine lv_iconst (v := 1) hx hb dX2_beginAt_32 (by decide) ?_
      refine lv_goto (tgt := 37) hx hb dX2_beginAt_33 (by decide) ?_
      refine lv_istore (lv' := [(5, .int 1), (4, .int u_1), (0, .ref (Yf 0)), (1, .ref (Yw 0)), (2, .int a2), (3, .int a3)]) hx hb dX2_beginAt_37 hl (by decide) rfl (fun ls hl => ?_)
      refine lv_aload_n hx hb dX2_beginAt_39 rfl (lv_at hl 2 rfl) ?_
      refine va_get (ci := 2) (v := .ref (Yf 1)) (C := RX2) (T := TX2) (N := 7) hx hb hg inX2 hown hK hP 4 rfl rfl 1 (by decide) (hg _ q_5_102) (fun _ h9 => h9) rfl dX2_beginAt_40 ?_
      refine lv_iload hx hb dX2_beginAt_43 (lv_at hl 1 rfl) ?_
      refine lv_iconst (v := 2) hx hb dX2_beginAt_45 (by decide) ?_
      refine lv_imul hx hb dX2_beginAt_46 ?_
      refine lv_topi (fun x_23 ex_23 => ?_)
      have bx_23 : iv 0 (2 * (n : Int) - 2) x_23 := by rw [ex_23]; exact iv_mulc b_8 (iv_c (2 : Int32) (a := 2) (b := 2) (by decide)) (by first | decide | omega)
      refine lv_iconst (v := (-1)) hx hb dX2_beginAt_47 (by decide) ?_
      refine va_iast hx hb hK hP hD hS 0 0 rfl rfl (iv_in bx_23 (by first | decide | omega)) dX2_beginAt_48 (fun H locs hP hD hS => ?_)
      obtain ⟨f_24, ef_24, tf_24, hP, hD⟩ : ∃ f_24 : Nat → Int32, f_24 = (upd f_2 (x_23 : Int32).toNatClampNeg (-1)) ∧ (∀ j, iv (-1) (2 * (ft : Int) + 2 * (n : Int)) (f_24 j)) ∧ va_P V.1 vwCl [(Yf 1, aI V ((n + ft) * 2) f_24), (Yf 2, aI V (n + ft) f_3), (Yf 3, aI V ((n + ft) * 2) f_4), (Yw 1, aI V n fYw1), (Yf 0, .inr (2, o2_irrrrri (nI (n + ft)) (Yf 1) (Yf 2) (Yf 3) (Yf 4) (Yf 5) u_5)), (Yw 0, .inr (8, o8_iirrriirrrrrrriii pYw0_0 (nI n) (Yw 1) (Yw 2) wa pYw0_5 pYw0_6 (y 19) (Yw 4) (Yw 5) (Yw 6) (Yw 7) (Yw 8) wb pYw0_14 pYw0_15 pYw0_16))] H ∧ va_D A [(Yf 1, aI V ((n + ft) * 2) f_24), (Yf 2, aI V (n + ft) f_3), (Yf 3, aI V ((n + ft) * 2) f_4), (Yw 1, aI V n fYw1), (Yf 0, .inr (2, o2_irrrrri (nI (n + ft)) (Yf 1) (Yf 2) (Yf 3) (Yf 4) (Yf 5) u_5)), (Yw 0, .inr (8, o8_iirrriirrrrrrriii pYw0_0 (nI n) (Yw 1) (Yw 2) wa pYw0_5 pYw0_6 (y 19) (Yw 4) (Yw 5) (Yw 6) (Yw 7) (Yw 8) wb pYw0_14 pYw0_15 pYw0_16))] := ⟨_, rfl, ivU tf_2 _ (iv_w (iv_c ((-1) : Int32) (a := (-1)) (b := (-1)) (by decide)) (by first | decide | omega)), hP, hD⟩
      refine lv_aload_n hx hb dX2_beginAt_49 rfl (lv_at hl 2 rfl) ?_
      refine va_get (ci := 2) (v := .ref (Yf 1)) (C := RX2) (T := TX2) (N := 7) hx hb hg inX2 hown hK hP 4 rfl rfl 1 (by decide) (hg _ q_5_102) (fun _ h9 => h9) rfl dX2_beginAt_50 ?_
      refine lv_iload hx hb dX2_beginAt_53 (lv_at hl 1 rfl) ?_
      refine lv_iconst (v := 2) hx hb dX2_beginAt_55 (by decide) ?_
      refine lv_imul hx hb dX2_beginAt_56 ?_
      refine tpi (y := x_23) ex_23.symm ?_
      refine lv_iconst (v := 1) hx hb dX2_beginAt_57 (by decide) ?_
      refine lv_iadd hx hb dX2_beginAt_58 ?_
      refine lv_topi (fun x_25 ex_25 => ?_)
      have bx_25 : iv 1 (2 * (n : Int) - 1) x_25 := by rw [ex_25]; exact iv_add bx_23 (iv_c (1 : Int32) (a := 1) (b := 1) (by decide)) (by first | decide | omega)
      refine lv_iconst (v := (-1)) hx hb dX2_beginAt_59 (by decide) ?_
      refine va_iast hx hb hK hP hD hS 0 0 rfl rfl (iv_in bx_25 (by first | decide | omega)) dX2_beginAt_60 (fun H locs hP hD hS => ?_)
      obtain ⟨f_26, ef_26, tf_26, hP, hD⟩ : ∃ f_26 : Nat → Int32, f_26 = (upd f_24 (x_25 : Int32).toNatClampNeg (-1)) ∧ (∀ j, iv (-1) (2 * (ft : Int) + 2 * (n : Int)) (f_26 j)) ∧ va_P V.1 vwCl [(Yf 1, aI V ((n + ft) * 2) f_26), (Yf 2, aI V (n + ft) f_3), (Yf 3, aI V ((n + ft) * 2) f_4), (Yw 1, aI V n fYw1), (Yf 0, .inr (2, o2_irrrrri (nI (n + ft)) (Yf 1) (Yf 2) (Yf 3) (Yf 4) (Yf 5) u_5)), (Yw 0, .inr (8, o8_iirrriirrrrrrriii pYw0_0 (nI n) (Yw 1) (Yw 2) wa pYw0_5 pYw0_6 (y 19) (Yw 4) (Yw 5) (Yw 6) (Yw 7) (Yw 8) wb pYw0_14 pYw0_15 pYw0_16))] H ∧ va_D A [(Yf 1, aI V ((n + ft) * 2) f_26), (Yf 2, aI V (n + ft) f_3), (Yf 3, aI V ((n + ft) * 2) f_4), (Yw 1, aI V n fYw1), (Yf 0, .inr (2, o2_irrrrri (nI (n + ft)) (Yf 1) (Yf 2) (Yf 3) (Yf 4) (Yf 5) u_5)), (Yw 0, .inr (8, o8_iirrriirrrrrrriii pYw0_0 (nI n) (Yw 1) (Yw 2) wa pYw0_5 pYw0_6 (y 19) (Yw 4) (Yw 5) (Yw 6) (Yw 7) (Yw 8) wb pYw0_14 pYw0_15 pYw0_16))] := ⟨_, rfl, ivU tf_24 _ (iv_w (iv_c ((-1) : Int32) (a := (-1)) (b := (-1)) (by decide)) (by first | decide | omega)), hP, hD⟩
      refine lv_aload_n hx hb dX2_beginAt_61 rfl (lv_at hl 2 rfl) ?_
      refine va_get (ci := 2) (v := .ref (Yf 2)) (C := RX2) (T := TX2) (N := 7) hx hb hg inX2 hown hK hP 4 rfl rfl 2 (by decide) (hg _ q_5_103) (fun _ h9 => h9) rfl dX2_beginAt_62 ?_
      refine lv_iload hx hb dX2_beginAt_65 (lv_at hl 1 rfl) ?_
      refine lv_aload_n hx hb dX2_beginAt_67 rfl (lv_at hl 3 rfl) ?_
      refine va_get (ci := 8) (v := .int pYw0_6) (C := RX8) (T := TX8) (N := 17) hx hb hg inX8 hown hK hP 5 rfl rfl 6 (by decide) (hg _ q_4_79) (fun _ h9 => h9) rfl dX2_beginAt_68 ?_
      refine va_iast hx hb hK hP hD hS 1 0 rfl rfl (iv_in b_8 (by first | decide | omega)) dX2_beginAt_71 (fun H locs hP hD hS => ?_)
      obtain ⟨f_27, hP, hD⟩ : ∃ f_27 : Nat → Int32, va_P V.1 vwCl [(Yf 1, aI V ((n + ft) * 2) f_26), (Yf 2, aI V (n + ft) f_27), (Yf 3, aI V ((n + ft) * 2) f_4), (Yw 1, aI V n fYw1), (Yf 0, .inr (2, o2_irrrrri (nI (n + ft)) (Yf 1) (Yf 2) (Yf 3) (Yf 4) (Yf 5) u_5)), (Yw 0, .inr (8, o8_iirrriirrrrrrriii pYw0_0 (nI n) (Yw 1) (Yw 2) wa pYw0_5 pYw0_6 (y 19) (Yw 4) (Yw 5) (Yw 6) (Yw 7) (Yw 8) wb pYw0_14 pYw0_15 pYw0_16))] H ∧ va_D A [(Yf 1, aI V ((n + ft) * 2) f_26), (Yf 2, aI V (n + ft) f_27), (Yf 3, aI V ((n + ft) * 2) f_4), (Yw 1, aI V n fYw1), (Yf 0, .inr (2, o2_irrrrri (nI (n + ft)) (Yf 1) (Yf 2) (Yf 3) (Yf 4) (Yf 5) u_5)), (Yw 0, .inr (8, o8_iirrriirrrrrrriii pYw0_0 (nI n) (Yw 1) (Yw 2) wa pYw0_5 pYw0_6 (y 19) (Yw 4) (Yw 5) (Yw 6) (Yw 7) (Yw 8) wb pYw0_14 pYw0_15 pYw0_16))] := ⟨_, hP, hD⟩
      refine lv_iload hx hb dX2_beginAt_72 (lv_at hl 0 rfl) ?_
      refine lv_if_eq (tgt := 97) hx hb dX2_beginAt_74 (by decide) (fun c_29 => absurd c_29 (by decide)) (fun _ => ?_)
      refine lv_aload_n hx hb dX2_beginAt_77 rfl (lv_at hl 2 rfl) ?_
      refine lv_iload hx hb dX2_beginAt_78 (lv_at hl 1 rfl) ?_
      refine lv_iconst (v := 2) hx hb dX2_beginAt_80 (by decide) ?_
      refine lv_imul hx hb dX2_beginAt_81 ?_
      refine tpi (y := x_23) ex_23.symm ?_
      refine lv_iconst (v := 0) hx hb dX2_beginAt_82 (by decide) ?_
      refine jnV (wr := [(Yf 2, aI V (n + ft) f_27), (Yw 1, aI V n fYw1), (Yw 0, .inr (8, o8_iirrriirrrrrrriii pYw0_0 (nI n) (Yw 1) (Yw 2) wa pYw0_5 pYw0_6 (y 19) (Yw 4) (Yw 5) (Yw 6) (Yw 7) (Yw 8) wb pYw0_14 pYw0_15 pYw0_16))]) (rnV (rest := []) ⟨hx, hb, hml, hown, hg⟩ (k_X2_settle_0 l V n ft Yf x_23 0 f_26 f_4 u_5 hn hft (iv_w bx_23 (by first | decide | omega)) (iv_w (iv_c (0 : Int32) (a := 0) (b := 0) (by decide)) (by first | decide | omega)) tf_26 tf_4 bu_5 (by have q9 := BA_w inn_6_1 b_8; have q8 := b_8; unfold iv at q8; omega)) mt_X2_settle q_5_138 ⟨Nat.le_of_ble_eq_true rfl, Nat.le_of_ble_eq_true rfl⟩ hK hP hD hS hA hE [0, 2, 4] rfl rfl 4 rfl rfl rfl rfl hl.1 rfl (Nat.le_of_ble_eq_true rfl) dX2_beginAt_83 ⟨Nat.le_of_ble_eq_true rfl, Nat.le_of_ble_eq_true rfl⟩) hP hD hS hA [0, 2, 4] [1, 3, 5] rfl rfl rfl (by decide) (fun  w H locs hw hP hD hS => ?_)
      obtain ⟨f_30, f_31, v_32, tf_30, tf_31, bv_32, g_33, g_34, g_35, rfl⟩ := hw
      have hP : va_P V.1 vwCl [(Yf 2, aI V (n + ft) f_27), (Yw 1, aI V n fYw1), (Yw 0, .inr (8, o8_iirrriirrrrrrriii pYw0_0 (nI n) (Yw 1) (Yw 2) wa pYw0_5 pYw0_6 (y 19) (Yw 4) (Yw 5) (Yw 6) (Yw 7) (Yw 8) wb pYw0_14 pYw0_15 pYw0_16)), (Yf 1, aI V ((n + ft) * 2) f_30), (Yf 3, aI V ((n + ft) * 2) f_31), (Yf 0, .inr (2, o2_irrrrri (nI (n + ft)) (Yf 1) (Yf 2) (Yf 3) (Yf 4) (Yf 5) v_32))] H := hP
      have hD := cpD hP hD
      refine lv_aload_n hx hb dX2_beginAt_86 rfl (lv_at hl 2 rfl) ?_
      refine lv_iload hx hb dX2_beginAt_87 (lv_at hl 1 rfl) ?_
      refine lv_iconst (v := 2) hx hb dX2_beginAt_89 (by decide) ?_
      refine lv_imul hx hb dX2_beginAt_90 ?_
      refine tpi (y := x_23) ex_23.symm ?_
      refine lv_iconst (v := 1) hx hb dX2_beginAt_91 (by decide) ?_
      refine lv_iadd hx hb dX2_beginAt_92 ?_
      refine tpi (y := x_25) ex_25.symm ?_
      refine lv_iconst (v := 0) hx hb dX2_beginAt_93 (by decide) ?_
      refine jnV (wr := [(Yf 2, aI V (n + ft) f_27), (Yw 1, aI V n fYw1), (Yw 0, .inr (8, o8_iirrriirrrrrrriii pYw0_0 (nI n) (Yw 1) (Yw 2) wa pYw0_5 pYw0_6 (y 19) (Yw 4) (Yw 5) (Yw 6) (Yw 7) (Yw 8) wb pYw0_14 pYw0_15 pYw0_16))]) (rnV (rest := []) ⟨hx, hb, hml, hown, hg⟩ (k_X2_settle_0 l V n ft Yf x_25 0 f_30 f_31 v_32 hn hft (iv_w bx_25 (by first | decide | omega)) (iv_w (iv_c (0 : Int32) (a := 0) (b := 0) (by decide)) (by first | decide | omega)) tf_30 tf_31 bv_32 (by have q9 := BA_w inn_6_1 b_8; have q8 := b_8; have q7 := inc_toInt g_35 bu_5 (by omega); unfold iv at q8; omega)) mt_X2_settle q_5_138 ⟨Nat.le_of_ble_eq_true rfl, Nat.le_of_ble_eq_true rfl⟩ hK hP hD hS hA hE [3, 4, 5] rfl rfl 5 rfl rfl rfl rfl hl.1 rfl (Nat.le_of_ble_eq_true rfl) dX2_beginAt_94 ⟨Nat.le_of_ble_eq_true rfl, Nat.le_of_ble_eq_true rfl⟩) hP hD hS hA [3, 4, 5] [0, 1, 2] rfl rfl rfl (by decide) (fun  w H locs hw hP hD hS => ?_)
      obtain ⟨f_36, f_37, v_38, tf_36, tf_37, bv_38, g_39, g_40, g_41, rfl⟩ := hw
      have hP : va_P V.1 vwCl [(Yf 2, aI V (n + ft) f_27), (Yw 1, aI V n fYw1), (Yw 0, .inr (8, o8_iirrriirrrrrrriii pYw0_0 (nI n) (Yw 1) (Yw 2) wa pYw0_5 pYw0_6 (y 19) (Yw 4) (Yw 5) (Yw 6) (Yw 7) (Yw 8) wb pYw0_14 pYw0_15 pYw0_16)), (Yf 1, aI V ((n + ft) * 2) f_36), (Yf 3, aI V ((n + ft) * 2) f_37), (Yf 0, .inr (2, o2_irrrrri (nI (n + ft)) (Yf 1) (Yf 2) (Yf 3) (Yf 4) (Yf 5) v_38))] H := hP
      have hD := cpD hP hD
      obtain ⟨x_42, ex_42⟩ : ∃ z9 : Int32, z9 = u_1 + 1 := ⟨_, rfl⟩
      have bx_42 : iv 1 ((n : Int)) x_42 := by rw [ex_42]; exact iv_add b_8 (iv_c (1 : Int32) (a := 1) (b := 1) (by first | decide | omega)) (by first | decide | omega)
      refine lv_iinc (v := x_42) (lv' := [(4, .int x_42), (5, .int 1), (0, .ref (Yf 0)), (1, .ref (Yw 0)), (2, .int a2), (3, .int a3)]) hx hb dX2_beginAt_97 hl (k := 1) rfl (by rw [ex_42]; rfl) (by decide) rfl (fun ls hl => ?_)
      refine lv_goto (tgt := 8) hx hb dX2_beginAt_100 (by decide) ?_
      have hP := subP (ws' := [(Yf 1, aI V ((n + ft) * 2) f_36), (Yf 2, aI V (n + ft) f_27), (Yf 3, aI V ((n + ft) * 2) f_37), (Yw 1, aI V n fYw1), (Yf 0, .inr (2, o2_irrrrri (nI (n + ft)) (Yf 1) (Yf 2) (Yf 3) (Yf 4) (Yf 5) v_38)), (Yw 0, .inr (8, o8_iirrriirrrrrrriii pYw0_0 (nI n) (Yw 1) (Yw 2) wa pYw0_5 pYw0_6 (y 19) (Yw 4) (Yw 5) (Yw 6) (Yw 7) (Yw 8) wb pYw0_14 pYw0_15 pYw0_16))]) hP [3, 0, 4, 1, 5, 2] rfl
      have hD := subD hP hD [3, 0, 4, 1, 5, 2] rfl rfl
      exact ihn_6 _ _ _ _ (by rw [en_6, ex_42]; exact mu_up b_8 (by first | decide | omega)) ⟨x_42, f_36, f_27, f_37, v_38, (iv_w bx_42 (by first | decide | omega)), tf_36, tf_37, bv_38, (BA_so inn_6_0 inn_6_1 b_8 (by omega) ex_23 ex_25 ef_24 ef_26 ex_42 bu_5 (by omega) g_33 g_34 g_35 g_39 g_40 g_41).1, (BA_so inn_6_0 inn_6_1 b_8 (by omega) ex_23 ex_25 ef_24 ef_26 ex_42 bu_5 (by omega) g_33 g_34 g_35 g_39 g_40 g_41).2, rfl, hP, hD, hS, lv_sub hl [0, 2, 3, 4, 5] rfl⟩
theorem dX2_lookBackFrom_0 : decode cX2_lookBackFrom 0 = .ok (.iload_n 1, 1) := by decide +kernel
theorem dX2_lookBackFrom_1 : decode cX2_lookBackFrom 1 = .ok (.iconst 2, 1) := by decide +kernel
theorem dX2_lookBackFrom_2 : decode cX2_lookBackFrom 2 = .ok (.idiv, 1) := by decide +kernel
theorem dX2_lookBackFrom_3 : decode cX2_lookBackFrom 3 = .ok (.istore_n 2, 1) := by decide +kernel
theorem dX2_lookBackFrom_4 : decode cX2_lookBackFrom 4 = .ok (.iconst 1, 1) := by decide +kernel
theorem dX2_lookBackFrom_5 : decode cX2_lookBackFrom 5 = .ok (.iload_n 1, 1) := by decide +kernel
theorem dX2_lookBackFrom_6 : decode cX2_lookBackFrom 6 = .ok (.iconst 2, 1) := by decide +kernel
theorem dX2_lookBackFrom_7 : decode cX2_lookBackFrom 7 = .ok (.irem, 1) := by decide +kernel
theorem dX2_lookBackFrom_8 : decode cX2_lookBackFrom 8 = .ok (.isub, 1) := by decide +kernel
theorem dX2_lookBackFrom_9 : decode cX2_lookBackFrom 9 = .ok (.istore_n 3, 1) := by decide +kernel
theorem dX2_lookBackFrom_10 : decode cX2_lookBackFrom 10 = .ok (.aload_n 0, 1) := by decide +kernel
theorem dX2_lookBackFrom_11 : decode cX2_lookBackFrom 11 = .ok (.getfield 25, 3) := by decide +kernel
theorem dX2_lookBackFrom_14 : decode cX2_lookBackFrom 14 = .ok (.iload_n 2, 1) := by decide +kernel
theorem dX2_lookBackFrom_15 : decode cX2_lookBackFrom 15 = .ok (.iaload, 1) := by decide +kernel
theorem dX2_lookBackFrom_16 : decode cX2_lookBackFrom 16 = .ok (.istore 4, 2) := by decide +kernel
theorem dX2_lookBackFrom_18 : decode cX2_lookBackFrom 18 = .ok (.iload 4, 2) := by decide +kernel
theorem dX2_lookBackFrom_20 : decode cX2_lookBackFrom 20 = .ok (.aload_n 0, 1) := by decide +kernel
theorem dX2_lookBackFrom_21 : decode cX2_lookBackFrom 21 = .ok (.getfield 25, 3) := by decide +kernel
theorem dX2_lookBackFrom_24 : decode cX2_lookBackFrom 24 = .ok (.iload_n 2, 1) := by decide +kernel
theorem dX2_lookBackFrom_25 : decode cX2_lookBackFrom 25 = .ok (.iconst 1, 1) := by decide +kernel
theorem dX2_lookBackFrom_26 : decode cX2_lookBackFrom 26 = .ok (.iadd, 1) := by decide +kernel
theorem dX2_lookBackFrom_27 : decode cX2_lookBackFrom 27 = .ok (.iaload, 1) := by decide +kernel
theorem dX2_lookBackFrom_28 : decode cX2_lookBackFrom 28 = .ok (.if_icmp .ge 81, 3) := by decide +kernel
theorem dX2_lookBackFrom_109 : decode cX2_lookBackFrom 109 = .ok (.return_, 1) := by decide +kernel
theorem dX2_lookBackFrom_31 : decode cX2_lookBackFrom 31 = .ok (.aload_n 0, 1) := by decide +kernel
theorem dX2_lookBackFrom_32 : decode cX2_lookBackFrom 32 = .ok (.getfield 28, 3) := by decide +kernel
theorem dX2_lookBackFrom_35 : decode cX2_lookBackFrom 35 = .ok (.iload 4, 2) := by decide +kernel
theorem dX2_lookBackFrom_37 : decode cX2_lookBackFrom 37 = .ok (.iaload, 1) := by decide +kernel
theorem dX2_lookBackFrom_38 : decode cX2_lookBackFrom 38 = .ok (.istore 5, 2) := by decide +kernel
theorem dX2_lookBackFrom_40 : decode cX2_lookBackFrom 40 = .ok (.aload_n 0, 1) := by decide +kernel
theorem dX2_lookBackFrom_41 : decode cX2_lookBackFrom 41 = .ok (.getfield 15, 3) := by decide +kernel
theorem dX2_lookBackFrom_44 : decode cX2_lookBackFrom 44 = .ok (.iload 5, 2) := by decide +kernel
theorem dX2_lookBackFrom_46 : decode cX2_lookBackFrom 46 = .ok (.iconst 2, 1) := by decide +kernel
theorem dX2_lookBackFrom_47 : decode cX2_lookBackFrom 47 = .ok (.imul, 1) := by decide +kernel
theorem dX2_lookBackFrom_48 : decode cX2_lookBackFrom 48 = .ok (.iload_n 3, 1) := by decide +kernel
theorem dX2_lookBackFrom_49 : decode cX2_lookBackFrom 49 = .ok (.iadd, 1) := by decide +kernel
theorem dX2_lookBackFrom_50 : decode cX2_lookBackFrom 50 = .ok (.iaload, 1) := by decide +kernel
theorem dX2_lookBackFrom_51 : decode cX2_lookBackFrom 51 = .ok (.iconst (-1), 1) := by decide +kernel
theorem dX2_lookBackFrom_52 : decode cX2_lookBackFrom 52 = .ok (.if_icmp .ne 51, 3) := by decide +kernel
theorem dX2_lookBackFrom_103 : decode cX2_lookBackFrom 103 = .ok (.iinc 4 1, 3) := by decide +kernel
theorem dX2_lookBackFrom_106 : decode cX2_lookBackFrom 106 = .ok (.goto (-88), 3) := by decide +kernel
theorem dX2_lookBackFrom_55 : decode cX2_lookBackFrom 55 = .ok (.iload_n 3, 1) := by decide +kernel
theorem dX2_lookBackFrom_56 : decode cX2_lookBackFrom 56 = .ok (.iconst 1, 1) := by decide +kernel
theorem dX2_lookBackFrom_57 : decode cX2_lookBackFrom 57 = .ok (.if_icmp .ne 14, 3) := by decide +kernel
theorem dX2_lookBackFrom_71 : decode cX2_lookBackFrom 71 = .ok (.iload_n 3, 1) := by decide +kernel
theorem dX2_lookBackFrom_72 : decode cX2_lookBackFrom 72 = .ok (.ifCond .eq 13, 3) := by decide +kernel
theorem dX2_lookBackFrom_85 : decode cX2_lookBackFrom 85 = .ok (.aload_n 0, 1) := by decide +kernel
theorem dX2_lookBackFrom_86 : decode cX2_lookBackFrom 86 = .ok (.iload 5, 2) := by decide +kernel
theorem dX2_lookBackFrom_88 : decode cX2_lookBackFrom 88 = .ok (.iconst 2, 1) := by decide +kernel
theorem dX2_lookBackFrom_89 : decode cX2_lookBackFrom 89 = .ok (.imul, 1) := by decide +kernel
theorem dX2_lookBackFrom_90 : decode cX2_lookBackFrom 90 = .ok (.iload_n 3, 1) := by decide +kernel
theorem dX2_lookBackFrom_91 : decode cX2_lookBackFrom 91 = .ok (.iadd, 1) := by decide +kernel
theorem dX2_lookBackFrom_92 : decode cX2_lookBackFrom 92 = .ok (.aload_n 0, 1) := by decide +kernel
theorem dX2_lookBackFrom_93 : decode cX2_lookBackFrom 93 = .ok (.getfield 15, 3) := by decide +kernel
theorem dX2_lookBackFrom_96 : decode cX2_lookBackFrom 96 = .ok (.iload_n 1, 1) := by decide +kernel
theorem dX2_lookBackFrom_97 : decode cX2_lookBackFrom 97 = .ok (.iaload, 1) := by decide +kernel
theorem dX2_lookBackFrom_98 : decode cX2_lookBackFrom 98 = .ok (.iconst 1, 1) := by decide +kernel
theorem dX2_lookBackFrom_99 : decode cX2_lookBackFrom 99 = .ok (.iadd, 1) := by decide +kernel
theorem dX2_lookBackFrom_100 : decode cX2_lookBackFrom 100 = .ok (.invokevirtual 70, 3) := by decide +kernel
theorem dX2_lookBackFrom_60 : decode cX2_lookBackFrom 60 = .ok (.aload_n 0, 1) := by decide +kernel
theorem dX2_lookBackFrom_61 : decode cX2_lookBackFrom 61 = .ok (.getfield 19, 3) := by decide +kernel
theorem dX2_lookBackFrom_64 : decode cX2_lookBackFrom 64 = .ok (.iload 5, 2) := by decide +kernel
theorem dX2_lookBackFrom_66 : decode cX2_lookBackFrom 66 = .ok (.dup2, 1) := by decide +kernel
theorem dX2_lookBackFrom_67 : decode cX2_lookBackFrom 67 = .ok (.iaload, 1) := by decide +kernel
theorem dX2_lookBackFrom_68 : decode cX2_lookBackFrom 68 = .ok (.iconst 1, 1) := by decide +kernel
theorem dX2_lookBackFrom_69 : decode cX2_lookBackFrom 69 = .ok (.isub, 1) := by decide +kernel
theorem dX2_lookBackFrom_70 : decode cX2_lookBackFrom 70 = .ok (.iastore, 1) := by decide +kernel
theorem dX2_lookBackFrom_75 : decode cX2_lookBackFrom 75 = .ok (.aload_n 0, 1) := by decide +kernel
theorem dX2_lookBackFrom_76 : decode cX2_lookBackFrom 76 = .ok (.getfield 19, 3) := by decide +kernel
theorem dX2_lookBackFrom_79 : decode cX2_lookBackFrom 79 = .ok (.iload 5, 2) := by decide +kernel
theorem dX2_lookBackFrom_81 : decode cX2_lookBackFrom 81 = .ok (.iaload, 1) := by decide +kernel
theorem dX2_lookBackFrom_82 : decode cX2_lookBackFrom 82 = .ok (.ifCond .ne 21, 3) := by decide +kernel
set_option maxHeartbeats 4000000 in
set_option maxRecDepth 100000 in
theorem k_X2_lookBackFrom_0 (l : Launch) (V : GV) (n : Nat) (ft : Nat) (Yf : Nat → Nat) (a1 : Int32) (fYf4 : Nat → Int32) (fYf5 : Nat → Int32) (fYf1 : Nat → Int32) (fYf2 : Nat → Int32) (fYf3 : Nat → Int32) (pYf0_6 : Int32) (hn : 1 ≤ n ∧ n ≤ 3646) (hft : 0 ≤ ft ∧ ft ≤ 7290) (ba1 : iv 0 (2 * (ft : Int) + 2 * (n : Int) - 1) a1) (tfYf4 : ∀ j, iv 0 (4 * (ft : Int) + 4 * (n : Int)) (fYf4 j)) (tfYf5 : ∀ j, iv 0 ((ft : Int) + (n : Int) - 1) (fYf5 j)) (tfYf1 : ∀ j, iv (-1) (2 * (ft : Int) + 2 * (n : Int)) (fYf1 j)) (tfYf3 : ∀ j, iv 0 (2 * (ft : Int) + 2 * (n : Int) - 1) (fYf3 j)) (bpYf0_6 : iv 0 (2 * (ft : Int) + 2 * (n : Int)) pYf0_6) (hf0 : FQ pYf0_6 fYf1 fYf3 (2 * ((n : Int) + (ft : Int)))) (hf1 : FN pYf0_6 fYf1 ((n + ft) * 2) ((n + ft) * 2)) (hf2 : (fYf1 (a1 : Int32).toNatClampNeg).toInt < (pYf0_6 : Int32).toInt) : Ct l V yX2_lookBackFrom (.code yX2_lookBackFrom cX2_lookBackFrom 6 none) 2 [.ref (Yf 0), .int a1] [(Yf 4, aI V (n + ft + 1) fYf4), (Yf 5, aI V ((n + ft) * 4) fYf5), (Yf 1, aI V ((n + ft) * 2) fYf1), (Yf 2, aI V (n + ft) fYf2), (Yf 3, aI V ((n + ft) * 2) fYf3), (Yf 0, .inr (2, o2_irrrrri (nI (n + ft)) (Yf 1) (Yf 2) (Yf 3) (Yf 4) (Yf 5) pYf0_6))] 0 0 (QV V (fun (w : va_W) => ∃ (g0 : Nat → Int32) (g1 : Nat → Int32) (g2 : Nat → Int32) (v3 : Int32), (∀ j, iv (-1) (2 * (ft : Int) + 2 * (n : Int)) (g0 j)) ∧ (∀ j, iv 0 (2 * (ft : Int) + 2 * (n : Int) - 1) (g2 j)) ∧ iv 0 (2 * (ft : Int) + 2 * (n : Int)) v3 ∧ (FQ v3 g0 g2 (2 * ((n : Int) + (ft : Int)))) ∧ (FN v3 g0 ((n + ft) * 2) ((n + ft) * 2)) ∧ w = [(Yf 4, aI V (n + ft + 1) fYf4), (Yf 5, aI V ((n + ft) * 4) fYf5), (Yf 1, aI V ((n + ft) * 2) g0), (Yf 2, aI V (n + ft) g1), (Yf 3, aI V ((n + ft) * 2) g2), (Yf 0, .inr (2, o2_irrrrri (nI (n + ft)) (Yf 1) (Yf 2) (Yf 3) (Yf 4) (Yf 5) v3))])) := by
  refine Ct.of (by decide) (Nat.le_of_ble_eq_true rfl) (fun p e s m below meth c A ls hx hb hr hml hown hlk hnm hg hP hK hD hE hA hS hl => ?_)
  have hl : lv_has ls 6 [(0, .ref (Yf 0)), (1, .int a1)] := hl
  refine lv_iload_n hx hb dX2_lookBackFrom_0 rfl (lv_at hl 1 rfl) ?_
  refine lv_iconst (v := 2) hx hb dX2_lookBackFrom_1 (by decide) ?_
  refine lv_idiv hx hb dX2_lookBackFrom_2 (by decide) ?_
  refine lv_topi (fun x_1 ex_1 => ?_)
  have bx_1 : iv 0 ((ft : Int) + (n : Int) - 1) x_1 := by rw [ex_1]; exact iv_divp ba1 (k := 2) (by first | decide | omega) (by first | decide | omega)
  refine lv_istore_n (lv' := [(2, .int x_1), (0, .ref (Yf 0)), (1, .int a1)]) hx hb dX2_lookBackFrom_3 rfl hl (by decide) rfl (fun ls hl => ?_)
  refine lv_iconst (v := 1) hx hb dX2_lookBackFrom_4 (by decide) ?_
  refine lv_iload_n hx hb dX2_lookBackFrom_5 rfl (lv_at hl 2 rfl) ?_
  refine lv_iconst (v := 2) hx hb dX2_lookBackFrom_6 (by decide) ?_
  refine lv_irem hx hb dX2_lookBackFrom_7 (by decide) ?_
  refine lv_topi (fun x_2 ex_2 => ?_)
  have bx_2 : iv 0 1 x_2 := by rw [ex_2]; exact iv_remp ba1 (k := 2) (by first | decide | omega) (by first | decide | omega)
  refine lv_isub hx hb dX2_lookBackFrom_8 ?_
  refine lv_topi (fun x_3 ex_3 => ?_)
  have bx_3 : iv 0 1 x_3 := by rw [ex_3]; exact iv_sub (iv_c (1 : Int32) (a := 1) (b := 1) (by decide)) bx_2 (by first | decide | omega)
  refine lv_istore_n (lv' := [(3, .int x_3), (2, .int x_1), (0, .ref (Yf 0)), (1, .int a1)]) hx hb dX2_lookBackFrom_9 rfl hl (by decide) rfl (fun ls hl => ?_)
  refine lv_aload_n hx hb dX2_lookBackFrom_10 rfl (lv_at hl 2 rfl) ?_
  refine va_get (ci := 2) (v := .ref (Yf 4)) (C := RX2) (T := TX2) (N := 7) hx hb hg inX2 hown hK hP 5 rfl rfl 4 (by decide) (hg _ q_5_105) (fun _ h9 => h9) rfl dX2_lookBackFrom_11 ?_
  refine lv_iload_n hx hb dX2_lookBackFrom_14 rfl (lv_at hl 1 rfl) ?_
  refine va_iald hx hb hK hP 0 0 rfl rfl (iv_in bx_1 (by first | decide | omega)) dX2_lookBackFrom_15 ?_
  refine lv_topi (fun x_4 ex_4 => ?_)
  have bx_4 : iv 0 (4 * (ft : Int) + 4 * (n : Int)) x_4 := by rw [ex_4]; exact tfYf4 _
  refine lv_istore (lv' := [(4, .int x_4), (3, .int x_3), (2, .int x_1), (0, .ref (Yf 0)), (1, .int a1)]) hx hb dX2_lookBackFrom_16 hl (by decide) rfl (fun ls hl => ?_)
  refine loopF (X := fun (n_10 : Nat) (H : Heap) (locs : List Loc) (ls : Array Slot) => ∃ (u_5 : Int32) (f_6 : Nat → Int32) (f_7 : Nat → Int32) (f_8 : Nat → Int32) (u_9 : Int32), (iv 0 (4 * (ft : Int) + 4 * (n : Int)) u_5) ∧ (∀ j, iv (-1) (2 * (ft : Int) + 2 * (n : Int)) (f_6 j)) ∧ (∀ j, iv 0 (2 * (ft : Int) + 2 * (n : Int) - 1) (f_8 j)) ∧ (iv 0 (2 * (ft : Int) + 2 * (n : Int)) u_9) ∧ ((f_6 (a1 : Int32).toNatClampNeg).toInt < (u_9 : Int32).toInt) ∧ (FQ u_9 f_6 f_8 (2 * ((n : Int) + (ft : Int)))) ∧ (FN u_9 f_6 ((n + ft) * 2) ((n + ft) * 2)) ∧ n_10 = (2147483647 - (u_5 : Int32).toInt).toNat ∧ va_P V.1 vwCl [(Yf 4, aI V (n + ft + 1) fYf4), (Yf 5, aI V ((n + ft) * 4) fYf5), (Yf 1, aI V ((n + ft) * 2) f_6), (Yf 2, aI V (n + ft) f_7), (Yf 3, aI V ((n + ft) * 2) f_8), (Yf 0, .inr (2, o2_irrrrri (nI (n + ft)) (Yf 1) (Yf 2) (Yf 3) (Yf 4) (Yf 5) u_9))] H ∧ va_D A [(Yf 4, aI V (n + ft + 1) fYf4), (Yf 5, aI V ((n + ft) * 4) fYf5), (Yf 1, aI V ((n + ft) * 2) f_6), (Yf 2, aI V (n + ft) f_7), (Yf 3, aI V ((n + ft) * 2) f_8), (Yf 0, .inr (2, o2_irrrrri (nI (n + ft)) (Yf 1) (Yf 2) (Yf 3) (Yf 4) (Yf 5) u_9))] ∧ va_S A s.heap H locs ∧ lv_has ls 6 [(4, .int u_5), (3, .int x_3), (2, .int x_1), (0, .ref (Yf 0)), (1, .int a1)]) (g := fun ls => F0 m 18 ls []) (fun n_10 H locs ls hX ihn_10 => ?_) _ ⟨x_4, fYf1, fYf2, fYf3, pYf0_6, bx_4, tfYf1, tfYf3, bpYf0_6, hf2, hf0, hf1, rfl, hP, hD, hS, lv_sub hl [0, 1, 2, 3, 4] rfl⟩
  obtain ⟨u_5, f_6, f_7, f_8, u_9, bu_5, tf_6, tf_8, bu_9, inn_10_0, inn_10_1, inn_10_2, en_10, hP, hD, hS, hl⟩ := hX
  refine lv_iload hx hb dX2_lookBackFrom_18 (lv_at hl 0 rfl) ?_
  refine lv_aload_n hx hb dX2_lookBackFrom_20 rfl (lv_at hl 3 rfl) ?_
  refine va_get (ci := 2) (v := .ref (Yf 4)) (C := RX2) (T := TX2) (N := 7) hx hb hg inX2 hown hK hP 5 rfl rfl 4 (by decide) (hg _ q_5_105) (fun _ h9 => h9) rfl dX2_lookBackFrom_21 ?_
  refine lv_iload_n hx hb dX2_lookBackFrom_24 rfl (lv_at hl 2 rfl) ?_
  refine lv_iconst (v := 1) hx hb dX2_lookBackFrom_25 (by decide) ?_
  refine lv_iadd hx hb dX2_lookBackFrom_26 ?_
  refine lv_topi (fun x_11 ex_11 => ?_)
  have bx_11 : iv 1 ((ft : Int) + (n : Int)) x_11 := by rw [ex_11]; exact iv_add bx_1 (iv_c (1 : Int32) (a := 1) (b := 1) (by decide)) (by first | decide | omega)
  refine va_iald hx hb hK hP 0 0 rfl rfl (iv_in bx_11 (by first | decide | omega)) dX2_lookBackFrom_27 ?_
  refine lv_topi (fun x_12 ex_12 => ?_)
  have bx_12 : iv 0 (4 * (ft : Int) + 4 * (n : Int)) x_12 := by rw [ex_12]; exact tfYf4 _
  refine lv_icmp_ge (tgt := 109) hx hb dX2_lookBackFrom_28 (by decide) (fun c_13 => ?_) (fun c_13 => ?_)
  · exact fiV hx hb hr hlk hK hP hD hS dX2_lookBackFrom_109 (Nat.le_of_ble_eq_true rfl) (Nat.le_of_ble_eq_true rfl) (⟨f_6, f_7, f_8, u_9, tf_6, tf_8, bu_9, inn_10_1, inn_10_2, rfl⟩)
  · have b_14 : iv 0 (4 * (ft : Int) + 4 * (n : Int) - 1) u_5 := iv_l1 (Int32.not_le.mp c_13) bu_5 bx_12 (by first | decide | omega)
    have b_15 : iv 1 (4 * (ft : Int) + 4 * (n : Int)) x_12 := iv_l2 (Int32.not_le.mp c_13) bu_5 bx_12 (by first | decide | omega)
    refine lv_aload_n hx hb dX2_lookBackFrom_31 rfl (lv_at hl 3 rfl) ?_
    refine va_get (ci := 2) (v := .ref (Yf 5)) (C := RX2) (T := TX2) (N := 7) hx hb hg inX2 hown hK hP 5 rfl rfl 5 (by decide) (hg _ q_5_106) (fun _ h9 => h9) rfl dX2_lookBackFrom_32 ?_
    refine lv_iload hx hb dX2_lookBackFrom_35 (lv_at hl 0 rfl) ?_
    refine va_iald hx hb hK hP 1 0 rfl rfl (iv_in b_14 (by first | decide | omega)) dX2_lookBackFrom_37 ?_
    refine lv_topi (fun x_16 ex_16 => ?_)
    have bx_16 : iv 0 ((ft : Int) + (n : Int) - 1) x_16 := by rw [ex_16]; exact tfYf5 _
    refine lv_istore (lv' := [(5, .int x_16), (4, .int u_5), (3, .int x_3), (2, .int x_1), (0, .ref (Yf 0)), (1, .int a1)]) hx hb dX2_lookBackFrom_38 hl (by decide) rfl (fun ls hl => ?_)
    refine lv_aload_n hx hb dX2_lookBackFrom_40 rfl (lv_at hl 4 rfl) ?_
    refine va_get (ci := 2) (v := .ref (Yf 1)) (C := RX2) (T := TX2) (N := 7) hx hb hg inX2 hown hK hP 5 rfl rfl 1 (by decide) (hg _ q_5_102) (fun _ h9 => h9) rfl dX2_lookBackFrom_41 ?_
    refine lv_iload hx hb dX2_lookBackFrom_44 (lv_at hl 0 rfl) ?_
    refine lv_iconst (v := 2) hx hb dX2_lookBackFrom_46 (by decide) ?_
    refine lv_imul hx hb dX2_lookBackFrom_47 ?_
    refine lv_topi (fun x_17 ex_17 => ?_)
    have bx_17 : iv 0 (2 * (ft : Int) + 2 * (n : Int) - 2) x_17 := by rw [ex_17]; exact iv_mulc bx_16 (iv_c (2 : Int32) (a := 2) (b := 2) (by decide)) (by first | decide | omega)
    refine lv_iload_n hx hb dX2_lookBackFrom_48 rfl (lv_at hl 2 rfl) ?_
    refine lv_iadd hx hb dX2_lookBackFrom_49 ?_
    refine lv_topi (fun x_18 ex_18 => ?_)
    have bx_18 : iv 0 (2 * (ft : Int) + 2 * (n : Int) - 1) x_18 := by rw [ex_18]; exact iv_add bx_17 bx_3 (by first | decide | omega)
    refine va_iald hx hb hK hP 2 0 rfl rfl (iv_in bx_18 (by first | decide | omega)) dX2_lookBackFrom_50 ?_
    refine lv_topi (fun x_19 ex_19 => ?_)
    have bx_19 : iv (-1) (2 * (ft : Int) + 2 * (n : Int)) x_19 := by rw [ex_19]; exact tf_6 _
    refine lv_iconst (v := (-1)) hx hb dX2_lookBackFrom_51 (by decide) ?_
    refine lv_icmp_ne (tgt := 103) hx hb dX2_lookBackFrom_52 (by decide) (fun c_20 => ?_) (fun c_20 => ?_)
    · have b_21 : iv 0 (2 * (ft : Int) + 2 * (n : Int)) x_19 := iv_n0 c_20 bx_19 (iv_c ((-1) : Int32) (a := (-1)) (b := (-1)) (by decide)) (by first | decide | omega)
      obtain ⟨x_22, ex_22⟩ : ∃ z9 : Int32, z9 = u_5 + 1 := ⟨_, rfl⟩
      have bx_22 : iv 1 (4 * (ft : Int) + 4 * (n : Int)) x_22 := by rw [ex_22]; exact iv_add b_14 (iv_c (1 : Int32) (a := 1) (b := 1) (by first | decide | omega)) (by first | decide | omega)
      refine lv_iinc (v := x_22) (lv' := [(4, .int x_22), (5, .int x_16), (3, .int x_3), (2, .int x_1), (0, .ref (Yf 0)), (1, .int a1)]) hx hb dX2_lookBackFrom_103 hl (k := 1) rfl (by rw [ex_22]; rfl) (by decide) rfl (fun ls hl => ?_)
      refine lv_goto (tgt := 18) hx hb dX2_lookBackFrom_106 (by decide) ?_
      exact ihn_10 _ _ _ _ (by rw [en_10, ex_22]; exact mu_up b_14 (by first | decide | omega)) ⟨x_22, f_6, f_7, f_8, u_9, (iv_w bx_22 (by first | decide | omega)), tf_6, tf_8, bu_9, inn_10_0, inn_10_1, inn_10_2, rfl, hP, hD, hS, lv_sub hl [0, 2, 3, 4, 5] rfl⟩
    · have b_23 : iv (-1) (-1) x_19 := iv_q c_20 (iv_c ((-1) : Int32) (a := (-1)) (b := (-1)) (by decide))
      refine lv_iload_n hx hb dX2_lookBackFrom_55 rfl (lv_at hl 2 rfl) ?_
      refine lv_iconst (v := 1) hx hb dX2_lookBackFrom_56 (by decide) ?_
      refine lv_icmp_ne (tgt := 71) hx hb dX2_lookBackFrom_57 (by decide) (fun c_24 => ?_) (fun c_24 => ?_)
      · have b_25 : iv 0 0 x_3 := iv_n1 c_24 bx_3 (iv_c (1 : Int32) (a := 1) (b := 1) (by decide)) (by first | decide | omega)
        refine lv_iload_n hx hb dX2_lookBackFrom_71 rfl (lv_at hl 2 rfl) ?_
        refine lv_if_eq (tgt := 85) hx hb dX2_lookBackFrom_72 (by decide) (fun _ => ?_) (fun c_26 => absurd (iv_eqp b_25 (iv_c (0 : Int32) (a := 0) (b := 0) (by decide))) c_26)
        refine lv_aload_n hx hb dX2_lookBackFrom_85 rfl (lv_at hl 4 rfl) ?_
        refine lv_iload hx hb dX2_lookBackFrom_86 (lv_at hl 0 rfl) ?_
        refine lv_iconst (v := 2) hx hb dX2_lookBackFrom_88 (by decide) ?_
        refine lv_imul hx hb dX2_lookBackFrom_89 ?_
        refine tpi (y := x_17) ex_17.symm ?_
        refine lv_iload_n hx hb dX2_lookBackFrom_90 rfl (lv_at hl 2 rfl) ?_
        refine lv_iadd hx hb dX2_lookBackFrom_91 ?_
        refine tpi (y := x_18) ex_18.symm ?_
        refine lv_aload_n hx hb dX2_lookBackFrom_92 rfl (lv_at hl 4 rfl) ?_
        refine va_get (ci := 2) (v := .ref (Yf 1)) (C := RX2) (T := TX2) (N := 7) hx hb hg inX2 hown hK hP 5 rfl rfl 1 (by decide) (hg _ q_5_102) (fun _ h9 => h9) rfl dX2_lookBackFrom_93 ?_
        refine lv_iload_n hx hb dX2_lookBackFrom_96 rfl (lv_at hl 5 rfl) ?_
        refine va_iald hx hb hK hP 2 0 rfl rfl (iv_in ba1 (by first | decide | omega)) dX2_lookBackFrom_97 ?_
        refine lv_topi (fun x_27 ex_27 => ?_)
        have bx_27 : iv (-1) (2 * (ft : Int) + 2 * (n : Int)) x_27 := by rw [ex_27]; exact tf_6 _
        have b_28 : iv (-1) (2 * (ft : Int) + 2 * (n : Int) - 1) x_27 := by have q9 := inn_10_0; have q8 := bx_27; have q7 := bu_9; rw [← ex_27] at q9; unfold iv at *; omega
        refine lv_iconst (v := 1) hx hb dX2_lookBackFrom_98 (by decide) ?_
        refine lv_iadd hx hb dX2_lookBackFrom_99 ?_
        refine lv_topi (fun x_29 ex_29 => ?_)
        have bx_29 : iv 0 (2 * (ft : Int) + 2 * (n : Int)) x_29 := by rw [ex_29]; exact iv_add b_28 (iv_c (1 : Int32) (a := 1) (b := 1) (by decide)) (by first | decide | omega)
        refine jnV (wr := [(Yf 4, aI V (n + ft + 1) fYf4), (Yf 5, aI V ((n + ft) * 4) fYf5), (Yf 2, aI V (n + ft) f_7)]) (rnV (rest := []) ⟨hx, hb, hml, hown, hg⟩ (k_X2_settle_0 l V n ft Yf x_18 x_29 f_6 f_8 u_9 hn hft bx_18 bx_29 tf_6 tf_8 bu_9 (by have q7 := FN_lt inn_10_2 (ex_19.symm.trans c_20) (by have q9 := bx_18; have q8 := clampNat q9.1; unfold iv at q9; omega); omega)) mt_X2_settle q_5_138 ⟨Nat.le_of_ble_eq_true rfl, Nat.le_of_ble_eq_true rfl⟩ hK hP hD hS hA hE [2, 4, 5] rfl rfl 5 rfl rfl rfl rfl hl.1 rfl (Nat.le_of_ble_eq_true rfl) dX2_lookBackFrom_100 ⟨Nat.le_of_ble_eq_true rfl, Nat.le_of_ble_eq_true rfl⟩) hP hD hS hA [2, 4, 5] [0, 1, 3] rfl rfl rfl (by decide) (fun  w H locs hw hP hD hS => ?_)
        obtain ⟨f_30, f_31, v_32, tf_30, tf_31, bv_32, g_33, g_34, g_35, rfl⟩ := hw
        have hP : va_P V.1 vwCl [(Yf 4, aI V (n + ft + 1) fYf4), (Yf 5, aI V ((n + ft) * 4) fYf5), (Yf 2, aI V (n + ft) f_7), (Yf 1, aI V ((n + ft) * 2) f_30), (Yf 3, aI V ((n + ft) * 2) f_31), (Yf 0, .inr (2, o2_irrrrri (nI (n + ft)) (Yf 1) (Yf 2) (Yf 3) (Yf 4) (Yf 5) v_32))] H := hP
        have hD := cpD hP hD
        obtain ⟨x_36, ex_36⟩ : ∃ z9 : Int32, z9 = u_5 + 1 := ⟨_, rfl⟩
        have bx_36 : iv 1 (4 * (ft : Int) + 4 * (n : Int)) x_36 := by rw [ex_36]; exact iv_add b_14 (iv_c (1 : Int32) (a := 1) (b := 1) (by first | decide | omega)) (by first | decide | omega)
        refine lv_iinc (v := x_36) (lv' := [(4, .int x_36), (5, .int x_16), (3, .int x_3), (2, .int x_1), (0, .ref (Yf 0)), (1, .int a1)]) hx hb dX2_lookBackFrom_103 hl (k := 1) rfl (by rw [ex_36]; rfl) (by decide) rfl (fun ls hl => ?_)
        refine lv_goto (tgt := 18) hx hb dX2_lookBackFrom_106 (by decide) ?_
        have hP := subP (ws' := [(Yf 4, aI V (n + ft + 1) fYf4), (Yf 5, aI V ((n + ft) * 4) fYf5), (Yf 1, aI V ((n + ft) * 2) f_30), (Yf 2, aI V (n + ft) f_7), (Yf 3, aI V ((n + ft) * 2) f_31), (Yf 0, .inr (2, o2_irrrrri (nI (n + ft)) (Yf 1) (Yf 2) (Yf 3) (Yf 4) (Yf 5) v_32))]) hP [0, 1, 3, 2, 4, 5] rfl
        have hD := subD hP hD [0, 1, 3, 2, 4, 5] rfl rfl
        exact ihn_10 _ _ _ _ (by rw [en_10, ex_36]; exact mu_up b_14 (by first | decide | omega)) ⟨x_36, f_30, f_7, f_31, v_32, (iv_w bx_36 (by first | decide | omega)), tf_30, tf_31, bv_32, (LB_s inn_10_0 (inc_toInt g_35 bu_9 (by omega)) g_33 (by have q9 := inc_toInt ex_29 b_28 (by omega); have q8 := inn_10_0; rw [← ex_27] at q8; omega)), (by rw [g_33, g_34]; exact FQ_s inn_10_1 bu_9.1 (inc_toInt g_35 bu_9 (by omega)) (ex_19.symm.trans c_20) (by have q9 := bx_18; unfold iv at q9; omega) (by have q9 := bx_18; unfold iv at q9; omega) (by have q9 := bx_29; unfold iv at q9; omega) (by have q9 := inc_toInt ex_29 b_28 (by omega); have q8 := inn_10_0; rw [← ex_27] at q8; omega)), (by rw [g_33]; exact FN_s inn_10_2 (inc_toInt g_35 bu_9 (by omega)) (ex_19.symm.trans c_20) (by have q9 := bx_18; have q8 := clampNat q9.1; unfold iv at q9; omega) (ne_m1 (by have q9 := bx_29; unfold iv at q9; omega))), rfl, hP, hD, hS, lv_sub hl [0, 2, 3, 4, 5] rfl⟩
      · have b_37 : iv 1 1 x_3 := iv_q c_24 (iv_c (1 : Int32) (a := 1) (b := 1) (by decide))
        refine lv_aload_n hx hb dX2_lookBackFrom_60 rfl (lv_at hl 4 rfl) ?_
        refine va_get (ci := 2) (v := .ref (Yf 2)) (C := RX2) (T := TX2) (N := 7) hx hb hg inX2 hown hK hP 5 rfl rfl 2 (by decide) (hg _ q_5_103) (fun _ h9 => h9) rfl dX2_lookBackFrom_61 ?_
        refine lv_iload hx hb dX2_lookBackFrom_64 (lv_at hl 0 rfl) ?_
        refine lv_dup2_11 hx hb dX2_lookBackFrom_66 rfl rfl ?_
        refine va_iald hx hb hK hP 3 0 rfl rfl (iv_in bx_16 (by first | decide | omega)) dX2_lookBackFrom_67 ?_
        refine lv_topi (fun x_38 ex_38 => ?_)
        refine lv_iconst (v := 1) hx hb dX2_lookBackFrom_68 (by decide) ?_
        refine lv_isub hx hb dX2_lookBackFrom_69 ?_
        refine lv_topi (fun x_39 ex_39 => ?_)
        refine va_iast hx hb hK hP hD hS 3 0 rfl rfl (iv_in bx_16 (by first | decide | omega)) dX2_lookBackFrom_70 (fun H locs hP hD hS => ?_)
        obtain ⟨f_40, hP, hD⟩ : ∃ f_40 : Nat → Int32, va_P V.1 vwCl [(Yf 4, aI V (n + ft + 1) fYf4), (Yf 5, aI V ((n + ft) * 4) fYf5), (Yf 1, aI V ((n + ft) * 2) f_6), (Yf 2, aI V (n + ft) f_40), (Yf 3, aI V ((n + ft) * 2) f_8), (Yf 0, .inr (2, o2_irrrrri (nI (n + ft)) (Yf 1) (Yf 2) (Yf 3) (Yf 4) (Yf 5) u_9))] H ∧ va_D A [(Yf 4, aI V (n + ft + 1) fYf4), (Yf 5, aI V ((n + ft) * 4) fYf5), (Yf 1, aI V ((n + ft) * 2) f_6), (Yf 2, aI V (n + ft) f_40), (Yf 3, aI V ((n + ft) * 2) f_8), (Yf 0, .inr (2, o2_irrrrri (nI (n + ft)) (Yf 1) (Yf 2) (Yf 3) (Yf 4) (Yf 5) u_9))] := ⟨_, hP, hD⟩
        refine lv_iload_n hx hb dX2_lookBackFrom_71 rfl (lv_at hl 2 rfl) ?_
        refine lv_if_eq (tgt := 85) hx hb dX2_lookBackFrom_72 (by decide) (fun c_41 => absurd c_41 (iv_ne b_37 (iv_c (0 : Int32) (a := 0) (b := 0) (by decide)) (by first | decide | omega))) (fun _ => ?_)
        refine lv_aload_n hx hb dX2_lookBackFrom_75 rfl (lv_at hl 4 rfl) ?_
        refine va_get (ci := 2) (v := .ref (Yf 2)) (C := RX2) (T := TX2) (N := 7) hx hb hg inX2 hown hK hP 5 rfl rfl 2 (by decide) (hg _ q_5_103) (fun _ h9 => h9) rfl dX2_lookBackFrom_76 ?_
        refine lv_iload hx hb dX2_lookBackFrom_79 (lv_at hl 0 rfl) ?_
        refine va_iald hx hb hK hP 3 0 rfl rfl (iv_in bx_16 (by first | decide | omega)) dX2_lookBackFrom_81 ?_
        refine lv_topi (fun x_42 ex_42 => ?_)
        refine lv_if_ne (tgt := 103) hx hb dX2_lookBackFrom_82 (by decide) (fun c_43 => ?_) (fun c_43 => ?_)
        · obtain ⟨x_44, ex_44⟩ : ∃ z9 : Int32, z9 = u_5 + 1 := ⟨_, rfl⟩
          have bx_44 : iv 1 (4 * (ft : Int) + 4 * (n : Int)) x_44 := by rw [ex_44]; exact iv_add b_14 (iv_c (1 : Int32) (a := 1) (b := 1) (by first | decide | omega)) (by first | decide | omega)
          refine lv_iinc (v := x_44) (lv' := [(4, .int x_44), (5, .int x_16), (3, .int x_3), (2, .int x_1), (0, .ref (Yf 0)), (1, .int a1)]) hx hb dX2_lookBackFrom_103 hl (k := 1) rfl (by rw [ex_44]; rfl) (by decide) rfl (fun ls hl => ?_)
          refine lv_goto (tgt := 18) hx hb dX2_lookBackFrom_106 (by decide) ?_
          exact ihn_10 _ _ _ _ (by rw [en_10, ex_44]; exact mu_up b_14 (by first | decide | omega)) ⟨x_44, f_6, f_40, f_8, u_9, (iv_w bx_44 (by first | decide | omega)), tf_6, tf_8, bu_9, inn_10_0, inn_10_1, inn_10_2, rfl, hP, hD, hS, lv_sub hl [0, 2, 3, 4, 5] rfl⟩
        · have b_45 : iv 0 0 x_42 := iv_q c_43 (iv_c (0 : Int32) (a := 0) (b := 0) (by decide))
          refine lv_aload_n hx hb dX2_lookBackFrom_85 rfl (lv_at hl 4 rfl) ?_
          refine lv_iload hx hb dX2_lookBackFrom_86 (lv_at hl 0 rfl) ?_
          refine lv_iconst (v := 2) hx hb dX2_lookBackFrom_88 (by decide) ?_
          refine lv_imul hx hb dX2_lookBackFrom_89 ?_
          refine tpi (y := x_17) ex_17.symm ?_
          refine lv_iload_n hx hb dX2_lookBackFrom_90 rfl (lv_at hl 2 rfl) ?_
          refine lv_iadd hx hb dX2_lookBackFrom_91 ?_
          refine tpi (y := x_18) ex_18.symm ?_
          refine lv_aload_n hx hb dX2_lookBackFrom_92 rfl (lv_at hl 4 rfl) ?_
          refine va_get (ci := 2) (v := .ref (Yf 1)) (C := RX2) (T := TX2) (N := 7) hx hb hg inX2 hown hK hP 5 rfl rfl 1 (by decide) (hg _ q_5_102) (fun _ h9 => h9) rfl dX2_lookBackFrom_93 ?_
          refine lv_iload_n hx hb dX2_lookBackFrom_96 rfl (lv_at hl 5 rfl) ?_
          refine va_iald hx hb hK hP 2 0 rfl rfl (iv_in ba1 (by first | decide | omega)) dX2_lookBackFrom_97 ?_
          refine lv_topi (fun x_46 ex_46 => ?_)
          have bx_46 : iv (-1) (2 * (ft : Int) + 2 * (n : Int)) x_46 := by rw [ex_46]; exact tf_6 _
          have b_47 : iv (-1) (2 * (ft : Int) + 2 * (n : Int) - 1) x_46 := by have q9 := inn_10_0; have q8 := bx_46; have q7 := bu_9; rw [← ex_46] at q9; unfold iv at *; omega
          refine lv_iconst (v := 1) hx hb dX2_lookBackFrom_98 (by decide) ?_
          refine lv_iadd hx hb dX2_lookBackFrom_99 ?_
          refine lv_topi (fun x_48 ex_48 => ?_)
          have bx_48 : iv 0 (2 * (ft : Int) + 2 * (n : Int)) x_48 := by rw [ex_48]; exact iv_add b_47 (iv_c (1 : Int32) (a := 1) (b := 1) (by decide)) (by first | decide | omega)
          refine jnV (wr := [(Yf 4, aI V (n + ft + 1) fYf4), (Yf 5, aI V ((n + ft) * 4) fYf5), (Yf 2, aI V (n + ft) f_40)]) (rnV (rest := []) ⟨hx, hb, hml, hown, hg⟩ (k_X2_settle_0 l V n ft Yf x_18 x_48 f_6 f_8 u_9 hn hft bx_18 bx_48 tf_6 tf_8 bu_9 (by have q7 := FN_lt inn_10_2 (ex_19.symm.trans c_20) (by have q9 := bx_18; have q8 := clampNat q9.1; unfold iv at q9; omega); omega)) mt_X2_settle q_5_138 ⟨Nat.le_of_ble_eq_true rfl, Nat.le_of_ble_eq_true rfl⟩ hK hP hD hS hA hE [2, 4, 5] rfl rfl 5 rfl rfl rfl rfl hl.1 rfl (Nat.le_of_ble_eq_true rfl) dX2_lookBackFrom_100 ⟨Nat.le_of_ble_eq_true rfl, Nat.le_of_ble_eq_true rfl⟩) hP hD hS hA [2, 4, 5] [0, 1, 3] rfl rfl rfl (by decide) (fun  w H locs hw hP hD hS => ?_)
          obtain ⟨f_49, f_50, v_51, tf_49, tf_50, bv_51, g_52, g_53, g_54, rfl⟩ := hw
          have hP : va_P V.1 vwCl [(Yf 4, aI V (n + ft + 1) fYf4), (Yf 5, aI V ((n + ft) * 4) fYf5), (Yf 2, aI V (n + ft) f_40), (Yf 1, aI V ((n + ft) * 2) f_49), (Yf 3, aI V ((n + ft) * 2) f_50), (Yf 0, .inr (2, o2_irrrrri (nI (n + ft)) (Yf 1) (Yf 2) (Yf 3) (Yf 4) (Yf 5) v_51))] H := hP
          have hD := cpD hP hD
          obtain ⟨x_55, ex_55⟩ : ∃ z9 : Int32, z9 = u_5 + 1 := ⟨_, rfl⟩
          have bx_55 : iv 1 (4 * (ft : Int) + 4 * (n : Int)) x_55 := by rw [ex_55]; exact iv_add b_14 (iv_c (1 : Int32) (a := 1) (b := 1) (by first | decide | omega)) (by first | decide | omega)
          refine lv_iinc (v := x_55) (lv' := [(4, .int x_55), (5, .int x_16), (3, .int x_3), (2, .int x_1), (0, .ref (Yf 0)), (1, .int a1)]) hx hb dX2_lookBackFrom_103 hl (k := 1) rfl (by rw [ex_55]; rfl) (by decide) rfl (fun ls hl => ?_)
          refine lv_goto (tgt := 18) hx hb dX2_lookBackFrom_106 (by decide) ?_
          have hP := subP (ws' := [(Yf 4, aI V (n + ft + 1) fYf4), (Yf 5, aI V ((n + ft) * 4) fYf5), (Yf 1, aI V ((n + ft) * 2) f_49), (Yf 2, aI V (n + ft) f_40), (Yf 3, aI V ((n + ft) * 2) f_50), (Yf 0, .inr (2, o2_irrrrri (nI (n + ft)) (Yf 1) (Yf 2) (Yf 3) (Yf 4) (Yf 5) v_51))]) hP [0, 1, 3, 2, 4, 5] rfl
          have hD := subD hP hD [0, 1, 3, 2, 4, 5] rfl rfl
          exact ihn_10 _ _ _ _ (by rw [en_10, ex_55]; exact mu_up b_14 (by first | decide | omega)) ⟨x_55, f_49, f_40, f_50, v_51, (iv_w bx_55 (by first | decide | omega)), tf_49, tf_50, bv_51, (LB_s inn_10_0 (inc_toInt g_54 bu_9 (by omega)) g_52 (by have q9 := inc_toInt ex_48 b_47 (by omega); have q8 := inn_10_0; rw [← ex_46] at q8; omega)), (by rw [g_52, g_53]; exact FQ_s inn_10_1 bu_9.1 (inc_toInt g_54 bu_9 (by omega)) (ex_19.symm.trans c_20) (by have q9 := bx_18; unfold iv at q9; omega) (by have q9 := bx_18; unfold iv at q9; omega) (by have q9 := bx_48; unfold iv at q9; omega) (by have q9 := inc_toInt ex_48 b_47 (by omega); have q8 := inn_10_0; rw [← ex_46] at q8; omega)), (by rw [g_52]; exact FN_s inn_10_2 (inc_toInt g_54 bu_9 (by omega)) (ex_19.symm.trans c_20) (by have q9 := bx_18; have q8 := clampNat q9.1; unfold iv at q9; omega) (ne_m1 (by have q9 := bx_48; unfold iv at q9; omega))), rfl, hP, hD, hS, lv_sub hl [0, 2, 3, 4, 5] rfl⟩
theorem dX2_fewest_0 : decode cX2_fewest 0 = .ok (.aload_n 0, 1) := by decide +kernel
theorem dX2_fewest_1 : decode cX2_fewest 1 = .ok (.aload_n 1, 1) := by decide +kernel
theorem q_5_130 : Cond.code yX2_sortComers prog_4_method_4_code 5 none ∈ gw := gw_5 (i := 130) (rfl) rfl
theorem q_5_129 : Cond.instanceMethod yX2_sortComers ∈ gw := gw_5 (i := 129) (by decide +kernel) rfl
theorem q_s_50 : Cond.selects "BeaconDelay$Forcing" yX2_sortComers yX2_sortComers ∈ gw := gw_s (i := 50) (by decide +kernel) rfl
theorem mt_X2_sortComers : MtV yX2_sortComers cX2_sortComers 5 none 1 := ⟨⟨q_5_130, q_1_20, by decide +kernel, by decide +kernel, by decide +kernel⟩, q_5_129, q_s_50⟩
theorem q_5_127 : Cond.methodLink "BeaconDelay$Forcing" 31 yX2_sortComers ∈ gw := gw_5 (i := 127) (by decide +kernel) rfl
theorem dX2_fewest_2 : decode cX2_fewest 2 = .ok (.invokevirtual 31, 3) := by decide +kernel
theorem dX2_fewest_5 : decode cX2_fewest 5 = .ok (.aload_n 0, 1) := by decide +kernel
theorem dX2_fewest_6 : decode cX2_fewest 6 = .ok (.aload_n 1, 1) := by decide +kernel
theorem dX2_fewest_7 : decode cX2_fewest 7 = .ok (.iload_n 2, 1) := by decide +kernel
theorem dX2_fewest_8 : decode cX2_fewest 8 = .ok (.iload_n 3, 1) := by decide +kernel
theorem q_5_136 : Cond.code yX2_beginAt prog_4_method_5_code 6 none ∈ gw := gw_5 (i := 136) (rfl) rfl
theorem q_5_135 : Cond.instanceMethod yX2_beginAt ∈ gw := gw_5 (i := 135) (by decide +kernel) rfl
theorem q_s_51 : Cond.selects "BeaconDelay$Forcing" yX2_beginAt yX2_beginAt ∈ gw := gw_s (i := 51) (by decide +kernel) rfl
theorem mt_X2_beginAt : MtV yX2_beginAt cX2_beginAt 6 none 3 := ⟨⟨q_5_136, q_1_20, by decide +kernel, by decide +kernel, by decide +kernel⟩, q_5_135, q_s_51⟩
theorem q_5_133 : Cond.methodLink "BeaconDelay$Forcing" 35 yX2_beginAt ∈ gw := gw_5 (i := 133) (by decide +kernel) rfl
theorem dX2_fewest_9 : decode cX2_fewest 9 = .ok (.invokevirtual 35, 3) := by decide +kernel
theorem dX2_fewest_12 : decode cX2_fewest 12 = .ok (.iconst 0, 1) := by decide +kernel
theorem dX2_fewest_13 : decode cX2_fewest 13 = .ok (.istore 4, 2) := by decide +kernel
theorem dX2_fewest_15 : decode cX2_fewest 15 = .ok (.iload 4, 2) := by decide +kernel
theorem dX2_fewest_17 : decode cX2_fewest 17 = .ok (.aload_n 0, 1) := by decide +kernel
theorem dX2_fewest_18 : decode cX2_fewest 18 = .ok (.getfield 22, 3) := by decide +kernel
theorem dX2_fewest_21 : decode cX2_fewest 21 = .ok (.arraylength, 1) := by decide +kernel
theorem dX2_fewest_22 : decode cX2_fewest 22 = .ok (.if_icmp .ge 39, 3) := by decide +kernel
theorem dX2_fewest_61 : decode cX2_fewest 61 = .ok (.aload_n 0, 1) := by decide +kernel
theorem dX2_fewest_62 : decode cX2_fewest 62 = .ok (.getfield 15, 3) := by decide +kernel
theorem dX2_fewest_65 : decode cX2_fewest 65 = .ok (.iconst 0, 1) := by decide +kernel
theorem dX2_fewest_66 : decode cX2_fewest 66 = .ok (.iaload, 1) := by decide +kernel
theorem dX2_fewest_67 : decode cX2_fewest 67 = .ok (.ireturn, 1) := by decide +kernel
theorem dX2_fewest_25 : decode cX2_fewest 25 = .ok (.iload 4, 2) := by decide +kernel
theorem dX2_fewest_27 : decode cX2_fewest 27 = .ok (.aload_n 0, 1) := by decide +kernel
theorem dX2_fewest_28 : decode cX2_fewest 28 = .ok (.getfield 39, 3) := by decide +kernel
theorem dX2_fewest_31 : decode cX2_fewest 31 = .ok (.if_icmp .ge 30, 3) := by decide +kernel
theorem dX2_fewest_34 : decode cX2_fewest 34 = .ok (.aload_n 0, 1) := by decide +kernel
theorem dX2_fewest_35 : decode cX2_fewest 35 = .ok (.getfield 15, 3) := by decide +kernel
theorem dX2_fewest_38 : decode cX2_fewest 38 = .ok (.iconst 0, 1) := by decide +kernel
theorem dX2_fewest_39 : decode cX2_fewest 39 = .ok (.iaload, 1) := by decide +kernel
theorem dX2_fewest_40 : decode cX2_fewest 40 = .ok (.iconst (-1), 1) := by decide +kernel
theorem dX2_fewest_41 : decode cX2_fewest 41 = .ok (.if_icmp .ne 20, 3) := by decide +kernel
theorem dX2_fewest_44 : decode cX2_fewest 44 = .ok (.aload_n 0, 1) := by decide +kernel
theorem dX2_fewest_45 : decode cX2_fewest 45 = .ok (.aload_n 0, 1) := by decide +kernel
theorem dX2_fewest_46 : decode cX2_fewest 46 = .ok (.getfield 22, 3) := by decide +kernel
theorem dX2_fewest_49 : decode cX2_fewest 49 = .ok (.iload 4, 2) := by decide +kernel
theorem dX2_fewest_51 : decode cX2_fewest 51 = .ok (.iaload, 1) := by decide +kernel
theorem q_5_145 : Cond.code yX2_lookBackFrom prog_4_method_7_code 6 none ∈ gw := gw_5 (i := 145) (rfl) rfl
theorem q_5_144 : Cond.instanceMethod yX2_lookBackFrom ∈ gw := gw_5 (i := 144) (by decide +kernel) rfl
theorem q_s_53 : Cond.selects "BeaconDelay$Forcing" yX2_lookBackFrom yX2_lookBackFrom ∈ gw := gw_s (i := 53) (by decide +kernel) rfl
theorem mt_X2_lookBackFrom : MtV yX2_lookBackFrom cX2_lookBackFrom 6 none 1 := ⟨⟨q_5_145, q_1_20, by decide +kernel, by decide +kernel, by decide +kernel⟩, q_5_144, q_s_53⟩
theorem q_5_142 : Cond.methodLink "BeaconDelay$Forcing" 42 yX2_lookBackFrom ∈ gw := gw_5 (i := 142) (by decide +kernel) rfl
theorem dX2_fewest_52 : decode cX2_fewest 52 = .ok (.invokevirtual 42, 3) := by decide +kernel
theorem dX2_fewest_55 : decode cX2_fewest 55 = .ok (.iinc 4 1, 3) := by decide +kernel
theorem dX2_fewest_58 : decode cX2_fewest 58 = .ok (.goto (-43), 3) := by decide +kernel
set_option maxHeartbeats 4000000 in
set_option maxRecDepth 100000 in
theorem k_X2_fewest_0 (l : Launch) (V : GV) (n : Nat) (L : Nat) (ft : Nat) (Yw : Nat → Nat) (Yf : Nat → Nat) (y : Nat → Nat) (a2 : Int32) (a3 : Int32) (fYf1 : Nat → Int32) (fYf2 : Nat → Int32) (fYf3 : Nat → Int32) (fYf4 : Nat → Int32) (fYf5 : Nat → Int32) (fYw1 : Nat → Int32) (fYw6 : Nat → Int32) (pYf0_6 : Int32) (pYw0_0 : Int32) (wa : Nat) (pYw0_5 : Int32) (pYw0_6 : Int32) (wb : Nat) (pYw0_14 : Int32) (pYw0_15 : Int32) (pYw0_16 : Int32) (hn : 1 ≤ n ∧ n ≤ 3646) (hL : 1 ≤ L ∧ L ≤ 10000) (hft : 0 ≤ ft ∧ ft ≤ 7290) (ba2 : iv 0 3 a2) (tfYf1 : ∀ j, iv (-1) (2 * (ft : Int) + 2 * (n : Int)) (fYf1 j)) (tfYf3 : ∀ j, iv 0 (2 * (ft : Int) + 2 * (n : Int) - 1) (fYf3 j)) (tfYf4 : ∀ j, iv 0 (4 * (ft : Int) + 4 * (n : Int)) (fYf4 j)) (tfYf5 : ∀ j, iv 0 ((ft : Int) + (n : Int) - 1) (fYf5 j)) (tfYw1 : ∀ j, iv 0 ((L : Int) - 1) (fYw1 j)) (tfYw6 : ∀ j, iv 0 ((n : Int) - 1) (fYw6 j)) (bpYf0_6 : iv 0 (2 * (ft : Int) + 2 * (n : Int)) pYf0_6) (bpYw0_0 : iv 0 4 pYw0_0) (bpYw0_5 : iv 0 ((n : Int)) pYw0_5) (bpYw0_6 : iv 0 4 pYw0_6) (bpYw0_14 : iv 0 4 pYw0_14) (bpYw0_15 : iv 0 9 pYw0_15) (bpYw0_16 : iv 0 ((n : Int)) pYw0_16) (hf0 : WB pYw0_16 pYw0_6 pYw0_5 fYw6) (hf1 : (pYw0_5 : Int32).toInt ≤ (pYw0_16 : Int32).toInt) : Ct l V yX2_fewest (.code yX2_fewest cX2_fewest 5 (some .int)) 4 [.ref (Yf 0), .ref (Yw 0), .int a2, .int a3] [(Yf 1, aI V ((n + ft) * 2) fYf1), (Yf 2, aI V (n + ft) fYf2), (Yf 3, aI V ((n + ft) * 2) fYf3), (Yf 4, aI V (n + ft + 1) fYf4), (Yf 5, aI V ((n + ft) * 4) fYf5), (Yw 1, aI V n fYw1), (Yw 6, aI V (n * 4) fYw6), (Yf 0, .inr (2, o2_irrrrri (nI (n + ft)) (Yf 1) (Yf 2) (Yf 3) (Yf 4) (Yf 5) pYf0_6)), (Yw 0, .inr (8, o8_iirrriirrrrrrriii pYw0_0 (nI n) (Yw 1) (Yw 2) wa pYw0_5 pYw0_6 (y 19) (Yw 4) (Yw 5) (Yw 6) (Yw 7) (Yw 8) wb pYw0_14 pYw0_15 pYw0_16))] 0 0 (QI V (fun (r : Int32) (w : va_W) => ∃ (g0 : Nat → Int32) (g1 : Nat → Int32) (g2 : Nat → Int32) (g3 : Nat → Int32) (g4 : Nat → Int32) (v5 : Int32), (∀ j, iv (-1) (2 * (ft : Int) + 2 * (n : Int)) (g0 j)) ∧ (∀ j, iv 0 (2 * (ft : Int) + 2 * (n : Int) - 1) (g2 j)) ∧ (∀ j, iv 0 (4 * (ft : Int) + 4 * (n : Int)) (g3 j)) ∧ (∀ j, iv 0 ((ft : Int) + (n : Int) - 1) (g4 j)) ∧ iv 0 (2 * (ft : Int) + 2 * (n : Int)) v5 ∧ iv (-1) (2 * (ft : Int) + 2 * (n : Int)) r ∧ w = [(Yf 1, aI V ((n + ft) * 2) g0), (Yf 2, aI V (n + ft) g1), (Yf 3, aI V ((n + ft) * 2) g2), (Yf 4, aI V (n + ft + 1) g3), (Yf 5, aI V ((n + ft) * 4) g4), (Yw 1, aI V n fYw1), (Yw 6, aI V (n * 4) fYw6), (Yf 0, .inr (2, o2_irrrrri (nI (n + ft)) (Yf 1) (Yf 2) (Yf 3) (Yf 4) (Yf 5) v5)), (Yw 0, .inr (8, o8_iirrriirrrrrrriii pYw0_0 (nI n) (Yw 1) (Yw 2) wa pYw0_5 pYw0_6 (y 19) (Yw 4) (Yw 5) (Yw 6) (Yw 7) (Yw 8) wb pYw0_14 pYw0_15 pYw0_16))])) := by
  refine Ct.of (by decide) (Nat.le_of_ble_eq_true rfl) (fun p e s m below meth c A ls hx hb hr hml hown hlk hnm hg hP hK hD hE hA hS hl => ?_)
  have hl : lv_has ls 5 [(0, .ref (Yf 0)), (1, .ref (Yw 0)), (2, .int a2), (3, .int a3)] := hl
  refine lv_aload_n hx hb dX2_fewest_0 rfl (lv_at hl 0 rfl) ?_
  refine lv_aload_n hx hb dX2_fewest_1 rfl (lv_at hl 1 rfl) ?_
  refine jnV (wr := [(Yf 1, aI V ((n + ft) * 2) fYf1), (Yf 2, aI V (n + ft) fYf2), (Yf 3, aI V ((n + ft) * 2) fYf3), (Yw 1, aI V n fYw1)]) (rnV (rest := []) ⟨hx, hb, hml, hown, hg⟩ (k_X2_sortComers_0 l V n ft Yw Yf y fYf4 fYf5 fYw6 pYf0_6 pYw0_0 wa pYw0_5 pYw0_6 wb pYw0_14 pYw0_15 pYw0_16 hn hft tfYf4 tfYf5 tfYw6 bpYf0_6 bpYw0_0 bpYw0_5 bpYw0_6 bpYw0_14 bpYw0_15 bpYw0_16 hf0 hf1) mt_X2_sortComers q_5_127 ⟨Nat.le_of_ble_eq_true rfl, Nat.le_of_ble_eq_true rfl⟩ hK hP hD hS hA hE [3, 4, 6, 7, 8] rfl rfl 7 rfl rfl rfl rfl hl.1 rfl (Nat.le_of_ble_eq_true rfl) dX2_fewest_2 ⟨Nat.le_of_ble_eq_true rfl, Nat.le_of_ble_eq_true rfl⟩) hP hD hS hA [3, 4, 6, 7, 8] [0, 1, 2, 5] rfl rfl rfl (by decide) (fun  w H locs hw hP hD hS => ?_)
  obtain ⟨f_1, f_2, tf_1, tf_2, rfl⟩ := hw
  have hP : va_P V.1 vwCl [(Yf 1, aI V ((n + ft) * 2) fYf1), (Yf 2, aI V (n + ft) fYf2), (Yf 3, aI V ((n + ft) * 2) fYf3), (Yw 1, aI V n fYw1), (Yf 4, aI V (n + ft + 1) f_1), (Yf 5, aI V ((n + ft) * 4) f_2), (Yw 6, aI V (n * 4) fYw6), (Yf 0, .inr (2, o2_irrrrri (nI (n + ft)) (Yf 1) (Yf 2) (Yf 3) (Yf 4) (Yf 5) pYf0_6)), (Yw 0, .inr (8, o8_iirrriirrrrrrriii pYw0_0 (nI n) (Yw 1) (Yw 2) wa pYw0_5 pYw0_6 (y 19) (Yw 4) (Yw 5) (Yw 6) (Yw 7) (Yw 8) wb pYw0_14 pYw0_15 pYw0_16))] H := hP
  have hD := cpD hP hD
  refine lv_aload_n hx hb dX2_fewest_5 rfl (lv_at hl 0 rfl) ?_
  refine lv_aload_n hx hb dX2_fewest_6 rfl (lv_at hl 1 rfl) ?_
  refine lv_iload_n hx hb dX2_fewest_7 rfl (lv_at hl 2 rfl) ?_
  refine lv_iload_n hx hb dX2_fewest_8 rfl (lv_at hl 3 rfl) ?_
  refine jnV (wr := [(Yf 4, aI V (n + ft + 1) f_1), (Yf 5, aI V ((n + ft) * 4) f_2), (Yw 6, aI V (n * 4) fYw6)]) (rnV (rest := []) ⟨hx, hb, hml, hown, hg⟩ (k_X2_beginAt_0 l V n L ft Yw Yf y a2 a3 fYf1 fYf2 fYf3 fYw1 pYf0_6 pYw0_0 wa pYw0_5 pYw0_6 wb pYw0_14 pYw0_15 pYw0_16 hn hL hft ba2 tfYf1 tfYf3 tfYw1 bpYf0_6 bpYw0_0 bpYw0_5 bpYw0_6 bpYw0_14 bpYw0_15 bpYw0_16) mt_X2_beginAt q_5_133 ⟨Nat.le_of_ble_eq_true rfl, Nat.le_of_ble_eq_true rfl⟩ hK hP hD hS hA hE [0, 1, 2, 3, 7, 8] rfl rfl 7 rfl rfl rfl rfl hl.1 rfl (Nat.le_of_ble_eq_true rfl) dX2_fewest_9 ⟨Nat.le_of_ble_eq_true rfl, Nat.le_of_ble_eq_true rfl⟩) hP hD hS hA [0, 1, 2, 3, 7, 8] [4, 5, 6] rfl rfl rfl (by decide) (fun  w H locs hw hP hD hS => ?_)
  obtain ⟨f_3, f_4, f_5, v_6, tf_3, tf_5, bv_6, g_7, g_8, rfl⟩ := hw
  have hP : va_P V.1 vwCl [(Yf 4, aI V (n + ft + 1) f_1), (Yf 5, aI V ((n + ft) * 4) f_2), (Yw 6, aI V (n * 4) fYw6), (Yf 1, aI V ((n + ft) * 2) f_3), (Yf 2, aI V (n + ft) f_4), (Yf 3, aI V ((n + ft) * 2) f_5), (Yw 1, aI V n fYw1), (Yf 0, .inr (2, o2_irrrrri (nI (n + ft)) (Yf 1) (Yf 2) (Yf 3) (Yf 4) (Yf 5) v_6)), (Yw 0, .inr (8, o8_iirrriirrrrrrriii pYw0_0 (nI n) (Yw 1) (Yw 2) wa pYw0_5 pYw0_6 (y 19) (Yw 4) (Yw 5) (Yw 6) (Yw 7) (Yw 8) wb pYw0_14 pYw0_15 pYw0_16))] H := hP
  have hD := cpD hP hD
  refine lv_iconst (v := 0) hx hb dX2_fewest_12 (by decide) ?_
  refine lv_istore (lv' := [(4, .int 0), (0, .ref (Yf 0)), (1, .ref (Yw 0)), (2, .int a2), (3, .int a3)]) hx hb dX2_fewest_13 hl (by decide) rfl (fun ls hl => ?_)
  refine loopF (X := fun (n_14 : Nat) (H : Heap) (locs : List Loc) (ls : Array Slot) => ∃ (u_9 : Int32) (f_10 : Nat → Int32) (f_11 : Nat → Int32) (f_12 : Nat → Int32) (u_13 : Int32), (iv 0 (2 * (ft : Int) + 2 * (n : Int)) u_9) ∧ (∀ j, iv (-1) (2 * (ft : Int) + 2 * (n : Int)) (f_10 j)) ∧ (∀ j, iv 0 (2 * (ft : Int) + 2 * (n : Int) - 1) (f_12 j)) ∧ (iv 0 (2 * (ft : Int) + 2 * (n : Int)) u_13) ∧ (FQ u_13 f_10 f_12 (2 * ((n : Int) + (ft : Int)))) ∧ (FN u_13 f_10 ((n + ft) * 2) ((n + ft) * 2)) ∧ n_14 = (2147483647 - (u_9 : Int32).toInt).toNat ∧ va_P V.1 vwCl [(Yf 4, aI V (n + ft + 1) f_1), (Yf 5, aI V ((n + ft) * 4) f_2), (Yw 6, aI V (n * 4) fYw6), (Yf 1, aI V ((n + ft) * 2) f_10), (Yf 2, aI V (n + ft) f_11), (Yf 3, aI V ((n + ft) * 2) f_12), (Yw 1, aI V n fYw1), (Yf 0, .inr (2, o2_irrrrri (nI (n + ft)) (Yf 1) (Yf 2) (Yf 3) (Yf 4) (Yf 5) u_13)), (Yw 0, .inr (8, o8_iirrriirrrrrrriii pYw0_0 (nI n) (Yw 1) (Yw 2) wa pYw0_5 pYw0_6 (y 19) (Yw 4) (Yw 5) (Yw 6) (Yw 7) (Yw 8) wb pYw0_14 pYw0_15 pYw0_16))] H ∧ va_D A [(Yf 4, aI V (n + ft + 1) f_1), (Yf 5, aI V ((n + ft) * 4) f_2), (Yw 6, aI V (n * 4) fYw6), (Yf 1, aI V ((n + ft) * 2) f_10), (Yf 2, aI V (n + ft) f_11), (Yf 3, aI V ((n + ft) * 2) f_12), (Yw 1, aI V n fYw1), (Yf 0, .inr (2, o2_irrrrri (nI (n + ft)) (Yf 1) (Yf 2) (Yf 3) (Yf 4) (Yf 5) u_13)), (Yw 0, .inr (8, o8_iirrriirrrrrrriii pYw0_0 (nI n) (Yw 1) (Yw 2) wa pYw0_5 pYw0_6 (y 19) (Yw 4) (Yw 5) (Yw 6) (Yw 7) (Yw 8) wb pYw0_14 pYw0_15 pYw0_16))] ∧ va_S A s.heap H locs ∧ lv_has ls 5 [(4, .int u_9), (0, .ref (Yf 0)), (1, .ref (Yw 0)), (2, .int a2), (3, .int a3)]) (g := fun ls => F0 m 15 ls []) (fun n_14 H locs ls hX ihn_14 => ?_) _ ⟨0, f_3, f_4, f_5, v_6, (iv_w (iv_c (0 : Int32) (a := 0) (b := 0) (by decide)) (by first | decide | omega)), tf_3, tf_5, bv_6, g_7, g_8, rfl, hP, hD, hS, lv_sub hl [0, 1, 2, 3, 4] rfl⟩
  obtain ⟨u_9, f_10, f_11, f_12, u_13, bu_9, tf_10, tf_12, bu_13, inn_14_0, inn_14_1, en_14, hP, hD, hS, hl⟩ := hX
  refine lv_iload hx hb dX2_fewest_15 (lv_at hl 0 rfl) ?_
  refine lv_aload_n hx hb dX2_fewest_17 rfl (lv_at hl 1 rfl) ?_
  refine va_get (ci := 2) (v := .ref (Yf 3)) (C := RX2) (T := TX2) (N := 7) hx hb hg inX2 hown hK hP 7 rfl rfl 3 (by decide) (hg _ q_5_104) (fun _ h9 => h9) rfl dX2_fewest_18 ?_
  refine va_alen (v := (nI ((n + ft) * 2))) hx hb hK hP 5 0 rfl rfl rfl dX2_fewest_21 ?_
  refine lv_icmp_ge (tgt := 61) hx hb dX2_fewest_22 (by decide) (fun c_15 => ?_) (fun c_15 => ?_)
  · have b_16 : iv (2 * (ft : Int) + 2 * (n : Int)) (2 * (ft : Int) + 2 * (n : Int)) u_9 := iv_e2 c_15 (iv_nIw (a := (2 * (ft : Int) + 2 * (n : Int))) (b := (2 * (ft : Int) + 2 * (n : Int))) (by omega)) bu_9 (by first | decide | omega)
    refine lv_aload_n hx hb dX2_fewest_61 rfl (lv_at hl 1 rfl) ?_
    refine va_get (ci := 2) (v := .ref (Yf 1)) (C := RX2) (T := TX2) (N := 7) hx hb hg inX2 hown hK hP 7 rfl rfl 1 (by decide) (hg _ q_5_102) (fun _ h9 => h9) rfl dX2_fewest_62 ?_
    refine lv_iconst (v := 0) hx hb dX2_fewest_65 (by decide) ?_
    refine va_iald hx hb hK hP 3 0 rfl rfl (iv_in (iv_c (0 : Int32) (a := 0) (b := 0) (by decide)) (by first | decide | omega)) dX2_fewest_66 ?_
    refine lv_topi (fun x_17 ex_17 => ?_)
    have bx_17 : iv (-1) (2 * (ft : Int) + 2 * (n : Int)) x_17 := by rw [ex_17]; exact tf_10 _
    have hP := subP (ws' := [(Yf 1, aI V ((n + ft) * 2) f_10), (Yf 2, aI V (n + ft) f_11), (Yf 3, aI V ((n + ft) * 2) f_12), (Yf 4, aI V (n + ft + 1) f_1), (Yf 5, aI V ((n + ft) * 4) f_2), (Yw 1, aI V n fYw1), (Yw 6, aI V (n * 4) fYw6), (Yf 0, .inr (2, o2_irrrrri (nI (n + ft)) (Yf 1) (Yf 2) (Yf 3) (Yf 4) (Yf 5) u_13)), (Yw 0, .inr (8, o8_iirrriirrrrrrriii pYw0_0 (nI n) (Yw 1) (Yw 2) wa pYw0_5 pYw0_6 (y 19) (Yw 4) (Yw 5) (Yw 6) (Yw 7) (Yw 8) wb pYw0_14 pYw0_15 pYw0_16))]) hP [3, 4, 5, 0, 1, 6, 2, 7, 8] rfl
    have hD := subD hP hD [3, 4, 5, 0, 1, 6, 2, 7, 8] rfl rfl
    exact fiI hx hb hr hlk hK hP hD hS dX2_fewest_67 (Nat.le_of_ble_eq_true rfl) (Nat.le_of_ble_eq_true rfl) (⟨f_10, f_11, f_12, f_1, f_2, u_13, tf_10, tf_12, tf_1, tf_2, bu_13, bx_17, rfl⟩)
  · have b_18 : iv 0 (2 * (ft : Int) + 2 * (n : Int) - 1) u_9 := iv_l1 (Int32.not_le.mp c_15) bu_9 (iv_nIw (a := (2 * (ft : Int) + 2 * (n : Int))) (b := (2 * (ft : Int) + 2 * (n : Int))) (by omega)) (by first | decide | omega)
    refine lv_iload hx hb dX2_fewest_25 (lv_at hl 0 rfl) ?_
    refine lv_aload_n hx hb dX2_fewest_27 rfl (lv_at hl 1 rfl) ?_
    refine va_get (ci := 2) (v := .int u_13) (C := RX2) (T := TX2) (N := 7) hx hb hg inX2 hown hK hP 7 rfl rfl 6 (by decide) (hg _ q_5_107) (fun _ h9 => h9) rfl dX2_fewest_28 ?_
    refine lv_icmp_ge (tgt := 61) hx hb dX2_fewest_31 (by decide) (fun c_19 => ?_) (fun c_19 => ?_)
    · have b_20 : iv 0 (2 * (ft : Int) + 2 * (n : Int) - 1) u_13 := iv_e1 c_19 bu_13 b_18 (by first | decide | omega)
      refine lv_aload_n hx hb dX2_fewest_61 rfl (lv_at hl 1 rfl) ?_
      refine va_get (ci := 2) (v := .ref (Yf 1)) (C := RX2) (T := TX2) (N := 7) hx hb hg inX2 hown hK hP 7 rfl rfl 1 (by decide) (hg _ q_5_102) (fun _ h9 => h9) rfl dX2_fewest_62 ?_
      refine lv_iconst (v := 0) hx hb dX2_fewest_65 (by decide) ?_
      refine va_iald hx hb hK hP 3 0 rfl rfl (iv_in (iv_c (0 : Int32) (a := 0) (b := 0) (by decide)) (by first | decide | omega)) dX2_fewest_66 ?_
      refine lv_topi (fun x_21 ex_21 => ?_)
      have bx_21 : iv (-1) (2 * (ft : Int) + 2 * (n : Int)) x_21 := by rw [ex_21]; exact tf_10 _
      have hP := subP (ws' := [(Yf 1, aI V ((n + ft) * 2) f_10), (Yf 2, aI V (n + ft) f_11), (Yf 3, aI V ((n + ft) * 2) f_12), (Yf 4, aI V (n + ft + 1) f_1), (Yf 5, aI V ((n + ft) * 4) f_2), (Yw 1, aI V n fYw1), (Yw 6, aI V (n * 4) fYw6), (Yf 0, .inr (2, o2_irrrrri (nI (n + ft)) (Yf 1) (Yf 2) (Yf 3) (Yf 4) (Yf 5) u_13)), (Yw 0, .inr (8, o8_iirrriirrrrrrriii pYw0_0 (nI n) (Yw 1) (Yw 2) wa pYw0_5 pYw0_6 (y 19) (Yw 4) (Yw 5) (Yw 6) (Yw 7) (Yw 8) wb pYw0_14 pYw0_15 pYw0_16))]) hP [3, 4, 5, 0, 1, 6, 2, 7, 8] rfl
      have hD := subD hP hD [3, 4, 5, 0, 1, 6, 2, 7, 8] rfl rfl
      exact fiI hx hb hr hlk hK hP hD hS dX2_fewest_67 (Nat.le_of_ble_eq_true rfl) (Nat.le_of_ble_eq_true rfl) (⟨f_10, f_11, f_12, f_1, f_2, u_13, tf_10, tf_12, tf_1, tf_2, (iv_w b_20 (by first | decide | omega)), bx_21, rfl⟩)
    · have b_22 : iv 1 (2 * (ft : Int) + 2 * (n : Int)) u_13 := iv_l2 (Int32.not_le.mp c_19) b_18 bu_13 (by first | decide | omega)
      refine lv_aload_n hx hb dX2_fewest_34 rfl (lv_at hl 1 rfl) ?_
      refine va_get (ci := 2) (v := .ref (Yf 1)) (C := RX2) (T := TX2) (N := 7) hx hb hg inX2 hown hK hP 7 rfl rfl 1 (by decide) (hg _ q_5_102) (fun _ h9 => h9) rfl dX2_fewest_35 ?_
      refine lv_iconst (v := 0) hx hb dX2_fewest_38 (by decide) ?_
      refine va_iald hx hb hK hP 3 0 rfl rfl (iv_in (iv_c (0 : Int32) (a := 0) (b := 0) (by decide)) (by first | decide | omega)) dX2_fewest_39 ?_
      refine lv_topi (fun x_23 ex_23 => ?_)
      have bx_23 : iv (-1) (2 * (ft : Int) + 2 * (n : Int)) x_23 := by rw [ex_23]; exact tf_10 _
      refine lv_iconst (v := (-1)) hx hb dX2_fewest_40 (by decide) ?_
      refine lv_icmp_ne (tgt := 61) hx hb dX2_fewest_41 (by decide) (fun c_24 => ?_) (fun c_24 => ?_)
      · have b_25 : iv 0 (2 * (ft : Int) + 2 * (n : Int)) x_23 := iv_n0 c_24 bx_23 (iv_c ((-1) : Int32) (a := (-1)) (b := (-1)) (by decide)) (by first | decide | omega)
        refine lv_aload_n hx hb dX2_fewest_61 rfl (lv_at hl 1 rfl) ?_
        refine va_get (ci := 2) (v := .ref (Yf 1)) (C := RX2) (T := TX2) (N := 7) hx hb hg inX2 hown hK hP 7 rfl rfl 1 (by decide) (hg _ q_5_102) (fun _ h9 => h9) rfl dX2_fewest_62 ?_
        refine lv_iconst (v := 0) hx hb dX2_fewest_65 (by decide) ?_
        refine va_iald hx hb hK hP 3 0 rfl rfl (iv_in (iv_c (0 : Int32) (a := 0) (b := 0) (by decide)) (by first | decide | omega)) dX2_fewest_66 ?_
        refine tpi (y := x_23) ex_23.symm ?_
        have hP := subP (ws' := [(Yf 1, aI V ((n + ft) * 2) f_10), (Yf 2, aI V (n + ft) f_11), (Yf 3, aI V ((n + ft) * 2) f_12), (Yf 4, aI V (n + ft + 1) f_1), (Yf 5, aI V ((n + ft) * 4) f_2), (Yw 1, aI V n fYw1), (Yw 6, aI V (n * 4) fYw6), (Yf 0, .inr (2, o2_irrrrri (nI (n + ft)) (Yf 1) (Yf 2) (Yf 3) (Yf 4) (Yf 5) u_13)), (Yw 0, .inr (8, o8_iirrriirrrrrrriii pYw0_0 (nI n) (Yw 1) (Yw 2) wa pYw0_5 pYw0_6 (y 19) (Yw 4) (Yw 5) (Yw 6) (Yw 7) (Yw 8) wb pYw0_14 pYw0_15 pYw0_16))]) hP [3, 4, 5, 0, 1, 6, 2, 7, 8] rfl
        have hD := subD hP hD [3, 4, 5, 0, 1, 6, 2, 7, 8] rfl rfl
        exact fiI hx hb hr hlk hK hP hD hS dX2_fewest_67 (Nat.le_of_ble_eq_true rfl) (Nat.le_of_ble_eq_true rfl) (⟨f_10, f_11, f_12, f_1, f_2, u_13, tf_10, tf_12, tf_1, tf_2, (iv_w b_22 (by first | decide | omega)), (iv_w b_25 (by first | decide | omega)), rfl⟩)
      · have b_26 : iv (-1) (-1) x_23 := iv_q c_24 (iv_c ((-1) : Int32) (a := (-1)) (b := (-1)) (by decide))
        refine lv_aload_n hx hb dX2_fewest_44 rfl (lv_at hl 1 rfl) ?_
        refine lv_aload_n hx hb dX2_fewest_45 rfl (lv_at hl 1 rfl) ?_
        refine va_get (ci := 2) (v := .ref (Yf 3)) (C := RX2) (T := TX2) (N := 7) hx hb hg inX2 hown hK hP 7 rfl rfl 3 (by decide) (hg _ q_5_104) (fun _ h9 => h9) rfl dX2_fewest_46 ?_
        refine lv_iload hx hb dX2_fewest_49 (lv_at hl 0 rfl) ?_
        refine va_iald hx hb hK hP 5 0 rfl rfl (iv_in b_18 (by first | decide | omega)) dX2_fewest_51 ?_
        refine lv_topi (fun x_27 ex_27 => ?_)
        have bx_27 : iv 0 (2 * (ft : Int) + 2 * (n : Int) - 1) x_27 := by rw [ex_27]; exact tf_12 _
        refine jnV (wr := [(Yw 6, aI V (n * 4) fYw6), (Yw 1, aI V n fYw1), (Yw 0, .inr (8, o8_iirrriirrrrrrriii pYw0_0 (nI n) (Yw 1) (Yw 2) wa pYw0_5 pYw0_6 (y 19) (Yw 4) (Yw 5) (Yw 6) (Yw 7) (Yw 8) wb pYw0_14 pYw0_15 pYw0_16))]) (rnV (rest := []) ⟨hx, hb, hml, hown, hg⟩ (k_X2_lookBackFrom_0 l V n ft Yf x_27 f_1 f_2 f_10 f_11 f_12 u_13 hn hft bx_27 tf_1 tf_2 tf_10 tf_12 (iv_w b_22 (by first | decide | omega)) inn_14_0 inn_14_1 (FQ_lt inn_14_0 b_18 (Int32.not_le.mp c_19) ex_27)) mt_X2_lookBackFrom q_5_142 ⟨Nat.le_of_ble_eq_true rfl, Nat.le_of_ble_eq_true rfl⟩ hK hP hD hS hA hE [0, 1, 3, 4, 5, 7] rfl rfl 7 rfl rfl rfl rfl hl.1 rfl (Nat.le_of_ble_eq_true rfl) dX2_fewest_52 ⟨Nat.le_of_ble_eq_true rfl, Nat.le_of_ble_eq_true rfl⟩) hP hD hS hA [0, 1, 3, 4, 5, 7] [2, 6, 8] rfl rfl rfl (by decide) (fun  w H locs hw hP hD hS => ?_)
        obtain ⟨f_28, f_29, f_30, v_31, tf_28, tf_30, bv_31, g_32, g_33, rfl⟩ := hw
        have hP : va_P V.1 vwCl [(Yw 6, aI V (n * 4) fYw6), (Yw 1, aI V n fYw1), (Yw 0, .inr (8, o8_iirrriirrrrrrriii pYw0_0 (nI n) (Yw 1) (Yw 2) wa pYw0_5 pYw0_6 (y 19) (Yw 4) (Yw 5) (Yw 6) (Yw 7) (Yw 8) wb pYw0_14 pYw0_15 pYw0_16)), (Yf 4, aI V (n + ft + 1) f_1), (Yf 5, aI V ((n + ft) * 4) f_2), (Yf 1, aI V ((n + ft) * 2) f_28), (Yf 2, aI V (n + ft) f_29), (Yf 3, aI V ((n + ft) * 2) f_30), (Yf 0, .inr (2, o2_irrrrri (nI (n + ft)) (Yf 1) (Yf 2) (Yf 3) (Yf 4) (Yf 5) v_31))] H := hP
        have hD := cpD hP hD
        obtain ⟨x_34, ex_34⟩ : ∃ z9 : Int32, z9 = u_9 + 1 := ⟨_, rfl⟩
        have bx_34 : iv 1 (2 * (ft : Int) + 2 * (n : Int)) x_34 := by rw [ex_34]; exact iv_add b_18 (iv_c (1 : Int32) (a := 1) (b := 1) (by first | decide | omega)) (by first | decide | omega)
        refine lv_iinc (v := x_34) (lv' := [(4, .int x_34), (0, .ref (Yf 0)), (1, .ref (Yw 0)), (2, .int a2), (3, .int a3)]) hx hb dX2_fewest_55 hl (k := 0) rfl (by rw [ex_34]; rfl) (by decide) rfl (fun ls hl => ?_)
        refine lv_goto (tgt := 15) hx hb dX2_fewest_58 (by decide) ?_
        have hP := subP (ws' := [(Yf 4, aI V (n + ft + 1) f_1), (Yf 5, aI V ((n + ft) * 4) f_2), (Yw 6, aI V (n * 4) fYw6), (Yf 1, aI V ((n + ft) * 2) f_28), (Yf 2, aI V (n + ft) f_29), (Yf 3, aI V ((n + ft) * 2) f_30), (Yw 1, aI V n fYw1), (Yf 0, .inr (2, o2_irrrrri (nI (n + ft)) (Yf 1) (Yf 2) (Yf 3) (Yf 4) (Yf 5) v_31)), (Yw 0, .inr (8, o8_iirrriirrrrrrriii pYw0_0 (nI n) (Yw 1) (Yw 2) wa pYw0_5 pYw0_6 (y 19) (Yw 4) (Yw 5) (Yw 6) (Yw 7) (Yw 8) wb pYw0_14 pYw0_15 pYw0_16))]) hP [3, 4, 0, 5, 6, 7, 1, 8, 2] rfl
        have hD := subD hP hD [3, 4, 0, 5, 6, 7, 1, 8, 2] rfl rfl
        exact ihn_14 _ _ _ _ (by rw [en_14, ex_34]; exact mu_up b_18 (by first | decide | omega)) ⟨x_34, f_28, f_29, f_30, v_31, (iv_w bx_34 (by first | decide | omega)), tf_28, tf_30, bv_31, g_32, g_33, rfl, hP, hD, hS, lv_sub hl [0, 1, 2, 3, 4] rfl⟩
theorem dX9_forces_0 : decode cX9_forces 0 = .ok (.aload_n 0, 1) := by decide +kernel
theorem dX9_forces_1 : decode cX9_forces 1 = .ok (.iload_n 1, 1) := by decide +kernel
theorem dX9_forces_2 : decode cX9_forces 2 = .ok (.invokevirtual 128, 3) := by decide +kernel
theorem dX9_forces_5 : decode cX9_forces 5 = .ok (.ifCond .ne 6, 3) := by decide +kernel
theorem dX9_forces_8 : decode cX9_forces 8 = .ok (.bipush (-2), 2) := by decide +kernel
theorem dX9_forces_10 : decode cX9_forces 10 = .ok (.ireturn, 1) := by decide +kernel
theorem dX9_forces_11 : decode cX9_forces 11 = .ok (.iload_n 2, 1) := by decide +kernel
theorem dX9_forces_12 : decode cX9_forces 12 = .ok (.invokestatic 252, 3) := by decide +kernel
theorem dX9_forces_15 : decode cX9_forces 15 = .ok (.ifCond .ne 6, 3) := by decide +kernel
theorem dX9_forces_18 : decode cX9_forces 18 = .ok (.bipush (-3), 2) := by decide +kernel
theorem dX9_forces_20 : decode cX9_forces 20 = .ok (.ireturn, 1) := by decide +kernel
theorem dX9_forces_21 : decode cX9_forces 21 = .ok (.aload_n 0, 1) := by decide +kernel
theorem dX9_forces_22 : decode cX9_forces 22 = .ok (.ldc_w 279, 3) := by decide +kernel
theorem dX9_forces_25 : decode cX9_forces 25 = .ok (.invokevirtual 255, 3) := by decide +kernel
theorem dX9_forces_28 : decode cX9_forces 28 = .ok (.astore_n 3, 1) := by decide +kernel
theorem dX9_forces_29 : decode cX9_forces 29 = .ok (.aload_n 0, 1) := by decide +kernel
theorem dX9_forces_30 : decode cX9_forces 30 = .ok (.aload_n 3, 1) := by decide +kernel
theorem q_5_93 : Cond.code yX9_forcingFrom prog_1_method_61_code 2 (some (FieldType.object "BeaconDelay$Forcing")) ∈ gw := gw_5 (i := 93) (rfl) rfl
theorem q_5_92 : Cond.instanceMethod yX9_forcingFrom ∈ gw := gw_5 (i := 92) (by decide +kernel) rfl
theorem q_s_49 : Cond.selects "BeaconDelay" yX9_forcingFrom yX9_forcingFrom ∈ gw := gw_s (i := 49) (by decide +kernel) rfl
theorem mt_X9_forcingFrom : MtV yX9_forcingFrom cX9_forcingFrom 2 (some (.object "BeaconDelay$Forcing")) 1 := ⟨⟨q_5_93, q_1_1, by decide +kernel, by decide +kernel, by decide +kernel⟩, q_5_92, q_s_49⟩
theorem q_5_90 : Cond.methodLink "BeaconDelay" 359 yX9_forcingFrom ∈ gw := gw_5 (i := 90) (by decide +kernel) rfl
theorem dX9_forces_31 : decode cX9_forces 31 = .ok (.invokevirtual 359, 3) := by decide +kernel
theorem dX9_forces_34 : decode cX9_forces 34 = .ok (.aload_n 3, 1) := by decide +kernel
theorem dX9_forces_35 : decode cX9_forces 35 = .ok (.iload_n 1, 1) := by decide +kernel
theorem dX9_forces_36 : decode cX9_forces 36 = .ok (.iload_n 2, 1) := by decide +kernel
theorem q_5_126 : Cond.code yX2_fewest prog_4_method_2_code 5 (some FieldType.int) ∈ gw := gw_5 (i := 126) (rfl) rfl
theorem q_5_124 : Cond.instanceMethod yX2_fewest ∈ gw := gw_5 (i := 124) (by decide +kernel) rfl
theorem q_5_125 : Cond.selects "BeaconDelay$Forcing" yX2_fewest yX2_fewest ∈ gw := gw_5 (i := 125) (by decide +kernel) rfl
theorem mt_X2_fewest : MtV yX2_fewest cX2_fewest 5 (some .int) 3 := ⟨⟨q_5_126, q_1_20, by decide +kernel, by decide +kernel, by decide +kernel⟩, q_5_124, q_5_125⟩
theorem q_5_123 : Cond.methodLink "BeaconDelay" 363 yX2_fewest ∈ gw := gw_5 (i := 123) (by decide +kernel) rfl
theorem dX9_forces_37 : decode cX9_forces 37 = .ok (.invokevirtual 363, 3) := by decide +kernel
theorem dX9_forces_40 : decode cX9_forces 40 = .ok (.ireturn, 1) := by decide +kernel
set_option maxHeartbeats 4000000 in
set_option maxRecDepth 100000 in
theorem k_X9_forces_0 (l : Launch) (V : GV) (n : Nat) (L : Nat) (ft : Nat) (Yw : Nat → Nat) (Yf : Nat → Nat) (y : Nat → Nat) (D9 : Nat → Int32) (a1 : Int32) (a2 : Int32) (py0_1 : Int32) (py0_12 : Int32) (py0_13 : Int32) (py0_14 : Int32) (py2_0 : Int32) (py2_1 : Int32) (py2_2 : Int32) (py2_3 : Int32) (py2_4 : Int32) (py2_5 : Int32) (py2_13 : Int32) (py2_14 : Int32) (py2_15 : Int32) (py2_16 : Int32) (py2_17 : Int32) (fy3 : Nat → Int32) (fy9 : Nat → Int32) (fy20 : Nat → Int32) (fy21 : Nat → Int32) (fy22 : Nat → Int32) (pYw0_0 : Int32) (wa : Nat) (pYw0_5 : Int32) (pYw0_6 : Int32) (wb : Nat) (pYw0_14 : Int32) (pYw0_15 : Int32) (pYw0_16 : Int32) (fYw1 : Nat → Int32) (fYw2 : Nat → Int32) (fYw4 : Nat → Int32) (fYw5 : Nat → Int32) (fYw6 : Nat → Int32) (fYw8 : Nat → Int32) (pYf0_6 : Int32) (fYf1 : Nat → Int32) (fYf2 : Nat → Int32) (fYf3 : Nat → Int32) (fYf4 : Nat → Int32) (fYf5 : Nat → Int32) (hn : 1 ≤ n ∧ n ≤ 3646) (hL : 1 ≤ L ∧ L ≤ 10000) (hft : 0 ≤ ft ∧ ft ≤ 7290) (hq0 : py2_1 ≤ pYw0_0) (bpy0_1 : iv 0 900 py0_1) (bpy0_12 : iv 0 9999 py0_12) (bpy0_13 : iv 0 9 py0_13) (bpy2_1 : iv 0 4 py2_1) (bpy2_2 : iv 0 4 py2_2) (bpy2_3 : iv 0 8 py2_3) (bpy2_4 : iv 0 9999 py2_4) (bpy2_5 : iv 0 9 py2_5) (bpy2_13 : iv 0 900 py2_13) (bpy2_14 : iv 0 900 py2_14) (bpy2_15 : iv 0 900 py2_15) (bpy2_16 : iv 0 900 py2_16) (bpy2_17 : iv 0 900 py2_17) (tfy20 : ∀ j, iv 0 10 (fy20 j)) (bpYw0_0 : iv 0 4 pYw0_0) (bpYw0_5 : iv 0 ((n : Int)) pYw0_5) (bpYw0_6 : iv 0 4 pYw0_6) (bpYw0_14 : iv 0 4 pYw0_14) (bpYw0_15 : iv 0 9 pYw0_15) (bpYw0_16 : iv 0 ((n : Int)) pYw0_16) (tfYw1 : ∀ j, iv 0 ((L : Int) - 1) (fYw1 j)) (tfYw4 : ∀ j, iv 0 ((n : Int)) (fYw4 j)) (tfYw5 : ∀ j, iv 0 (4 * (n : Int) - 1) (fYw5 j)) (tfYw6 : ∀ j, iv 0 ((n : Int) - 1) (fYw6 j)) (bpYf0_6 : iv 0 (2 * (ft : Int) + 2 * (n : Int)) pYf0_6) (tfYf1 : ∀ j, iv (-1) (2 * (ft : Int) + 2 * (n : Int)) (fYf1 j)) (tfYf3 : ∀ j, iv 0 (2 * (ft : Int) + 2 * (n : Int) - 1) (fYf3 j)) (tfYf4 : ∀ j, iv 0 (4 * (ft : Int) + 4 * (n : Int)) (fYf4 j)) (tfYf5 : ∀ j, iv 0 ((ft : Int) + (n : Int) - 1) (fYf5 j)) (hf0 : WA pYw0_5 fYw4 fYw1) (hf1 : WB pYw0_16 pYw0_6 pYw0_5 fYw6) (hf2 : WC pYw0_5 fYw2) (hL9 : LW D9 fy3 fy9 py2_14 py2_15 py2_16 py2_17) (hK9 : KN D9 fy20) : Ct l V yX9_forces (.code yX9_forces cX9_forces 4 (some .int)) 8 [.ref (y 0), .int a1, .int a2] [(y 0, .inr (9, o9_rirrrrrrrrrriii (y 1) py0_1 (y 2) (y 10) (y 19) (y 25) (y 26) (y 30) (y 31) (y 32) (Yw 0) (Yf 0) py0_12 py0_13 py0_14)), (y 2, .inr (1, o1_iiiiiirrrrrrriiiii py2_0 py2_1 py2_2 py2_3 py2_4 py2_5 (y 3) (y 4) (y 5) (y 6) (y 7) (y 8) (y 9) py2_13 py2_14 py2_15 py2_16 py2_17)), (y 3, aI V 4 fy3), (y 9, aI V 900 fy9), (y 19, .inr (4, o4_rrrrrr (y 2) (y 20) (y 21) (y 22) (y 23) (y 24))), (y 20, aI V 2000 fy20), (y 21, aI V 6 fy21), (y 22, aI V 64 fy22), (Yw 0, .inr (8, o8_iirrriirrrrrrriii pYw0_0 (nI n) (Yw 1) (Yw 2) wa pYw0_5 pYw0_6 (y 19) (Yw 4) (Yw 5) (Yw 6) (Yw 7) (Yw 8) wb pYw0_14 pYw0_15 pYw0_16)), (Yw 1, aI V n fYw1), (Yw 2, aI V n fYw2), (Yw 4, aI V L fYw4), (Yw 5, aI V n fYw5), (Yw 6, aI V (n * 4) fYw6), (Yw 8, aI V 4 fYw8), (Yf 0, .inr (2, o2_irrrrri (nI (n + ft)) (Yf 1) (Yf 2) (Yf 3) (Yf 4) (Yf 5) pYf0_6)), (Yf 1, aI V ((n + ft) * 2) fYf1), (Yf 2, aI V (n + ft) fYf2), (Yf 3, aI V ((n + ft) * 2) fYf3), (Yf 4, aI V (n + ft + 1) fYf4), (Yf 5, aI V ((n + ft) * 4) fYf5)] 0 0 (QI V (fun (r : Int32) (w : va_W) => ∃ (g0 : Nat → Int32) (g1 : Nat → Int32) (g2 : Nat → Int32) (v3 : Int32) (v4 : Int32) (v5 : Int32) (v6 : Int32) (v7 : Int32) (g8 : Nat → Int32) (g9 : Nat → Int32) (g10 : Nat → Int32) (g11 : Nat → Int32) (g12 : Nat → Int32) (g13 : Nat → Int32) (v14 : Int32) (g15 : Nat → Int32) (g16 : Nat → Int32) (g17 : Nat → Int32) (g18 : Nat → Int32) (g19 : Nat → Int32), (∀ j, iv 0 10 (g0 j)) ∧ iv 0 ((n : Int)) v3 ∧ iv 0 4 v4 ∧ iv 0 4 v5 ∧ iv 0 9 v6 ∧ iv 0 ((n : Int)) v7 ∧ (∀ j, iv 0 ((L : Int) - 1) (g8 j)) ∧ (∀ j, iv 0 ((n : Int)) (g10 j)) ∧ (∀ j, iv 0 (4 * (n : Int) - 1) (g11 j)) ∧ (∀ j, iv 0 ((n : Int) - 1) (g12 j)) ∧ iv 0 (2 * (ft : Int) + 2 * (n : Int)) v14 ∧ (∀ j, iv (-1) (2 * (ft : Int) + 2 * (n : Int)) (g15 j)) ∧ (∀ j, iv 0 (2 * (ft : Int) + 2 * (n : Int) - 1) (g17 j)) ∧ (∀ j, iv 0 (4 * (ft : Int) + 4 * (n : Int)) (g18 j)) ∧ (∀ j, iv 0 ((ft : Int) + (n : Int) - 1) (g19 j)) ∧ iv (-3) (2 * (ft : Int) + 2 * (n : Int)) r ∧ (WA v3 g10 g8) ∧ (WB v7 v4 v3 g12) ∧ (WC v3 g9) ∧ KN D9 g0 ∧ w = [(y 0, .inr (9, o9_rirrrrrrrrrriii (y 1) py0_1 (y 2) (y 10) (y 19) (y 25) (y 26) (y 30) (y 31) (y 32) (Yw 0) (Yf 0) py0_12 py0_13 py0_14)), (y 2, .inr (1, o1_iiiiiirrrrrrriiiii py2_0 py2_1 py2_2 py2_3 py2_4 py2_5 (y 3) (y 4) (y 5) (y 6) (y 7) (y 8) (y 9) py2_13 py2_14 py2_15 py2_16 py2_17)), (y 3, aI V 4 fy3), (y 9, aI V 900 fy9), (y 19, .inr (4, o4_rrrrrr (y 2) (y 20) (y 21) (y 22) (y 23) (y 24))), (y 20, aI V 2000 g0), (y 21, aI V 6 g1), (y 22, aI V 64 g2), (Yw 0, .inr (8, o8_iirrriirrrrrrriii pYw0_0 (nI n) (Yw 1) (Yw 2) wa v3 v4 (y 19) (Yw 4) (Yw 5) (Yw 6) (Yw 7) (Yw 8) wb v5 v6 v7)), (Yw 1, aI V n g8), (Yw 2, aI V n g9), (Yw 4, aI V L g10), (Yw 5, aI V n g11), (Yw 6, aI V (n * 4) g12), (Yw 8, aI V 4 g13), (Yf 0, .inr (2, o2_irrrrri (nI (n + ft)) (Yf 1) (Yf 2) (Yf 3) (Yf 4) (Yf 5) v14)), (Yf 1, aI V ((n + ft) * 2) g15), (Yf 2, aI V (n + ft) g16), (Yf 3, aI V ((n + ft) * 2) g17), (Yf 4, aI V (n + ft + 1) g18), (Yf 5, aI V ((n + ft) * 4) g19)])) := by
  refine Ct.of (by decide) (Nat.le_of_ble_eq_true rfl) (fun p e s m below meth c A ls hx hb hr hml hown hlk hnm hg hP hK hD hE hA hS hl => ?_)
  have hl : lv_has ls 4 [(0, .ref (y 0)), (1, .int a1), (2, .int a2)] := hl
  refine lv_aload_n hx hb dX9_forces_0 rfl (lv_at hl 0 rfl) ?_
  refine lv_iload_n hx hb dX9_forces_1 rfl (lv_at hl 1 rfl) ?_
  refine jnI (wr := [(y 3, aI V 4 fy3), (y 9, aI V 900 fy9), (y 19, .inr (4, o4_rrrrrr (y 2) (y 20) (y 21) (y 22) (y 23) (y 24))), (y 20, aI V 2000 fy20), (y 21, aI V 6 fy21), (y 22, aI V 64 fy22), (Yw 0, .inr (8, o8_iirrriirrrrrrriii pYw0_0 (nI n) (Yw 1) (Yw 2) wa pYw0_5 pYw0_6 (y 19) (Yw 4) (Yw 5) (Yw 6) (Yw 7) (Yw 8) wb pYw0_14 pYw0_15 pYw0_16)), (Yw 1, aI V n fYw1), (Yw 2, aI V n fYw2), (Yw 4, aI V L fYw4), (Yw 5, aI V n fYw5), (Yw 6, aI V (n * 4) fYw6), (Yw 8, aI V 4 fYw8), (Yf 0, .inr (2, o2_irrrrri (nI (n + ft)) (Yf 1) (Yf 2) (Yf 3) (Yf 4) (Yf 5) pYf0_6)), (Yf 1, aI V ((n + ft) * 2) fYf1), (Yf 2, aI V (n + ft) fYf2), (Yf 3, aI V ((n + ft) * 2) fYf3), (Yf 4, aI V (n + ft + 1) fYf4), (Yf 5, aI V ((n + ft) * 4) fYf5)]) (rnV (rest := []) ⟨hx, hb, hml, hown, hg⟩ (k_X9_isHill_0 l V y a1 py0_1 (.ref (Yw 0)) (.ref (Yf 0)) py0_12 py0_13 py0_14 py2_0 py2_1 py2_2 py2_3 py2_4 py2_5 py2_13 py2_14 py2_15 py2_16 py2_17 bpy0_1 bpy0_12 bpy0_13 bpy2_1 bpy2_2 bpy2_3 bpy2_4 bpy2_5 bpy2_13 bpy2_14 bpy2_15 bpy2_16 bpy2_17) mt_X9_isHill q_3_122 ⟨Nat.le_of_ble_eq_true rfl, Nat.le_of_ble_eq_true rfl⟩ hK hP hD hS hA hE [0, 1] rfl rfl 0 rfl rfl rfl rfl hl.1 rfl (Nat.le_of_ble_eq_true rfl) dX9_forces_2 ⟨Nat.le_of_ble_eq_true rfl, Nat.le_of_ble_eq_true rfl⟩) hP hD hS hA [0, 1] [2, 3, 4, 5, 6, 7, 8, 9, 10, 11, 12, 13, 14, 15, 16, 17, 18, 19, 20] rfl rfl rfl (by decide) (fun r_1 w H locs hw hP hD hS => ?_)
  rcases hw with ⟨c_2, rfl, et_3, rfl⟩ | ⟨c_4, c_5, rfl, et_6, rfl⟩ | ⟨c_7, c_8, rfl, et_9, rfl⟩
  · have hP : va_P V.1 vwCl [(y 3, aI V 4 fy3), (y 9, aI V 900 fy9), (y 19, .inr (4, o4_rrrrrr (y 2) (y 20) (y 21) (y 22) (y 23) (y 24))), (y 20, aI V 2000 fy20), (y 21, aI V 6 fy21), (y 22, aI V 64 fy22), (Yw 0, .inr (8, o8_iirrriirrrrrrriii pYw0_0 (nI n) (Yw 1) (Yw 2) wa pYw0_5 pYw0_6 (y 19) (Yw 4) (Yw 5) (Yw 6) (Yw 7) (Yw 8) wb pYw0_14 pYw0_15 pYw0_16)), (Yw 1, aI V n fYw1), (Yw 2, aI V n fYw2), (Yw 4, aI V L fYw4), (Yw 5, aI V n fYw5), (Yw 6, aI V (n * 4) fYw6), (Yw 8, aI V 4 fYw8), (Yf 0, .inr (2, o2_irrrrri (nI (n + ft)) (Yf 1) (Yf 2) (Yf 3) (Yf 4) (Yf 5) pYf0_6)), (Yf 1, aI V ((n + ft) * 2) fYf1), (Yf 2, aI V (n + ft) fYf2), (Yf 3, aI V ((n + ft) * 2) fYf3), (Yf 4, aI V (n + ft + 1) fYf4), (Yf 5, aI V ((n + ft) * 4) fYf5), (y 0, .inr (9, o9_rirrrrrrrrrriii (y 1) py0_1 (y 2) (y 10) (y 19) (y 25) (y 26) (y 30) (y 31) (y 32) (Yw 0) (Yf 0) py0_12 py0_13 py0_14)), (y 2, .inr (1, o1_iiiiiirrrrrrriiiii py2_0 py2_1 py2_2 py2_3 py2_4 py2_5 (y 3) (y 4) (y 5) (y 6) (y 7) (y 8) (y 9) py2_13 py2_14 py2_15 py2_16 py2_17))] H := hP
    have hD := cpD hP hD
    have b_10 : iv (-2147483648) (-1) a1 := iv_l1 c_2 (iv_top a1) (iv_c (0 : Int32) (a := 0) (b := 0) (by decide)) (by first | decide | omega)
    refine lv_if_ne (tgt := 11) hx hb dX9_forces_5 (by decide) (fun c_12 => absurd c_12 (by decide)) (fun _ => ?_)
    refine lv_bipush (v := (-2)) hx hb dX9_forces_8 (by decide) ?_
    have hP := subP (ws' := [(y 0, .inr (9, o9_rirrrrrrrrrriii (y 1) py0_1 (y 2) (y 10) (y 19) (y 25) (y 26) (y 30) (y 31) (y 32) (Yw 0) (Yf 0) py0_12 py0_13 py0_14)), (y 2, .inr (1, o1_iiiiiirrrrrrriiiii py2_0 py2_1 py2_2 py2_3 py2_4 py2_5 (y 3) (y 4) (y 5) (y 6) (y 7) (y 8) (y 9) py2_13 py2_14 py2_15 py2_16 py2_17)), (y 3, aI V 4 fy3), (y 9, aI V 900 fy9), (y 19, .inr (4, o4_rrrrrr (y 2) (y 20) (y 21) (y 22) (y 23) (y 24))), (y 20, aI V 2000 fy20), (y 21, aI V 6 fy21), (y 22, aI V 64 fy22), (Yw 0, .inr (8, o8_iirrriirrrrrrriii pYw0_0 (nI n) (Yw 1) (Yw 2) wa pYw0_5 pYw0_6 (y 19) (Yw 4) (Yw 5) (Yw 6) (Yw 7) (Yw 8) wb pYw0_14 pYw0_15 pYw0_16)), (Yw 1, aI V n fYw1), (Yw 2, aI V n fYw2), (Yw 4, aI V L fYw4), (Yw 5, aI V n fYw5), (Yw 6, aI V (n * 4) fYw6), (Yw 8, aI V 4 fYw8), (Yf 0, .inr (2, o2_irrrrri (nI (n + ft)) (Yf 1) (Yf 2) (Yf 3) (Yf 4) (Yf 5) pYf0_6)), (Yf 1, aI V ((n + ft) * 2) fYf1), (Yf 2, aI V (n + ft) fYf2), (Yf 3, aI V ((n + ft) * 2) fYf3), (Yf 4, aI V (n + ft + 1) fYf4), (Yf 5, aI V ((n + ft) * 4) fYf5)]) hP [19, 20, 0, 1, 2, 3, 4, 5, 6, 7, 8, 9, 10, 11, 12, 13, 14, 15, 16, 17, 18] rfl
    have hD := subD hP hD [19, 20, 0, 1, 2, 3, 4, 5, 6, 7, 8, 9, 10, 11, 12, 13, 14, 15, 16, 17, 18] rfl rfl
    exact fiI hx hb hr hlk hK hP hD hS dX9_forces_10 (Nat.le_of_ble_eq_true rfl) (Nat.le_of_ble_eq_true rfl) (⟨fy20, fy21, fy22, pYw0_5, pYw0_6, pYw0_14, pYw0_15, pYw0_16, fYw1, fYw2, fYw4, fYw5, fYw6, fYw8, pYf0_6, fYf1, fYf2, fYf3, fYf4, fYf5, tfy20, bpYw0_5, bpYw0_6, bpYw0_14, bpYw0_15, bpYw0_16, tfYw1, tfYw4, tfYw5, tfYw6, bpYf0_6, tfYf1, tfYf3, tfYf4, tfYf5, (iv_w (iv_c ((-2) : Int32) (a := (-2)) (b := (-2)) (by decide)) (by first | decide | omega)), hf0, hf1, hf2, hK9, rfl⟩)
  · have hP : va_P V.1 vwCl [(y 3, aI V 4 fy3), (y 9, aI V 900 fy9), (y 19, .inr (4, o4_rrrrrr (y 2) (y 20) (y 21) (y 22) (y 23) (y 24))), (y 20, aI V 2000 fy20), (y 21, aI V 6 fy21), (y 22, aI V 64 fy22), (Yw 0, .inr (8, o8_iirrriirrrrrrriii pYw0_0 (nI n) (Yw 1) (Yw 2) wa pYw0_5 pYw0_6 (y 19) (Yw 4) (Yw 5) (Yw 6) (Yw 7) (Yw 8) wb pYw0_14 pYw0_15 pYw0_16)), (Yw 1, aI V n fYw1), (Yw 2, aI V n fYw2), (Yw 4, aI V L fYw4), (Yw 5, aI V n fYw5), (Yw 6, aI V (n * 4) fYw6), (Yw 8, aI V 4 fYw8), (Yf 0, .inr (2, o2_irrrrri (nI (n + ft)) (Yf 1) (Yf 2) (Yf 3) (Yf 4) (Yf 5) pYf0_6)), (Yf 1, aI V ((n + ft) * 2) fYf1), (Yf 2, aI V (n + ft) fYf2), (Yf 3, aI V ((n + ft) * 2) fYf3), (Yf 4, aI V (n + ft + 1) fYf4), (Yf 5, aI V ((n + ft) * 4) fYf5), (y 0, .inr (9, o9_rirrrrrrrrrriii (y 1) py0_1 (y 2) (y 10) (y 19) (y 25) (y 26) (y 30) (y 31) (y 32) (Yw 0) (Yf 0) py0_12 py0_13 py0_14)), (y 2, .inr (1, o1_iiiiiirrrrrrriiiii py2_0 py2_1 py2_2 py2_3 py2_4 py2_5 (y 3) (y 4) (y 5) (y 6) (y 7) (y 8) (y 9) py2_13 py2_14 py2_15 py2_16 py2_17))] H := hP
    have hD := cpD hP hD
    have b_13 : iv 0 2147483647 a1 := iv_e2 (Int32.not_lt.mp c_4) (iv_c (0 : Int32) (a := 0) (b := 0) (by decide)) (iv_top a1) (by first | decide | omega)
    refine lv_if_ne (tgt := 11) hx hb dX9_forces_5 (by decide) (fun c_15 => absurd c_15 (by decide)) (fun _ => ?_)
    refine lv_bipush (v := (-2)) hx hb dX9_forces_8 (by decide) ?_
    have hP := subP (ws' := [(y 0, .inr (9, o9_rirrrrrrrrrriii (y 1) py0_1 (y 2) (y 10) (y 19) (y 25) (y 26) (y 30) (y 31) (y 32) (Yw 0) (Yf 0) py0_12 py0_13 py0_14)), (y 2, .inr (1, o1_iiiiiirrrrrrriiiii py2_0 py2_1 py2_2 py2_3 py2_4 py2_5 (y 3) (y 4) (y 5) (y 6) (y 7) (y 8) (y 9) py2_13 py2_14 py2_15 py2_16 py2_17)), (y 3, aI V 4 fy3), (y 9, aI V 900 fy9), (y 19, .inr (4, o4_rrrrrr (y 2) (y 20) (y 21) (y 22) (y 23) (y 24))), (y 20, aI V 2000 fy20), (y 21, aI V 6 fy21), (y 22, aI V 64 fy22), (Yw 0, .inr (8, o8_iirrriirrrrrrriii pYw0_0 (nI n) (Yw 1) (Yw 2) wa pYw0_5 pYw0_6 (y 19) (Yw 4) (Yw 5) (Yw 6) (Yw 7) (Yw 8) wb pYw0_14 pYw0_15 pYw0_16)), (Yw 1, aI V n fYw1), (Yw 2, aI V n fYw2), (Yw 4, aI V L fYw4), (Yw 5, aI V n fYw5), (Yw 6, aI V (n * 4) fYw6), (Yw 8, aI V 4 fYw8), (Yf 0, .inr (2, o2_irrrrri (nI (n + ft)) (Yf 1) (Yf 2) (Yf 3) (Yf 4) (Yf 5) pYf0_6)), (Yf 1, aI V ((n + ft) * 2) fYf1), (Yf 2, aI V (n + ft) fYf2), (Yf 3, aI V ((n + ft) * 2) fYf3), (Yf 4, aI V (n + ft + 1) fYf4), (Yf 5, aI V ((n + ft) * 4) fYf5)]) hP [19, 20, 0, 1, 2, 3, 4, 5, 6, 7, 8, 9, 10, 11, 12, 13, 14, 15, 16, 17, 18] rfl
    have hD := subD hP hD [19, 20, 0, 1, 2, 3, 4, 5, 6, 7, 8, 9, 10, 11, 12, 13, 14, 15, 16, 17, 18] rfl rfl
    exact fiI hx hb hr hlk hK hP hD hS dX9_forces_10 (Nat.le_of_ble_eq_true rfl) (Nat.le_of_ble_eq_true rfl) (⟨fy20, fy21, fy22, pYw0_5, pYw0_6, pYw0_14, pYw0_15, pYw0_16, fYw1, fYw2, fYw4, fYw5, fYw6, fYw8, pYf0_6, fYf1, fYf2, fYf3, fYf4, fYf5, tfy20, bpYw0_5, bpYw0_6, bpYw0_14, bpYw0_15, bpYw0_16, tfYw1, tfYw4, tfYw5, tfYw6, bpYf0_6, tfYf1, tfYf3, tfYf4, tfYf5, (iv_w (iv_c ((-2) : Int32) (a := (-2)) (b := (-2)) (by decide)) (by first | decide | omega)), hf0, hf1, hf2, hK9, rfl⟩)
  · have hP : va_P V.1 vwCl [(y 3, aI V 4 fy3), (y 9, aI V 900 fy9), (y 19, .inr (4, o4_rrrrrr (y 2) (y 20) (y 21) (y 22) (y 23) (y 24))), (y 20, aI V 2000 fy20), (y 21, aI V 6 fy21), (y 22, aI V 64 fy22), (Yw 0, .inr (8, o8_iirrriirrrrrrriii pYw0_0 (nI n) (Yw 1) (Yw 2) wa pYw0_5 pYw0_6 (y 19) (Yw 4) (Yw 5) (Yw 6) (Yw 7) (Yw 8) wb pYw0_14 pYw0_15 pYw0_16)), (Yw 1, aI V n fYw1), (Yw 2, aI V n fYw2), (Yw 4, aI V L fYw4), (Yw 5, aI V n fYw5), (Yw 6, aI V (n * 4) fYw6), (Yw 8, aI V 4 fYw8), (Yf 0, .inr (2, o2_irrrrri (nI (n + ft)) (Yf 1) (Yf 2) (Yf 3) (Yf 4) (Yf 5) pYf0_6)), (Yf 1, aI V ((n + ft) * 2) fYf1), (Yf 2, aI V (n + ft) fYf2), (Yf 3, aI V ((n + ft) * 2) fYf3), (Yf 4, aI V (n + ft + 1) fYf4), (Yf 5, aI V ((n + ft) * 4) fYf5), (y 0, .inr (9, o9_rirrrrrrrrrriii (y 1) py0_1 (y 2) (y 10) (y 19) (y 25) (y 26) (y 30) (y 31) (y 32) (Yw 0) (Yf 0) py0_12 py0_13 py0_14)), (y 2, .inr (1, o1_iiiiiirrrrrrriiiii py2_0 py2_1 py2_2 py2_3 py2_4 py2_5 (y 3) (y 4) (y 5) (y 6) (y 7) (y 8) (y 9) py2_13 py2_14 py2_15 py2_16 py2_17))] H := hP
    have hD := cpD hP hD
    have b_16 : iv 0 2147483647 a1 := iv_e2 (Int32.not_lt.mp c_7) (iv_c (0 : Int32) (a := 0) (b := 0) (by decide)) (iv_top a1) (by first | decide | omega)
    have b_17 : iv 0 3 a1 := iv_l1 (Int32.not_le.mp c_8) b_16 bpy2_1 (by first | decide | omega)
    have b_18 : iv 1 4 py2_1 := iv_l2 (Int32.not_le.mp c_8) b_16 bpy2_1 (by first | decide | omega)
    refine lv_if_ne (tgt := 11) hx hb dX9_forces_5 (by decide) (fun _ => ?_) (fun c_20 => absurd c_20 (by decide))
    refine lv_iload_n hx hb dX9_forces_11 rfl (lv_at hl 2 rfl) ?_
    refine jnI (wr := [(y 3, aI V 4 fy3), (y 9, aI V 900 fy9), (y 19, .inr (4, o4_rrrrrr (y 2) (y 20) (y 21) (y 22) (y 23) (y 24))), (y 20, aI V 2000 fy20), (y 21, aI V 6 fy21), (y 22, aI V 64 fy22), (Yw 0, .inr (8, o8_iirrriirrrrrrriii pYw0_0 (nI n) (Yw 1) (Yw 2) wa pYw0_5 pYw0_6 (y 19) (Yw 4) (Yw 5) (Yw 6) (Yw 7) (Yw 8) wb pYw0_14 pYw0_15 pYw0_16)), (Yw 1, aI V n fYw1), (Yw 2, aI V n fYw2), (Yw 4, aI V L fYw4), (Yw 5, aI V n fYw5), (Yw 6, aI V (n * 4) fYw6), (Yw 8, aI V 4 fYw8), (Yf 0, .inr (2, o2_irrrrri (nI (n + ft)) (Yf 1) (Yf 2) (Yf 3) (Yf 4) (Yf 5) pYf0_6)), (Yf 1, aI V ((n + ft) * 2) fYf1), (Yf 2, aI V (n + ft) fYf2), (Yf 3, aI V ((n + ft) * 2) fYf3), (Yf 4, aI V (n + ft + 1) fYf4), (Yf 5, aI V ((n + ft) * 4) fYf5), (y 0, .inr (9, o9_rirrrrrrrrrriii (y 1) py0_1 (y 2) (y 10) (y 19) (y 25) (y 26) (y 30) (y 31) (y 32) (Yw 0) (Yf 0) py0_12 py0_13 py0_14)), (y 2, .inr (1, o1_iiiiiirrrrrrriiiii py2_0 py2_1 py2_2 py2_3 py2_4 py2_5 (y 3) (y 4) (y 5) (y 6) (y 7) (y 8) (y 9) py2_13 py2_14 py2_15 py2_16 py2_17))]) (rnS (rest := []) ⟨hx, hb, hml, hown, hg⟩ (k_X9_isHeight_0 l V a2) mt_X9_isHeight q_4_49 ⟨Nat.le_of_ble_eq_true rfl, Nat.le_of_ble_eq_true rfl⟩ hK hP hD hS hA hE [] rfl rfl rfl hl.1 rfl (Nat.le_of_ble_eq_true rfl) dX9_forces_12 ⟨Nat.le_of_ble_eq_true rfl, Nat.le_of_ble_eq_true rfl⟩) hP hD hS hA [] [0, 1, 2, 3, 4, 5, 6, 7, 8, 9, 10, 11, 12, 13, 14, 15, 16, 17, 18, 19, 20] rfl rfl rfl (by decide) (fun r_21 w H locs hw hP hD hS => ?_)
    rcases hw with ⟨c_22, rfl, rfl⟩ | ⟨c_23, c_24, rfl, rfl⟩ | ⟨c_25, c_26, rfl, rfl⟩
    · have hP : va_P V.1 vwCl [(y 3, aI V 4 fy3), (y 9, aI V 900 fy9), (y 19, .inr (4, o4_rrrrrr (y 2) (y 20) (y 21) (y 22) (y 23) (y 24))), (y 20, aI V 2000 fy20), (y 21, aI V 6 fy21), (y 22, aI V 64 fy22), (Yw 0, .inr (8, o8_iirrriirrrrrrriii pYw0_0 (nI n) (Yw 1) (Yw 2) wa pYw0_5 pYw0_6 (y 19) (Yw 4) (Yw 5) (Yw 6) (Yw 7) (Yw 8) wb pYw0_14 pYw0_15 pYw0_16)), (Yw 1, aI V n fYw1), (Yw 2, aI V n fYw2), (Yw 4, aI V L fYw4), (Yw 5, aI V n fYw5), (Yw 6, aI V (n * 4) fYw6), (Yw 8, aI V 4 fYw8), (Yf 0, .inr (2, o2_irrrrri (nI (n + ft)) (Yf 1) (Yf 2) (Yf 3) (Yf 4) (Yf 5) pYf0_6)), (Yf 1, aI V ((n + ft) * 2) fYf1), (Yf 2, aI V (n + ft) fYf2), (Yf 3, aI V ((n + ft) * 2) fYf3), (Yf 4, aI V (n + ft + 1) fYf4), (Yf 5, aI V ((n + ft) * 4) fYf5), (y 0, .inr (9, o9_rirrrrrrrrrriii (y 1) py0_1 (y 2) (y 10) (y 19) (y 25) (y 26) (y 30) (y 31) (y 32) (Yw 0) (Yf 0) py0_12 py0_13 py0_14)), (y 2, .inr (1, o1_iiiiiirrrrrrriiiii py2_0 py2_1 py2_2 py2_3 py2_4 py2_5 (y 3) (y 4) (y 5) (y 6) (y 7) (y 8) (y 9) py2_13 py2_14 py2_15 py2_16 py2_17))] H := hP
      have hD := cpD hP hD
      have b_27 : iv (-2147483648) (-1) a2 := iv_l1 c_22 (iv_top a2) (iv_c (0 : Int32) (a := 0) (b := 0) (by decide)) (by first | decide | omega)
      refine lv_if_ne (tgt := 21) hx hb dX9_forces_15 (by decide) (fun c_29 => absurd c_29 (by decide)) (fun _ => ?_)
      refine lv_bipush (v := (-3)) hx hb dX9_forces_18 (by decide) ?_
      have hP := subP (ws' := [(y 0, .inr (9, o9_rirrrrrrrrrriii (y 1) py0_1 (y 2) (y 10) (y 19) (y 25) (y 26) (y 30) (y 31) (y 32) (Yw 0) (Yf 0) py0_12 py0_13 py0_14)), (y 2, .inr (1, o1_iiiiiirrrrrrriiiii py2_0 py2_1 py2_2 py2_3 py2_4 py2_5 (y 3) (y 4) (y 5) (y 6) (y 7) (y 8) (y 9) py2_13 py2_14 py2_15 py2_16 py2_17)), (y 3, aI V 4 fy3), (y 9, aI V 900 fy9), (y 19, .inr (4, o4_rrrrrr (y 2) (y 20) (y 21) (y 22) (y 23) (y 24))), (y 20, aI V 2000 fy20), (y 21, aI V 6 fy21), (y 22, aI V 64 fy22), (Yw 0, .inr (8, o8_iirrriirrrrrrriii pYw0_0 (nI n) (Yw 1) (Yw 2) wa pYw0_5 pYw0_6 (y 19) (Yw 4) (Yw 5) (Yw 6) (Yw 7) (Yw 8) wb pYw0_14 pYw0_15 pYw0_16)), (Yw 1, aI V n fYw1), (Yw 2, aI V n fYw2), (Yw 4, aI V L fYw4), (Yw 5, aI V n fYw5), (Yw 6, aI V (n * 4) fYw6), (Yw 8, aI V 4 fYw8), (Yf 0, .inr (2, o2_irrrrri (nI (n + ft)) (Yf 1) (Yf 2) (Yf 3) (Yf 4) (Yf 5) pYf0_6)), (Yf 1, aI V ((n + ft) * 2) fYf1), (Yf 2, aI V (n + ft) fYf2), (Yf 3, aI V ((n + ft) * 2) fYf3), (Yf 4, aI V (n + ft + 1) fYf4), (Yf 5, aI V ((n + ft) * 4) fYf5)]) hP [19, 20, 0, 1, 2, 3, 4, 5, 6, 7, 8, 9, 10, 11, 12, 13, 14, 15, 16, 17, 18] rfl
      have hD := subD hP hD [19, 20, 0, 1, 2, 3, 4, 5, 6, 7, 8, 9, 10, 11, 12, 13, 14, 15, 16, 17, 18] rfl rfl
      exact fiI hx hb hr hlk hK hP hD hS dX9_forces_20 (Nat.le_of_ble_eq_true rfl) (Nat.le_of_ble_eq_true rfl) (⟨fy20, fy21, fy22, pYw0_5, pYw0_6, pYw0_14, pYw0_15, pYw0_16, fYw1, fYw2, fYw4, fYw5, fYw6, fYw8, pYf0_6, fYf1, fYf2, fYf3, fYf4, fYf5, tfy20, bpYw0_5, bpYw0_6, bpYw0_14, bpYw0_15, bpYw0_16, tfYw1, tfYw4, tfYw5, tfYw6, bpYf0_6, tfYf1, tfYf3, tfYf4, tfYf5, (iv_w (iv_c ((-3) : Int32) (a := (-3)) (b := (-3)) (by decide)) (by first | decide | omega)), hf0, hf1, hf2, hK9, rfl⟩)
    · have hP : va_P V.1 vwCl [(y 3, aI V 4 fy3), (y 9, aI V 900 fy9), (y 19, .inr (4, o4_rrrrrr (y 2) (y 20) (y 21) (y 22) (y 23) (y 24))), (y 20, aI V 2000 fy20), (y 21, aI V 6 fy21), (y 22, aI V 64 fy22), (Yw 0, .inr (8, o8_iirrriirrrrrrriii pYw0_0 (nI n) (Yw 1) (Yw 2) wa pYw0_5 pYw0_6 (y 19) (Yw 4) (Yw 5) (Yw 6) (Yw 7) (Yw 8) wb pYw0_14 pYw0_15 pYw0_16)), (Yw 1, aI V n fYw1), (Yw 2, aI V n fYw2), (Yw 4, aI V L fYw4), (Yw 5, aI V n fYw5), (Yw 6, aI V (n * 4) fYw6), (Yw 8, aI V 4 fYw8), (Yf 0, .inr (2, o2_irrrrri (nI (n + ft)) (Yf 1) (Yf 2) (Yf 3) (Yf 4) (Yf 5) pYf0_6)), (Yf 1, aI V ((n + ft) * 2) fYf1), (Yf 2, aI V (n + ft) fYf2), (Yf 3, aI V ((n + ft) * 2) fYf3), (Yf 4, aI V (n + ft + 1) fYf4), (Yf 5, aI V ((n + ft) * 4) fYf5), (y 0, .inr (9, o9_rirrrrrrrrrriii (y 1) py0_1 (y 2) (y 10) (y 19) (y 25) (y 26) (y 30) (y 31) (y 32) (Yw 0) (Yf 0) py0_12 py0_13 py0_14)), (y 2, .inr (1, o1_iiiiiirrrrrrriiiii py2_0 py2_1 py2_2 py2_3 py2_4 py2_5 (y 3) (y 4) (y 5) (y 6) (y 7) (y 8) (y 9) py2_13 py2_14 py2_15 py2_16 py2_17))] H := hP
      have hD := cpD hP hD
      have b_30 : iv 0 2147483647 a2 := iv_e2 (Int32.not_lt.mp c_23) (iv_c (0 : Int32) (a := 0) (b := 0) (by decide)) (iv_top a2) (by first | decide | omega)
      have b_31 : iv 5 2147483647 a2 := iv_l2 c_24 (iv_c (4 : Int32) (a := 4) (b := 4) (by decide)) b_30 (by first | decide | omega)
      refine lv_if_ne (tgt := 21) hx hb dX9_forces_15 (by decide) (fun c_33 => absurd c_33 (by decide)) (fun _ => ?_)
      refine lv_bipush (v := (-3)) hx hb dX9_forces_18 (by decide) ?_
      have hP := subP (ws' := [(y 0, .inr (9, o9_rirrrrrrrrrriii (y 1) py0_1 (y 2) (y 10) (y 19) (y 25) (y 26) (y 30) (y 31) (y 32) (Yw 0) (Yf 0) py0_12 py0_13 py0_14)), (y 2, .inr (1, o1_iiiiiirrrrrrriiiii py2_0 py2_1 py2_2 py2_3 py2_4 py2_5 (y 3) (y 4) (y 5) (y 6) (y 7) (y 8) (y 9) py2_13 py2_14 py2_15 py2_16 py2_17)), (y 3, aI V 4 fy3), (y 9, aI V 900 fy9), (y 19, .inr (4, o4_rrrrrr (y 2) (y 20) (y 21) (y 22) (y 23) (y 24))), (y 20, aI V 2000 fy20), (y 21, aI V 6 fy21), (y 22, aI V 64 fy22), (Yw 0, .inr (8, o8_iirrriirrrrrrriii pYw0_0 (nI n) (Yw 1) (Yw 2) wa pYw0_5 pYw0_6 (y 19) (Yw 4) (Yw 5) (Yw 6) (Yw 7) (Yw 8) wb pYw0_14 pYw0_15 pYw0_16)), (Yw 1, aI V n fYw1), (Yw 2, aI V n fYw2), (Yw 4, aI V L fYw4), (Yw 5, aI V n fYw5), (Yw 6, aI V (n * 4) fYw6), (Yw 8, aI V 4 fYw8), (Yf 0, .inr (2, o2_irrrrri (nI (n + ft)) (Yf 1) (Yf 2) (Yf 3) (Yf 4) (Yf 5) pYf0_6)), (Yf 1, aI V ((n + ft) * 2) fYf1), (Yf 2, aI V (n + ft) fYf2), (Yf 3, aI V ((n + ft) * 2) fYf3), (Yf 4, aI V (n + ft + 1) fYf4), (Yf 5, aI V ((n + ft) * 4) fYf5)]) hP [19, 20, 0, 1, 2, 3, 4, 5, 6, 7, 8, 9, 10, 11, 12, 13, 14, 15, 16, 17, 18] rfl
      have hD := subD hP hD [19, 20, 0, 1, 2, 3, 4, 5, 6, 7, 8, 9, 10, 11, 12, 13, 14, 15, 16, 17, 18] rfl rfl
      exact fiI hx hb hr hlk hK hP hD hS dX9_forces_20 (Nat.le_of_ble_eq_true rfl) (Nat.le_of_ble_eq_true rfl) (⟨fy20, fy21, fy22, pYw0_5, pYw0_6, pYw0_14, pYw0_15, pYw0_16, fYw1, fYw2, fYw4, fYw5, fYw6, fYw8, pYf0_6, fYf1, fYf2, fYf3, fYf4, fYf5, tfy20, bpYw0_5, bpYw0_6, bpYw0_14, bpYw0_15, bpYw0_16, tfYw1, tfYw4, tfYw5, tfYw6, bpYf0_6, tfYf1, tfYf3, tfYf4, tfYf5, (iv_w (iv_c ((-3) : Int32) (a := (-3)) (b := (-3)) (by decide)) (by first | decide | omega)), hf0, hf1, hf2, hK9, rfl⟩)
    · have hP : va_P V.1 vwCl [(y 3, aI V 4 fy3), (y 9, aI V 900 fy9), (y 19, .inr (4, o4_rrrrrr (y 2) (y 20) (y 21) (y 22) (y 23) (y 24))), (y 20, aI V 2000 fy20), (y 21, aI V 6 fy21), (y 22, aI V 64 fy22), (Yw 0, .inr (8, o8_iirrriirrrrrrriii pYw0_0 (nI n) (Yw 1) (Yw 2) wa pYw0_5 pYw0_6 (y 19) (Yw 4) (Yw 5) (Yw 6) (Yw 7) (Yw 8) wb pYw0_14 pYw0_15 pYw0_16)), (Yw 1, aI V n fYw1), (Yw 2, aI V n fYw2), (Yw 4, aI V L fYw4), (Yw 5, aI V n fYw5), (Yw 6, aI V (n * 4) fYw6), (Yw 8, aI V 4 fYw8), (Yf 0, .inr (2, o2_irrrrri (nI (n + ft)) (Yf 1) (Yf 2) (Yf 3) (Yf 4) (Yf 5) pYf0_6)), (Yf 1, aI V ((n + ft) * 2) fYf1), (Yf 2, aI V (n + ft) fYf2), (Yf 3, aI V ((n + ft) * 2) fYf3), (Yf 4, aI V (n + ft + 1) fYf4), (Yf 5, aI V ((n + ft) * 4) fYf5), (y 0, .inr (9, o9_rirrrrrrrrrriii (y 1) py0_1 (y 2) (y 10) (y 19) (y 25) (y 26) (y 30) (y 31) (y 32) (Yw 0) (Yf 0) py0_12 py0_13 py0_14)), (y 2, .inr (1, o1_iiiiiirrrrrrriiiii py2_0 py2_1 py2_2 py2_3 py2_4 py2_5 (y 3) (y 4) (y 5) (y 6) (y 7) (y 8) (y 9) py2_13 py2_14 py2_15 py2_16 py2_17))] H := hP
      have hD := cpD hP hD
      have b_34 : iv 0 2147483647 a2 := iv_e2 (Int32.not_lt.mp c_25) (iv_c (0 : Int32) (a := 0) (b := 0) (by decide)) (iv_top a2) (by first | decide | omega)
      have b_35 : iv 0 4 a2 := iv_e1 (Int32.not_lt.mp c_26) b_34 (iv_c (4 : Int32) (a := 4) (b := 4) (by decide)) (by first | decide | omega)
      refine lv_if_ne (tgt := 21) hx hb dX9_forces_15 (by decide) (fun _ => ?_) (fun c_37 => absurd c_37 (by decide))
      refine lv_aload_n hx hb dX9_forces_21 rfl (lv_at hl 0 rfl) ?_
      refine lv_ldcw (v := 1000000) hx hb hown (hg _ q_4_194) dX9_forces_22 ?_
      refine jnR (wr := [(Yf 0, .inr (2, o2_irrrrri (nI (n + ft)) (Yf 1) (Yf 2) (Yf 3) (Yf 4) (Yf 5) pYf0_6)), (Yf 1, aI V ((n + ft) * 2) fYf1), (Yf 2, aI V (n + ft) fYf2), (Yf 3, aI V ((n + ft) * 2) fYf3), (Yf 4, aI V (n + ft + 1) fYf4), (Yf 5, aI V ((n + ft) * 4) fYf5)]) (rnV (rest := []) ⟨hx, hb, hml, hown, hg⟩ (k_X9_waysFromNow_0 l V n L Yw y D9 1000000 py0_1 (.ref (Yf 0)) py0_12 py0_13 py0_14 py2_0 py2_1 py2_2 py2_3 py2_4 py2_5 py2_13 py2_14 py2_15 py2_16 py2_17 fy3 fy9 fy20 fy21 fy22 pYw0_0 wa pYw0_5 pYw0_6 wb pYw0_14 pYw0_15 pYw0_16 fYw1 fYw2 fYw4 fYw5 fYw6 fYw8 hn hL hq0 bpy0_1 bpy0_12 bpy0_13 (iv_w b_18 (by first | decide | omega)) bpy2_2 bpy2_3 bpy2_4 bpy2_5 bpy2_13 bpy2_14 bpy2_15 bpy2_16 bpy2_17 tfy20 bpYw0_0 bpYw0_5 bpYw0_6 bpYw0_14 bpYw0_15 bpYw0_16 tfYw1 tfYw4 tfYw5 tfYw6 hf0 hf1 hf2 hL9 hK9) mt_X9_waysFromNow q_4_52 ⟨Nat.le_of_ble_eq_true rfl, Nat.le_of_ble_eq_true rfl⟩ hK hP hD hS hA hE [19, 20, 0, 1, 2, 3, 4, 5, 6, 7, 8, 9, 10, 11, 12] rfl rfl 19 rfl rfl rfl rfl hl.1 rfl (Nat.le_of_ble_eq_true rfl) dX9_forces_25 ⟨Nat.le_of_ble_eq_true rfl, Nat.le_of_ble_eq_true rfl⟩) hP hD hS hA [19, 20, 0, 1, 2, 3, 4, 5, 6, 7, 8, 9, 10, 11, 12] [13, 14, 15, 16, 17, 18] rfl rfl rfl (by decide) (fun r_38 w H locs hw hP hD hS => ?_)
      obtain ⟨f_39, f_40, f_41, v_42, v_43, v_44, v_45, v_46, f_47, f_48, f_49, f_50, f_51, f_52, tf_39, bv_42, bv_43, bv_44, bv_45, bv_46, tf_47, tf_49, tf_50, tf_51, rfl, g_53, g_54, g_55, g_56, kn_57, rfl⟩ := hw
      have hP : va_P V.1 vwCl [(Yf 0, .inr (2, o2_irrrrri (nI (n + ft)) (Yf 1) (Yf 2) (Yf 3) (Yf 4) (Yf 5) pYf0_6)), (Yf 1, aI V ((n + ft) * 2) fYf1), (Yf 2, aI V (n + ft) fYf2), (Yf 3, aI V ((n + ft) * 2) fYf3), (Yf 4, aI V (n + ft + 1) fYf4), (Yf 5, aI V ((n + ft) * 4) fYf5), (y 0, .inr (9, o9_rirrrrrrrrrriii (y 1) py0_1 (y 2) (y 10) (y 19) (y 25) (y 26) (y 30) (y 31) (y 32) (Yw 0) (Yf 0) py0_12 py0_13 py0_14)), (y 2, .inr (1, o1_iiiiiirrrrrrriiiii py2_0 py2_1 py2_2 py2_3 py2_4 py2_5 (y 3) (y 4) (y 5) (y 6) (y 7) (y 8) (y 9) py2_13 py2_14 py2_15 py2_16 py2_17)), (y 3, aI V 4 fy3), (y 9, aI V 900 fy9), (y 19, .inr (4, o4_rrrrrr (y 2) (y 20) (y 21) (y 22) (y 23) (y 24))), (y 20, aI V 2000 f_39), (y 21, aI V 6 f_40), (y 22, aI V 64 f_41), (Yw 0, .inr (8, o8_iirrriirrrrrrriii pYw0_0 (nI n) (Yw 1) (Yw 2) wa v_42 v_43 (y 19) (Yw 4) (Yw 5) (Yw 6) (Yw 7) (Yw 8) wb v_44 v_45 v_46)), (Yw 1, aI V n f_47), (Yw 2, aI V n f_48), (Yw 4, aI V L f_49), (Yw 5, aI V n f_50), (Yw 6, aI V (n * 4) f_51), (Yw 8, aI V 4 f_52)] H := hP
      have hD := cpD hP hD
      refine lv_astore_n (lv' := [(3, .ref (Yw 0)), (0, .ref (y 0)), (1, .int a1), (2, .int a2)]) hx hb dX9_forces_28 rfl hl (by decide) rfl (fun ls hl => ?_)
      refine lv_aload_n hx hb dX9_forces_29 rfl (lv_at hl 1 rfl) ?_
      refine lv_aload_n hx hb dX9_forces_30 rfl (lv_at hl 0 rfl) ?_
      refine jnR (wr := [(Yf 1, aI V ((n + ft) * 2) fYf1), (Yf 2, aI V (n + ft) fYf2), (Yf 3, aI V ((n + ft) * 2) fYf3), (Yf 4, aI V (n + ft + 1) fYf4), (Yf 5, aI V ((n + ft) * 4) fYf5), (y 2, .inr (1, o1_iiiiiirrrrrrriiiii py2_0 py2_1 py2_2 py2_3 py2_4 py2_5 (y 3) (y 4) (y 5) (y 6) (y 7) (y 8) (y 9) py2_13 py2_14 py2_15 py2_16 py2_17)), (y 3, aI V 4 fy3), (y 9, aI V 900 fy9), (y 19, .inr (4, o4_rrrrrr (y 2) (y 20) (y 21) (y 22) (y 23) (y 24))), (y 20, aI V 2000 f_39), (y 21, aI V 6 f_40), (y 22, aI V 64 f_41), (Yw 1, aI V n f_47), (Yw 2, aI V n f_48), (Yw 4, aI V L f_49), (Yw 5, aI V n f_50), (Yw 6, aI V (n * 4) f_51), (Yw 8, aI V 4 f_52)]) (rnV (rest := []) ⟨hx, hb, hml, hown, hg⟩ (k_X9_forcingFrom_0 l V n ft Yw Yf y pYf0_6 py0_1 py0_12 py0_13 py0_14 pYw0_0 wa v_42 v_43 wb v_44 v_45 v_46 hn hft bpYf0_6 bpy0_1 bpy0_12 bpy0_13 bpYw0_0 bv_42 bv_43 bv_44 bv_45 bv_46) mt_X9_forcingFrom q_5_90 ⟨Nat.le_of_ble_eq_true rfl, Nat.le_of_ble_eq_true rfl⟩ hK hP hD hS hA hE [0, 6, 14] rfl rfl 6 rfl rfl rfl rfl hl.1 rfl (Nat.le_of_ble_eq_true rfl) dX9_forces_31 ⟨Nat.le_of_ble_eq_true rfl, Nat.le_of_ble_eq_true rfl⟩) hP hD hS hA [0, 6, 14] [1, 2, 3, 4, 5, 7, 8, 9, 10, 11, 12, 13, 15, 16, 17, 18, 19, 20] rfl rfl rfl (by decide) (fun r_58 w H locs hw hP hD hS => ?_)
      obtain ⟨rfl, rfl⟩ := hw
      have hP : va_P V.1 vwCl [(Yf 1, aI V ((n + ft) * 2) fYf1), (Yf 2, aI V (n + ft) fYf2), (Yf 3, aI V ((n + ft) * 2) fYf3), (Yf 4, aI V (n + ft + 1) fYf4), (Yf 5, aI V ((n + ft) * 4) fYf5), (y 2, .inr (1, o1_iiiiiirrrrrrriiiii py2_0 py2_1 py2_2 py2_3 py2_4 py2_5 (y 3) (y 4) (y 5) (y 6) (y 7) (y 8) (y 9) py2_13 py2_14 py2_15 py2_16 py2_17)), (y 3, aI V 4 fy3), (y 9, aI V 900 fy9), (y 19, .inr (4, o4_rrrrrr (y 2) (y 20) (y 21) (y 22) (y 23) (y 24))), (y 20, aI V 2000 f_39), (y 21, aI V 6 f_40), (y 22, aI V 64 f_41), (Yw 1, aI V n f_47), (Yw 2, aI V n f_48), (Yw 4, aI V L f_49), (Yw 5, aI V n f_50), (Yw 6, aI V (n * 4) f_51), (Yw 8, aI V 4 f_52), (Yf 0, .inr (2, o2_irrrrri (nI (n + ft)) (Yf 1) (Yf 2) (Yf 3) (Yf 4) (Yf 5) pYf0_6)), (y 0, .inr (9, o9_rirrrrrrrrrriii (y 1) py0_1 (y 2) (y 10) (y 19) (y 25) (y 26) (y 30) (y 31) (y 32) (Yw 0) (Yf 0) py0_12 py0_13 py0_14)), (Yw 0, .inr (8, o8_iirrriirrrrrrriii pYw0_0 (nI n) (Yw 1) (Yw 2) wa v_42 v_43 (y 19) (Yw 4) (Yw 5) (Yw 6) (Yw 7) (Yw 8) wb v_44 v_45 v_46))] H := hP
      have hD := cpD hP hD
      refine lv_aload_n hx hb dX9_forces_34 rfl (lv_at hl 0 rfl) ?_
      refine lv_iload_n hx hb dX9_forces_35 rfl (lv_at hl 2 rfl) ?_
      refine lv_iload_n hx hb dX9_forces_36 rfl (lv_at hl 3 rfl) ?_
      refine jnI (wr := [(y 2, .inr (1, o1_iiiiiirrrrrrriiiii py2_0 py2_1 py2_2 py2_3 py2_4 py2_5 (y 3) (y 4) (y 5) (y 6) (y 7) (y 8) (y 9) py2_13 py2_14 py2_15 py2_16 py2_17)), (y 3, aI V 4 fy3), (y 9, aI V 900 fy9), (y 19, .inr (4, o4_rrrrrr (y 2) (y 20) (y 21) (y 22) (y 23) (y 24))), (y 20, aI V 2000 f_39), (y 21, aI V 6 f_40), (y 22, aI V 64 f_41), (Yw 2, aI V n f_48), (Yw 4, aI V L f_49), (Yw 5, aI V n f_50), (Yw 8, aI V 4 f_52), (y 0, .inr (9, o9_rirrrrrrrrrriii (y 1) py0_1 (y 2) (y 10) (y 19) (y 25) (y 26) (y 30) (y 31) (y 32) (Yw 0) (Yf 0) py0_12 py0_13 py0_14))]) (rnV (rest := []) ⟨hx, hb, hml, hown, hg⟩ (k_X2_fewest_0 l V n L ft Yw Yf y a1 a2 fYf1 fYf2 fYf3 fYf4 fYf5 f_47 f_51 pYf0_6 pYw0_0 wa v_42 v_43 wb v_44 v_45 v_46 hn hL hft b_17 tfYf1 tfYf3 tfYf4 tfYf5 tf_47 tf_51 bpYf0_6 bpYw0_0 bv_42 bv_43 bv_44 bv_45 bv_46 g_54 (g_56 (by decide))) mt_X2_fewest q_5_123 ⟨Nat.le_of_ble_eq_true rfl, Nat.le_of_ble_eq_true rfl⟩ hK hP hD hS hA hE [0, 1, 2, 3, 4, 12, 16, 18, 20] rfl rfl 18 rfl rfl rfl rfl hl.1 rfl (Nat.le_of_ble_eq_true rfl) dX9_forces_37 ⟨Nat.le_of_ble_eq_true rfl, Nat.le_of_ble_eq_true rfl⟩) hP hD hS hA [0, 1, 2, 3, 4, 12, 16, 18, 20] [5, 6, 7, 8, 9, 10, 11, 13, 14, 15, 17, 19] rfl rfl rfl (by decide) (fun r_59 w H locs hw hP hD hS => ?_)
      obtain ⟨f_60, f_61, f_62, f_63, f_64, v_65, tf_60, tf_62, tf_63, tf_64, bv_65, br_59, rfl⟩ := hw
      have hP : va_P V.1 vwCl [(y 2, .inr (1, o1_iiiiiirrrrrrriiiii py2_0 py2_1 py2_2 py2_3 py2_4 py2_5 (y 3) (y 4) (y 5) (y 6) (y 7) (y 8) (y 9) py2_13 py2_14 py2_15 py2_16 py2_17)), (y 3, aI V 4 fy3), (y 9, aI V 900 fy9), (y 19, .inr (4, o4_rrrrrr (y 2) (y 20) (y 21) (y 22) (y 23) (y 24))), (y 20, aI V 2000 f_39), (y 21, aI V 6 f_40), (y 22, aI V 64 f_41), (Yw 2, aI V n f_48), (Yw 4, aI V L f_49), (Yw 5, aI V n f_50), (Yw 8, aI V 4 f_52), (y 0, .inr (9, o9_rirrrrrrrrrriii (y 1) py0_1 (y 2) (y 10) (y 19) (y 25) (y 26) (y 30) (y 31) (y 32) (Yw 0) (Yf 0) py0_12 py0_13 py0_14)), (Yf 1, aI V ((n + ft) * 2) f_60), (Yf 2, aI V (n + ft) f_61), (Yf 3, aI V ((n + ft) * 2) f_62), (Yf 4, aI V (n + ft + 1) f_63), (Yf 5, aI V ((n + ft) * 4) f_64), (Yw 1, aI V n f_47), (Yw 6, aI V (n * 4) f_51), (Yf 0, .inr (2, o2_irrrrri (nI (n + ft)) (Yf 1) (Yf 2) (Yf 3) (Yf 4) (Yf 5) v_65)), (Yw 0, .inr (8, o8_iirrriirrrrrrriii pYw0_0 (nI n) (Yw 1) (Yw 2) wa v_42 v_43 (y 19) (Yw 4) (Yw 5) (Yw 6) (Yw 7) (Yw 8) wb v_44 v_45 v_46))] H := hP
      have hD := cpD hP hD
      have hP := subP (ws' := [(y 0, .inr (9, o9_rirrrrrrrrrriii (y 1) py0_1 (y 2) (y 10) (y 19) (y 25) (y 26) (y 30) (y 31) (y 32) (Yw 0) (Yf 0) py0_12 py0_13 py0_14)), (y 2, .inr (1, o1_iiiiiirrrrrrriiiii py2_0 py2_1 py2_2 py2_3 py2_4 py2_5 (y 3) (y 4) (y 5) (y 6) (y 7) (y 8) (y 9) py2_13 py2_14 py2_15 py2_16 py2_17)), (y 3, aI V 4 fy3), (y 9, aI V 900 fy9), (y 19, .inr (4, o4_rrrrrr (y 2) (y 20) (y 21) (y 22) (y 23) (y 24))), (y 20, aI V 2000 f_39), (y 21, aI V 6 f_40), (y 22, aI V 64 f_41), (Yw 0, .inr (8, o8_iirrriirrrrrrriii pYw0_0 (nI n) (Yw 1) (Yw 2) wa v_42 v_43 (y 19) (Yw 4) (Yw 5) (Yw 6) (Yw 7) (Yw 8) wb v_44 v_45 v_46)), (Yw 1, aI V n f_47), (Yw 2, aI V n f_48), (Yw 4, aI V L f_49), (Yw 5, aI V n f_50), (Yw 6, aI V (n * 4) f_51), (Yw 8, aI V 4 f_52), (Yf 0, .inr (2, o2_irrrrri (nI (n + ft)) (Yf 1) (Yf 2) (Yf 3) (Yf 4) (Yf 5) v_65)), (Yf 1, aI V ((n + ft) * 2) f_60), (Yf 2, aI V (n + ft) f_61), (Yf 3, aI V ((n + ft) * 2) f_62), (Yf 4, aI V (n + ft + 1) f_63), (Yf 5, aI V ((n + ft) * 4) f_64)]) hP [11, 0, 1, 2, 3, 4, 5, 6, 20, 17, 7, 8, 9, 18, 10, 19, 12, 13, 14, 15, 16] rfl
      have hD := subD hP hD [11, 0, 1, 2, 3, 4, 5, 6, 20, 17, 7, 8, 9, 18, 10, 19, 12, 13, 14, 15, 16] rfl rfl
      exact fiI hx hb hr hlk hK hP hD hS dX9_forces_40 (Nat.le_of_ble_eq_true rfl) (Nat.le_of_ble_eq_true rfl) (⟨f_39, f_40, f_41, v_42, v_43, v_44, v_45, v_46, f_47, f_48, f_49, f_50, f_51, f_52, v_65, f_60, f_61, f_62, f_63, f_64, tf_39, bv_42, bv_43, bv_44, bv_45, bv_46, tf_47, tf_49, tf_50, tf_51, bv_65, tf_60, tf_62, tf_63, tf_64, (iv_w br_59 (by first | decide | omega)), g_53, g_54, g_55, kn_57, rfl⟩)
set_option maxHeartbeats 4000000 in
set_option maxRecDepth 100000 in
theorem k_X9_forces_1 (l : Launch) (V : GV) (y : Nat → Nat) (a1 : Int32) (a2 : Int32) (py0_1 : Int32) (o10 : Value) (o11 : Value) (py0_12 : Int32) (py0_13 : Int32) (py0_14 : Int32) (py2_0 : Int32) (py2_1 : Int32) (py2_2 : Int32) (py2_3 : Int32) (py2_4 : Int32) (py2_5 : Int32) (py2_13 : Int32) (py2_14 : Int32) (py2_15 : Int32) (py2_16 : Int32) (py2_17 : Int32) (bpy0_1 : iv 0 900 py0_1) (bpy0_12 : iv 0 9999 py0_12) (bpy0_13 : iv 0 9 py0_13) (bpy2_1 : iv 0 4 py2_1) (bpy2_2 : iv 0 4 py2_2) (bpy2_3 : iv 0 8 py2_3) (bpy2_4 : iv 0 9999 py2_4) (bpy2_5 : iv 0 9 py2_5) (bpy2_13 : iv 0 900 py2_13) (bpy2_14 : iv 0 900 py2_14) (bpy2_15 : iv 0 900 py2_15) (bpy2_16 : iv 0 900 py2_16) (bpy2_17 : iv 0 900 py2_17) (hf0 : ¬ (0 ≤ (a1 : Int32).toInt ∧ (a1 : Int32).toInt < (py2_1 : Int32).toInt ∧ 0 ≤ (a2 : Int32).toInt ∧ (a2 : Int32).toInt ≤ 4)) : Ct l V yX9_forces (.code yX9_forces cX9_forces 4 (some .int)) 2 [.ref (y 0), .int a1, .int a2] [(y 0, .inr (9, o9_rirrrrrrrrvviii (y 1) py0_1 (y 2) (y 10) (y 19) (y 25) (y 26) (y 30) (y 31) (y 32) o10 o11 py0_12 py0_13 py0_14)), (y 2, .inr (1, o1_iiiiiirrrrrrriiiii py2_0 py2_1 py2_2 py2_3 py2_4 py2_5 (y 3) (y 4) (y 5) (y 6) (y 7) (y 8) (y 9) py2_13 py2_14 py2_15 py2_16 py2_17))] 0 0 (QI V (fun (r : Int32) (w : va_W) => iv (-3) (-2) r ∧ w = [(y 0, .inr (9, o9_rirrrrrrrrvviii (y 1) py0_1 (y 2) (y 10) (y 19) (y 25) (y 26) (y 30) (y 31) (y 32) o10 o11 py0_12 py0_13 py0_14)), (y 2, .inr (1, o1_iiiiiirrrrrrriiiii py2_0 py2_1 py2_2 py2_3 py2_4 py2_5 (y 3) (y 4) (y 5) (y 6) (y 7) (y 8) (y 9) py2_13 py2_14 py2_15 py2_16 py2_17))])) := by
  refine Ct.of (by decide) (Nat.le_of_ble_eq_true rfl) (fun p e s m below meth c A ls hx hb hr hml hown hlk hnm hg hP hK hD hE hA hS hl => ?_)
  have hl : lv_has ls 4 [(0, .ref (y 0)), (1, .int a1), (2, .int a2)] := hl
  refine lv_aload_n hx hb dX9_forces_0 rfl (lv_at hl 0 rfl) ?_
  refine lv_iload_n hx hb dX9_forces_1 rfl (lv_at hl 1 rfl) ?_
  refine jnI (wr := []) (rnV (rest := []) ⟨hx, hb, hml, hown, hg⟩ (k_X9_isHill_0 l V y a1 py0_1 o10 o11 py0_12 py0_13 py0_14 py2_0 py2_1 py2_2 py2_3 py2_4 py2_5 py2_13 py2_14 py2_15 py2_16 py2_17 bpy0_1 bpy0_12 bpy0_13 bpy2_1 bpy2_2 bpy2_3 bpy2_4 bpy2_5 bpy2_13 bpy2_14 bpy2_15 bpy2_16 bpy2_17) mt_X9_isHill q_3_122 ⟨Nat.le_of_ble_eq_true rfl, Nat.le_of_ble_eq_true rfl⟩ hK hP hD hS hA hE [0, 1] rfl rfl 0 rfl rfl rfl rfl hl.1 rfl (Nat.le_of_ble_eq_true rfl) dX9_forces_2 ⟨Nat.le_of_ble_eq_true rfl, Nat.le_of_ble_eq_true rfl⟩) hP hD hS hA [0, 1] [] rfl rfl rfl (by decide) (fun r_1 w H locs hw hP hD hS => ?_)
  rcases hw with ⟨c_2, rfl, et_3, rfl⟩ | ⟨c_4, c_5, rfl, et_6, rfl⟩ | ⟨c_7, c_8, rfl, et_9, rfl⟩
  · have hP : va_P V.1 vwCl [(y 0, .inr (9, o9_rirrrrrrrrvviii (y 1) py0_1 (y 2) (y 10) (y 19) (y 25) (y 26) (y 30) (y 31) (y 32) o10 o11 py0_12 py0_13 py0_14)), (y 2, .inr (1, o1_iiiiiirrrrrrriiiii py2_0 py2_1 py2_2 py2_3 py2_4 py2_5 (y 3) (y 4) (y 5) (y 6) (y 7) (y 8) (y 9) py2_13 py2_14 py2_15 py2_16 py2_17))] H := hP
    have hD := cpD hP hD
    have b_10 : iv (-2147483648) (-1) a1 := iv_l1 c_2 (iv_top a1) (iv_c (0 : Int32) (a := 0) (b := 0) (by decide)) (by decide)
    refine lv_if_ne (tgt := 11) hx hb dX9_forces_5 (by decide) (fun c_12 => absurd c_12 (by decide)) (fun _ => ?_)
    refine lv_bipush (v := (-2)) hx hb dX9_forces_8 (by decide) ?_
    exact fiI hx hb hr hlk hK hP hD hS dX9_forces_10 (Nat.le_of_ble_eq_true rfl) (Nat.le_of_ble_eq_true rfl) (⟨(iv_c ((-2) : Int32) (by decide)), rfl⟩)
  · have hP : va_P V.1 vwCl [(y 0, .inr (9, o9_rirrrrrrrrvviii (y 1) py0_1 (y 2) (y 10) (y 19) (y 25) (y 26) (y 30) (y 31) (y 32) o10 o11 py0_12 py0_13 py0_14)), (y 2, .inr (1, o1_iiiiiirrrrrrriiiii py2_0 py2_1 py2_2 py2_3 py2_4 py2_5 (y 3) (y 4) (y 5) (y 6) (y 7) (y 8) (y 9) py2_13 py2_14 py2_15 py2_16 py2_17))] H := hP
    have hD := cpD hP hD
    have b_13 : iv 0 2147483647 a1 := iv_e2 (Int32.not_lt.mp c_4) (iv_c (0 : Int32) (a := 0) (b := 0) (by decide)) (iv_top a1) (by decide)
    refine lv_if_ne (tgt := 11) hx hb dX9_forces_5 (by decide) (fun c_15 => absurd c_15 (by decide)) (fun _ => ?_)
    refine lv_bipush (v := (-2)) hx hb dX9_forces_8 (by decide) ?_
    exact fiI hx hb hr hlk hK hP hD hS dX9_forces_10 (Nat.le_of_ble_eq_true rfl) (Nat.le_of_ble_eq_true rfl) (⟨(iv_c ((-2) : Int32) (by decide)), rfl⟩)
  · have hP : va_P V.1 vwCl [(y 0, .inr (9, o9_rirrrrrrrrvviii (y 1) py0_1 (y 2) (y 10) (y 19) (y 25) (y 26) (y 30) (y 31) (y 32) o10 o11 py0_12 py0_13 py0_14)), (y 2, .inr (1, o1_iiiiiirrrrrrriiiii py2_0 py2_1 py2_2 py2_3 py2_4 py2_5 (y 3) (y 4) (y 5) (y 6) (y 7) (y 8) (y 9) py2_13 py2_14 py2_15 py2_16 py2_17))] H := hP
    have hD := cpD hP hD
    have b_16 : iv 0 2147483647 a1 := iv_e2 (Int32.not_lt.mp c_7) (iv_c (0 : Int32) (a := 0) (b := 0) (by decide)) (iv_top a1) (by decide)
    have b_17 : iv 0 3 a1 := iv_l1 (Int32.not_le.mp c_8) b_16 bpy2_1 (by decide)
    have b_18 : iv 1 4 py2_1 := iv_l2 (Int32.not_le.mp c_8) b_16 bpy2_1 (by decide)
    refine lv_if_ne (tgt := 11) hx hb dX9_forces_5 (by decide) (fun _ => ?_) (fun c_20 => absurd c_20 (by decide))
    refine lv_iload_n hx hb dX9_forces_11 rfl (lv_at hl 2 rfl) ?_
    refine jnI (wr := [(y 0, .inr (9, o9_rirrrrrrrrvviii (y 1) py0_1 (y 2) (y 10) (y 19) (y 25) (y 26) (y 30) (y 31) (y 32) o10 o11 py0_12 py0_13 py0_14)), (y 2, .inr (1, o1_iiiiiirrrrrrriiiii py2_0 py2_1 py2_2 py2_3 py2_4 py2_5 (y 3) (y 4) (y 5) (y 6) (y 7) (y 8) (y 9) py2_13 py2_14 py2_15 py2_16 py2_17))]) (rnS (rest := []) ⟨hx, hb, hml, hown, hg⟩ (k_X9_isHeight_0 l V a2) mt_X9_isHeight q_4_49 ⟨Nat.le_of_ble_eq_true rfl, Nat.le_of_ble_eq_true rfl⟩ hK hP hD hS hA hE [] rfl rfl rfl hl.1 rfl (Nat.le_of_ble_eq_true rfl) dX9_forces_12 ⟨Nat.le_of_ble_eq_true rfl, Nat.le_of_ble_eq_true rfl⟩) hP hD hS hA [] [0, 1] rfl rfl rfl (by decide) (fun r_21 w H locs hw hP hD hS => ?_)
    rcases hw with ⟨c_22, rfl, rfl⟩ | ⟨c_23, c_24, rfl, rfl⟩ | ⟨c_25, c_26, rfl, rfl⟩
    · have hP : va_P V.1 vwCl [(y 0, .inr (9, o9_rirrrrrrrrvviii (y 1) py0_1 (y 2) (y 10) (y 19) (y 25) (y 26) (y 30) (y 31) (y 32) o10 o11 py0_12 py0_13 py0_14)), (y 2, .inr (1, o1_iiiiiirrrrrrriiiii py2_0 py2_1 py2_2 py2_3 py2_4 py2_5 (y 3) (y 4) (y 5) (y 6) (y 7) (y 8) (y 9) py2_13 py2_14 py2_15 py2_16 py2_17))] H := hP
      have hD := cpD hP hD
      have b_27 : iv (-2147483648) (-1) a2 := iv_l1 c_22 (iv_top a2) (iv_c (0 : Int32) (a := 0) (b := 0) (by decide)) (by decide)
      refine lv_if_ne (tgt := 21) hx hb dX9_forces_15 (by decide) (fun c_29 => absurd c_29 (by decide)) (fun _ => ?_)
      refine lv_bipush (v := (-3)) hx hb dX9_forces_18 (by decide) ?_
      exact fiI hx hb hr hlk hK hP hD hS dX9_forces_20 (Nat.le_of_ble_eq_true rfl) (Nat.le_of_ble_eq_true rfl) (⟨(iv_c ((-3) : Int32) (by decide)), rfl⟩)
    · have hP : va_P V.1 vwCl [(y 0, .inr (9, o9_rirrrrrrrrvviii (y 1) py0_1 (y 2) (y 10) (y 19) (y 25) (y 26) (y 30) (y 31) (y 32) o10 o11 py0_12 py0_13 py0_14)), (y 2, .inr (1, o1_iiiiiirrrrrrriiiii py2_0 py2_1 py2_2 py2_3 py2_4 py2_5 (y 3) (y 4) (y 5) (y 6) (y 7) (y 8) (y 9) py2_13 py2_14 py2_15 py2_16 py2_17))] H := hP
      have hD := cpD hP hD
      have b_30 : iv 0 2147483647 a2 := iv_e2 (Int32.not_lt.mp c_23) (iv_c (0 : Int32) (a := 0) (b := 0) (by decide)) (iv_top a2) (by decide)
      have b_31 : iv 5 2147483647 a2 := iv_l2 c_24 (iv_c (4 : Int32) (a := 4) (b := 4) (by decide)) b_30 (by decide)
      refine lv_if_ne (tgt := 21) hx hb dX9_forces_15 (by decide) (fun c_33 => absurd c_33 (by decide)) (fun _ => ?_)
      refine lv_bipush (v := (-3)) hx hb dX9_forces_18 (by decide) ?_
      exact fiI hx hb hr hlk hK hP hD hS dX9_forces_20 (Nat.le_of_ble_eq_true rfl) (Nat.le_of_ble_eq_true rfl) (⟨(iv_c ((-3) : Int32) (by decide)), rfl⟩)
    · have hP : va_P V.1 vwCl [(y 0, .inr (9, o9_rirrrrrrrrvviii (y 1) py0_1 (y 2) (y 10) (y 19) (y 25) (y 26) (y 30) (y 31) (y 32) o10 o11 py0_12 py0_13 py0_14)), (y 2, .inr (1, o1_iiiiiirrrrrrriiiii py2_0 py2_1 py2_2 py2_3 py2_4 py2_5 (y 3) (y 4) (y 5) (y 6) (y 7) (y 8) (y 9) py2_13 py2_14 py2_15 py2_16 py2_17))] H := hP
      have hD := cpD hP hD
      have b_34 : iv 0 2147483647 a2 := iv_e2 (Int32.not_lt.mp c_25) (iv_c (0 : Int32) (a := 0) (b := 0) (by decide)) (iv_top a2) (by decide)
      have b_35 : iv 0 4 a2 := iv_e1 (Int32.not_lt.mp c_26) b_34 (iv_c (4 : Int32) (a := 4) (b := 4) (by decide)) (by decide)
      refine lv_if_ne (tgt := 21) hx hb dX9_forces_15 (by decide) (fun _ => ?_) (fun c_37 => absurd c_37 (by decide))
      refine lv_aload_n hx hb dX9_forces_21 rfl (lv_at hl 0 rfl) ?_
      refine lv_ldcw (v := 1000000) hx hb hown (hg _ q_4_194) dX9_forces_22 ?_
      have z_0 := Int32.le_iff_toInt_le.mp (Int32.not_lt.mp c_7)
      have z_1 := Int32.lt_iff_toInt_lt.mp (Int32.not_le.mp c_8)
      have z_2 := Int32.le_iff_toInt_le.mp (Int32.not_lt.mp c_25)
      have z_3 := Int32.le_iff_toInt_le.mp (Int32.not_lt.mp c_26)
      have k_0 : (0 : Int32).toInt = 0 := (by decide)
      have k_4 : (4 : Int32).toInt = 4 := (by decide)
      exact absurd (⟨by omega, by omega, by omega, by omega⟩) hf0
theorem dX2_init_0 : decode cX2_init 0 = .ok (.aload_n 0, 1) := by decide +kernel
theorem q_5_99 : Cond.methodLink "BeaconDelay$Forcing" 3 objectInit ∈ gw := gw_5 (i := 99) (by decide +kernel) rfl
theorem dX2_init_1 : decode cX2_init 1 = .ok (.invokespecial 3, 3) := by decide +kernel
theorem dX2_init_4 : decode cX2_init 4 = .ok (.aload_n 0, 1) := by decide +kernel
theorem dX2_init_5 : decode cX2_init 5 = .ok (.iload_n 1, 1) := by decide +kernel
theorem q_5_100 : Cond.fieldLink "BeaconDelay$Forcing" 9 "BeaconDelay$Forcing" "size" "I" ∈ gw := gw_5 (i := 100) (by decide +kernel) rfl
theorem dX2_init_6 : decode cX2_init 6 = .ok (.putfield 9, 3) := by decide +kernel
theorem dX2_init_9 : decode cX2_init 9 = .ok (.aload_n 0, 1) := by decide +kernel
theorem dX2_init_10 : decode cX2_init 10 = .ok (.iload_n 1, 1) := by decide +kernel
theorem dX2_init_11 : decode cX2_init 11 = .ok (.iconst 2, 1) := by decide +kernel
theorem dX2_init_12 : decode cX2_init 12 = .ok (.imul, 1) := by decide +kernel
theorem dX2_init_13 : decode cX2_init 13 = .ok (.newarray .int, 2) := by decide +kernel
theorem dX2_init_15 : decode cX2_init 15 = .ok (.putfield 15, 3) := by decide +kernel
theorem dX2_init_18 : decode cX2_init 18 = .ok (.aload_n 0, 1) := by decide +kernel
theorem dX2_init_19 : decode cX2_init 19 = .ok (.iload_n 1, 1) := by decide +kernel
theorem dX2_init_20 : decode cX2_init 20 = .ok (.newarray .int, 2) := by decide +kernel
theorem dX2_init_22 : decode cX2_init 22 = .ok (.putfield 19, 3) := by decide +kernel
theorem dX2_init_25 : decode cX2_init 25 = .ok (.aload_n 0, 1) := by decide +kernel
theorem dX2_init_26 : decode cX2_init 26 = .ok (.iload_n 1, 1) := by decide +kernel
theorem dX2_init_27 : decode cX2_init 27 = .ok (.iconst 2, 1) := by decide +kernel
theorem dX2_init_28 : decode cX2_init 28 = .ok (.imul, 1) := by decide +kernel
theorem dX2_init_29 : decode cX2_init 29 = .ok (.newarray .int, 2) := by decide +kernel
theorem dX2_init_31 : decode cX2_init 31 = .ok (.putfield 22, 3) := by decide +kernel
def o2_irrrnni (x0 : Int32) (x1 : Nat) (x2 : Nat) (x3 : Nat) (x6 : Int32) : List Value := [.int x0, .ref x1, .ref x2, .ref x3, .null, .null, .int x6]
theorem dX2_init_34 : decode cX2_init 34 = .ok (.aload_n 0, 1) := by decide +kernel
theorem dX2_init_35 : decode cX2_init 35 = .ok (.iload_n 1, 1) := by decide +kernel
theorem dX2_init_36 : decode cX2_init 36 = .ok (.iconst 1, 1) := by decide +kernel
theorem dX2_init_37 : decode cX2_init 37 = .ok (.iadd, 1) := by decide +kernel
theorem dX2_init_38 : decode cX2_init 38 = .ok (.newarray .int, 2) := by decide +kernel
theorem dX2_init_40 : decode cX2_init 40 = .ok (.putfield 25, 3) := by decide +kernel
def o2_irrrrni (x0 : Int32) (x1 : Nat) (x2 : Nat) (x3 : Nat) (x4 : Nat) (x6 : Int32) : List Value := [.int x0, .ref x1, .ref x2, .ref x3, .ref x4, .null, .int x6]
theorem dX2_init_43 : decode cX2_init 43 = .ok (.aload_n 0, 1) := by decide +kernel
theorem dX2_init_44 : decode cX2_init 44 = .ok (.iload_n 1, 1) := by decide +kernel
theorem dX2_init_45 : decode cX2_init 45 = .ok (.iconst 4, 1) := by decide +kernel
theorem dX2_init_46 : decode cX2_init 46 = .ok (.imul, 1) := by decide +kernel
theorem dX2_init_47 : decode cX2_init 47 = .ok (.newarray .int, 2) := by decide +kernel
theorem dX2_init_49 : decode cX2_init 49 = .ok (.putfield 28, 3) := by decide +kernel
theorem dX2_init_52 : decode cX2_init 52 = .ok (.return_, 1) := by decide +kernel
set_option maxHeartbeats 4000000 in
set_option maxRecDepth 100000 in
theorem k_X2_init_0 (l : Launch) (V : GV) (n : Nat) (qh0 : Nat) (pqh0_6 : Int32) (hn : 1 ≤ n ∧ n ≤ 3646) (bpqh0_6 : iv 0 0 pqh0_6) : Ct l V yX2_init (.code yX2_init cX2_init 2 none) 1 [.ref qh0, .int (nI n)] [(qh0, .inr (2, [.int 0, .null, .null, .null, .null, .null, .int pqh0_6]))] 5 36461 (QV V (fun (w : va_W) => ∃ (ft : Nat) (Yf : Nat → Nat) (wf6 : Int32) (wef1 : Nat → Int32) (wef2 : Nat → Int32) (wef3 : Nat → Int32) (wef4 : Nat → Int32) (wef5 : Nat → Int32), (0 ≤ ft ∧ ft ≤ 7290) ∧ iv 0 (2 * (ft : Int) + 2 * (n : Int)) wf6 ∧ (∀ j, iv (-1) (2 * (ft : Int) + 2 * (n : Int)) (wef1 j)) ∧ (∀ j, iv 0 (2 * (ft : Int) + 2 * (n : Int) - 1) (wef3 j)) ∧ (∀ j, iv 0 (4 * (ft : Int) + 4 * (n : Int)) (wef4 j)) ∧ (∀ j, iv 0 ((ft : Int) + (n : Int) - 1) (wef5 j)) ∧ Yf 0 = qh0 ∧ (n + ft ≤ 7291) ∧ w = [(Yf 0, .inr (2, o2_irrrrri (nI (n + ft)) (Yf 1) (Yf 2) (Yf 3) (Yf 4) (Yf 5) wf6)), (Yf 1, aI V ((n + ft) * 2) wef1), (Yf 2, aI V (n + ft) wef2), (Yf 3, aI V ((n + ft) * 2) wef3), (Yf 4, aI V (n + ft + 1) wef4), (Yf 5, aI V ((n + ft) * 4) wef5)])) := by
  refine Ct.of (by decide) (Nat.le_of_ble_eq_true rfl) (fun p e s m below meth c A ls hx hb hr hml hown hlk hnm hg hP hK hD hE hA hS hl => ?_)
  have hl : lv_has ls 2 [(0, .ref qh0), (1, .int (nI n))] := hl
  refine lv_aload_n hx hb dX2_init_0 rfl (lv_at hl 0 rfl) ?_
  refine W.objInit hx hb hown (hg _ q_5_99) (hg _ q_1_27) (hg _ q_1_28) rfl (by rw [hml]; exact hl.1) rfl dX2_init_1 (Nat.le_of_ble_eq_true rfl) (Nat.le_of_ble_eq_true rfl) ?_
  refine W.eq (g2 := F0 m 4 ls []) rfl ?_
  refine lv_aload_n hx hb dX2_init_4 rfl (lv_at hl 0 rfl) ?_
  refine lv_iload_n hx hb dX2_init_5 rfl (lv_at hl 1 rfl) ?_
  refine va_putF (ci := 2) (v := .int (nI n)) (ty := .int) (C := RX2) (T := TX2) (N := 7) hx hb hg inX2 tyX2 tyX2_ok nmX2 hown hK hP hD hS 0 rfl rfl 0 (by decide) (hg _ q_5_100) (fun _ h9 => h9) rfl hnm rfl (by decide +kernel) rfl rfl (Nat.le_of_ble_eq_true rfl) dX2_init_6 (fun H locs hP hD hS => ?_)
  have hP : va_P V.1 vwCl [(qh0, .inr (2, [.int (nI n), .null, .null, .null, .null, .null, .int pqh0_6]))] H := hP
  have hD := cpD hP hD
  refine lv_aload_n hx hb dX2_init_9 rfl (lv_at hl 0 rfl) ?_
  refine lv_iload_n hx hb dX2_init_10 rfl (lv_at hl 1 rfl) ?_
  refine lv_iconst (v := 2) hx hb dX2_init_11 (by decide) ?_
  refine lv_imul hx hb dX2_init_12 ?_
  refine lv_topi (fun x_1 ex_1 => ?_)
  have bx_1 : iv (2 * (n : Int)) (2 * (n : Int)) x_1 := by rw [ex_1]; exact iv_mulc (iv_nI (by omega)) (iv_c (2 : Int32) (a := 2) (b := 2) (by decide)) (by first | decide | omega)
  refine nwA (N' := n * 2) (atype := .int) (ty := .int) (a0 := (n * 2, .inl (fun _ => 0))) hx hb hg q_1_125 rfl hK hP hD hS hA 0 rfl (fun _ => rfl) (iv_n0lt bx_1 (by omega)) (iv_clx bx_1 (by omega)) (by show (n * 2) * 4 ≤ 536870912; omega) (Nat.le_of_ble_eq_true rfl) (by show 0 + n * 2 ≤ 36461; omega) dX2_init_13 (fun q_2 H hP hD hS => ?_)
  refine W.widen (k := 1) (n := 7292) (Nat.le_of_ble_eq_true rfl) (by omega) ?_
  have hP : va_P V.1 vwCl [(qh0, .inr (2, [.int (nI n), .null, .null, .null, .null, .null, .int pqh0_6])), (q_2, aI V (n * 2) (fun _ => 0))] H := hP
  have hD := cpD hP hD
  refine va_putF (ci := 2) (v := .ref q_2) (ty := (.array .int)) (C := RX2) (T := TX2) (N := 7) hx hb hg inX2 tyX2 tyX2_ok nmX2 hown hK hP hD hS 0 rfl rfl 1 (by decide) (hg _ q_5_102) (fun _ h9 => h9) rfl hnm rfl (by decide +kernel) rfl rfl (Nat.le_of_ble_eq_true rfl) dX2_init_15 (fun H locs hP hD hS => ?_)
  have hP : va_P V.1 vwCl [(qh0, .inr (2, [.int (nI n), .ref q_2, .null, .null, .null, .null, .int pqh0_6])), (q_2, aI V (n * 2) (fun _ => 0))] H := hP
  have hD := cpD hP hD
  refine lv_aload_n hx hb dX2_init_18 rfl (lv_at hl 0 rfl) ?_
  refine lv_iload_n hx hb dX2_init_19 rfl (lv_at hl 1 rfl) ?_
  refine nwA (N' := n) (atype := .int) (ty := .int) (a0 := (n, .inl (fun _ => 0))) hx hb hg q_1_125 rfl hK hP hD hS hA 0 rfl (fun _ => rfl) (iv_n0lt (iv_nI (by omega)) (by omega)) (iv_clx (iv_nI (by omega)) (by omega)) (by show (n) * 4 ≤ 536870912; omega) (Nat.le_of_ble_eq_true rfl) (by show 7292 + n ≤ 36461; omega) dX2_init_20 (fun q_3 H hP hD hS => ?_)
  refine W.widen (k := 2) (n := 10938) (Nat.le_of_ble_eq_true rfl) (by omega) ?_
  have hP : va_P V.1 vwCl [(qh0, .inr (2, [.int (nI n), .ref q_2, .null, .null, .null, .null, .int pqh0_6])), (q_2, aI V (n * 2) (fun _ => 0)), (q_3, aI V n (fun _ => 0))] H := hP
  have hD := cpD hP hD
  refine va_putF (ci := 2) (v := .ref q_3) (ty := (.array .int)) (C := RX2) (T := TX2) (N := 7) hx hb hg inX2 tyX2 tyX2_ok nmX2 hown hK hP hD hS 0 rfl rfl 2 (by decide) (hg _ q_5_103) (fun _ h9 => h9) rfl hnm rfl (by decide +kernel) rfl rfl (Nat.le_of_ble_eq_true rfl) dX2_init_22 (fun H locs hP hD hS => ?_)
  have hP : va_P V.1 vwCl [(qh0, .inr (2, [.int (nI n), .ref q_2, .ref q_3, .null, .null, .null, .int pqh0_6])), (q_2, aI V (n * 2) (fun _ => 0)), (q_3, aI V n (fun _ => 0))] H := hP
  have hD := cpD hP hD
  refine lv_aload_n hx hb dX2_init_25 rfl (lv_at hl 0 rfl) ?_
  refine lv_iload_n hx hb dX2_init_26 rfl (lv_at hl 1 rfl) ?_
  refine lv_iconst (v := 2) hx hb dX2_init_27 (by decide) ?_
  refine lv_imul hx hb dX2_init_28 ?_
  refine tpi (y := x_1) ex_1.symm ?_
  refine nwA (N' := n * 2) (atype := .int) (ty := .int) (a0 := (n * 2, .inl (fun _ => 0))) hx hb hg q_1_125 rfl hK hP hD hS hA 0 rfl (fun _ => rfl) (iv_n0lt bx_1 (by omega)) (iv_clx bx_1 (by omega)) (by show (n * 2) * 4 ≤ 536870912; omega) (Nat.le_of_ble_eq_true rfl) (by show 10938 + n * 2 ≤ 36461; omega) dX2_init_29 (fun q_4 H hP hD hS => ?_)
  refine W.widen (k := 3) (n := 18230) (Nat.le_of_ble_eq_true rfl) (by omega) ?_
  have hP : va_P V.1 vwCl [(qh0, .inr (2, [.int (nI n), .ref q_2, .ref q_3, .null, .null, .null, .int pqh0_6])), (q_2, aI V (n * 2) (fun _ => 0)), (q_3, aI V n (fun _ => 0)), (q_4, aI V (n * 2) (fun _ => 0))] H := hP
  have hD := cpD hP hD
  refine va_putF (ci := 2) (v := .ref q_4) (ty := (.array .int)) (C := RX2) (T := TX2) (N := 7) hx hb hg inX2 tyX2 tyX2_ok nmX2 hown hK hP hD hS 0 rfl rfl 3 (by decide) (hg _ q_5_104) (fun _ h9 => h9) rfl hnm rfl (by decide +kernel) rfl rfl (Nat.le_of_ble_eq_true rfl) dX2_init_31 (fun H locs hP hD hS => ?_)
  have hP : va_P V.1 vwCl [(qh0, .inr (2, o2_irrrnni (nI n) q_2 q_3 q_4 pqh0_6)), (q_2, aI V (n * 2) (fun _ => 0)), (q_3, aI V n (fun _ => 0)), (q_4, aI V (n * 2) (fun _ => 0))] H := hP
  have hD := cpD hP hD
  refine lv_aload_n hx hb dX2_init_34 rfl (lv_at hl 0 rfl) ?_
  refine lv_iload_n hx hb dX2_init_35 rfl (lv_at hl 1 rfl) ?_
  refine lv_iconst (v := 1) hx hb dX2_init_36 (by decide) ?_
  refine lv_iadd hx hb dX2_init_37 ?_
  refine lv_topi (fun x_5 ex_5 => ?_)
  have bx_5 : iv ((n : Int) + 1) ((n : Int) + 1) x_5 := by rw [ex_5]; exact iv_add (iv_nI (by omega)) (iv_c (1 : Int32) (a := 1) (b := 1) (by decide)) (by first | decide | omega)
  refine nwA (N' := n + 1) (atype := .int) (ty := .int) (a0 := (n + 1, .inl (fun _ => 0))) hx hb hg q_1_125 rfl hK hP hD hS hA 0 rfl (fun _ => rfl) (iv_n0lt bx_5 (by omega)) (iv_clx bx_5 (by omega)) (by show (n + 1) * 4 ≤ 536870912; omega) (Nat.le_of_ble_eq_true rfl) (by show 18230 + n + 1 ≤ 36461; omega) dX2_init_38 (fun q_6 H hP hD hS => ?_)
  refine W.widen (k := 4) (n := 21877) (Nat.le_of_ble_eq_true rfl) (by omega) ?_
  have hP : va_P V.1 vwCl [(qh0, .inr (2, o2_irrrnni (nI n) q_2 q_3 q_4 pqh0_6)), (q_2, aI V (n * 2) (fun _ => 0)), (q_3, aI V n (fun _ => 0)), (q_4, aI V (n * 2) (fun _ => 0)), (q_6, aI V (n + 1) (fun _ => 0))] H := hP
  have hD := cpD hP hD
  refine va_putF (ci := 2) (v := .ref q_6) (ty := (.array .int)) (C := RX2) (T := TX2) (N := 7) hx hb hg inX2 tyX2 tyX2_ok nmX2 hown hK hP hD hS 0 rfl rfl 4 (by decide) (hg _ q_5_105) (fun _ h9 => h9) rfl hnm rfl (by decide +kernel) rfl rfl (Nat.le_of_ble_eq_true rfl) dX2_init_40 (fun H locs hP hD hS => ?_)
  have hP : va_P V.1 vwCl [(qh0, .inr (2, o2_irrrrni (nI n) q_2 q_3 q_4 q_6 pqh0_6)), (q_2, aI V (n * 2) (fun _ => 0)), (q_3, aI V n (fun _ => 0)), (q_4, aI V (n * 2) (fun _ => 0)), (q_6, aI V (n + 1) (fun _ => 0))] H := hP
  have hD := cpD hP hD
  refine lv_aload_n hx hb dX2_init_43 rfl (lv_at hl 0 rfl) ?_
  refine lv_iload_n hx hb dX2_init_44 rfl (lv_at hl 1 rfl) ?_
  refine lv_iconst (v := 4) hx hb dX2_init_45 (by decide) ?_
  refine lv_imul hx hb dX2_init_46 ?_
  refine lv_topi (fun x_7 ex_7 => ?_)
  have bx_7 : iv (4 * (n : Int)) (4 * (n : Int)) x_7 := by rw [ex_7]; exact iv_mulc (iv_nI (by omega)) (iv_c (4 : Int32) (a := 4) (b := 4) (by decide)) (by first | decide | omega)
  refine nwA (N' := n * 4) (atype := .int) (ty := .int) (a0 := (n * 4, .inl (fun _ => 0))) hx hb hg q_1_125 rfl hK hP hD hS hA 0 rfl (fun _ => rfl) (iv_n0lt bx_7 (by omega)) (iv_clx bx_7 (by omega)) (by show (n * 4) * 4 ≤ 536870912; omega) (Nat.le_of_ble_eq_true rfl) (by show 21877 + n * 4 ≤ 36461; omega) dX2_init_47 (fun q_8 H hP hD hS => ?_)
  refine W.widen (k := 5) (n := 36461) (Nat.le_of_ble_eq_true rfl) (by omega) ?_
  have hP : va_P V.1 vwCl [(qh0, .inr (2, o2_irrrrni (nI n) q_2 q_3 q_4 q_6 pqh0_6)), (q_2, aI V (n * 2) (fun _ => 0)), (q_3, aI V n (fun _ => 0)), (q_4, aI V (n * 2) (fun _ => 0)), (q_6, aI V (n + 1) (fun _ => 0)), (q_8, aI V (n * 4) (fun _ => 0))] H := hP
  have hD := cpD hP hD
  refine va_putF (ci := 2) (v := .ref q_8) (ty := (.array .int)) (C := RX2) (T := TX2) (N := 7) hx hb hg inX2 tyX2 tyX2_ok nmX2 hown hK hP hD hS 0 rfl rfl 5 (by decide) (hg _ q_5_106) (fun _ h9 => h9) rfl hnm rfl (by decide +kernel) rfl rfl (Nat.le_of_ble_eq_true rfl) dX2_init_49 (fun H locs hP hD hS => ?_)
  have hP : va_P V.1 vwCl [(qh0, .inr (2, o2_irrrrri (nI n) q_2 q_3 q_4 q_6 q_8 pqh0_6)), (q_2, aI V (n * 2) (fun _ => 0)), (q_3, aI V n (fun _ => 0)), (q_4, aI V (n * 2) (fun _ => 0)), (q_6, aI V (n + 1) (fun _ => 0)), (q_8, aI V (n * 4) (fun _ => 0))] H := hP
  have hD := cpD hP hD
  exact fiV hx hb hr hlk hK (subP (ws' := [(qh0, .inr (2, o2_irrrrri (nI n) q_2 q_3 q_4 q_6 q_8 pqh0_6)), (q_2, aI V (n * 2) (fun _ => 0)), (q_3, aI V n (fun _ => 0)), (q_4, aI V (n * 2) (fun _ => 0)), (q_6, aI V (n + 1) (fun _ => 0)), (q_8, aI V (n * 4) (fun _ => 0))]) hP [0, 1, 2, 3, 4, 5] rfl) (hD.sub [0, 1, 2, 3, 4, 5] rfl rfl) hS dX2_init_52 (Nat.le_of_ble_eq_true rfl) (Nat.le_of_ble_eq_true rfl) (⟨0, (fun k9 => [qh0, q_2, q_3, q_4, q_6, q_8].getD k9 0), pqh0_6, (fun _ => 0), (fun _ => 0), (fun _ => 0), (fun _ => 0), (fun _ => 0), (by omega), (iv_w bpqh0_6 (by first | decide | omega)), (fun _ => iv_w (iv_c (0 : Int32) (a := 0) (b := 0) (by decide)) (by first | decide | omega)), (fun _ => iv_w (iv_c (0 : Int32) (a := 0) (b := 0) (by decide)) (by first | decide | omega)), (fun _ => iv_w (iv_c (0 : Int32) (a := 0) (b := 0) (by decide)) (by first | decide | omega)), (fun _ => iv_w (iv_c (0 : Int32) (a := 0) (b := 0) (by decide)) (by first | decide | omega)), rfl, (by omega), rfl⟩)
def o9_rirrrrrrrrrniii (x0 : Nat) (x1 : Int32) (x2 : Nat) (x3 : Nat) (x4 : Nat) (x5 : Nat) (x6 : Nat) (x7 : Nat) (x8 : Nat) (x9 : Nat) (x10 : Nat) (x12 : Int32) (x13 : Int32) (x14 : Int32) : List Value := [.ref x0, .int x1, .ref x2, .ref x3, .ref x4, .ref x5, .ref x6, .ref x7, .ref x8, .ref x9, .ref x10, .null, .int x12, .int x13, .int x14]
theorem dX9_forcingFrom_21 : decode cX9_forcingFrom 21 = .ok (.aload_n 0, 1) := by decide +kernel
theorem q_5_94 : Cond.classLink "BeaconDelay" 352 "BeaconDelay$Forcing" ∈ gw := gw_5 (i := 94) (by decide +kernel) rfl
theorem q_5_95 : Cond.instantiable "BeaconDelay$Forcing" 7 ∈ gw := gw_5 (i := 95) (by decide +kernel) rfl
theorem dX9_forcingFrom_22 : decode cX9_forcingFrom 22 = .ok (.new 352, 3) := by decide +kernel
theorem dX9_forcingFrom_25 : decode cX9_forcingFrom 25 = .ok (.dup, 1) := by decide +kernel
theorem dX9_forcingFrom_26 : decode cX9_forcingFrom 26 = .ok (.aload_n 1, 1) := by decide +kernel
theorem dX9_forcingFrom_27 : decode cX9_forcingFrom 27 = .ok (.getfield 356, 3) := by decide +kernel
theorem q_5_98 : Cond.code yX2_init prog_4_method_1_code 2 none ∈ gw := gw_5 (i := 98) (rfl) rfl
theorem q_5_97 : Cond.instanceMethod yX2_init ∈ gw := gw_5 (i := 97) (by decide +kernel) rfl
theorem mt_X2_init : MtI yX2_init cX2_init 2 none 1 := ⟨⟨q_5_98, q_1_20, by decide +kernel, by decide +kernel, by decide +kernel⟩, rfl, q_5_97⟩
theorem q_5_96 : Cond.methodLink "BeaconDelay" 357 yX2_init ∈ gw := gw_5 (i := 96) (by decide +kernel) rfl
theorem dX9_forcingFrom_30 : decode cX9_forcingFrom 30 = .ok (.invokespecial 357, 3) := by decide +kernel
theorem dX9_forcingFrom_33 : decode cX9_forcingFrom 33 = .ok (.putfield 347, 3) := by decide +kernel
set_option maxHeartbeats 4000000 in
set_option maxRecDepth 100000 in
theorem k_X9_forcingFrom_1 (l : Launch) (V : GV) (n : Nat) (L : Nat) (Yw : Nat → Nat) (y : Nat → Nat) (py0_1 : Int32) (py0_12 : Int32) (py0_13 : Int32) (py0_14 : Int32) (pYw0_0 : Int32) (wa : Nat) (pYw0_5 : Int32) (pYw0_6 : Int32) (wb : Nat) (pYw0_14 : Int32) (pYw0_15 : Int32) (pYw0_16 : Int32) (fYw1 : Nat → Int32) (fYw2 : Nat → Int32) (fwa : Nat → Int32) (fYw4 : Nat → Int32) (fYw5 : Nat → Int32) (fYw6 : Nat → Int32) (fYw7 : Nat → Int32) (fYw8 : Nat → Int32) (fwb : Nat → Int32) (hn : 1 ≤ n ∧ n ≤ 3646) (hL : 1 ≤ L ∧ L ≤ 10000) (bpy0_1 : iv 0 900 py0_1) (bpy0_12 : iv 0 9999 py0_12) (bpy0_13 : iv 0 9 py0_13) (bpYw0_0 : iv 0 4 pYw0_0) (bpYw0_5 : iv 0 ((n : Int)) pYw0_5) (bpYw0_6 : iv 0 4 pYw0_6) (bpYw0_14 : iv 0 4 pYw0_14) (bpYw0_15 : iv 0 9 pYw0_15) (bpYw0_16 : iv 0 ((n : Int)) pYw0_16) (tfYw1 : ∀ j, iv 0 ((L : Int) - 1) (fYw1 j)) (tfYw4 : ∀ j, iv 0 ((n : Int)) (fYw4 j)) (tfYw5 : ∀ j, iv 0 (4 * (n : Int) - 1) (fYw5 j)) (tfYw6 : ∀ j, iv 0 ((n : Int) - 1) (fYw6 j)) (tfYw7 : ∀ j, iv 0 ((n : Int) - 1) (fYw7 j)) : Ct l V yX9_forcingFrom (.code yX9_forcingFrom cX9_forcingFrom 2 (some (.object "BeaconDelay$Forcing"))) 2 [.ref (y 0), .ref (Yw 0)] [(y 0, .inr (9, o9_rirrrrrrrrrniii (y 1) py0_1 (y 2) (y 10) (y 19) (y 25) (y 26) (y 30) (y 31) (y 32) (Yw 0) py0_12 py0_13 py0_14)), (Yw 0, .inr (8, o8_iirrriirrrrrrriii pYw0_0 (nI n) (Yw 1) (Yw 2) wa pYw0_5 pYw0_6 (y 19) (Yw 4) (Yw 5) (Yw 6) (Yw 7) (Yw 8) wb pYw0_14 pYw0_15 pYw0_16)), (Yw 1, aI V n fYw1), (Yw 2, aI V n fYw2), (wa, aI V n fwa), (Yw 4, aI V L fYw4), (Yw 5, aI V n fYw5), (Yw 6, aI V (n * 4) fYw6), (Yw 7, aI V n fYw7), (Yw 8, aI V 4 fYw8), (wb, aI V n fwb)] 6 36468 (QR V (fun (r : Nat) (w : va_W) => ∃ (ft : Nat) (Yf : Nat → Nat) (wf6 : Int32) (wef1 : Nat → Int32) (wef2 : Nat → Int32) (wef3 : Nat → Int32) (wef4 : Nat → Int32) (wef5 : Nat → Int32), (0 ≤ ft ∧ ft ≤ 7290) ∧ iv 0 (2 * (ft : Int) + 2 * (n : Int)) wf6 ∧ (∀ j, iv (-1) (2 * (ft : Int) + 2 * (n : Int)) (wef1 j)) ∧ (∀ j, iv 0 (2 * (ft : Int) + 2 * (n : Int) - 1) (wef3 j)) ∧ (∀ j, iv 0 (4 * (ft : Int) + 4 * (n : Int)) (wef4 j)) ∧ (∀ j, iv 0 ((ft : Int) + (n : Int) - 1) (wef5 j)) ∧ Yf 0 = r ∧ (n + ft ≤ 7291) ∧ w = [(y 0, .inr (9, o9_rirrrrrrrrrriii (y 1) py0_1 (y 2) (y 10) (y 19) (y 25) (y 26) (y 30) (y 31) (y 32) (Yw 0) (Yf 0) py0_12 py0_13 py0_14)), (Yw 0, .inr (8, o8_iirrriirrrrrrriii pYw0_0 (nI n) (Yw 1) (Yw 2) wa pYw0_5 pYw0_6 (y 19) (Yw 4) (Yw 5) (Yw 6) (Yw 7) (Yw 8) wb pYw0_14 pYw0_15 pYw0_16)), (Yw 1, aI V n fYw1), (Yw 2, aI V n fYw2), (wa, aI V n fwa), (Yw 4, aI V L fYw4), (Yw 5, aI V n fYw5), (Yw 6, aI V (n * 4) fYw6), (Yw 7, aI V n fYw7), (Yw 8, aI V 4 fYw8), (wb, aI V n fwb), (Yf 0, .inr (2, o2_irrrrri (nI (n + ft)) (Yf 1) (Yf 2) (Yf 3) (Yf 4) (Yf 5) wf6)), (Yf 1, aI V ((n + ft) * 2) wef1), (Yf 2, aI V (n + ft) wef2), (Yf 3, aI V ((n + ft) * 2) wef3), (Yf 4, aI V (n + ft + 1) wef4), (Yf 5, aI V ((n + ft) * 4) wef5)])) := by
  refine Ct.of (by decide) (Nat.le_of_ble_eq_true rfl) (fun p e s m below meth c A ls hx hb hr hml hown hlk hnm hg hP hK hD hE hA hS hl => ?_)
  have hl : lv_has ls 2 [(0, .ref (y 0)), (1, .ref (Yw 0))] := hl
  refine lv_aload_n hx hb dX9_forcingFrom_0 rfl (lv_at hl 0 rfl) ?_
  refine va_get (ci := 9) (v := .null) (C := RX9) (T := TX9) (N := 15) hx hb hg inX9 hown hK hP 0 rfl rfl 11 (by decide) (hg _ q_2_47) (fun _ h9 => h9) rfl dX9_forcingFrom_1 ?_
  refine lv_ifnullN (tgt := 21) hx hb dX9_forcingFrom_4 (by decide) ?_
  refine lv_aload_n hx hb dX9_forcingFrom_21 rfl (lv_at hl 0 rfl) ?_
  refine va_new (ci := 2) (fs := [.int 0, .null, .null, .null, .null, .null, .int 0]) (C := RX2) (T := TX2) (N := 7) hx hb hg inX2 tyX2 tyX2_ok hown (hg _ q_5_94) (hg _ q_5_95) (hg _ q_1_20) hK hP hD hS hA rfl dfX2 (Nat.le_of_ble_eq_true rfl) (Nat.le_of_ble_eq_true rfl) dX9_forcingFrom_22 (fun q_1 H hP hD hS => ?_)
  refine W.widen (k := 1) (n := 7) (Nat.le_of_ble_eq_true rfl) (Nat.le_of_ble_eq_true rfl) ?_
  have hP : va_P V.1 vwCl [(y 0, .inr (9, o9_rirrrrrrrrrniii (y 1) py0_1 (y 2) (y 10) (y 19) (y 25) (y 26) (y 30) (y 31) (y 32) (Yw 0) py0_12 py0_13 py0_14)), (Yw 0, .inr (8, o8_iirrriirrrrrrriii pYw0_0 (nI n) (Yw 1) (Yw 2) wa pYw0_5 pYw0_6 (y 19) (Yw 4) (Yw 5) (Yw 6) (Yw 7) (Yw 8) wb pYw0_14 pYw0_15 pYw0_16)), (Yw 1, aI V n fYw1), (Yw 2, aI V n fYw2), (wa, aI V n fwa), (Yw 4, aI V L fYw4), (Yw 5, aI V n fYw5), (Yw 6, aI V (n * 4) fYw6), (Yw 7, aI V n fYw7), (Yw 8, aI V 4 fYw8), (wb, aI V n fwb), (q_1, .inr (2, [.int 0, .null, .null, .null, .null, .null, .int 0]))] H := hP
  have hD := cpD hP hD
  refine lv_dup hx hb dX9_forcingFrom_25 rfl ?_
  refine lv_aload_n hx hb dX9_forcingFrom_26 rfl (lv_at hl 1 rfl) ?_
  refine va_get (ci := 8) (v := .int (nI n)) (C := RX8) (T := TX8) (N := 17) hx hb hg inX8 hown hK hP 1 rfl rfl 1 (by decide) (hg _ q_4_68) (fun _ h9 => h9) rfl dX9_forcingFrom_27 ?_
  refine jnV (wr := [(y 0, .inr (9, o9_rirrrrrrrrrniii (y 1) py0_1 (y 2) (y 10) (y 19) (y 25) (y 26) (y 30) (y 31) (y 32) (Yw 0) py0_12 py0_13 py0_14)), (Yw 0, .inr (8, o8_iirrriirrrrrrriii pYw0_0 (nI n) (Yw 1) (Yw 2) wa pYw0_5 pYw0_6 (y 19) (Yw 4) (Yw 5) (Yw 6) (Yw 7) (Yw 8) wb pYw0_14 pYw0_15 pYw0_16)), (Yw 1, aI V n fYw1), (Yw 2, aI V n fYw2), (wa, aI V n fwa), (Yw 4, aI V L fYw4), (Yw 5, aI V n fYw5), (Yw 6, aI V (n * 4) fYw6), (Yw 7, aI V n fYw7), (Yw 8, aI V 4 fYw8), (wb, aI V n fwb)]) (rnI (rest := [.ref q_1, .ref (y 0)]) ⟨hx, hb, hml, hown, hg⟩ (k_X2_init_0 l V n q_1 0 hn (iv_c (0 : Int32) (by decide))) mt_X2_init q_5_96 ⟨Nat.le_of_ble_eq_true rfl, Nat.le_of_ble_eq_true rfl⟩ hK hP hD hS hA hE [11] rfl rfl rfl hl.1 rfl (Nat.le_of_ble_eq_true rfl) dX9_forcingFrom_30 ⟨Nat.le_of_ble_eq_true rfl, Nat.le_of_ble_eq_true rfl⟩) hP hD hS hA [11] [0, 1, 2, 3, 4, 5, 6, 7, 8, 9, 10] rfl rfl rfl (by decide) (fun  w H locs hw hP hD hS => ?_)
  refine W.widen (k := 6) (n := 36468) (Nat.le_of_ble_eq_true rfl) (Nat.le_of_ble_eq_true rfl) ?_
  obtain ⟨ft, Yf, v_2, f_3, f_4, f_5, f_6, f_7, hft, bv_2, tf_3, tf_5, tf_6, tf_7, eW, g_8, rfl⟩ := hw
  have hP : va_P V.1 vwCl [(y 0, .inr (9, o9_rirrrrrrrrrniii (y 1) py0_1 (y 2) (y 10) (y 19) (y 25) (y 26) (y 30) (y 31) (y 32) (Yw 0) py0_12 py0_13 py0_14)), (Yw 0, .inr (8, o8_iirrriirrrrrrriii pYw0_0 (nI n) (Yw 1) (Yw 2) wa pYw0_5 pYw0_6 (y 19) (Yw 4) (Yw 5) (Yw 6) (Yw 7) (Yw 8) wb pYw0_14 pYw0_15 pYw0_16)), (Yw 1, aI V n fYw1), (Yw 2, aI V n fYw2), (wa, aI V n fwa), (Yw 4, aI V L fYw4), (Yw 5, aI V n fYw5), (Yw 6, aI V (n * 4) fYw6), (Yw 7, aI V n fYw7), (Yw 8, aI V 4 fYw8), (wb, aI V n fwb), (Yf 0, .inr (2, o2_irrrrri (nI (n + ft)) (Yf 1) (Yf 2) (Yf 3) (Yf 4) (Yf 5) v_2)), (Yf 1, aI V ((n + ft) * 2) f_3), (Yf 2, aI V (n + ft) f_4), (Yf 3, aI V ((n + ft) * 2) f_5), (Yf 4, aI V (n + ft + 1) f_6), (Yf 5, aI V ((n + ft) * 4) f_7)] H := hP
  have hD := cpD hP hD
  rw [← eW]
  refine va_put (ci := 9) (v := .ref (Yf 0)) (ty := (.object "BeaconDelay$Forcing")) (C := RX9) (T := TX9) (N := 15) hx hb hg inX9 tyX9 tyX9_ok nmX9 hown hK hP hD hS 0 rfl rfl 11 (by decide) (hg _ q_2_47) (fun _ h9 => h9) rfl (by decide +kernel) rfl rfl (Nat.le_of_ble_eq_true rfl) dX9_forcingFrom_33 (fun H locs hP hD hS => ?_)
  have hP : va_P V.1 vwCl [(y 0, .inr (9, o9_rirrrrrrrrrriii (y 1) py0_1 (y 2) (y 10) (y 19) (y 25) (y 26) (y 30) (y 31) (y 32) (Yw 0) (Yf 0) py0_12 py0_13 py0_14)), (Yw 0, .inr (8, o8_iirrriirrrrrrriii pYw0_0 (nI n) (Yw 1) (Yw 2) wa pYw0_5 pYw0_6 (y 19) (Yw 4) (Yw 5) (Yw 6) (Yw 7) (Yw 8) wb pYw0_14 pYw0_15 pYw0_16)), (Yw 1, aI V n fYw1), (Yw 2, aI V n fYw2), (wa, aI V n fwa), (Yw 4, aI V L fYw4), (Yw 5, aI V n fYw5), (Yw 6, aI V (n * 4) fYw6), (Yw 7, aI V n fYw7), (Yw 8, aI V 4 fYw8), (wb, aI V n fwb), (Yf 0, .inr (2, o2_irrrrri (nI (n + ft)) (Yf 1) (Yf 2) (Yf 3) (Yf 4) (Yf 5) v_2)), (Yf 1, aI V ((n + ft) * 2) f_3), (Yf 2, aI V (n + ft) f_4), (Yf 3, aI V ((n + ft) * 2) f_5), (Yf 4, aI V (n + ft + 1) f_6), (Yf 5, aI V ((n + ft) * 4) f_7)] H := hP
  have hD := cpD hP hD
  refine lv_aload_n hx hb dX9_forcingFrom_36 rfl (lv_at hl 0 rfl) ?_
  refine va_get (ci := 9) (v := .ref (Yf 0)) (C := RX9) (T := TX9) (N := 15) hx hb hg inX9 hown hK hP 0 rfl rfl 11 (by decide) (hg _ q_2_47) (fun _ h9 => h9) rfl dX9_forcingFrom_37 ?_
  exact fiR (Or.inl ⟨_, rfl⟩) hx hb hr hlk hK (subP (ws' := [(y 0, .inr (9, o9_rirrrrrrrrrriii (y 1) py0_1 (y 2) (y 10) (y 19) (y 25) (y 26) (y 30) (y 31) (y 32) (Yw 0) (Yf 0) py0_12 py0_13 py0_14)), (Yw 0, .inr (8, o8_iirrriirrrrrrriii pYw0_0 (nI n) (Yw 1) (Yw 2) wa pYw0_5 pYw0_6 (y 19) (Yw 4) (Yw 5) (Yw 6) (Yw 7) (Yw 8) wb pYw0_14 pYw0_15 pYw0_16)), (Yw 1, aI V n fYw1), (Yw 2, aI V n fYw2), (wa, aI V n fwa), (Yw 4, aI V L fYw4), (Yw 5, aI V n fYw5), (Yw 6, aI V (n * 4) fYw6), (Yw 7, aI V n fYw7), (Yw 8, aI V 4 fYw8), (wb, aI V n fwb), (Yf 0, .inr (2, o2_irrrrri (nI (n + ft)) (Yf 1) (Yf 2) (Yf 3) (Yf 4) (Yf 5) v_2)), (Yf 1, aI V ((n + ft) * 2) f_3), (Yf 2, aI V (n + ft) f_4), (Yf 3, aI V ((n + ft) * 2) f_5), (Yf 4, aI V (n + ft + 1) f_6), (Yf 5, aI V ((n + ft) * 4) f_7)]) hP [0, 1, 2, 3, 4, 5, 6, 7, 8, 9, 10, 11, 12, 13, 14, 15, 16] rfl) (hD.sub [0, 1, 2, 3, 4, 5, 6, 7, 8, 9, 10, 11, 12, 13, 14, 15, 16] rfl rfl) hS dX9_forcingFrom_40 (Nat.le_of_ble_eq_true rfl) (Nat.le_of_ble_eq_true rfl) (⟨ft, Yf, v_2, f_3, f_4, f_5, f_6, f_7, hft, bv_2, tf_3, tf_5, tf_6, tf_7, rfl, g_8, rfl⟩)
