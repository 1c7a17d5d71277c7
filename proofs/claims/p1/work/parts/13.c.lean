set_option maxHeartbeats 4000000 in
set_option maxRecDepth 100000 in
theorem c_X8_reachTo_3 (l : Launch) (V : GV) (y : Nat → Nat) (h0 : Nat) (h1 : Nat) (h2 : Nat) (h3 : Nat) (h4 : Nat) (h5 : Nat) (h6 : Nat) (h7 : Nat) (h8 : Nat) (h9 : Nat) : Ct l V yX8_reachTo (.code yX8_reachTo cX8_reachTo 3 none) 1 [.ref h0, .int 0] [(h0, .inr (8, [.int 0, .int 1, .ref h6, .ref h7, .ref h4, .int 1, .int 1, .ref (y 19), .ref h8, .ref h9, .ref h2, .ref h3, .ref h1, .ref h5, .int 0, .int 0, .int 0])), (h7, aI V 1 (fun _ => 0))] 0 0 (QV V (fun (w : va_W) => (w = [(h0, .inr (8, [.int 0, .int 1, .ref h6, .ref h7, .ref h4, .int 1, .int 1, .ref (y 19), .ref h8, .ref h9, .ref h2, .ref h3, .ref h1, .ref h5, .int 0, .int 0, .int 0])), (h7, aI V 1 (fun _ => 0))]))) := by
  refine Ct.of (by decide) (Nat.le_of_ble_eq_true rfl) (fun p e s m below meth c A ls hx hb hr hml hown hlk hnm hg hP hK hD hE hA hS hl => ?_)
  have hl : lv_has ls 3 [(0, .ref h0), (1, .int 0)] := hl
  refine lv_aload_n hx hb dX8_reachTo_0 rfl (lv_at hl 0 rfl) ?_
  refine va_get (ci := 8) (v := .int 0) (C := RX8) (T := TX8) (N := 17) hx hb hg inX8 hown hK hP 0 rfl rfl 16 (by decide) (hg _ q_4_90) (fun _ h9 => h9) rfl dX8_reachTo_1 ?_
  refine lv_istore_n (lv' := [(2, .int 0), (0, .ref h0), (1, .int 0)]) hx hb dX8_reachTo_4 rfl hl (by decide) rfl (fun ls hl => ?_)
  refine lv_iload_n hx hb dX8_reachTo_5 rfl (lv_at hl 0 rfl) ?_
  refine lv_aload_n hx hb dX8_reachTo_6 rfl (lv_at hl 1 rfl) ?_
  refine va_get (ci := 8) (v := .int 1) (C := RX8) (T := TX8) (N := 17) hx hb hg inX8 hown hK hP 0 rfl rfl 1 (by decide) (hg _ q_4_67) (fun _ h9 => h9) rfl dX8_reachTo_7 ?_
  refine lv_icmp_ge (tgt := 42) hx hb dX8_reachTo_10 (by decide) (fun c_1 => absurd c_1 (by decide)) (fun _ => ?_)
  refine lv_iload_n hx hb dX8_reachTo_13 rfl (lv_at hl 0 rfl) ?_
  refine lv_aload_n hx hb dX8_reachTo_14 rfl (lv_at hl 1 rfl) ?_
  refine va_get (ci := 8) (v := .int 1) (C := RX8) (T := TX8) (N := 17) hx hb hg inX8 hown hK hP 0 rfl rfl 5 (by decide) (hg _ q_4_76) (fun _ h9 => h9) rfl dX8_reachTo_15 ?_
  refine lv_icmp_ge (tgt := 42) hx hb dX8_reachTo_18 (by decide) (fun c_2 => absurd c_2 (by decide)) (fun _ => ?_)
  refine lv_aload_n hx hb dX8_reachTo_21 rfl (lv_at hl 1 rfl) ?_
  refine va_get (ci := 8) (v := .ref h7) (C := RX8) (T := TX8) (N := 17) hx hb hg inX8 hown hK hP 0 rfl rfl 3 (by decide) (hg _ q_4_72) (fun _ h9 => h9) rfl dX8_reachTo_22 ?_
  refine lv_iload_n hx hb dX8_reachTo_25 rfl (lv_at hl 0 rfl) ?_
  refine va_iald hx hb hK hP 1 0 rfl rfl (vin (by decide +kernel)) dX8_reachTo_26 ?_
  refine tpi (y := 0) (rfl) ?_
  refine lv_iload_n hx hb dX8_reachTo_27 rfl (lv_at hl 2 rfl) ?_
  refine lv_icmp_ge (tgt := 42) hx hb dX8_reachTo_28 (by decide) (fun _ => ?_) (fun c_3 => absurd c_3 (by decide))
  exact fiV hx hb hr hlk hK hP hD hS dX8_reachTo_42 (Nat.le_of_ble_eq_true rfl) (Nat.le_of_ble_eq_true rfl) (rfl)
set_option maxHeartbeats 4000000 in
set_option maxRecDepth 100000 in
theorem c_X9_waysFromNow_1 (l : Launch) (V : GV) (y : Nat → Nat) : Ct l V yX9_waysFromNow (.code yX9_waysFromNow cX9_waysFromNow 2 (some (.object "BeaconDelay$Ways"))) 3 [.ref (y 0), .int 0] [(y 0, .inr (9, [.ref (y 1), .int 0, .ref (y 2), .ref (y 10), .ref (y 19), .ref (y 25), .ref (y 26), .ref (y 30), .ref (y 31), .ref (y 32), .null, .null, .int 0, .int 0, .int 0])), (y 2, .inr (1, [.int 0, .int 0, .int 0, .int 0, .int 0, .int 0, .ref (y 3), .ref (y 4), .ref (y 5), .ref (y 6), .ref (y 7), .ref (y 8), .ref (y 9), .int 0, .int 0, .int 0, .int 0, .int 0]))] 10 32 (QR V (fun (r : Nat) (w : va_W) => (∃ (q_1 : Nat) (q_2 : Nat) (q_3 : Nat) (q_4 : Nat) (q_5 : Nat) (q_6 : Nat) (q_7 : Nat) (q_8 : Nat) (q_9 : Nat) (q_10 : Nat), q_1 = r ∧ w = [(y 0, .inr (9, [.ref (y 1), .int 0, .ref (y 2), .ref (y 10), .ref (y 19), .ref (y 25), .ref (y 26), .ref (y 30), .ref (y 31), .ref (y 32), .ref q_1, .null, .int 0, .int 0, .int 0])), (y 2, .inr (1, [.int 0, .int 0, .int 0, .int 0, .int 0, .int 0, .ref (y 3), .ref (y 4), .ref (y 5), .ref (y 6), .ref (y 7), .ref (y 8), .ref (y 9), .int 0, .int 0, .int 0, .int 0, .int 0])), (q_2, aI V 4 (fun _ => 0)), (q_7, aI V 4 (fun _ => 0)), (q_8, aI V 1 (fun _ => 0)), (q_9, aI V 1 (fun _ => 0)), (q_10, aI V 1 (fun _ => 0)), (q_3, aI V 1 (fun _ => 0)), (q_5, aI V 1 (upd (fun _ => 0) 0 1)), (q_6, aI V 1 (fun _ => 0)), (q_1, .inr (8, [.int 0, .int 1, .ref q_3, .ref q_4, .ref q_9, .int 1, .int 1, .ref (y 19), .ref q_5, .ref q_6, .ref q_7, .ref q_8, .ref q_2, .ref q_10, .int 0, .int 0, .int 0])), (q_4, aI V 1 (fun _ => 0))]))) := by
  refine Ct.of (by decide) (Nat.le_of_ble_eq_true rfl) (fun p e s m below meth c A ls hx hb hr hml hown hlk hnm hg hP hK hD hE hA hS hl => ?_)
  have hl : lv_has ls 2 [(0, .ref (y 0)), (1, .int 0)] := hl
  refine lv_aload_n hx hb dX9_waysFromNow_0 rfl (lv_at hl 0 rfl) ?_
  refine va_get (ci := 9) (v := .null) (C := RX9) (T := TX9) (N := 15) hx hb hg inX9 hown hK hP 0 rfl rfl 10 (by decide) (hg _ q_2_46) (fun _ h9 => h9) rfl dX9_waysFromNow_1 ?_
  refine lv_ifnullN (tgt := 24) hx hb dX9_waysFromNow_4 (by decide) ?_
  refine lv_aload_n hx hb dX9_waysFromNow_24 rfl (lv_at hl 0 rfl) ?_
  refine va_new (ci := 8) (fs := [.int 0, .int 0, .null, .null, .null, .int 0, .int 0, .null, .null, .null, .null, .null, .null, .null, .int 0, .int 0, .int 0]) (C := RX8) (T := TX8) (N := 17) hx hb hg inX8 tyX8 tyX8_ok hown (hg _ q_4_56) (hg _ q_4_57) (hg _ q_1_18) hK hP hD hS hA rfl dfX8 (Nat.le_of_ble_eq_true rfl) (Nat.le_of_ble_eq_true rfl) dX9_waysFromNow_25 (fun q_1 H hP hD hS => ?_)
  refine W.widen (k := 1) (n := 17) (Nat.le_of_ble_eq_true rfl) (Nat.le_of_ble_eq_true rfl) ?_
  have hP : va_P V.1 vwCl [(y 0, .inr (9, [.ref (y 1), .int 0, .ref (y 2), .ref (y 10), .ref (y 19), .ref (y 25), .ref (y 26), .ref (y 30), .ref (y 31), .ref (y 32), .null, .null, .int 0, .int 0, .int 0])), (y 2, .inr (1, [.int 0, .int 0, .int 0, .int 0, .int 0, .int 0, .ref (y 3), .ref (y 4), .ref (y 5), .ref (y 6), .ref (y 7), .ref (y 8), .ref (y 9), .int 0, .int 0, .int 0, .int 0, .int 0])), (q_1, .inr (8, [.int 0, .int 0, .null, .null, .null, .int 0, .int 0, .null, .null, .null, .null, .null, .null, .null, .int 0, .int 0, .int 0]))] H := hP
  have hD : va_D A [(y 0, .inr (9, [.ref (y 1), .int 0, .ref (y 2), .ref (y 10), .ref (y 19), .ref (y 25), .ref (y 26), .ref (y 30), .ref (y 31), .ref (y 32), .null, .null, .int 0, .int 0, .int 0])), (y 2, .inr (1, [.int 0, .int 0, .int 0, .int 0, .int 0, .int 0, .ref (y 3), .ref (y 4), .ref (y 5), .ref (y 6), .ref (y 7), .ref (y 8), .ref (y 9), .int 0, .int 0, .int 0, .int 0, .int 0])), (q_1, .inr (8, [.int 0, .int 0, .null, .null, .null, .int 0, .int 0, .null, .null, .null, .null, .null, .null, .null, .int 0, .int 0, .int 0]))] := hD
  refine lv_dup hx hb dX9_waysFromNow_28 rfl ?_
  refine lv_aload_n hx hb dX9_waysFromNow_29 rfl (lv_at hl 0 rfl) ?_
  refine va_get (ci := 9) (v := .ref (y 19)) (C := RX9) (T := TX9) (N := 15) hx hb hg inX9 hown hK hP 0 rfl rfl 4 (by decide) (hg _ q_2_40) (fun _ h9 => h9) rfl dX9_waysFromNow_30 ?_
  refine lv_aload_n hx hb dX9_waysFromNow_33 rfl (lv_at hl 0 rfl) ?_
  refine va_get (ci := 9) (v := .ref (y 2)) (C := RX9) (T := TX9) (N := 15) hx hb hg inX9 hown hK hP 0 rfl rfl 2 (by decide) (hg _ q_2_38) (fun _ h9 => h9) rfl dX9_waysFromNow_34 ?_
  refine va_get (ci := 1) (v := .int 0) (C := RX1) (T := TX1) (N := 18) hx hb hg inX1 hown hK hP 1 rfl rfl 1 (by decide) (hg _ q_1_41) (fun _ h9 => h9) rfl dX9_waysFromNow_37 ?_
  refine jnV (wr := [(y 0, .inr (9, [.ref (y 1), .int 0, .ref (y 2), .ref (y 10), .ref (y 19), .ref (y 25), .ref (y 26), .ref (y 30), .ref (y 31), .ref (y 32), .null, .null, .int 0, .int 0, .int 0])), (y 2, .inr (1, [.int 0, .int 0, .int 0, .int 0, .int 0, .int 0, .ref (y 3), .ref (y 4), .ref (y 5), .ref (y 6), .ref (y 7), .ref (y 8), .ref (y 9), .int 0, .int 0, .int 0, .int 0, .int 0]))]) (rnI (rest := [.ref q_1, .ref (y 0)]) ⟨hx, hb, hml, hown, hg⟩ (c_X8_init_0 l V y q_1) mt_X8_init q_4_58 ⟨Nat.le_of_ble_eq_true rfl, Nat.le_of_ble_eq_true rfl⟩ hK hP hD hS hA hE [2] rfl rfl rfl hl.1 rfl (Nat.le_of_ble_eq_true rfl) dX9_waysFromNow_40 ⟨Nat.le_of_ble_eq_true rfl, Nat.le_of_ble_eq_true rfl⟩) hP hD hS hA [2] [0, 1] rfl rfl rfl (by decide) (fun  w H locs hw hP hD hS => ?_)
  refine W.widen (k := 10) (n := 32) (Nat.le_of_ble_eq_true rfl) (Nat.le_of_ble_eq_true rfl) ?_
  obtain ⟨q_2, q_3, q_4, q_5, q_6, q_7, q_8, q_9, q_10, rfl⟩ := hw
  have hP : va_P V.1 vwCl [(y 0, .inr (9, [.ref (y 1), .int 0, .ref (y 2), .ref (y 10), .ref (y 19), .ref (y 25), .ref (y 26), .ref (y 30), .ref (y 31), .ref (y 32), .null, .null, .int 0, .int 0, .int 0])), (y 2, .inr (1, [.int 0, .int 0, .int 0, .int 0, .int 0, .int 0, .ref (y 3), .ref (y 4), .ref (y 5), .ref (y 6), .ref (y 7), .ref (y 8), .ref (y 9), .int 0, .int 0, .int 0, .int 0, .int 0])), (q_1, .inr (8, [.int 0, .int 1, .ref q_3, .ref q_4, .ref q_9, .int 0, .int 0, .ref (y 19), .ref q_5, .ref q_6, .ref q_7, .ref q_8, .ref q_2, .ref q_10, .int 0, .int 0, .int 0])), (q_2, aI V 4 (fun _ => 0)), (q_3, aI V 1 (fun _ => 0)), (q_4, aI V 1 (fun _ => 0)), (q_5, aI V 1 (fun _ => 0)), (q_6, aI V 1 (fun _ => 0)), (q_7, aI V 4 (fun _ => 0)), (q_8, aI V 1 (fun _ => 0)), (q_9, aI V 1 (fun _ => 0)), (q_10, aI V 1 (fun _ => 0))] H := hP
  have hD : va_D A [(y 0, .inr (9, [.ref (y 1), .int 0, .ref (y 2), .ref (y 10), .ref (y 19), .ref (y 25), .ref (y 26), .ref (y 30), .ref (y 31), .ref (y 32), .null, .null, .int 0, .int 0, .int 0])), (y 2, .inr (1, [.int 0, .int 0, .int 0, .int 0, .int 0, .int 0, .ref (y 3), .ref (y 4), .ref (y 5), .ref (y 6), .ref (y 7), .ref (y 8), .ref (y 9), .int 0, .int 0, .int 0, .int 0, .int 0])), (q_1, .inr (8, [.int 0, .int 1, .ref q_3, .ref q_4, .ref q_9, .int 0, .int 0, .ref (y 19), .ref q_5, .ref q_6, .ref q_7, .ref q_8, .ref q_2, .ref q_10, .int 0, .int 0, .int 0])), (q_2, aI V 4 (fun _ => 0)), (q_3, aI V 1 (fun _ => 0)), (q_4, aI V 1 (fun _ => 0)), (q_5, aI V 1 (fun _ => 0)), (q_6, aI V 1 (fun _ => 0)), (q_7, aI V 4 (fun _ => 0)), (q_8, aI V 1 (fun _ => 0)), (q_9, aI V 1 (fun _ => 0)), (q_10, aI V 1 (fun _ => 0))] := hD
  refine va_put (ci := 9) (v := .ref q_1) (ty := (.object "BeaconDelay$Ways")) (C := RX9) (T := TX9) (N := 15) hx hb hg inX9 tyX9 tyX9_ok nmX9 hown hK hP hD hS 0 rfl rfl 10 (by decide) (hg _ q_2_46) (fun _ h9 => h9) rfl (by decide +kernel) rfl rfl (Nat.le_of_ble_eq_true rfl) dX9_waysFromNow_43 (fun H locs hP hD hS => ?_)
  have hP : va_P V.1 vwCl [(y 0, .inr (9, [.ref (y 1), .int 0, .ref (y 2), .ref (y 10), .ref (y 19), .ref (y 25), .ref (y 26), .ref (y 30), .ref (y 31), .ref (y 32), .ref q_1, .null, .int 0, .int 0, .int 0])), (y 2, .inr (1, [.int 0, .int 0, .int 0, .int 0, .int 0, .int 0, .ref (y 3), .ref (y 4), .ref (y 5), .ref (y 6), .ref (y 7), .ref (y 8), .ref (y 9), .int 0, .int 0, .int 0, .int 0, .int 0])), (q_1, .inr (8, [.int 0, .int 1, .ref q_3, .ref q_4, .ref q_9, .int 0, .int 0, .ref (y 19), .ref q_5, .ref q_6, .ref q_7, .ref q_8, .ref q_2, .ref q_10, .int 0, .int 0, .int 0])), (q_2, aI V 4 (fun _ => 0)), (q_3, aI V 1 (fun _ => 0)), (q_4, aI V 1 (fun _ => 0)), (q_5, aI V 1 (fun _ => 0)), (q_6, aI V 1 (fun _ => 0)), (q_7, aI V 4 (fun _ => 0)), (q_8, aI V 1 (fun _ => 0)), (q_9, aI V 1 (fun _ => 0)), (q_10, aI V 1 (fun _ => 0))] H := hP
  have hD : va_D A [(y 0, .inr (9, [.ref (y 1), .int 0, .ref (y 2), .ref (y 10), .ref (y 19), .ref (y 25), .ref (y 26), .ref (y 30), .ref (y 31), .ref (y 32), .ref q_1, .null, .int 0, .int 0, .int 0])), (y 2, .inr (1, [.int 0, .int 0, .int 0, .int 0, .int 0, .int 0, .ref (y 3), .ref (y 4), .ref (y 5), .ref (y 6), .ref (y 7), .ref (y 8), .ref (y 9), .int 0, .int 0, .int 0, .int 0, .int 0])), (q_1, .inr (8, [.int 0, .int 1, .ref q_3, .ref q_4, .ref q_9, .int 0, .int 0, .ref (y 19), .ref q_5, .ref q_6, .ref q_7, .ref q_8, .ref q_2, .ref q_10, .int 0, .int 0, .int 0])), (q_2, aI V 4 (fun _ => 0)), (q_3, aI V 1 (fun _ => 0)), (q_4, aI V 1 (fun _ => 0)), (q_5, aI V 1 (fun _ => 0)), (q_6, aI V 1 (fun _ => 0)), (q_7, aI V 4 (fun _ => 0)), (q_8, aI V 1 (fun _ => 0)), (q_9, aI V 1 (fun _ => 0)), (q_10, aI V 1 (fun _ => 0))] := hD
  refine lv_aload_n hx hb dX9_waysFromNow_46 rfl (lv_at hl 0 rfl) ?_
  refine va_get (ci := 9) (v := .ref q_1) (C := RX9) (T := TX9) (N := 15) hx hb hg inX9 hown hK hP 0 rfl rfl 10 (by decide) (hg _ q_2_46) (fun _ h9 => h9) rfl dX9_waysFromNow_47 ?_
  refine lv_aload_n hx hb dX9_waysFromNow_50 rfl (lv_at hl 0 rfl) ?_
  refine va_get (ci := 9) (v := .ref (y 2)) (C := RX9) (T := TX9) (N := 15) hx hb hg inX9 hown hK hP 0 rfl rfl 2 (by decide) (hg _ q_2_38) (fun _ h9 => h9) rfl dX9_waysFromNow_51 ?_
  refine va_get (ci := 1) (v := .int 0) (C := RX1) (T := TX1) (N := 18) hx hb hg inX1 hown hK hP 1 rfl rfl 1 (by decide) (hg _ q_1_41) (fun _ h9 => h9) rfl dX9_waysFromNow_54 ?_
  refine lv_aload_n hx hb dX9_waysFromNow_57 rfl (lv_at hl 0 rfl) ?_
  refine va_get (ci := 9) (v := .int 0) (C := RX9) (T := TX9) (N := 15) hx hb hg inX9 hown hK hP 0 rfl rfl 12 (by decide) (hg _ q_2_48) (fun _ h9 => h9) rfl dX9_waysFromNow_58 ?_
  refine lv_aload_n hx hb dX9_waysFromNow_61 rfl (lv_at hl 0 rfl) ?_
  refine va_get (ci := 9) (v := .int 0) (C := RX9) (T := TX9) (N := 15) hx hb hg inX9 hown hK hP 0 rfl rfl 13 (by decide) (hg _ q_2_49) (fun _ h9 => h9) rfl dX9_waysFromNow_62 ?_
  refine jnV (wr := [(y 0, .inr (9, [.ref (y 1), .int 0, .ref (y 2), .ref (y 10), .ref (y 19), .ref (y 25), .ref (y 26), .ref (y 30), .ref (y 31), .ref (y 32), .ref q_1, .null, .int 0, .int 0, .int 0])), (y 2, .inr (1, [.int 0, .int 0, .int 0, .int 0, .int 0, .int 0, .ref (y 3), .ref (y 4), .ref (y 5), .ref (y 6), .ref (y 7), .ref (y 8), .ref (y 9), .int 0, .int 0, .int 0, .int 0, .int 0])), (q_2, aI V 4 (fun _ => 0)), (q_7, aI V 4 (fun _ => 0)), (q_8, aI V 1 (fun _ => 0)), (q_9, aI V 1 (fun _ => 0)), (q_10, aI V 1 (fun _ => 0))]) (rnV (rest := []) ⟨hx, hb, hml, hown, hg⟩ (c_X8_begin_0 l V y q_1 q_3 q_4 q_9 q_5 q_6 q_7 q_8 q_2 q_10) mt_X8_begin q_4_126 ⟨Nat.le_of_ble_eq_true rfl, Nat.le_of_ble_eq_true rfl⟩ hK hP hD hS hA hE [2, 4, 5, 6, 7] rfl rfl 2 rfl rfl rfl rfl hl.1 rfl (Nat.le_of_ble_eq_true rfl) dX9_waysFromNow_65 ⟨Nat.le_of_ble_eq_true rfl, Nat.le_of_ble_eq_true rfl⟩) hP hD hS hA [2, 4, 5, 6, 7] [0, 1, 3, 8, 9, 10, 11] rfl rfl rfl (by decide) (fun  w H locs hw hP hD hS => ?_)
  subst hw
  have hP : va_P V.1 vwCl [(y 0, .inr (9, [.ref (y 1), .int 0, .ref (y 2), .ref (y 10), .ref (y 19), .ref (y 25), .ref (y 26), .ref (y 30), .ref (y 31), .ref (y 32), .ref q_1, .null, .int 0, .int 0, .int 0])), (y 2, .inr (1, [.int 0, .int 0, .int 0, .int 0, .int 0, .int 0, .ref (y 3), .ref (y 4), .ref (y 5), .ref (y 6), .ref (y 7), .ref (y 8), .ref (y 9), .int 0, .int 0, .int 0, .int 0, .int 0])), (q_2, aI V 4 (fun _ => 0)), (q_7, aI V 4 (fun _ => 0)), (q_8, aI V 1 (fun _ => 0)), (q_9, aI V 1 (fun _ => 0)), (q_10, aI V 1 (fun _ => 0)), (q_1, .inr (8, [.int 0, .int 1, .ref q_3, .ref q_4, .ref q_9, .int 1, .int 1, .ref (y 19), .ref q_5, .ref q_6, .ref q_7, .ref q_8, .ref q_2, .ref q_10, .int 0, .int 0, .int 0])), (q_3, aI V 1 (fun _ => 0)), (q_4, aI V 1 (fun _ => 0)), (q_5, aI V 1 (upd (fun _ => 0) 0 1)), (q_6, aI V 1 (fun _ => 0))] H := hP
  have hD : va_D A [(y 0, .inr (9, [.ref (y 1), .int 0, .ref (y 2), .ref (y 10), .ref (y 19), .ref (y 25), .ref (y 26), .ref (y 30), .ref (y 31), .ref (y 32), .ref q_1, .null, .int 0, .int 0, .int 0])), (y 2, .inr (1, [.int 0, .int 0, .int 0, .int 0, .int 0, .int 0, .ref (y 3), .ref (y 4), .ref (y 5), .ref (y 6), .ref (y 7), .ref (y 8), .ref (y 9), .int 0, .int 0, .int 0, .int 0, .int 0])), (q_2, aI V 4 (fun _ => 0)), (q_7, aI V 4 (fun _ => 0)), (q_8, aI V 1 (fun _ => 0)), (q_9, aI V 1 (fun _ => 0)), (q_10, aI V 1 (fun _ => 0)), (q_1, .inr (8, [.int 0, .int 1, .ref q_3, .ref q_4, .ref q_9, .int 1, .int 1, .ref (y 19), .ref q_5, .ref q_6, .ref q_7, .ref q_8, .ref q_2, .ref q_10, .int 0, .int 0, .int 0])), (q_3, aI V 1 (fun _ => 0)), (q_4, aI V 1 (fun _ => 0)), (q_5, aI V 1 (upd (fun _ => 0) 0 1)), (q_6, aI V 1 (fun _ => 0))] := hD
  refine lv_aload_n hx hb dX9_waysFromNow_68 rfl (lv_at hl 0 rfl) ?_
  refine va_get (ci := 9) (v := .ref q_1) (C := RX9) (T := TX9) (N := 15) hx hb hg inX9 hown hK hP 0 rfl rfl 10 (by decide) (hg _ q_2_46) (fun _ h9 => h9) rfl dX9_waysFromNow_69 ?_
  refine lv_iload_n hx hb dX9_waysFromNow_72 rfl (lv_at hl 1 rfl) ?_
  refine jnV (wr := [(y 0, .inr (9, [.ref (y 1), .int 0, .ref (y 2), .ref (y 10), .ref (y 19), .ref (y 25), .ref (y 26), .ref (y 30), .ref (y 31), .ref (y 32), .ref q_1, .null, .int 0, .int 0, .int 0])), (y 2, .inr (1, [.int 0, .int 0, .int 0, .int 0, .int 0, .int 0, .ref (y 3), .ref (y 4), .ref (y 5), .ref (y 6), .ref (y 7), .ref (y 8), .ref (y 9), .int 0, .int 0, .int 0, .int 0, .int 0])), (q_2, aI V 4 (fun _ => 0)), (q_7, aI V 4 (fun _ => 0)), (q_8, aI V 1 (fun _ => 0)), (q_9, aI V 1 (fun _ => 0)), (q_10, aI V 1 (fun _ => 0)), (q_3, aI V 1 (fun _ => 0)), (q_5, aI V 1 (upd (fun _ => 0) 0 1)), (q_6, aI V 1 (fun _ => 0))]) (rnV (rest := []) ⟨hx, hb, hml, hown, hg⟩ (c_X8_reachTo_3 l V y q_1 q_2 q_7 q_8 q_9 q_10 q_3 q_4 q_5 q_6) mt_X8_reachTo q_4_136 ⟨Nat.le_of_ble_eq_true rfl, Nat.le_of_ble_eq_true rfl⟩ hK hP hD hS hA hE [7, 9] rfl rfl 7 rfl rfl rfl rfl hl.1 rfl (Nat.le_of_ble_eq_true rfl) dX9_waysFromNow_73 ⟨Nat.le_of_ble_eq_true rfl, Nat.le_of_ble_eq_true rfl⟩) hP hD hS hA [7, 9] [0, 1, 2, 3, 4, 5, 6, 8, 10, 11] rfl rfl rfl (by decide) (fun  w H locs hw hP hD hS => ?_)
  subst hw
  have hP : va_P V.1 vwCl [(y 0, .inr (9, [.ref (y 1), .int 0, .ref (y 2), .ref (y 10), .ref (y 19), .ref (y 25), .ref (y 26), .ref (y 30), .ref (y 31), .ref (y 32), .ref q_1, .null, .int 0, .int 0, .int 0])), (y 2, .inr (1, [.int 0, .int 0, .int 0, .int 0, .int 0, .int 0, .ref (y 3), .ref (y 4), .ref (y 5), .ref (y 6), .ref (y 7), .ref (y 8), .ref (y 9), .int 0, .int 0, .int 0, .int 0, .int 0])), (q_2, aI V 4 (fun _ => 0)), (q_7, aI V 4 (fun _ => 0)), (q_8, aI V 1 (fun _ => 0)), (q_9, aI V 1 (fun _ => 0)), (q_10, aI V 1 (fun _ => 0)), (q_3, aI V 1 (fun _ => 0)), (q_5, aI V 1 (upd (fun _ => 0) 0 1)), (q_6, aI V 1 (fun _ => 0)), (q_1, .inr (8, [.int 0, .int 1, .ref q_3, .ref q_4, .ref q_9, .int 1, .int 1, .ref (y 19), .ref q_5, .ref q_6, .ref q_7, .ref q_8, .ref q_2, .ref q_10, .int 0, .int 0, .int 0])), (q_4, aI V 1 (fun _ => 0))] H := hP
  have hD : va_D A [(y 0, .inr (9, [.ref (y 1), .int 0, .ref (y 2), .ref (y 10), .ref (y 19), .ref (y 25), .ref (y 26), .ref (y 30), .ref (y 31), .ref (y 32), .ref q_1, .null, .int 0, .int 0, .int 0])), (y 2, .inr (1, [.int 0, .int 0, .int 0, .int 0, .int 0, .int 0, .ref (y 3), .ref (y 4), .ref (y 5), .ref (y 6), .ref (y 7), .ref (y 8), .ref (y 9), .int 0, .int 0, .int 0, .int 0, .int 0])), (q_2, aI V 4 (fun _ => 0)), (q_7, aI V 4 (fun _ => 0)), (q_8, aI V 1 (fun _ => 0)), (q_9, aI V 1 (fun _ => 0)), (q_10, aI V 1 (fun _ => 0)), (q_3, aI V 1 (fun _ => 0)), (q_5, aI V 1 (upd (fun _ => 0) 0 1)), (q_6, aI V 1 (fun _ => 0)), (q_1, .inr (8, [.int 0, .int 1, .ref q_3, .ref q_4, .ref q_9, .int 1, .int 1, .ref (y 19), .ref q_5, .ref q_6, .ref q_7, .ref q_8, .ref q_2, .ref q_10, .int 0, .int 0, .int 0])), (q_4, aI V 1 (fun _ => 0))] := hD
  refine lv_aload_n hx hb dX9_waysFromNow_76 rfl (lv_at hl 0 rfl) ?_
  refine va_get (ci := 9) (v := .ref q_1) (C := RX9) (T := TX9) (N := 15) hx hb hg inX9 hown hK hP 0 rfl rfl 10 (by decide) (hg _ q_2_46) (fun _ h9 => h9) rfl dX9_waysFromNow_77 ?_
  exact fiR (Or.inl ⟨_, rfl⟩) hx hb hr hlk hK hP hD hS dX9_waysFromNow_80 (Nat.le_of_ble_eq_true rfl) (Nat.le_of_ble_eq_true rfl) (⟨q_1, q_2, q_3, q_4, q_5, q_6, q_7, q_8, q_9, q_10, rfl, rfl⟩)
theorem dX8_beginSpread_0 : decode cX8_beginSpread 0 = .ok (.aload_n 0, 1) := by decide +kernel
theorem dX8_beginSpread_1 : decode cX8_beginSpread 1 = .ok (.getfield 50, 3) := by decide +kernel
theorem dX8_beginSpread_4 : decode cX8_beginSpread 4 = .ok (.iconst 0, 1) := by decide +kernel
theorem dX8_beginSpread_5 : decode cX8_beginSpread 5 = .ok (.aload_n 0, 1) := by decide +kernel
theorem dX8_beginSpread_6 : decode cX8_beginSpread 6 = .ok (.getfield 56, 3) := by decide +kernel
theorem dX8_beginSpread_9 : decode cX8_beginSpread 9 = .ok (.iconst 0, 1) := by decide +kernel
theorem dX8_beginSpread_10 : decode cX8_beginSpread 10 = .ok (.invokestatic 118, 3) := by decide +kernel
theorem dX8_beginSpread_13 : decode cX8_beginSpread 13 = .ok (.aload_n 0, 1) := by decide +kernel
theorem dX8_beginSpread_14 : decode cX8_beginSpread 14 = .ok (.getfield 50, 3) := by decide +kernel
theorem dX8_beginSpread_17 : decode cX8_beginSpread 17 = .ok (.iconst 0, 1) := by decide +kernel
theorem dX8_beginSpread_18 : decode cX8_beginSpread 18 = .ok (.iconst 1, 1) := by decide +kernel
theorem dX8_beginSpread_19 : decode cX8_beginSpread 19 = .ok (.iastore, 1) := by decide +kernel
theorem dX8_beginSpread_20 : decode cX8_beginSpread 20 = .ok (.return_, 1) := by decide +kernel
set_option maxHeartbeats 4000000 in
set_option maxRecDepth 100000 in
theorem c_X8_beginSpread_0 (l : Launch) (V : GV) (y : Nat → Nat) (h0 : Nat) (h1 : Nat) (h2 : Nat) (h3 : Nat) (h4 : Nat) (h5 : Nat) (h6 : Nat) (h7 : Nat) (h8 : Nat) (h9 : Nat) : Ct l V yX8_beginSpread (.code yX8_beginSpread cX8_beginSpread 1 none) 3 [.ref h0] [(h4, aI V 1 (fun _ => 0)), (h0, .inr (8, [.int 0, .int 1, .ref h6, .ref h9, .ref h4, .int 1, .int 1, .ref (y 19), .ref h7, .ref h8, .ref h2, .ref h3, .ref h1, .ref h5, .int 0, .int 0, .int 0]))] 0 0 (QV V (fun (w : va_W) => (w = [(h4, aI V 1 (upd (fun _ => 0) 0 1)), (h0, .inr (8, [.int 0, .int 1, .ref h6, .ref h9, .ref h4, .int 1, .int 1, .ref (y 19), .ref h7, .ref h8, .ref h2, .ref h3, .ref h1, .ref h5, .int 0, .int 0, .int 0]))]))) := by
  refine Ct.of (by decide) (Nat.le_of_ble_eq_true rfl) (fun p e s m below meth c A ls hx hb hr hml hown hlk hnm hg hP hK hD hE hA hS hl => ?_)
  have hl : lv_has ls 1 [(0, .ref h0)] := hl
  refine lv_aload_n hx hb dX8_beginSpread_0 rfl (lv_at hl 0 rfl) ?_
  refine va_get (ci := 8) (v := .ref h4) (C := RX8) (T := TX8) (N := 17) hx hb hg inX8 hown hK hP 1 rfl rfl 4 (by decide) (hg _ q_4_74) (fun _ h9 => h9) rfl dX8_beginSpread_1 ?_
  refine lv_iconst (v := 0) hx hb dX8_beginSpread_4 (by decide) ?_
  refine lv_aload_n hx hb dX8_beginSpread_5 rfl (lv_at hl 0 rfl) ?_
  refine va_get (ci := 8) (v := .int 1) (C := RX8) (T := TX8) (N := 17) hx hb hg inX8 hown hK hP 1 rfl rfl 5 (by decide) (hg _ q_4_76) (fun _ h9 => h9) rfl dX8_beginSpread_6 ?_
  refine lv_iconst (v := 0) hx hb dX8_beginSpread_9 (by decide) ?_
  refine jnV (wr := [(h0, .inr (8, [.int 0, .int 1, .ref h6, .ref h9, .ref h4, .int 1, .int 1, .ref (y 19), .ref h7, .ref h8, .ref h2, .ref h3, .ref h1, .ref h5, .int 0, .int 0, .int 0]))]) (rnS (rest := []) ⟨hx, hb, hml, hown, hg⟩ (c_J7_fill_fda19_0 l V h4) mt_J7_fill_fda19 q_4_172 ⟨Nat.le_of_ble_eq_true rfl, Nat.le_of_ble_eq_true rfl⟩ hK hP hD hS hA hE [0] rfl rfl rfl hl.1 rfl (Nat.le_of_ble_eq_true rfl) dX8_beginSpread_10 ⟨Nat.le_of_ble_eq_true rfl, Nat.le_of_ble_eq_true rfl⟩) hP hD hS hA [0] [1] rfl rfl rfl (by decide) (fun  w H locs hw hP hD hS => ?_)
  subst hw
  have hP : va_P V.1 vwCl [(h0, .inr (8, [.int 0, .int 1, .ref h6, .ref h9, .ref h4, .int 1, .int 1, .ref (y 19), .ref h7, .ref h8, .ref h2, .ref h3, .ref h1, .ref h5, .int 0, .int 0, .int 0])), (h4, aI V 1 (fun _ => 0))] H := hP
  have hD : va_D A [(h0, .inr (8, [.int 0, .int 1, .ref h6, .ref h9, .ref h4, .int 1, .int 1, .ref (y 19), .ref h7, .ref h8, .ref h2, .ref h3, .ref h1, .ref h5, .int 0, .int 0, .int 0])), (h4, aI V 1 (fun _ => 0))] := hD
  refine lv_aload_n hx hb dX8_beginSpread_13 rfl (lv_at hl 0 rfl) ?_
  refine va_get (ci := 8) (v := .ref h4) (C := RX8) (T := TX8) (N := 17) hx hb hg inX8 hown hK hP 0 rfl rfl 4 (by decide) (hg _ q_4_74) (fun _ h9 => h9) rfl dX8_beginSpread_14 ?_
  refine lv_iconst (v := 0) hx hb dX8_beginSpread_17 (by decide) ?_
  refine lv_iconst (v := 1) hx hb dX8_beginSpread_18 (by decide) ?_
  refine va_iast hx hb hK hP hD hS 1 0 rfl rfl (vin (by decide +kernel)) dX8_beginSpread_19 (fun H locs hP hD hS => ?_)
  have hP : va_P V.1 vwCl [(h0, .inr (8, [.int 0, .int 1, .ref h6, .ref h9, .ref h4, .int 1, .int 1, .ref (y 19), .ref h7, .ref h8, .ref h2, .ref h3, .ref h1, .ref h5, .int 0, .int 0, .int 0])), (h4, aI V 1 (upd (fun _ => 0) 0 1))] H := hP
  have hD : va_D A [(h0, .inr (8, [.int 0, .int 1, .ref h6, .ref h9, .ref h4, .int 1, .int 1, .ref (y 19), .ref h7, .ref h8, .ref h2, .ref h3, .ref h1, .ref h5, .int 0, .int 0, .int 0])), (h4, aI V 1 (upd (fun _ => 0) 0 1))] := hD
  have hP := subP (ws' := [(h4, aI V 1 (upd (fun _ => 0) 0 1)), (h0, .inr (8, [.int 0, .int 1, .ref h6, .ref h9, .ref h4, .int 1, .int 1, .ref (y 19), .ref h7, .ref h8, .ref h2, .ref h3, .ref h1, .ref h5, .int 0, .int 0, .int 0]))]) hP [1, 0] rfl
  have hD := hD.sub (ws' := [(h4, aI V 1 (upd (fun _ => 0) 0 1)), (h0, .inr (8, [.int 0, .int 1, .ref h6, .ref h9, .ref h4, .int 1, .int 1, .ref (y 19), .ref h7, .ref h8, .ref h2, .ref h3, .ref h1, .ref h5, .int 0, .int 0, .int 0]))]) [1, 0] rfl rfl
  exact fiV hx hb hr hlk hK hP hD hS dX8_beginSpread_20 (Nat.le_of_ble_eq_true rfl) (Nat.le_of_ble_eq_true rfl) (rfl)
set_option maxHeartbeats 4000000 in
set_option maxRecDepth 100000 in
theorem c_X8_beginSpread_1 (l : Launch) (V : GV) (y : Nat → Nat) (h0 : Nat) (h1 : Nat) (h2 : Nat) (h3 : Nat) (h4 : Nat) (h5 : Nat) (h6 : Nat) (h7 : Nat) (h8 : Nat) (h9 : Nat) : Ct l V yX8_beginSpread (.code yX8_beginSpread cX8_beginSpread 1 none) 3 [.ref h0] [(h1, aI V 1 (fun _ => 0)), (h0, .inr (8, [.int 0, .int 1, .ref h2, .ref h3, .ref h1, .int 1, .int 1, .ref (y 19), .ref h4, .ref h5, .ref h6, .ref h7, .ref h8, .ref h9, .int 0, .int 0, .int 0]))] 0 0 (QV V (fun (w : va_W) => (w = [(h1, aI V 1 (upd (fun _ => 0) 0 1)), (h0, .inr (8, [.int 0, .int 1, .ref h2, .ref h3, .ref h1, .int 1, .int 1, .ref (y 19), .ref h4, .ref h5, .ref h6, .ref h7, .ref h8, .ref h9, .int 0, .int 0, .int 0]))]))) := by
  refine Ct.of (by decide) (Nat.le_of_ble_eq_true rfl) (fun p e s m below meth c A ls hx hb hr hml hown hlk hnm hg hP hK hD hE hA hS hl => ?_)
  have hl : lv_has ls 1 [(0, .ref h0)] := hl
  refine lv_aload_n hx hb dX8_beginSpread_0 rfl (lv_at hl 0 rfl) ?_
  refine va_get (ci := 8) (v := .ref h1) (C := RX8) (T := TX8) (N := 17) hx hb hg inX8 hown hK hP 1 rfl rfl 4 (by decide) (hg _ q_4_74) (fun _ h9 => h9) rfl dX8_beginSpread_1 ?_
  refine lv_iconst (v := 0) hx hb dX8_beginSpread_4 (by decide) ?_
  refine lv_aload_n hx hb dX8_beginSpread_5 rfl (lv_at hl 0 rfl) ?_
  refine va_get (ci := 8) (v := .int 1) (C := RX8) (T := TX8) (N := 17) hx hb hg inX8 hown hK hP 1 rfl rfl 5 (by decide) (hg _ q_4_76) (fun _ h9 => h9) rfl dX8_beginSpread_6 ?_
  refine lv_iconst (v := 0) hx hb dX8_beginSpread_9 (by decide) ?_
  refine jnV (wr := [(h0, .inr (8, [.int 0, .int 1, .ref h2, .ref h3, .ref h1, .int 1, .int 1, .ref (y 19), .ref h4, .ref h5, .ref h6, .ref h7, .ref h8, .ref h9, .int 0, .int 0, .int 0]))]) (rnS (rest := []) ⟨hx, hb, hml, hown, hg⟩ (c_J7_fill_fda19_0 l V h1) mt_J7_fill_fda19 q_4_172 ⟨Nat.le_of_ble_eq_true rfl, Nat.le_of_ble_eq_true rfl⟩ hK hP hD hS hA hE [0] rfl rfl rfl hl.1 rfl (Nat.le_of_ble_eq_true rfl) dX8_beginSpread_10 ⟨Nat.le_of_ble_eq_true rfl, Nat.le_of_ble_eq_true rfl⟩) hP hD hS hA [0] [1] rfl rfl rfl (by decide) (fun  w H locs hw hP hD hS => ?_)
  subst hw
  have hP : va_P V.1 vwCl [(h0, .inr (8, [.int 0, .int 1, .ref h2, .ref h3, .ref h1, .int 1, .int 1, .ref (y 19), .ref h4, .ref h5, .ref h6, .ref h7, .ref h8, .ref h9, .int 0, .int 0, .int 0])), (h1, aI V 1 (fun _ => 0))] H := hP
  have hD : va_D A [(h0, .inr (8, [.int 0, .int 1, .ref h2, .ref h3, .ref h1, .int 1, .int 1, .ref (y 19), .ref h4, .ref h5, .ref h6, .ref h7, .ref h8, .ref h9, .int 0, .int 0, .int 0])), (h1, aI V 1 (fun _ => 0))] := hD
  refine lv_aload_n hx hb dX8_beginSpread_13 rfl (lv_at hl 0 rfl) ?_
  refine va_get (ci := 8) (v := .ref h1) (C := RX8) (T := TX8) (N := 17) hx hb hg inX8 hown hK hP 0 rfl rfl 4 (by decide) (hg _ q_4_74) (fun _ h9 => h9) rfl dX8_beginSpread_14 ?_
  refine lv_iconst (v := 0) hx hb dX8_beginSpread_17 (by decide) ?_
  refine lv_iconst (v := 1) hx hb dX8_beginSpread_18 (by decide) ?_
  refine va_iast hx hb hK hP hD hS 1 0 rfl rfl (vin (by decide +kernel)) dX8_beginSpread_19 (fun H locs hP hD hS => ?_)
  have hP : va_P V.1 vwCl [(h0, .inr (8, [.int 0, .int 1, .ref h2, .ref h3, .ref h1, .int 1, .int 1, .ref (y 19), .ref h4, .ref h5, .ref h6, .ref h7, .ref h8, .ref h9, .int 0, .int 0, .int 0])), (h1, aI V 1 (upd (fun _ => 0) 0 1))] H := hP
  have hD : va_D A [(h0, .inr (8, [.int 0, .int 1, .ref h2, .ref h3, .ref h1, .int 1, .int 1, .ref (y 19), .ref h4, .ref h5, .ref h6, .ref h7, .ref h8, .ref h9, .int 0, .int 0, .int 0])), (h1, aI V 1 (upd (fun _ => 0) 0 1))] := hD
  have hP := subP (ws' := [(h1, aI V 1 (upd (fun _ => 0) 0 1)), (h0, .inr (8, [.int 0, .int 1, .ref h2, .ref h3, .ref h1, .int 1, .int 1, .ref (y 19), .ref h4, .ref h5, .ref h6, .ref h7, .ref h8, .ref h9, .int 0, .int 0, .int 0]))]) hP [1, 0] rfl
  have hD := hD.sub (ws' := [(h1, aI V 1 (upd (fun _ => 0) 0 1)), (h0, .inr (8, [.int 0, .int 1, .ref h2, .ref h3, .ref h1, .int 1, .int 1, .ref (y 19), .ref h4, .ref h5, .ref h6, .ref h7, .ref h8, .ref h9, .int 0, .int 0, .int 0]))]) [1, 0] rfl rfl
  exact fiV hx hb hr hlk hK hP hD hS dX8_beginSpread_20 (Nat.le_of_ble_eq_true rfl) (Nat.le_of_ble_eq_true rfl) (rfl)
theorem dX8_spread_0 : decode cX8_spread 0 = .ok (.aload_n 0, 1) := by decide +kernel
theorem q_4_171 : Cond.code yX8_beginSpread prog_10_method_13_code 1 none ∈ gw := gw_4 (i := 171) (rfl) rfl
theorem q_4_170 : Cond.instanceMethod yX8_beginSpread ∈ gw := gw_4 (i := 170) (by decide +kernel) rfl
theorem q_s_35 : Cond.selects "BeaconDelay$Ways" yX8_beginSpread yX8_beginSpread ∈ gw := gw_s (i := 35) (by decide +kernel) rfl
theorem mt_X8_beginSpread : MtV yX8_beginSpread cX8_beginSpread 1 none 0 := ⟨⟨q_4_171, q_1_18, by decide +kernel, by decide +kernel, by decide +kernel⟩, q_4_170, q_s_35⟩
theorem q_4_168 : Cond.methodLink "BeaconDelay$Ways" 97 yX8_beginSpread ∈ gw := gw_4 (i := 168) (by decide +kernel) rfl
theorem dX8_spread_1 : decode cX8_spread 1 = .ok (.invokevirtual 97, 3) := by decide +kernel
theorem dX8_spread_4 : decode cX8_spread 4 = .ok (.iconst 0, 1) := by decide +kernel
theorem dX8_spread_5 : decode cX8_spread 5 = .ok (.istore_n 3, 1) := by decide +kernel
theorem dX8_spread_6 : decode cX8_spread 6 = .ok (.iload_n 3, 1) := by decide +kernel
theorem dX8_spread_7 : decode cX8_spread 7 = .ok (.iload_n 1, 1) := by decide +kernel
theorem dX8_spread_8 : decode cX8_spread 8 = .ok (.if_icmp .ge 15, 3) := by decide +kernel
theorem dX8_spread_23 : decode cX8_spread 23 = .ok (.return_, 1) := by decide +kernel
set_option maxHeartbeats 4000000 in
set_option maxRecDepth 100000 in
theorem c_X8_spread_0 (l : Launch) (V : GV) (y : Nat → Nat) (h0 : Nat) (h1 : Nat) (h2 : Nat) (h3 : Nat) (h4 : Nat) (h5 : Nat) (h6 : Nat) (h7 : Nat) (h8 : Nat) (h9 : Nat) : Ct l V yX8_spread (.code yX8_spread cX8_spread 4 none) 4 [.ref h0, .int 0, .int 10] [(h4, aI V 1 (fun _ => 0)), (h0, .inr (8, [.int 0, .int 1, .ref h6, .ref h9, .ref h4, .int 1, .int 1, .ref (y 19), .ref h7, .ref h8, .ref h2, .ref h3, .ref h1, .ref h5, .int 0, .int 0, .int 0]))] 0 0 (QV V (fun (w : va_W) => (w = [(h4, aI V 1 (upd (fun _ => 0) 0 1)), (h0, .inr (8, [.int 0, .int 1, .ref h6, .ref h9, .ref h4, .int 1, .int 1, .ref (y 19), .ref h7, .ref h8, .ref h2, .ref h3, .ref h1, .ref h5, .int 0, .int 0, .int 0]))]))) := by
  refine Ct.of (by decide) (Nat.le_of_ble_eq_true rfl) (fun p e s m below meth c A ls hx hb hr hml hown hlk hnm hg hP hK hD hE hA hS hl => ?_)
  have hl : lv_has ls 4 [(0, .ref h0), (1, .int 0), (2, .int 10)] := hl
  refine lv_aload_n hx hb dX8_spread_0 rfl (lv_at hl 0 rfl) ?_
  refine jnV (wr := []) (rnV (rest := []) ⟨hx, hb, hml, hown, hg⟩ (c_X8_beginSpread_1 l V y h0 h4 h6 h9 h7 h8 h2 h3 h1 h5) mt_X8_beginSpread q_4_168 ⟨Nat.le_of_ble_eq_true rfl, Nat.le_of_ble_eq_true rfl⟩ hK hP hD hS hA hE [0, 1] rfl rfl 1 rfl rfl rfl rfl hl.1 rfl (Nat.le_of_ble_eq_true rfl) dX8_spread_1 ⟨Nat.le_of_ble_eq_true rfl, Nat.le_of_ble_eq_true rfl⟩) hP hD hS hA [0, 1] [] rfl rfl rfl (by decide) (fun  w H locs hw hP hD hS => ?_)
  subst hw
  have hP : va_P V.1 vwCl [(h4, aI V 1 (upd (fun _ => 0) 0 1)), (h0, .inr (8, [.int 0, .int 1, .ref h6, .ref h9, .ref h4, .int 1, .int 1, .ref (y 19), .ref h7, .ref h8, .ref h2, .ref h3, .ref h1, .ref h5, .int 0, .int 0, .int 0]))] H := hP
  have hD : va_D A [(h4, aI V 1 (upd (fun _ => 0) 0 1)), (h0, .inr (8, [.int 0, .int 1, .ref h6, .ref h9, .ref h4, .int 1, .int 1, .ref (y 19), .ref h7, .ref h8, .ref h2, .ref h3, .ref h1, .ref h5, .int 0, .int 0, .int 0]))] := hD
  refine lv_iconst (v := 0) hx hb dX8_spread_4 (by decide) ?_
  refine lv_istore_n (lv' := [(3, .int 0), (0, .ref h0), (1, .int 0), (2, .int 10)]) hx hb dX8_spread_5 rfl hl (by decide) rfl (fun ls hl => ?_)
  refine lv_iload_n hx hb dX8_spread_6 rfl (lv_at hl 0 rfl) ?_
  refine lv_iload_n hx hb dX8_spread_7 rfl (lv_at hl 2 rfl) ?_
  refine lv_icmp_ge (tgt := 23) hx hb dX8_spread_8 (by decide) (fun _ => ?_) (fun c_1 => absurd c_1 (by decide))
  exact fiV hx hb hr hlk hK hP hD hS dX8_spread_23 (Nat.le_of_ble_eq_true rfl) (Nat.le_of_ble_eq_true rfl) (rfl)
set_option maxHeartbeats 4000000 in
set_option maxRecDepth 100000 in
theorem c_X8_spread_1 (l : Launch) (V : GV) (y : Nat → Nat) (h0 : Nat) (h1 : Nat) (h2 : Nat) (h3 : Nat) (h4 : Nat) (h5 : Nat) (h6 : Nat) (h7 : Nat) (h8 : Nat) (h9 : Nat) : Ct l V yX8_spread (.code yX8_spread cX8_spread 4 none) 4 [.ref h0, .int 0, .int 10] [(h1, aI V 1 (fun _ => 0)), (h0, .inr (8, [.int 0, .int 1, .ref h2, .ref h3, .ref h1, .int 1, .int 1, .ref (y 19), .ref h4, .ref h5, .ref h6, .ref h7, .ref h8, .ref h9, .int 0, .int 0, .int 0]))] 0 0 (QV V (fun (w : va_W) => (w = [(h1, aI V 1 (upd (fun _ => 0) 0 1)), (h0, .inr (8, [.int 0, .int 1, .ref h2, .ref h3, .ref h1, .int 1, .int 1, .ref (y 19), .ref h4, .ref h5, .ref h6, .ref h7, .ref h8, .ref h9, .int 0, .int 0, .int 0]))]))) := by
  refine Ct.of (by decide) (Nat.le_of_ble_eq_true rfl) (fun p e s m below meth c A ls hx hb hr hml hown hlk hnm hg hP hK hD hE hA hS hl => ?_)
  have hl : lv_has ls 4 [(0, .ref h0), (1, .int 0), (2, .int 10)] := hl
  refine lv_aload_n hx hb dX8_spread_0 rfl (lv_at hl 0 rfl) ?_
  refine jnV (wr := []) (rnV (rest := []) ⟨hx, hb, hml, hown, hg⟩ (c_X8_beginSpread_1 l V y h0 h1 h2 h3 h4 h5 h6 h7 h8 h9) mt_X8_beginSpread q_4_168 ⟨Nat.le_of_ble_eq_true rfl, Nat.le_of_ble_eq_true rfl⟩ hK hP hD hS hA hE [0, 1] rfl rfl 1 rfl rfl rfl rfl hl.1 rfl (Nat.le_of_ble_eq_true rfl) dX8_spread_1 ⟨Nat.le_of_ble_eq_true rfl, Nat.le_of_ble_eq_true rfl⟩) hP hD hS hA [0, 1] [] rfl rfl rfl (by decide) (fun  w H locs hw hP hD hS => ?_)
  subst hw
  have hP : va_P V.1 vwCl [(h1, aI V 1 (upd (fun _ => 0) 0 1)), (h0, .inr (8, [.int 0, .int 1, .ref h2, .ref h3, .ref h1, .int 1, .int 1, .ref (y 19), .ref h4, .ref h5, .ref h6, .ref h7, .ref h8, .ref h9, .int 0, .int 0, .int 0]))] H := hP
  have hD : va_D A [(h1, aI V 1 (upd (fun _ => 0) 0 1)), (h0, .inr (8, [.int 0, .int 1, .ref h2, .ref h3, .ref h1, .int 1, .int 1, .ref (y 19), .ref h4, .ref h5, .ref h6, .ref h7, .ref h8, .ref h9, .int 0, .int 0, .int 0]))] := hD
  refine lv_iconst (v := 0) hx hb dX8_spread_4 (by decide) ?_
  refine lv_istore_n (lv' := [(3, .int 0), (0, .ref h0), (1, .int 0), (2, .int 10)]) hx hb dX8_spread_5 rfl hl (by decide) rfl (fun ls hl => ?_)
  refine lv_iload_n hx hb dX8_spread_6 rfl (lv_at hl 0 rfl) ?_
  refine lv_iload_n hx hb dX8_spread_7 rfl (lv_at hl 2 rfl) ?_
  refine lv_icmp_ge (tgt := 23) hx hb dX8_spread_8 (by decide) (fun _ => ?_) (fun c_1 => absurd c_1 (by decide))
  exact fiV hx hb hr hlk hK hP hD hS dX8_spread_23 (Nat.le_of_ble_eq_true rfl) (Nat.le_of_ble_eq_true rfl) (rfl)
theorem dX8_spreadByLots_0 : decode cX8_spreadByLots 0 = .ok (.aload_n 0, 1) := by decide +kernel
theorem dX8_spreadByLots_1 : decode cX8_spreadByLots 1 = .ok (.iload_n 1, 1) := by decide +kernel
theorem dX8_spreadByLots_2 : decode cX8_spreadByLots 2 = .ok (.bipush 11, 2) := by decide +kernel
theorem dX8_spreadByLots_4 : decode cX8_spreadByLots 4 = .ok (.aload_n 0, 1) := by decide +kernel
theorem dX8_spreadByLots_5 : decode cX8_spreadByLots 5 = .ok (.getfield 77, 3) := by decide +kernel
theorem dX8_spreadByLots_8 : decode cX8_spreadByLots 8 = .ok (.isub, 1) := by decide +kernel
theorem q_4_167 : Cond.code yX8_spread prog_10_method_10_code 4 none ∈ gw := gw_4 (i := 167) (rfl) rfl
theorem q_4_165 : Cond.instanceMethod yX8_spread ∈ gw := gw_4 (i := 165) (by decide +kernel) rfl
theorem q_4_166 : Cond.selects "BeaconDelay$Ways" yX8_spread yX8_spread ∈ gw := gw_4 (i := 166) (by decide +kernel) rfl
theorem mt_X8_spread : MtV yX8_spread cX8_spread 4 none 2 := ⟨⟨q_4_167, q_1_18, by decide +kernel, by decide +kernel, by decide +kernel⟩, q_4_165, q_4_166⟩
theorem q_5_162 : Cond.methodLink "BeaconDelay$Ways" 104 yX8_spread ∈ gw := gw_5 (i := 162) (by decide +kernel) rfl
theorem dX8_spreadByLots_9 : decode cX8_spreadByLots 9 = .ok (.invokevirtual 104, 3) := by decide +kernel
theorem dX8_spreadByLots_12 : decode cX8_spreadByLots 12 = .ok (.return_, 1) := by decide +kernel
set_option maxHeartbeats 4000000 in
set_option maxRecDepth 100000 in
theorem c_X8_spreadByLots_0 (l : Launch) (V : GV) (y : Nat → Nat) (h0 : Nat) (h1 : Nat) (h2 : Nat) (h3 : Nat) (h4 : Nat) (h5 : Nat) (h6 : Nat) (h7 : Nat) (h8 : Nat) (h9 : Nat) : Ct l V yX8_spreadByLots (.code yX8_spreadByLots cX8_spreadByLots 2 none) 5 [.ref h0, .int 0] [(h4, aI V 1 (fun _ => 0)), (h0, .inr (8, [.int 0, .int 1, .ref h6, .ref h9, .ref h4, .int 1, .int 1, .ref (y 19), .ref h7, .ref h8, .ref h2, .ref h3, .ref h1, .ref h5, .int 0, .int 0, .int 0]))] 0 0 (QV V (fun (w : va_W) => (w = [(h4, aI V 1 (upd (fun _ => 0) 0 1)), (h0, .inr (8, [.int 0, .int 1, .ref h6, .ref h9, .ref h4, .int 1, .int 1, .ref (y 19), .ref h7, .ref h8, .ref h2, .ref h3, .ref h1, .ref h5, .int 0, .int 0, .int 0]))]))) := by
  refine Ct.of (by decide) (Nat.le_of_ble_eq_true rfl) (fun p e s m below meth c A ls hx hb hr hml hown hlk hnm hg hP hK hD hE hA hS hl => ?_)
  have hl : lv_has ls 2 [(0, .ref h0), (1, .int 0)] := hl
  refine lv_aload_n hx hb dX8_spreadByLots_0 rfl (lv_at hl 0 rfl) ?_
  refine lv_iload_n hx hb dX8_spreadByLots_1 rfl (lv_at hl 1 rfl) ?_
  refine lv_bipush (v := 11) hx hb dX8_spreadByLots_2 (by decide) ?_
  refine lv_aload_n hx hb dX8_spreadByLots_4 rfl (lv_at hl 0 rfl) ?_
  refine va_get (ci := 8) (v := .int 1) (C := RX8) (T := TX8) (N := 17) hx hb hg inX8 hown hK hP 1 rfl rfl 6 (by decide) (hg _ q_4_80) (fun _ h9 => h9) rfl dX8_spreadByLots_5 ?_
  refine lv_isub hx hb dX8_spreadByLots_8 ?_
  refine tpi (y := 10) (by decide +kernel) ?_
  refine jnV (wr := []) (rnV (rest := []) ⟨hx, hb, hml, hown, hg⟩ (c_X8_spread_1 l V y h0 h4 h6 h9 h7 h8 h2 h3 h1 h5) mt_X8_spread q_5_162 ⟨Nat.le_of_ble_eq_true rfl, Nat.le_of_ble_eq_true rfl⟩ hK hP hD hS hA hE [0, 1] rfl rfl 1 rfl rfl rfl rfl hl.1 rfl (Nat.le_of_ble_eq_true rfl) dX8_spreadByLots_9 ⟨Nat.le_of_ble_eq_true rfl, Nat.le_of_ble_eq_true rfl⟩) hP hD hS hA [0, 1] [] rfl rfl rfl (by decide) (fun  w H locs hw hP hD hS => ?_)
  subst hw
  have hP : va_P V.1 vwCl [(h4, aI V 1 (upd (fun _ => 0) 0 1)), (h0, .inr (8, [.int 0, .int 1, .ref h6, .ref h9, .ref h4, .int 1, .int 1, .ref (y 19), .ref h7, .ref h8, .ref h2, .ref h3, .ref h1, .ref h5, .int 0, .int 0, .int 0]))] H := hP
  have hD : va_D A [(h4, aI V 1 (upd (fun _ => 0) 0 1)), (h0, .inr (8, [.int 0, .int 1, .ref h6, .ref h9, .ref h4, .int 1, .int 1, .ref (y 19), .ref h7, .ref h8, .ref h2, .ref h3, .ref h1, .ref h5, .int 0, .int 0, .int 0]))] := hD
  exact fiV hx hb hr hlk hK hP hD hS dX8_spreadByLots_12 (Nat.le_of_ble_eq_true rfl) (Nat.le_of_ble_eq_true rfl) (rfl)
theorem dX9_greatestCommon_0 : decode cX9_greatestCommon 0 = .ok (.iload_n 0, 1) := by decide +kernel
theorem dX9_greatestCommon_1 : decode cX9_greatestCommon 1 = .ok (.istore_n 2, 1) := by decide +kernel
theorem dX9_greatestCommon_2 : decode cX9_greatestCommon 2 = .ok (.iload_n 1, 1) := by decide +kernel
theorem dX9_greatestCommon_3 : decode cX9_greatestCommon 3 = .ok (.istore_n 3, 1) := by decide +kernel
theorem dX9_greatestCommon_4 : decode cX9_greatestCommon 4 = .ok (.iconst 0, 1) := by decide +kernel
theorem dX9_greatestCommon_5 : decode cX9_greatestCommon 5 = .ok (.istore 4, 2) := by decide +kernel
theorem dX9_greatestCommon_7 : decode cX9_greatestCommon 7 = .ok (.iload 4, 2) := by decide +kernel
theorem dX9_greatestCommon_9 : decode cX9_greatestCommon 9 = .ok (.bipush 100, 2) := by decide +kernel
theorem dX9_greatestCommon_11 : decode cX9_greatestCommon 11 = .ok (.if_icmp .ge 23, 3) := by decide +kernel
theorem dX9_greatestCommon_14 : decode cX9_greatestCommon 14 = .ok (.iload_n 3, 1) := by decide +kernel
theorem dX9_greatestCommon_15 : decode cX9_greatestCommon 15 = .ok (.ifCond .eq 19, 3) := by decide +kernel
theorem dX9_greatestCommon_18 : decode cX9_greatestCommon 18 = .ok (.iload_n 2, 1) := by decide +kernel
theorem dX9_greatestCommon_19 : decode cX9_greatestCommon 19 = .ok (.iload_n 3, 1) := by decide +kernel
theorem dX9_greatestCommon_20 : decode cX9_greatestCommon 20 = .ok (.irem, 1) := by decide +kernel
theorem dX9_greatestCommon_21 : decode cX9_greatestCommon 21 = .ok (.istore 5, 2) := by decide +kernel
theorem dX9_greatestCommon_23 : decode cX9_greatestCommon 23 = .ok (.iload_n 3, 1) := by decide +kernel
theorem dX9_greatestCommon_24 : decode cX9_greatestCommon 24 = .ok (.istore_n 2, 1) := by decide +kernel
theorem dX9_greatestCommon_25 : decode cX9_greatestCommon 25 = .ok (.iload 5, 2) := by decide +kernel
theorem dX9_greatestCommon_27 : decode cX9_greatestCommon 27 = .ok (.istore_n 3, 1) := by decide +kernel
theorem dX9_greatestCommon_28 : decode cX9_greatestCommon 28 = .ok (.iinc 4 1, 3) := by decide +kernel
theorem dX9_greatestCommon_31 : decode cX9_greatestCommon 31 = .ok (.goto (-24), 3) := by decide +kernel
theorem dX9_greatestCommon_34 : decode cX9_greatestCommon 34 = .ok (.iload_n 2, 1) := by decide +kernel
theorem dX9_greatestCommon_35 : decode cX9_greatestCommon 35 = .ok (.ireturn, 1) := by decide +kernel
set_option maxHeartbeats 4000000 in
set_option maxRecDepth 100000 in
theorem c_X9_greatestCommon_0 (l : Launch) (V : GV) : Ct l V yX9_greatestCommon (.code yX9_greatestCommon cX9_greatestCommon 6 (some .int)) 1 [.int 0, .int 1] [] 0 0 (QI V (fun (r : Int32) (w : va_W) => (r = 1 ∧ w = []))) := by
  refine Ct.of (by decide) (Nat.le_of_ble_eq_true rfl) (fun p e s m below meth c A ls hx hb hr hml hown hlk hnm hg hP hK hD hE hA hS hl => ?_)
  have hl : lv_has ls 6 [(0, .int 0), (1, .int 1)] := hl
  refine lv_iload_n hx hb dX9_greatestCommon_0 rfl (lv_at hl 0 rfl) ?_
  refine lv_istore_n (lv' := [(2, .int 0), (0, .int 0), (1, .int 1)]) hx hb dX9_greatestCommon_1 rfl hl (by decide) rfl (fun ls hl => ?_)
  refine lv_iload_n hx hb dX9_greatestCommon_2 rfl (lv_at hl 2 rfl) ?_
  refine lv_istore_n (lv' := [(3, .int 1), (2, .int 0), (0, .int 0), (1, .int 1)]) hx hb dX9_greatestCommon_3 rfl hl (by decide) rfl (fun ls hl => ?_)
  refine lv_iconst (v := 0) hx hb dX9_greatestCommon_4 (by decide) ?_
  refine lv_istore (lv' := [(4, .int 0), (3, .int 1), (2, .int 0), (0, .int 0), (1, .int 1)]) hx hb dX9_greatestCommon_5 hl (by decide) rfl (fun ls hl => ?_)
  refine lv_iload hx hb dX9_greatestCommon_7 (lv_at hl 0 rfl) ?_
  refine lv_bipush (v := 100) hx hb dX9_greatestCommon_9 (by decide) ?_
  refine lv_icmp_ge (tgt := 34) hx hb dX9_greatestCommon_11 (by decide) (fun c_1 => absurd c_1 (by decide)) (fun _ => ?_)
  refine lv_iload_n hx hb dX9_greatestCommon_14 rfl (lv_at hl 1 rfl) ?_
  refine lv_if_eq (tgt := 34) hx hb dX9_greatestCommon_15 (by decide) (fun c_2 => absurd c_2 (by decide)) (fun _ => ?_)
  refine lv_iload_n hx hb dX9_greatestCommon_18 rfl (lv_at hl 2 rfl) ?_
  refine lv_iload_n hx hb dX9_greatestCommon_19 rfl (lv_at hl 1 rfl) ?_
  refine lv_irem hx hb dX9_greatestCommon_20 (by decide) ?_
  refine tpi (y := 0) (by decide +kernel) ?_
  refine lv_istore (lv' := [(5, .int 0), (4, .int 0), (3, .int 1), (2, .int 0), (0, .int 0), (1, .int 1)]) hx hb dX9_greatestCommon_21 hl (by decide) rfl (fun ls hl => ?_)
  refine lv_iload_n hx hb dX9_greatestCommon_23 rfl (lv_at hl 2 rfl) ?_
  refine lv_istore_n (lv' := [(2, .int 1), (5, .int 0), (4, .int 0), (3, .int 1), (0, .int 0), (1, .int 1)]) hx hb dX9_greatestCommon_24 rfl hl (by decide) rfl (fun ls hl => ?_)
  refine lv_iload hx hb dX9_greatestCommon_25 (lv_at hl 1 rfl) ?_
  refine lv_istore_n (lv' := [(3, .int 0), (2, .int 1), (5, .int 0), (4, .int 0), (0, .int 0), (1, .int 1)]) hx hb dX9_greatestCommon_27 rfl hl (by decide) rfl (fun ls hl => ?_)
  refine lv_iinc (v := 1) (lv' := [(4, .int 1), (3, .int 0), (2, .int 1), (5, .int 0), (0, .int 0), (1, .int 1)]) hx hb dX9_greatestCommon_28 hl (k := 3) rfl (by decide +kernel) (by decide) rfl (fun ls hl => ?_)
  refine lv_goto (tgt := 7) hx hb dX9_greatestCommon_31 (by decide) ?_
  refine lv_iload hx hb dX9_greatestCommon_7 (lv_at hl 0 rfl) ?_
  refine lv_bipush (v := 100) hx hb dX9_greatestCommon_9 (by decide) ?_
  refine lv_icmp_ge (tgt := 34) hx hb dX9_greatestCommon_11 (by decide) (fun c_3 => absurd c_3 (by decide)) (fun _ => ?_)
  refine lv_iload_n hx hb dX9_greatestCommon_14 rfl (lv_at hl 1 rfl) ?_
  refine lv_if_eq (tgt := 34) hx hb dX9_greatestCommon_15 (by decide) (fun _ => ?_) (fun c_4 => absurd c_4 (by decide))
  refine lv_iload_n hx hb dX9_greatestCommon_34 rfl (lv_at hl 2 rfl) ?_
  exact fiI hx hb hr hlk hK hP hD hS dX9_greatestCommon_35 (Nat.le_of_ble_eq_true rfl) (Nat.le_of_ble_eq_true rfl) (⟨rfl, rfl⟩)
theorem dX9_inLowestTerms_0 : decode cX9_inLowestTerms 0 = .ok (.iconst 1, 1) := by decide +kernel
theorem dX9_inLowestTerms_1 : decode cX9_inLowestTerms 1 = .ok (.istore_n 3, 1) := by decide +kernel
theorem dX9_inLowestTerms_2 : decode cX9_inLowestTerms 2 = .ok (.iconst 0, 1) := by decide +kernel
theorem dX9_inLowestTerms_3 : decode cX9_inLowestTerms 3 = .ok (.istore 4, 2) := by decide +kernel
theorem dX9_inLowestTerms_5 : decode cX9_inLowestTerms 5 = .ok (.iload 4, 2) := by decide +kernel
theorem dX9_inLowestTerms_7 : decode cX9_inLowestTerms 7 = .ok (.iload_n 1, 1) := by decide +kernel
theorem dX9_inLowestTerms_8 : decode cX9_inLowestTerms 8 = .ok (.if_icmp .ge 14, 3) := by decide +kernel
theorem dX9_inLowestTerms_22 : decode cX9_inLowestTerms 22 = .ok (.iload_n 0, 1) := by decide +kernel
theorem dX9_inLowestTerms_23 : decode cX9_inLowestTerms 23 = .ok (.iload_n 3, 1) := by decide +kernel
theorem q_5_168 : Cond.code yX9_greatestCommon prog_1_method_67_code 6 (some FieldType.int) ∈ gw := gw_5 (i := 168) (rfl) rfl
theorem q_5_167 : Cond.static yX9_greatestCommon ∈ gw := gw_5 (i := 167) (by decide +kernel) rfl
theorem mt_X9_greatestCommon : MtS yX9_greatestCommon cX9_greatestCommon 6 (some .int) 2 := ⟨⟨q_5_168, q_1_1, by decide +kernel, by decide +kernel, by decide +kernel⟩, q_5_167⟩
theorem q_5_166 : Cond.methodLink "BeaconDelay" 380 yX9_greatestCommon ∈ gw := gw_5 (i := 166) (by decide +kernel) rfl
theorem dX9_inLowestTerms_24 : decode cX9_inLowestTerms 24 = .ok (.invokestatic 380, 3) := by decide +kernel
theorem dX9_inLowestTerms_27 : decode cX9_inLowestTerms 27 = .ok (.istore 4, 2) := by decide +kernel
theorem dX9_inLowestTerms_29 : decode cX9_inLowestTerms 29 = .ok (.iload 4, 2) := by decide +kernel
theorem dX9_inLowestTerms_31 : decode cX9_inLowestTerms 31 = .ok (.ifCond .ne 5, 3) := by decide +kernel
theorem dX9_inLowestTerms_36 : decode cX9_inLowestTerms 36 = .ok (.iload_n 2, 1) := by decide +kernel
theorem dX9_inLowestTerms_37 : decode cX9_inLowestTerms 37 = .ok (.ifCond .ne 10, 3) := by decide +kernel
theorem dX9_inLowestTerms_47 : decode cX9_inLowestTerms 47 = .ok (.iload_n 3, 1) := by decide +kernel
theorem dX9_inLowestTerms_48 : decode cX9_inLowestTerms 48 = .ok (.iload 4, 2) := by decide +kernel
theorem dX9_inLowestTerms_50 : decode cX9_inLowestTerms 50 = .ok (.idiv, 1) := by decide +kernel
theorem dX9_inLowestTerms_51 : decode cX9_inLowestTerms 51 = .ok (.ireturn, 1) := by decide +kernel
theorem dX9_inLowestTerms_40 : decode cX9_inLowestTerms 40 = .ok (.iload_n 0, 1) := by decide +kernel
theorem dX9_inLowestTerms_41 : decode cX9_inLowestTerms 41 = .ok (.iload 4, 2) := by decide +kernel
theorem dX9_inLowestTerms_43 : decode cX9_inLowestTerms 43 = .ok (.idiv, 1) := by decide +kernel
theorem dX9_inLowestTerms_44 : decode cX9_inLowestTerms 44 = .ok (.goto 7, 3) := by decide +kernel
set_option maxHeartbeats 4000000 in
set_option maxRecDepth 100000 in
theorem c_X9_inLowestTerms_0 (l : Launch) (V : GV) (p0 : Int32) : Ct l V yX9_inLowestTerms (.code yX9_inLowestTerms cX9_inLowestTerms 5 (some .int)) 2 [.int 0, .int 0, .int p0] [] 0 0 (QI V (fun (r : Int32) (w : va_W) => ((¬ p0 = 0) ∧ r = 1 ∧ w = []) ∨ (p0 = 0 ∧ r = 0 ∧ w = []))) := by
  refine Ct.of (by decide) (Nat.le_of_ble_eq_true rfl) (fun p e s m below meth c A ls hx hb hr hml hown hlk hnm hg hP hK hD hE hA hS hl => ?_)
  have hl : lv_has ls 5 [(0, .int 0), (1, .int 0), (2, .int p0)] := hl
  refine lv_iconst (v := 1) hx hb dX9_inLowestTerms_0 (by decide) ?_
  refine lv_istore_n (lv' := [(3, .int 1), (0, .int 0), (1, .int 0), (2, .int p0)]) hx hb dX9_inLowestTerms_1 rfl hl (by decide) rfl (fun ls hl => ?_)
  refine lv_iconst (v := 0) hx hb dX9_inLowestTerms_2 (by decide) ?_
  refine lv_istore (lv' := [(4, .int 0), (3, .int 1), (0, .int 0), (1, .int 0), (2, .int p0)]) hx hb dX9_inLowestTerms_3 hl (by decide) rfl (fun ls hl => ?_)
  refine lv_iload hx hb dX9_inLowestTerms_5 (lv_at hl 0 rfl) ?_
  refine lv_iload_n hx hb dX9_inLowestTerms_7 rfl (lv_at hl 3 rfl) ?_
  refine lv_icmp_ge (tgt := 22) hx hb dX9_inLowestTerms_8 (by decide) (fun _ => ?_) (fun c_1 => absurd c_1 (by decide))
  refine lv_iload_n hx hb dX9_inLowestTerms_22 rfl (lv_at hl 2 rfl) ?_
  refine lv_iload_n hx hb dX9_inLowestTerms_23 rfl (lv_at hl 1 rfl) ?_
  refine jnI (wr := []) (rnS (rest := []) ⟨hx, hb, hml, hown, hg⟩ (c_X9_greatestCommon_0 l V) mt_X9_greatestCommon q_5_166 ⟨Nat.le_of_ble_eq_true rfl, Nat.le_of_ble_eq_true rfl⟩ hK hP hD hS hA hE [] rfl rfl rfl hl.1 rfl (Nat.le_of_ble_eq_true rfl) dX9_inLowestTerms_24 ⟨Nat.le_of_ble_eq_true rfl, Nat.le_of_ble_eq_true rfl⟩) hP hD hS hA [] [] rfl rfl rfl (by decide) (fun r_2 w H locs hw hP hD hS => ?_)
  obtain ⟨rfl, rfl⟩ := hw
  have hP : va_P V.1 vwCl [] H := hP
  have hD : va_D A [] := hD
  refine lv_istore (lv' := [(4, .int 1), (3, .int 1), (0, .int 0), (1, .int 0), (2, .int p0)]) hx hb dX9_inLowestTerms_27 hl (by decide) rfl (fun ls hl => ?_)
  refine lv_iload hx hb dX9_inLowestTerms_29 (lv_at hl 0 rfl) ?_
  refine lv_if_ne (tgt := 36) hx hb dX9_inLowestTerms_31 (by decide) (fun _ => ?_) (fun c_3 => absurd c_3 (by decide))
  refine lv_iload_n hx hb dX9_inLowestTerms_36 rfl (lv_at hl 4 rfl) ?_
  refine lv_if_ne (tgt := 47) hx hb dX9_inLowestTerms_37 (by decide) (fun c_4 => ?_) (fun c_4 => ?_)
  · refine lv_iload_n hx hb dX9_inLowestTerms_47 rfl (lv_at hl 1 rfl) ?_
    refine lv_iload hx hb dX9_inLowestTerms_48 (lv_at hl 0 rfl) ?_
    refine lv_idiv hx hb dX9_inLowestTerms_50 (by decide) ?_
    refine tpi (y := 1) (by decide +kernel) ?_
    exact fiI hx hb hr hlk hK hP hD hS dX9_inLowestTerms_51 (Nat.le_of_ble_eq_true rfl) (Nat.le_of_ble_eq_true rfl) (Or.inl ⟨c_4, rfl, rfl⟩)
  · refine lv_iload_n hx hb dX9_inLowestTerms_40 rfl (lv_at hl 2 rfl) ?_
    refine lv_iload hx hb dX9_inLowestTerms_41 (lv_at hl 0 rfl) ?_
    refine lv_idiv hx hb dX9_inLowestTerms_43 (by decide) ?_
    refine tpi (y := 0) (by decide +kernel) ?_
    refine lv_goto (tgt := 51) hx hb dX9_inLowestTerms_44 (by decide) ?_
    exact fiI hx hb hr hlk hK hP hD hS dX9_inLowestTerms_51 (Nat.le_of_ble_eq_true rfl) (Nat.le_of_ble_eq_true rfl) (Or.inr (⟨c_4, rfl, rfl⟩))
set_option maxHeartbeats 4000000 in
set_option maxRecDepth 100000 in
theorem c_X8_reachTo_4 (l : Launch) (V : GV) (y : Nat → Nat) (h0 : Nat) (h1 : Nat) (h2 : Nat) (h3 : Nat) (h4 : Nat) (h5 : Nat) (h6 : Nat) (h7 : Nat) (h8 : Nat) (h9 : Nat) : Ct l V yX8_reachTo (.code yX8_reachTo cX8_reachTo 3 none) 3 [.ref h0, .int 1] [(h1, aI V 4 (fun _ => 0)), (h2, aI V 4 (fun _ => 0)), (h0, .inr (8, [.int 0, .int 1, .ref h6, .ref h7, .ref h4, .int 1, .int 1, .ref (y 19), .ref h8, .ref h9, .ref h2, .ref h3, .ref h1, .ref h5, .int 0, .int 0, .int 0])), (h6, aI V 1 (fun _ => 0)), (h7, aI V 1 (fun _ => 0)), (h8, aI V 1 (upd (fun _ => 0) 0 1))] 0 0 (QV V (fun (w : va_W) => (w = [(h1, aI V 4 (fun _ => 0)), (h2, aI V 4 (fun _ => 0)), (h0, .inr (8, [.int 0, .int 1, .ref h6, .ref h7, .ref h4, .int 1, .int 1, .ref (y 19), .ref h8, .ref h9, .ref h2, .ref h3, .ref h1, .ref h5, .int 0, .int 0, .int 1])), (h6, aI V 1 (fun _ => 0)), (h7, aI V 1 (fun _ => 0)), (h8, aI V 1 (upd (fun _ => 0) 0 1))]))) := by
  refine Ct.of (by decide) (Nat.le_of_ble_eq_true rfl) (fun p e s m below meth c A ls hx hb hr hml hown hlk hnm hg hP hK hD hE hA hS hl => ?_)
  have hl : lv_has ls 3 [(0, .ref h0), (1, .int 1)] := hl
  refine lv_aload_n hx hb dX8_reachTo_0 rfl (lv_at hl 0 rfl) ?_
  refine va_get (ci := 8) (v := .int 0) (C := RX8) (T := TX8) (N := 17) hx hb hg inX8 hown hK hP 2 rfl rfl 16 (by decide) (hg _ q_4_90) (fun _ h9 => h9) rfl dX8_reachTo_1 ?_
  refine lv_istore_n (lv' := [(2, .int 0), (0, .ref h0), (1, .int 1)]) hx hb dX8_reachTo_4 rfl hl (by decide) rfl (fun ls hl => ?_)
  refine lv_iload_n hx hb dX8_reachTo_5 rfl (lv_at hl 0 rfl) ?_
  refine lv_aload_n hx hb dX8_reachTo_6 rfl (lv_at hl 1 rfl) ?_
  refine va_get (ci := 8) (v := .int 1) (C := RX8) (T := TX8) (N := 17) hx hb hg inX8 hown hK hP 2 rfl rfl 1 (by decide) (hg _ q_4_67) (fun _ h9 => h9) rfl dX8_reachTo_7 ?_
  refine lv_icmp_ge (tgt := 42) hx hb dX8_reachTo_10 (by decide) (fun c_1 => absurd c_1 (by decide)) (fun _ => ?_)
  refine lv_iload_n hx hb dX8_reachTo_13 rfl (lv_at hl 0 rfl) ?_
  refine lv_aload_n hx hb dX8_reachTo_14 rfl (lv_at hl 1 rfl) ?_
  refine va_get (ci := 8) (v := .int 1) (C := RX8) (T := TX8) (N := 17) hx hb hg inX8 hown hK hP 2 rfl rfl 5 (by decide) (hg _ q_4_76) (fun _ h9 => h9) rfl dX8_reachTo_15 ?_
  refine lv_icmp_ge (tgt := 42) hx hb dX8_reachTo_18 (by decide) (fun c_2 => absurd c_2 (by decide)) (fun _ => ?_)
  refine lv_aload_n hx hb dX8_reachTo_21 rfl (lv_at hl 1 rfl) ?_
  refine va_get (ci := 8) (v := .ref h7) (C := RX8) (T := TX8) (N := 17) hx hb hg inX8 hown hK hP 2 rfl rfl 3 (by decide) (hg _ q_4_72) (fun _ h9 => h9) rfl dX8_reachTo_22 ?_
  refine lv_iload_n hx hb dX8_reachTo_25 rfl (lv_at hl 0 rfl) ?_
  refine va_iald hx hb hK hP 4 0 rfl rfl (vin (by decide +kernel)) dX8_reachTo_26 ?_
  refine tpi (y := 0) (rfl) ?_
  refine lv_iload_n hx hb dX8_reachTo_27 rfl (lv_at hl 2 rfl) ?_
  refine lv_icmp_ge (tgt := 42) hx hb dX8_reachTo_28 (by decide) (fun c_3 => absurd c_3 (by decide)) (fun _ => ?_)
  refine lv_aload_n hx hb dX8_reachTo_31 rfl (lv_at hl 1 rfl) ?_
  refine lv_iload_n hx hb dX8_reachTo_32 rfl (lv_at hl 0 rfl) ?_
  refine jnV (wr := []) (rnV (rest := []) ⟨hx, hb, hml, hown, hg⟩ (c_X8_open_1 l V y h0 h1 h2 h6 h7 h4 h8 h9 h3 h5) mt_X8_open q_4_140 ⟨Nat.le_of_ble_eq_true rfl, Nat.le_of_ble_eq_true rfl⟩ hK hP hD hS hA hE [0, 1, 2, 3, 4, 5] rfl rfl 2 rfl rfl rfl rfl hl.1 rfl (Nat.le_of_ble_eq_true rfl) dX8_reachTo_33 ⟨Nat.le_of_ble_eq_true rfl, Nat.le_of_ble_eq_true rfl⟩) hP hD hS hA [0, 1, 2, 3, 4, 5] [] rfl rfl rfl (by decide) (fun  w H locs hw hP hD hS => ?_)
  subst hw
  have hP : va_P V.1 vwCl [(h1, aI V 4 (fun _ => 0)), (h2, aI V 4 (fun _ => 0)), (h0, .inr (8, [.int 0, .int 1, .ref h6, .ref h7, .ref h4, .int 1, .int 1, .ref (y 19), .ref h8, .ref h9, .ref h2, .ref h3, .ref h1, .ref h5, .int 0, .int 0, .int 1])), (h6, aI V 1 (fun _ => 0)), (h7, aI V 1 (fun _ => 0)), (h8, aI V 1 (upd (fun _ => 0) 0 1))] H := hP
  have hD : va_D A [(h1, aI V 4 (fun _ => 0)), (h2, aI V 4 (fun _ => 0)), (h0, .inr (8, [.int 0, .int 1, .ref h6, .ref h7, .ref h4, .int 1, .int 1, .ref (y 19), .ref h8, .ref h9, .ref h2, .ref h3, .ref h1, .ref h5, .int 0, .int 0, .int 1])), (h6, aI V 1 (fun _ => 0)), (h7, aI V 1 (fun _ => 0)), (h8, aI V 1 (upd (fun _ => 0) 0 1))] := hD
  refine lv_iinc (v := 1) (lv' := [(2, .int 1), (0, .ref h0), (1, .int 1)]) hx hb dX8_reachTo_36 hl (k := 0) rfl (by decide +kernel) (by decide) rfl (fun ls hl => ?_)
  refine lv_goto (tgt := 5) hx hb dX8_reachTo_39 (by decide) ?_
  refine lv_iload_n hx hb dX8_reachTo_5 rfl (lv_at hl 0 rfl) ?_
  refine lv_aload_n hx hb dX8_reachTo_6 rfl (lv_at hl 1 rfl) ?_
  refine va_get (ci := 8) (v := .int 1) (C := RX8) (T := TX8) (N := 17) hx hb hg inX8 hown hK hP 2 rfl rfl 1 (by decide) (hg _ q_4_67) (fun _ h9 => h9) rfl dX8_reachTo_7 ?_
  refine lv_icmp_ge (tgt := 42) hx hb dX8_reachTo_10 (by decide) (fun _ => ?_) (fun c_4 => absurd c_4 (by decide))
  exact fiV hx hb hr hlk hK hP hD hS dX8_reachTo_42 (Nat.le_of_ble_eq_true rfl) (Nat.le_of_ble_eq_true rfl) (rfl)
set_option maxHeartbeats 4000000 in
set_option maxRecDepth 100000 in
theorem c_X9_waysFromNow_2 (l : Launch) (V : GV) (y : Nat → Nat) : Ct l V yX9_waysFromNow (.code yX9_waysFromNow cX9_waysFromNow 2 (some (.object "BeaconDelay$Ways"))) 4 [.ref (y 0), .int 1] [(y 0, .inr (9, [.ref (y 1), .int 0, .ref (y 2), .ref (y 10), .ref (y 19), .ref (y 25), .ref (y 26), .ref (y 30), .ref (y 31), .ref (y 32), .null, .null, .int 0, .int 0, .int 0])), (y 2, .inr (1, [.int 0, .int 0, .int 0, .int 0, .int 0, .int 0, .ref (y 3), .ref (y 4), .ref (y 5), .ref (y 6), .ref (y 7), .ref (y 8), .ref (y 9), .int 0, .int 0, .int 0, .int 0, .int 0]))] 10 32 (QR V (fun (r : Nat) (w : va_W) => (∃ (q_1 : Nat) (q_2 : Nat) (q_3 : Nat) (q_4 : Nat) (q_5 : Nat) (q_6 : Nat) (q_7 : Nat) (q_8 : Nat) (q_9 : Nat) (q_10 : Nat), q_1 = r ∧ w = [(y 0, .inr (9, [.ref (y 1), .int 0, .ref (y 2), .ref (y 10), .ref (y 19), .ref (y 25), .ref (y 26), .ref (y 30), .ref (y 31), .ref (y 32), .ref q_1, .null, .int 0, .int 0, .int 0])), (y 2, .inr (1, [.int 0, .int 0, .int 0, .int 0, .int 0, .int 0, .ref (y 3), .ref (y 4), .ref (y 5), .ref (y 6), .ref (y 7), .ref (y 8), .ref (y 9), .int 0, .int 0, .int 0, .int 0, .int 0])), (q_8, aI V 1 (fun _ => 0)), (q_9, aI V 1 (fun _ => 0)), (q_10, aI V 1 (fun _ => 0)), (q_6, aI V 1 (fun _ => 0)), (q_2, aI V 4 (fun _ => 0)), (q_7, aI V 4 (fun _ => 0)), (q_1, .inr (8, [.int 0, .int 1, .ref q_3, .ref q_4, .ref q_9, .int 1, .int 1, .ref (y 19), .ref q_5, .ref q_6, .ref q_7, .ref q_8, .ref q_2, .ref q_10, .int 0, .int 0, .int 1])), (q_3, aI V 1 (fun _ => 0)), (q_4, aI V 1 (fun _ => 0)), (q_5, aI V 1 (upd (fun _ => 0) 0 1))]))) := by
  refine Ct.of (by decide) (Nat.le_of_ble_eq_true rfl) (fun p e s m below meth c A ls hx hb hr hml hown hlk hnm hg hP hK hD hE hA hS hl => ?_)
  have hl : lv_has ls 2 [(0, .ref (y 0)), (1, .int 1)] := hl
  refine lv_aload_n hx hb dX9_waysFromNow_0 rfl (lv_at hl 0 rfl) ?_
  refine va_get (ci := 9) (v := .null) (C := RX9) (T := TX9) (N := 15) hx hb hg inX9 hown hK hP 0 rfl rfl 10 (by decide) (hg _ q_2_46) (fun _ h9 => h9) rfl dX9_waysFromNow_1 ?_
  refine lv_ifnullN (tgt := 24) hx hb dX9_waysFromNow_4 (by decide) ?_
  refine lv_aload_n hx hb dX9_waysFromNow_24 rfl (lv_at hl 0 rfl) ?_
  refine va_new (ci := 8) (fs := [.int 0, .int 0, .null, .null, .null, .int 0, .int 0, .null, .null, .null, .null, .null, .null, .null, .int 0, .int 0, .int 0]) (C := RX8) (T := TX8) (N := 17) hx hb hg inX8 tyX8 tyX8_ok hown (hg _ q_4_56) (hg _ q_4_57) (hg _ q_1_18) hK hP hD hS hA rfl dfX8 (Nat.le_of_ble_eq_true rfl) (Nat.le_of_ble_eq_true rfl) dX9_waysFromNow_25 (fun q_1 H hP hD hS => ?_)
  refine W.widen (k := 1) (n := 17) (Nat.le_of_ble_eq_true rfl) (Nat.le_of_ble_eq_true rfl) ?_
  have hP : va_P V.1 vwCl [(y 0, .inr (9, [.ref (y 1), .int 0, .ref (y 2), .ref (y 10), .ref (y 19), .ref (y 25), .ref (y 26), .ref (y 30), .ref (y 31), .ref (y 32), .null, .null, .int 0, .int 0, .int 0])), (y 2, .inr (1, [.int 0, .int 0, .int 0, .int 0, .int 0, .int 0, .ref (y 3), .ref (y 4), .ref (y 5), .ref (y 6), .ref (y 7), .ref (y 8), .ref (y 9), .int 0, .int 0, .int 0, .int 0, .int 0])), (q_1, .inr (8, [.int 0, .int 0, .null, .null, .null, .int 0, .int 0, .null, .null, .null, .null, .null, .null, .null, .int 0, .int 0, .int 0]))] H := hP
  have hD : va_D A [(y 0, .inr (9, [.ref (y 1), .int 0, .ref (y 2), .ref (y 10), .ref (y 19), .ref (y 25), .ref (y 26), .ref (y 30), .ref (y 31), .ref (y 32), .null, .null, .int 0, .int 0, .int 0])), (y 2, .inr (1, [.int 0, .int 0, .int 0, .int 0, .int 0, .int 0, .ref (y 3), .ref (y 4), .ref (y 5), .ref (y 6), .ref (y 7), .ref (y 8), .ref (y 9), .int 0, .int 0, .int 0, .int 0, .int 0])), (q_1, .inr (8, [.int 0, .int 0, .null, .null, .null, .int 0, .int 0, .null, .null, .null, .null, .null, .null, .null, .int 0, .int 0, .int 0]))] := hD
  refine lv_dup hx hb dX9_waysFromNow_28 rfl ?_
  refine lv_aload_n hx hb dX9_waysFromNow_29 rfl (lv_at hl 0 rfl) ?_
  refine va_get (ci := 9) (v := .ref (y 19)) (C := RX9) (T := TX9) (N := 15) hx hb hg inX9 hown hK hP 0 rfl rfl 4 (by decide) (hg _ q_2_40) (fun _ h9 => h9) rfl dX9_waysFromNow_30 ?_
  refine lv_aload_n hx hb dX9_waysFromNow_33 rfl (lv_at hl 0 rfl) ?_
  refine va_get (ci := 9) (v := .ref (y 2)) (C := RX9) (T := TX9) (N := 15) hx hb hg inX9 hown hK hP 0 rfl rfl 2 (by decide) (hg _ q_2_38) (fun _ h9 => h9) rfl dX9_waysFromNow_34 ?_
  refine va_get (ci := 1) (v := .int 0) (C := RX1) (T := TX1) (N := 18) hx hb hg inX1 hown hK hP 1 rfl rfl 1 (by decide) (hg _ q_1_41) (fun _ h9 => h9) rfl dX9_waysFromNow_37 ?_
  refine jnV (wr := [(y 0, .inr (9, [.ref (y 1), .int 0, .ref (y 2), .ref (y 10), .ref (y 19), .ref (y 25), .ref (y 26), .ref (y 30), .ref (y 31), .ref (y 32), .null, .null, .int 0, .int 0, .int 0])), (y 2, .inr (1, [.int 0, .int 0, .int 0, .int 0, .int 0, .int 0, .ref (y 3), .ref (y 4), .ref (y 5), .ref (y 6), .ref (y 7), .ref (y 8), .ref (y 9), .int 0, .int 0, .int 0, .int 0, .int 0]))]) (rnI (rest := [.ref q_1, .ref (y 0)]) ⟨hx, hb, hml, hown, hg⟩ (c_X8_init_0 l V y q_1) mt_X8_init q_4_58 ⟨Nat.le_of_ble_eq_true rfl, Nat.le_of_ble_eq_true rfl⟩ hK hP hD hS hA hE [2] rfl rfl rfl hl.1 rfl (Nat.le_of_ble_eq_true rfl) dX9_waysFromNow_40 ⟨Nat.le_of_ble_eq_true rfl, Nat.le_of_ble_eq_true rfl⟩) hP hD hS hA [2] [0, 1] rfl rfl rfl (by decide) (fun  w H locs hw hP hD hS => ?_)
  refine W.widen (k := 10) (n := 32) (Nat.le_of_ble_eq_true rfl) (Nat.le_of_ble_eq_true rfl) ?_
  obtain ⟨q_2, q_3, q_4, q_5, q_6, q_7, q_8, q_9, q_10, rfl⟩ := hw
  have hP : va_P V.1 vwCl [(y 0, .inr (9, [.ref (y 1), .int 0, .ref (y 2), .ref (y 10), .ref (y 19), .ref (y 25), .ref (y 26), .ref (y 30), .ref (y 31), .ref (y 32), .null, .null, .int 0, .int 0, .int 0])), (y 2, .inr (1, [.int 0, .int 0, .int 0, .int 0, .int 0, .int 0, .ref (y 3), .ref (y 4), .ref (y 5), .ref (y 6), .ref (y 7), .ref (y 8), .ref (y 9), .int 0, .int 0, .int 0, .int 0, .int 0])), (q_1, .inr (8, [.int 0, .int 1, .ref q_3, .ref q_4, .ref q_9, .int 0, .int 0, .ref (y 19), .ref q_5, .ref q_6, .ref q_7, .ref q_8, .ref q_2, .ref q_10, .int 0, .int 0, .int 0])), (q_2, aI V 4 (fun _ => 0)), (q_3, aI V 1 (fun _ => 0)), (q_4, aI V 1 (fun _ => 0)), (q_5, aI V 1 (fun _ => 0)), (q_6, aI V 1 (fun _ => 0)), (q_7, aI V 4 (fun _ => 0)), (q_8, aI V 1 (fun _ => 0)), (q_9, aI V 1 (fun _ => 0)), (q_10, aI V 1 (fun _ => 0))] H := hP
  have hD : va_D A [(y 0, .inr (9, [.ref (y 1), .int 0, .ref (y 2), .ref (y 10), .ref (y 19), .ref (y 25), .ref (y 26), .ref (y 30), .ref (y 31), .ref (y 32), .null, .null, .int 0, .int 0, .int 0])), (y 2, .inr (1, [.int 0, .int 0, .int 0, .int 0, .int 0, .int 0, .ref (y 3), .ref (y 4), .ref (y 5), .ref (y 6), .ref (y 7), .ref (y 8), .ref (y 9), .int 0, .int 0, .int 0, .int 0, .int 0])), (q_1, .inr (8, [.int 0, .int 1, .ref q_3, .ref q_4, .ref q_9, .int 0, .int 0, .ref (y 19), .ref q_5, .ref q_6, .ref q_7, .ref q_8, .ref q_2, .ref q_10, .int 0, .int 0, .int 0])), (q_2, aI V 4 (fun _ => 0)), (q_3, aI V 1 (fun _ => 0)), (q_4, aI V 1 (fun _ => 0)), (q_5, aI V 1 (fun _ => 0)), (q_6, aI V 1 (fun _ => 0)), (q_7, aI V 4 (fun _ => 0)), (q_8, aI V 1 (fun _ => 0)), (q_9, aI V 1 (fun _ => 0)), (q_10, aI V 1 (fun _ => 0))] := hD
  refine va_put (ci := 9) (v := .ref q_1) (ty := (.object "BeaconDelay$Ways")) (C := RX9) (T := TX9) (N := 15) hx hb hg inX9 tyX9 tyX9_ok nmX9 hown hK hP hD hS 0 rfl rfl 10 (by decide) (hg _ q_2_46) (fun _ h9 => h9) rfl (by decide +kernel) rfl rfl (Nat.le_of_ble_eq_true rfl) dX9_waysFromNow_43 (fun H locs hP hD hS => ?_)
  have hP : va_P V.1 vwCl [(y 0, .inr (9, [.ref (y 1), .int 0, .ref (y 2), .ref (y 10), .ref (y 19), .ref (y 25), .ref (y 26), .ref (y 30), .ref (y 31), .ref (y 32), .ref q_1, .null, .int 0, .int 0, .int 0])), (y 2, .inr (1, [.int 0, .int 0, .int 0, .int 0, .int 0, .int 0, .ref (y 3), .ref (y 4), .ref (y 5), .ref (y 6), .ref (y 7), .ref (y 8), .ref (y 9), .int 0, .int 0, .int 0, .int 0, .int 0])), (q_1, .inr (8, [.int 0, .int 1, .ref q_3, .ref q_4, .ref q_9, .int 0, .int 0, .ref (y 19), .ref q_5, .ref q_6, .ref q_7, .ref q_8, .ref q_2, .ref q_10, .int 0, .int 0, .int 0])), (q_2, aI V 4 (fun _ => 0)), (q_3, aI V 1 (fun _ => 0)), (q_4, aI V 1 (fun _ => 0)), (q_5, aI V 1 (fun _ => 0)), (q_6, aI V 1 (fun _ => 0)), (q_7, aI V 4 (fun _ => 0)), (q_8, aI V 1 (fun _ => 0)), (q_9, aI V 1 (fun _ => 0)), (q_10, aI V 1 (fun _ => 0))] H := hP
  have hD : va_D A [(y 0, .inr (9, [.ref (y 1), .int 0, .ref (y 2), .ref (y 10), .ref (y 19), .ref (y 25), .ref (y 26), .ref (y 30), .ref (y 31), .ref (y 32), .ref q_1, .null, .int 0, .int 0, .int 0])), (y 2, .inr (1, [.int 0, .int 0, .int 0, .int 0, .int 0, .int 0, .ref (y 3), .ref (y 4), .ref (y 5), .ref (y 6), .ref (y 7), .ref (y 8), .ref (y 9), .int 0, .int 0, .int 0, .int 0, .int 0])), (q_1, .inr (8, [.int 0, .int 1, .ref q_3, .ref q_4, .ref q_9, .int 0, .int 0, .ref (y 19), .ref q_5, .ref q_6, .ref q_7, .ref q_8, .ref q_2, .ref q_10, .int 0, .int 0, .int 0])), (q_2, aI V 4 (fun _ => 0)), (q_3, aI V 1 (fun _ => 0)), (q_4, aI V 1 (fun _ => 0)), (q_5, aI V 1 (fun _ => 0)), (q_6, aI V 1 (fun _ => 0)), (q_7, aI V 4 (fun _ => 0)), (q_8, aI V 1 (fun _ => 0)), (q_9, aI V 1 (fun _ => 0)), (q_10, aI V 1 (fun _ => 0))] := hD
  refine lv_aload_n hx hb dX9_waysFromNow_46 rfl (lv_at hl 0 rfl) ?_
  refine va_get (ci := 9) (v := .ref q_1) (C := RX9) (T := TX9) (N := 15) hx hb hg inX9 hown hK hP 0 rfl rfl 10 (by decide) (hg _ q_2_46) (fun _ h9 => h9) rfl dX9_waysFromNow_47 ?_
  refine lv_aload_n hx hb dX9_waysFromNow_50 rfl (lv_at hl 0 rfl) ?_
  refine va_get (ci := 9) (v := .ref (y 2)) (C := RX9) (T := TX9) (N := 15) hx hb hg inX9 hown hK hP 0 rfl rfl 2 (by decide) (hg _ q_2_38) (fun _ h9 => h9) rfl dX9_waysFromNow_51 ?_
  refine va_get (ci := 1) (v := .int 0) (C := RX1) (T := TX1) (N := 18) hx hb hg inX1 hown hK hP 1 rfl rfl 1 (by decide) (hg _ q_1_41) (fun _ h9 => h9) rfl dX9_waysFromNow_54 ?_
  refine lv_aload_n hx hb dX9_waysFromNow_57 rfl (lv_at hl 0 rfl) ?_
  refine va_get (ci := 9) (v := .int 0) (C := RX9) (T := TX9) (N := 15) hx hb hg inX9 hown hK hP 0 rfl rfl 12 (by decide) (hg _ q_2_48) (fun _ h9 => h9) rfl dX9_waysFromNow_58 ?_
  refine lv_aload_n hx hb dX9_waysFromNow_61 rfl (lv_at hl 0 rfl) ?_
  refine va_get (ci := 9) (v := .int 0) (C := RX9) (T := TX9) (N := 15) hx hb hg inX9 hown hK hP 0 rfl rfl 13 (by decide) (hg _ q_2_49) (fun _ h9 => h9) rfl dX9_waysFromNow_62 ?_
  refine jnV (wr := [(y 0, .inr (9, [.ref (y 1), .int 0, .ref (y 2), .ref (y 10), .ref (y 19), .ref (y 25), .ref (y 26), .ref (y 30), .ref (y 31), .ref (y 32), .ref q_1, .null, .int 0, .int 0, .int 0])), (y 2, .inr (1, [.int 0, .int 0, .int 0, .int 0, .int 0, .int 0, .ref (y 3), .ref (y 4), .ref (y 5), .ref (y 6), .ref (y 7), .ref (y 8), .ref (y 9), .int 0, .int 0, .int 0, .int 0, .int 0])), (q_2, aI V 4 (fun _ => 0)), (q_7, aI V 4 (fun _ => 0)), (q_8, aI V 1 (fun _ => 0)), (q_9, aI V 1 (fun _ => 0)), (q_10, aI V 1 (fun _ => 0))]) (rnV (rest := []) ⟨hx, hb, hml, hown, hg⟩ (c_X8_begin_0 l V y q_1 q_3 q_4 q_9 q_5 q_6 q_7 q_8 q_2 q_10) mt_X8_begin q_4_126 ⟨Nat.le_of_ble_eq_true rfl, Nat.le_of_ble_eq_true rfl⟩ hK hP hD hS hA hE [2, 4, 5, 6, 7] rfl rfl 2 rfl rfl rfl rfl hl.1 rfl (Nat.le_of_ble_eq_true rfl) dX9_waysFromNow_65 ⟨Nat.le_of_ble_eq_true rfl, Nat.le_of_ble_eq_true rfl⟩) hP hD hS hA [2, 4, 5, 6, 7] [0, 1, 3, 8, 9, 10, 11] rfl rfl rfl (by decide) (fun  w H locs hw hP hD hS => ?_)
  subst hw
  have hP : va_P V.1 vwCl [(y 0, .inr (9, [.ref (y 1), .int 0, .ref (y 2), .ref (y 10), .ref (y 19), .ref (y 25), .ref (y 26), .ref (y 30), .ref (y 31), .ref (y 32), .ref q_1, .null, .int 0, .int 0, .int 0])), (y 2, .inr (1, [.int 0, .int 0, .int 0, .int 0, .int 0, .int 0, .ref (y 3), .ref (y 4), .ref (y 5), .ref (y 6), .ref (y 7), .ref (y 8), .ref (y 9), .int 0, .int 0, .int 0, .int 0, .int 0])), (q_2, aI V 4 (fun _ => 0)), (q_7, aI V 4 (fun _ => 0)), (q_8, aI V 1 (fun _ => 0)), (q_9, aI V 1 (fun _ => 0)), (q_10, aI V 1 (fun _ => 0)), (q_1, .inr (8, [.int 0, .int 1, .ref q_3, .ref q_4, .ref q_9, .int 1, .int 1, .ref (y 19), .ref q_5, .ref q_6, .ref q_7, .ref q_8, .ref q_2, .ref q_10, .int 0, .int 0, .int 0])), (q_3, aI V 1 (fun _ => 0)), (q_4, aI V 1 (fun _ => 0)), (q_5, aI V 1 (upd (fun _ => 0) 0 1)), (q_6, aI V 1 (fun _ => 0))] H := hP
  have hD : va_D A [(y 0, .inr (9, [.ref (y 1), .int 0, .ref (y 2), .ref (y 10), .ref (y 19), .ref (y 25), .ref (y 26), .ref (y 30), .ref (y 31), .ref (y 32), .ref q_1, .null, .int 0, .int 0, .int 0])), (y 2, .inr (1, [.int 0, .int 0, .int 0, .int 0, .int 0, .int 0, .ref (y 3), .ref (y 4), .ref (y 5), .ref (y 6), .ref (y 7), .ref (y 8), .ref (y 9), .int 0, .int 0, .int 0, .int 0, .int 0])), (q_2, aI V 4 (fun _ => 0)), (q_7, aI V 4 (fun _ => 0)), (q_8, aI V 1 (fun _ => 0)), (q_9, aI V 1 (fun _ => 0)), (q_10, aI V 1 (fun _ => 0)), (q_1, .inr (8, [.int 0, .int 1, .ref q_3, .ref q_4, .ref q_9, .int 1, .int 1, .ref (y 19), .ref q_5, .ref q_6, .ref q_7, .ref q_8, .ref q_2, .ref q_10, .int 0, .int 0, .int 0])), (q_3, aI V 1 (fun _ => 0)), (q_4, aI V 1 (fun _ => 0)), (q_5, aI V 1 (upd (fun _ => 0) 0 1)), (q_6, aI V 1 (fun _ => 0))] := hD
  refine lv_aload_n hx hb dX9_waysFromNow_68 rfl (lv_at hl 0 rfl) ?_
  refine va_get (ci := 9) (v := .ref q_1) (C := RX9) (T := TX9) (N := 15) hx hb hg inX9 hown hK hP 0 rfl rfl 10 (by decide) (hg _ q_2_46) (fun _ h9 => h9) rfl dX9_waysFromNow_69 ?_
  refine lv_iload_n hx hb dX9_waysFromNow_72 rfl (lv_at hl 1 rfl) ?_
  refine jnV (wr := [(y 0, .inr (9, [.ref (y 1), .int 0, .ref (y 2), .ref (y 10), .ref (y 19), .ref (y 25), .ref (y 26), .ref (y 30), .ref (y 31), .ref (y 32), .ref q_1, .null, .int 0, .int 0, .int 0])), (y 2, .inr (1, [.int 0, .int 0, .int 0, .int 0, .int 0, .int 0, .ref (y 3), .ref (y 4), .ref (y 5), .ref (y 6), .ref (y 7), .ref (y 8), .ref (y 9), .int 0, .int 0, .int 0, .int 0, .int 0])), (q_8, aI V 1 (fun _ => 0)), (q_9, aI V 1 (fun _ => 0)), (q_10, aI V 1 (fun _ => 0)), (q_6, aI V 1 (fun _ => 0))]) (rnV (rest := []) ⟨hx, hb, hml, hown, hg⟩ (c_X8_reachTo_4 l V y q_1 q_2 q_7 q_8 q_9 q_10 q_3 q_4 q_5 q_6) mt_X8_reachTo q_4_136 ⟨Nat.le_of_ble_eq_true rfl, Nat.le_of_ble_eq_true rfl⟩ hK hP hD hS hA hE [2, 3, 7, 8, 9, 10] rfl rfl 7 rfl rfl rfl rfl hl.1 rfl (Nat.le_of_ble_eq_true rfl) dX9_waysFromNow_73 ⟨Nat.le_of_ble_eq_true rfl, Nat.le_of_ble_eq_true rfl⟩) hP hD hS hA [2, 3, 7, 8, 9, 10] [0, 1, 4, 5, 6, 11] rfl rfl rfl (by decide) (fun  w H locs hw hP hD hS => ?_)
  subst hw
  have hP : va_P V.1 vwCl [(y 0, .inr (9, [.ref (y 1), .int 0, .ref (y 2), .ref (y 10), .ref (y 19), .ref (y 25), .ref (y 26), .ref (y 30), .ref (y 31), .ref (y 32), .ref q_1, .null, .int 0, .int 0, .int 0])), (y 2, .inr (1, [.int 0, .int 0, .int 0, .int 0, .int 0, .int 0, .ref (y 3), .ref (y 4), .ref (y 5), .ref (y 6), .ref (y 7), .ref (y 8), .ref (y 9), .int 0, .int 0, .int 0, .int 0, .int 0])), (q_8, aI V 1 (fun _ => 0)), (q_9, aI V 1 (fun _ => 0)), (q_10, aI V 1 (fun _ => 0)), (q_6, aI V 1 (fun _ => 0)), (q_2, aI V 4 (fun _ => 0)), (q_7, aI V 4 (fun _ => 0)), (q_1, .inr (8, [.int 0, .int 1, .ref q_3, .ref q_4, .ref q_9, .int 1, .int 1, .ref (y 19), .ref q_5, .ref q_6, .ref q_7, .ref q_8, .ref q_2, .ref q_10, .int 0, .int 0, .int 1])), (q_3, aI V 1 (fun _ => 0)), (q_4, aI V 1 (fun _ => 0)), (q_5, aI V 1 (upd (fun _ => 0) 0 1))] H := hP
  have hD : va_D A [(y 0, .inr (9, [.ref (y 1), .int 0, .ref (y 2), .ref (y 10), .ref (y 19), .ref (y 25), .ref (y 26), .ref (y 30), .ref (y 31), .ref (y 32), .ref q_1, .null, .int 0, .int 0, .int 0])), (y 2, .inr (1, [.int 0, .int 0, .int 0, .int 0, .int 0, .int 0, .ref (y 3), .ref (y 4), .ref (y 5), .ref (y 6), .ref (y 7), .ref (y 8), .ref (y 9), .int 0, .int 0, .int 0, .int 0, .int 0])), (q_8, aI V 1 (fun _ => 0)), (q_9, aI V 1 (fun _ => 0)), (q_10, aI V 1 (fun _ => 0)), (q_6, aI V 1 (fun _ => 0)), (q_2, aI V 4 (fun _ => 0)), (q_7, aI V 4 (fun _ => 0)), (q_1, .inr (8, [.int 0, .int 1, .ref q_3, .ref q_4, .ref q_9, .int 1, .int 1, .ref (y 19), .ref q_5, .ref q_6, .ref q_7, .ref q_8, .ref q_2, .ref q_10, .int 0, .int 0, .int 1])), (q_3, aI V 1 (fun _ => 0)), (q_4, aI V 1 (fun _ => 0)), (q_5, aI V 1 (upd (fun _ => 0) 0 1))] := hD
  refine lv_aload_n hx hb dX9_waysFromNow_76 rfl (lv_at hl 0 rfl) ?_
  refine va_get (ci := 9) (v := .ref q_1) (C := RX9) (T := TX9) (N := 15) hx hb hg inX9 hown hK hP 0 rfl rfl 10 (by decide) (hg _ q_2_46) (fun _ h9 => h9) rfl dX9_waysFromNow_77 ?_
  exact fiR (Or.inl ⟨_, rfl⟩) hx hb hr hlk hK hP hD hS dX9_waysFromNow_80 (Nat.le_of_ble_eq_true rfl) (Nat.le_of_ble_eq_true rfl) (⟨q_1, q_2, q_3, q_4, q_5, q_6, q_7, q_8, q_9, q_10, rfl, rfl⟩)
set_option maxHeartbeats 4000000 in
set_option maxRecDepth 100000 in
theorem c_X8_beginSpread_2 (l : Launch) (V : GV) (y : Nat → Nat) (h0 : Nat) (h1 : Nat) (h2 : Nat) (h3 : Nat) (h4 : Nat) (h5 : Nat) (h6 : Nat) (h7 : Nat) (h8 : Nat) (h9 : Nat) : Ct l V yX8_beginSpread (.code yX8_beginSpread cX8_beginSpread 1 none) 3 [.ref h0] [(h2, aI V 1 (fun _ => 0)), (h0, .inr (8, [.int 0, .int 1, .ref h7, .ref h8, .ref h2, .int 1, .int 1, .ref (y 19), .ref h9, .ref h4, .ref h6, .ref h1, .ref h5, .ref h3, .int 0, .int 0, .int 1]))] 0 0 (QV V (fun (w : va_W) => (w = [(h2, aI V 1 (upd (fun _ => 0) 0 1)), (h0, .inr (8, [.int 0, .int 1, .ref h7, .ref h8, .ref h2, .int 1, .int 1, .ref (y 19), .ref h9, .ref h4, .ref h6, .ref h1, .ref h5, .ref h3, .int 0, .int 0, .int 1]))]))) := by
  refine Ct.of (by decide) (Nat.le_of_ble_eq_true rfl) (fun p e s m below meth c A ls hx hb hr hml hown hlk hnm hg hP hK hD hE hA hS hl => ?_)
  have hl : lv_has ls 1 [(0, .ref h0)] := hl
  refine lv_aload_n hx hb dX8_beginSpread_0 rfl (lv_at hl 0 rfl) ?_
  refine va_get (ci := 8) (v := .ref h2) (C := RX8) (T := TX8) (N := 17) hx hb hg inX8 hown hK hP 1 rfl rfl 4 (by decide) (hg _ q_4_74) (fun _ h9 => h9) rfl dX8_beginSpread_1 ?_
  refine lv_iconst (v := 0) hx hb dX8_beginSpread_4 (by decide) ?_
  refine lv_aload_n hx hb dX8_beginSpread_5 rfl (lv_at hl 0 rfl) ?_
  refine va_get (ci := 8) (v := .int 1) (C := RX8) (T := TX8) (N := 17) hx hb hg inX8 hown hK hP 1 rfl rfl 5 (by decide) (hg _ q_4_76) (fun _ h9 => h9) rfl dX8_beginSpread_6 ?_
  refine lv_iconst (v := 0) hx hb dX8_beginSpread_9 (by decide) ?_
  refine jnV (wr := [(h0, .inr (8, [.int 0, .int 1, .ref h7, .ref h8, .ref h2, .int 1, .int 1, .ref (y 19), .ref h9, .ref h4, .ref h6, .ref h1, .ref h5, .ref h3, .int 0, .int 0, .int 1]))]) (rnS (rest := []) ⟨hx, hb, hml, hown, hg⟩ (c_J7_fill_fda19_0 l V h2) mt_J7_fill_fda19 q_4_172 ⟨Nat.le_of_ble_eq_true rfl, Nat.le_of_ble_eq_true rfl⟩ hK hP hD hS hA hE [0] rfl rfl rfl hl.1 rfl (Nat.le_of_ble_eq_true rfl) dX8_beginSpread_10 ⟨Nat.le_of_ble_eq_true rfl, Nat.le_of_ble_eq_true rfl⟩) hP hD hS hA [0] [1] rfl rfl rfl (by decide) (fun  w H locs hw hP hD hS => ?_)
  subst hw
  have hP : va_P V.1 vwCl [(h0, .inr (8, [.int 0, .int 1, .ref h7, .ref h8, .ref h2, .int 1, .int 1, .ref (y 19), .ref h9, .ref h4, .ref h6, .ref h1, .ref h5, .ref h3, .int 0, .int 0, .int 1])), (h2, aI V 1 (fun _ => 0))] H := hP
  have hD : va_D A [(h0, .inr (8, [.int 0, .int 1, .ref h7, .ref h8, .ref h2, .int 1, .int 1, .ref (y 19), .ref h9, .ref h4, .ref h6, .ref h1, .ref h5, .ref h3, .int 0, .int 0, .int 1])), (h2, aI V 1 (fun _ => 0))] := hD
  refine lv_aload_n hx hb dX8_beginSpread_13 rfl (lv_at hl 0 rfl) ?_
  refine va_get (ci := 8) (v := .ref h2) (C := RX8) (T := TX8) (N := 17) hx hb hg inX8 hown hK hP 0 rfl rfl 4 (by decide) (hg _ q_4_74) (fun _ h9 => h9) rfl dX8_beginSpread_14 ?_
  refine lv_iconst (v := 0) hx hb dX8_beginSpread_17 (by decide) ?_
  refine lv_iconst (v := 1) hx hb dX8_beginSpread_18 (by decide) ?_
  refine va_iast hx hb hK hP hD hS 1 0 rfl rfl (vin (by decide +kernel)) dX8_beginSpread_19 (fun H locs hP hD hS => ?_)
  have hP : va_P V.1 vwCl [(h0, .inr (8, [.int 0, .int 1, .ref h7, .ref h8, .ref h2, .int 1, .int 1, .ref (y 19), .ref h9, .ref h4, .ref h6, .ref h1, .ref h5, .ref h3, .int 0, .int 0, .int 1])), (h2, aI V 1 (upd (fun _ => 0) 0 1))] H := hP
  have hD : va_D A [(h0, .inr (8, [.int 0, .int 1, .ref h7, .ref h8, .ref h2, .int 1, .int 1, .ref (y 19), .ref h9, .ref h4, .ref h6, .ref h1, .ref h5, .ref h3, .int 0, .int 0, .int 1])), (h2, aI V 1 (upd (fun _ => 0) 0 1))] := hD
  have hP := subP (ws' := [(h2, aI V 1 (upd (fun _ => 0) 0 1)), (h0, .inr (8, [.int 0, .int 1, .ref h7, .ref h8, .ref h2, .int 1, .int 1, .ref (y 19), .ref h9, .ref h4, .ref h6, .ref h1, .ref h5, .ref h3, .int 0, .int 0, .int 1]))]) hP [1, 0] rfl
  have hD := hD.sub (ws' := [(h2, aI V 1 (upd (fun _ => 0) 0 1)), (h0, .inr (8, [.int 0, .int 1, .ref h7, .ref h8, .ref h2, .int 1, .int 1, .ref (y 19), .ref h9, .ref h4, .ref h6, .ref h1, .ref h5, .ref h3, .int 0, .int 0, .int 1]))]) [1, 0] rfl rfl
  exact fiV hx hb hr hlk hK hP hD hS dX8_beginSpread_20 (Nat.le_of_ble_eq_true rfl) (Nat.le_of_ble_eq_true rfl) (rfl)
set_option maxHeartbeats 4000000 in
set_option maxRecDepth 100000 in
theorem c_X8_behind_2 (l : Launch) (V : GV) (y : Nat → Nat) (h0 : Nat) (h1 : Nat) (h2 : Nat) (h3 : Nat) (h4 : Nat) (h5 : Nat) (h6 : Nat) (h7 : Nat) (h8 : Nat) (h9 : Nat) : Ct l V yX8_behind (.code yX8_behind cX8_behind 3 (some .int)) 1 [.ref h0, .int 0, .int 0] [(h1, aI V 4 (fun _ => 0)), (h0, .inr (8, [.int 0, .int 1, .ref h4, .ref h2, .ref h3, .int 1, .int 1, .ref (y 19), .ref h5, .ref h6, .ref h1, .ref h7, .ref h8, .ref h9, .int 0, .int 0, .int 1]))] 0 0 (QI V (fun (r : Int32) (w : va_W) => (r = 0 ∧ w = [(h1, aI V 4 (fun _ => 0)), (h0, .inr (8, [.int 0, .int 1, .ref h4, .ref h2, .ref h3, .int 1, .int 1, .ref (y 19), .ref h5, .ref h6, .ref h1, .ref h7, .ref h8, .ref h9, .int 0, .int 0, .int 1]))]))) := by
  refine Ct.of (by decide) (Nat.le_of_ble_eq_true rfl) (fun p e s m below meth c A ls hx hb hr hml hown hlk hnm hg hP hK hD hE hA hS hl => ?_)
  have hl : lv_has ls 3 [(0, .ref h0), (1, .int 0), (2, .int 0)] := hl
  refine lv_aload_n hx hb dX8_behind_0 rfl (lv_at hl 0 rfl) ?_
  refine va_get (ci := 8) (v := .ref h1) (C := RX8) (T := TX8) (N := 17) hx hb hg inX8 hown hK hP 1 rfl rfl 10 (by decide) (hg _ q_4_84) (fun _ h9 => h9) rfl dX8_behind_1 ?_
  refine lv_iload_n hx hb dX8_behind_4 rfl (lv_at hl 1 rfl) ?_
  refine lv_iconst (v := 4) hx hb dX8_behind_5 (by decide) ?_
  refine lv_imul hx hb dX8_behind_6 ?_
  refine tpi (y := 0) (by decide +kernel) ?_
  refine lv_iload_n hx hb dX8_behind_7 rfl (lv_at hl 2 rfl) ?_
  refine lv_iadd hx hb dX8_behind_8 ?_
  refine tpi (y := 0) (by decide +kernel) ?_
  refine va_iald hx hb hK hP 0 0 rfl rfl (vin (by decide +kernel)) dX8_behind_9 ?_
  refine tpi (y := 0) (rfl) ?_
  exact fiI hx hb hr hlk hK hP hD hS dX8_behind_10 (Nat.le_of_ble_eq_true rfl) (Nat.le_of_ble_eq_true rfl) (⟨rfl, rfl⟩)
theorem dX8_spreadOneNight_0 : decode cX8_spreadOneNight 0 = .ok (.aload_n 0, 1) := by decide +kernel
theorem dX8_spreadOneNight_1 : decode cX8_spreadOneNight 1 = .ok (.getfield 53, 3) := by decide +kernel
theorem dX8_spreadOneNight_4 : decode cX8_spreadOneNight 4 = .ok (.iconst 0, 1) := by decide +kernel
theorem dX8_spreadOneNight_5 : decode cX8_spreadOneNight 5 = .ok (.aload_n 0, 1) := by decide +kernel
theorem dX8_spreadOneNight_6 : decode cX8_spreadOneNight 6 = .ok (.getfield 56, 3) := by decide +kernel
theorem dX8_spreadOneNight_9 : decode cX8_spreadOneNight 9 = .ok (.iconst 0, 1) := by decide +kernel
theorem dX8_spreadOneNight_10 : decode cX8_spreadOneNight 10 = .ok (.invokestatic 118, 3) := by decide +kernel
theorem dX8_spreadOneNight_13 : decode cX8_spreadOneNight 13 = .ok (.iconst 0, 1) := by decide +kernel
theorem dX8_spreadOneNight_14 : decode cX8_spreadOneNight 14 = .ok (.istore_n 3, 1) := by decide +kernel
theorem dX8_spreadOneNight_15 : decode cX8_spreadOneNight 15 = .ok (.iload_n 3, 1) := by decide +kernel
theorem dX8_spreadOneNight_16 : decode cX8_spreadOneNight 16 = .ok (.aload_n 0, 1) := by decide +kernel
theorem dX8_spreadOneNight_17 : decode cX8_spreadOneNight 17 = .ok (.getfield 59, 3) := by decide +kernel
theorem dX8_spreadOneNight_20 : decode cX8_spreadOneNight 20 = .ok (.if_icmp .ge 89, 3) := by decide +kernel
theorem dX8_spreadOneNight_23 : decode cX8_spreadOneNight 23 = .ok (.aload_n 0, 1) := by decide +kernel
theorem dX8_spreadOneNight_24 : decode cX8_spreadOneNight 24 = .ok (.getfield 32, 3) := by decide +kernel
theorem dX8_spreadOneNight_27 : decode cX8_spreadOneNight 27 = .ok (.iload_n 3, 1) := by decide +kernel
theorem dX8_spreadOneNight_28 : decode cX8_spreadOneNight 28 = .ok (.iaload, 1) := by decide +kernel
theorem dX8_spreadOneNight_29 : decode cX8_spreadOneNight 29 = .ok (.iload_n 1, 1) := by decide +kernel
theorem dX8_spreadOneNight_30 : decode cX8_spreadOneNight 30 = .ok (.if_icmp .gt 79, 3) := by decide +kernel
theorem dX8_spreadOneNight_33 : decode cX8_spreadOneNight 33 = .ok (.aload_n 0, 1) := by decide +kernel
theorem dX8_spreadOneNight_34 : decode cX8_spreadOneNight 34 = .ok (.getfield 50, 3) := by decide +kernel
theorem dX8_spreadOneNight_37 : decode cX8_spreadOneNight 37 = .ok (.iload_n 3, 1) := by decide +kernel
theorem dX8_spreadOneNight_38 : decode cX8_spreadOneNight 38 = .ok (.iaload, 1) := by decide +kernel
theorem dX8_spreadOneNight_39 : decode cX8_spreadOneNight 39 = .ok (.ifCond .eq 64, 3) := by decide +kernel
theorem dX8_spreadOneNight_42 : decode cX8_spreadOneNight 42 = .ok (.aload_n 0, 1) := by decide +kernel
theorem dX8_spreadOneNight_43 : decode cX8_spreadOneNight 43 = .ok (.getfield 53, 3) := by decide +kernel
theorem dX8_spreadOneNight_46 : decode cX8_spreadOneNight 46 = .ok (.aload_n 0, 1) := by decide +kernel
theorem dX8_spreadOneNight_47 : decode cX8_spreadOneNight 47 = .ok (.iload_n 3, 1) := by decide +kernel
theorem dX8_spreadOneNight_48 : decode cX8_spreadOneNight 48 = .ok (.iconst 0, 1) := by decide +kernel
theorem dX8_spreadOneNight_49 : decode cX8_spreadOneNight 49 = .ok (.invokevirtual 124, 3) := by decide +kernel
theorem dX8_spreadOneNight_52 : decode cX8_spreadOneNight 52 = .ok (.dup2, 1) := by decide +kernel
theorem dX8_spreadOneNight_53 : decode cX8_spreadOneNight 53 = .ok (.iaload, 1) := by decide +kernel
theorem dX8_spreadOneNight_54 : decode cX8_spreadOneNight 54 = .ok (.aload_n 0, 1) := by decide +kernel
theorem dX8_spreadOneNight_55 : decode cX8_spreadOneNight 55 = .ok (.getfield 50, 3) := by decide +kernel
theorem dX8_spreadOneNight_58 : decode cX8_spreadOneNight 58 = .ok (.iload_n 3, 1) := by decide +kernel
theorem dX8_spreadOneNight_59 : decode cX8_spreadOneNight 59 = .ok (.iaload, 1) := by decide +kernel
theorem dX8_spreadOneNight_60 : decode cX8_spreadOneNight 60 = .ok (.iload_n 2, 1) := by decide +kernel
theorem dX8_spreadOneNight_61 : decode cX8_spreadOneNight 61 = .ok (.imul, 1) := by decide +kernel
theorem dX8_spreadOneNight_62 : decode cX8_spreadOneNight 62 = .ok (.iadd, 1) := by decide +kernel
theorem dX8_spreadOneNight_63 : decode cX8_spreadOneNight 63 = .ok (.iastore, 1) := by decide +kernel
theorem dX8_spreadOneNight_64 : decode cX8_spreadOneNight 64 = .ok (.iconst 1, 1) := by decide +kernel
theorem dX8_spreadOneNight_65 : decode cX8_spreadOneNight 65 = .ok (.istore 4, 2) := by decide +kernel
theorem dX8_spreadOneNight_67 : decode cX8_spreadOneNight 67 = .ok (.iload 4, 2) := by decide +kernel
theorem dX8_spreadOneNight_69 : decode cX8_spreadOneNight 69 = .ok (.aload_n 0, 1) := by decide +kernel
theorem dX8_spreadOneNight_70 : decode cX8_spreadOneNight 70 = .ok (.getfield 77, 3) := by decide +kernel
theorem dX8_spreadOneNight_73 : decode cX8_spreadOneNight 73 = .ok (.if_icmp .ge 30, 3) := by decide +kernel
theorem dX8_spreadOneNight_103 : decode cX8_spreadOneNight 103 = .ok (.iinc 3 1, 3) := by decide +kernel
theorem dX8_spreadOneNight_106 : decode cX8_spreadOneNight 106 = .ok (.goto (-91), 3) := by decide +kernel
theorem dX8_spreadOneNight_109 : decode cX8_spreadOneNight 109 = .ok (.aload_n 0, 1) := by decide +kernel
theorem dX8_spreadOneNight_110 : decode cX8_spreadOneNight 110 = .ok (.getfield 50, 3) := by decide +kernel
theorem dX8_spreadOneNight_113 : decode cX8_spreadOneNight 113 = .ok (.astore_n 3, 1) := by decide +kernel
theorem dX8_spreadOneNight_114 : decode cX8_spreadOneNight 114 = .ok (.aload_n 0, 1) := by decide +kernel
theorem dX8_spreadOneNight_115 : decode cX8_spreadOneNight 115 = .ok (.aload_n 0, 1) := by decide +kernel
theorem dX8_spreadOneNight_116 : decode cX8_spreadOneNight 116 = .ok (.getfield 53, 3) := by decide +kernel
theorem dX8_spreadOneNight_119 : decode cX8_spreadOneNight 119 = .ok (.putfield 50, 3) := by decide +kernel
theorem dX8_spreadOneNight_122 : decode cX8_spreadOneNight 122 = .ok (.aload_n 0, 1) := by decide +kernel
theorem dX8_spreadOneNight_123 : decode cX8_spreadOneNight 123 = .ok (.aload_n 3, 1) := by decide +kernel
theorem dX8_spreadOneNight_124 : decode cX8_spreadOneNight 124 = .ok (.putfield 53, 3) := by decide +kernel
theorem dX8_spreadOneNight_127 : decode cX8_spreadOneNight 127 = .ok (.return_, 1) := by decide +kernel
set_option maxHeartbeats 4000000 in
set_option maxRecDepth 100000 in
theorem c_X8_spreadOneNight_0 (l : Launch) (V : GV) (y : Nat → Nat) (h0 : Nat) (h1 : Nat) (h2 : Nat) (h3 : Nat) (h4 : Nat) (h5 : Nat) (h6 : Nat) (h7 : Nat) (h8 : Nat) (h9 : Nat) : Ct l V yX8_spreadOneNight (.code yX8_spreadOneNight cX8_spreadOneNight 5 none) 3 [.ref h0, .int 0, .int 10] [(h2, aI V 1 (fun _ => 0)), (h5, aI V 4 (fun _ => 0)), (h7, aI V 1 (fun _ => 0)), (h9, aI V 1 (upd (fun _ => 0) 0 1)), (h0, .inr (8, [.int 0, .int 1, .ref h6, .ref h7, .ref h9, .int 1, .int 1, .ref (y 19), .ref h8, .ref h3, .ref h5, .ref h1, .ref h4, .ref h2, .int 0, .int 0, .int 1]))] 0 0 (QV V (fun (w : va_W) => (w = [(h2, aI V 1 (upd (fun _ => 0) 0 10)), (h5, aI V 4 (fun _ => 0)), (h7, aI V 1 (fun _ => 0)), (h9, aI V 1 (upd (fun _ => 0) 0 1)), (h0, .inr (8, [.int 0, .int 1, .ref h6, .ref h7, .ref h2, .int 1, .int 1, .ref (y 19), .ref h8, .ref h3, .ref h5, .ref h1, .ref h4, .ref h9, .int 0, .int 0, .int 1]))]))) := by
  refine Ct.of (by decide) (Nat.le_of_ble_eq_true rfl) (fun p e s m below meth c A ls hx hb hr hml hown hlk hnm hg hP hK hD hE hA hS hl => ?_)
  have hl : lv_has ls 5 [(0, .ref h0), (1, .int 0), (2, .int 10)] := hl
  refine lv_aload_n hx hb dX8_spreadOneNight_0 rfl (lv_at hl 0 rfl) ?_
  refine va_get (ci := 8) (v := .ref h2) (C := RX8) (T := TX8) (N := 17) hx hb hg inX8 hown hK hP 4 rfl rfl 13 (by decide) (hg _ q_4_87) (fun _ h9 => h9) rfl dX8_spreadOneNight_1 ?_
  refine lv_iconst (v := 0) hx hb dX8_spreadOneNight_4 (by decide) ?_
  refine lv_aload_n hx hb dX8_spreadOneNight_5 rfl (lv_at hl 0 rfl) ?_
  refine va_get (ci := 8) (v := .int 1) (C := RX8) (T := TX8) (N := 17) hx hb hg inX8 hown hK hP 4 rfl rfl 5 (by decide) (hg _ q_4_76) (fun _ h9 => h9) rfl dX8_spreadOneNight_6 ?_
  refine lv_iconst (v := 0) hx hb dX8_spreadOneNight_9 (by decide) ?_
  refine jnV (wr := [(h5, aI V 4 (fun _ => 0)), (h7, aI V 1 (fun _ => 0)), (h9, aI V 1 (upd (fun _ => 0) 0 1)), (h0, .inr (8, [.int 0, .int 1, .ref h6, .ref h7, .ref h9, .int 1, .int 1, .ref (y 19), .ref h8, .ref h3, .ref h5, .ref h1, .ref h4, .ref h2, .int 0, .int 0, .int 1]))]) (rnS (rest := []) ⟨hx, hb, hml, hown, hg⟩ (c_J7_fill_fda19_0 l V h2) mt_J7_fill_fda19 q_4_172 ⟨Nat.le_of_ble_eq_true rfl, Nat.le_of_ble_eq_true rfl⟩ hK hP hD hS hA hE [0] rfl rfl rfl hl.1 rfl (Nat.le_of_ble_eq_true rfl) dX8_spreadOneNight_10 ⟨Nat.le_of_ble_eq_true rfl, Nat.le_of_ble_eq_true rfl⟩) hP hD hS hA [0] [1, 2, 3, 4] rfl rfl rfl (by decide) (fun  w H locs hw hP hD hS => ?_)
  subst hw
  have hP : va_P V.1 vwCl [(h5, aI V 4 (fun _ => 0)), (h7, aI V 1 (fun _ => 0)), (h9, aI V 1 (upd (fun _ => 0) 0 1)), (h0, .inr (8, [.int 0, .int 1, .ref h6, .ref h7, .ref h9, .int 1, .int 1, .ref (y 19), .ref h8, .ref h3, .ref h5, .ref h1, .ref h4, .ref h2, .int 0, .int 0, .int 1])), (h2, aI V 1 (fun _ => 0))] H := hP
  have hD : va_D A [(h5, aI V 4 (fun _ => 0)), (h7, aI V 1 (fun _ => 0)), (h9, aI V 1 (upd (fun _ => 0) 0 1)), (h0, .inr (8, [.int 0, .int 1, .ref h6, .ref h7, .ref h9, .int 1, .int 1, .ref (y 19), .ref h8, .ref h3, .ref h5, .ref h1, .ref h4, .ref h2, .int 0, .int 0, .int 1])), (h2, aI V 1 (fun _ => 0))] := hD
  refine lv_iconst (v := 0) hx hb dX8_spreadOneNight_13 (by decide) ?_
  refine lv_istore_n (lv' := [(3, .int 0), (0, .ref h0), (1, .int 0), (2, .int 10)]) hx hb dX8_spreadOneNight_14 rfl hl (by decide) rfl (fun ls hl => ?_)
  refine lv_iload_n hx hb dX8_spreadOneNight_15 rfl (lv_at hl 0 rfl) ?_
  refine lv_aload_n hx hb dX8_spreadOneNight_16 rfl (lv_at hl 1 rfl) ?_
  refine va_get (ci := 8) (v := .int 1) (C := RX8) (T := TX8) (N := 17) hx hb hg inX8 hown hK hP 3 rfl rfl 16 (by decide) (hg _ q_4_90) (fun _ h9 => h9) rfl dX8_spreadOneNight_17 ?_
  refine lv_icmp_ge (tgt := 109) hx hb dX8_spreadOneNight_20 (by decide) (fun c_1 => absurd c_1 (by decide)) (fun _ => ?_)
  refine lv_aload_n hx hb dX8_spreadOneNight_23 rfl (lv_at hl 1 rfl) ?_
  refine va_get (ci := 8) (v := .ref h7) (C := RX8) (T := TX8) (N := 17) hx hb hg inX8 hown hK hP 3 rfl rfl 3 (by decide) (hg _ q_4_72) (fun _ h9 => h9) rfl dX8_spreadOneNight_24 ?_
  refine lv_iload_n hx hb dX8_spreadOneNight_27 rfl (lv_at hl 0 rfl) ?_
  refine va_iald hx hb hK hP 1 0 rfl rfl (vin (by decide +kernel)) dX8_spreadOneNight_28 ?_
  refine tpi (y := 0) (rfl) ?_
  refine lv_iload_n hx hb dX8_spreadOneNight_29 rfl (lv_at hl 2 rfl) ?_
  refine lv_icmp_gt (tgt := 109) hx hb dX8_spreadOneNight_30 (by decide) (fun c_2 => absurd c_2 (by decide)) (fun _ => ?_)
  refine lv_aload_n hx hb dX8_spreadOneNight_33 rfl (lv_at hl 1 rfl) ?_
  refine va_get (ci := 8) (v := .ref h9) (C := RX8) (T := TX8) (N := 17) hx hb hg inX8 hown hK hP 3 rfl rfl 4 (by decide) (hg _ q_4_74) (fun _ h9 => h9) rfl dX8_spreadOneNight_34 ?_
  refine lv_iload_n hx hb dX8_spreadOneNight_37 rfl (lv_at hl 0 rfl) ?_
  refine va_iald hx hb hK hP 2 0 rfl rfl (vin (by decide +kernel)) dX8_spreadOneNight_38 ?_
  refine tpi (y := 1) (rfl) ?_
  refine lv_if_eq (tgt := 103) hx hb dX8_spreadOneNight_39 (by decide) (fun c_3 => absurd c_3 (by decide)) (fun _ => ?_)
  refine lv_aload_n hx hb dX8_spreadOneNight_42 rfl (lv_at hl 1 rfl) ?_
  refine va_get (ci := 8) (v := .ref h2) (C := RX8) (T := TX8) (N := 17) hx hb hg inX8 hown hK hP 3 rfl rfl 13 (by decide) (hg _ q_4_87) (fun _ h9 => h9) rfl dX8_spreadOneNight_43 ?_
  refine lv_aload_n hx hb dX8_spreadOneNight_46 rfl (lv_at hl 1 rfl) ?_
  refine lv_iload_n hx hb dX8_spreadOneNight_47 rfl (lv_at hl 0 rfl) ?_
  refine lv_iconst (v := 0) hx hb dX8_spreadOneNight_48 (by decide) ?_
  refine jnI (wr := [(h7, aI V 1 (fun _ => 0)), (h9, aI V 1 (upd (fun _ => 0) 0 1)), (h2, aI V 1 (fun _ => 0))]) (rnV (rest := [.ref h2]) ⟨hx, hb, hml, hown, hg⟩ (c_X8_behind_2 l V y h0 h5 h7 h9 h6 h8 h3 h1 h4 h2) mt_X8_behind q_4_182 ⟨Nat.le_of_ble_eq_true rfl, Nat.le_of_ble_eq_true rfl⟩ hK hP hD hS hA hE [0, 3] rfl rfl 3 rfl rfl rfl rfl hl.1 rfl (Nat.le_of_ble_eq_true rfl) dX8_spreadOneNight_49 ⟨Nat.le_of_ble_eq_true rfl, Nat.le_of_ble_eq_true rfl⟩) hP hD hS hA [0, 3] [1, 2, 4] rfl rfl rfl (by decide) (fun r_4 w H locs hw hP hD hS => ?_)
  obtain ⟨rfl, rfl⟩ := hw
  have hP : va_P V.1 vwCl [(h7, aI V 1 (fun _ => 0)), (h9, aI V 1 (upd (fun _ => 0) 0 1)), (h2, aI V 1 (fun _ => 0)), (h5, aI V 4 (fun _ => 0)), (h0, .inr (8, [.int 0, .int 1, .ref h6, .ref h7, .ref h9, .int 1, .int 1, .ref (y 19), .ref h8, .ref h3, .ref h5, .ref h1, .ref h4, .ref h2, .int 0, .int 0, .int 1]))] H := hP
  have hD : va_D A [(h7, aI V 1 (fun _ => 0)), (h9, aI V 1 (upd (fun _ => 0) 0 1)), (h2, aI V 1 (fun _ => 0)), (h5, aI V 4 (fun _ => 0)), (h0, .inr (8, [.int 0, .int 1, .ref h6, .ref h7, .ref h9, .int 1, .int 1, .ref (y 19), .ref h8, .ref h3, .ref h5, .ref h1, .ref h4, .ref h2, .int 0, .int 0, .int 1]))] := hD
  refine lv_dup2_11 hx hb dX8_spreadOneNight_52 rfl rfl ?_
  refine va_iald hx hb hK hP 2 0 rfl rfl (vin (by decide +kernel)) dX8_spreadOneNight_53 ?_
  refine tpi (y := 0) (rfl) ?_
  refine lv_aload_n hx hb dX8_spreadOneNight_54 rfl (lv_at hl 1 rfl) ?_
  refine va_get (ci := 8) (v := .ref h9) (C := RX8) (T := TX8) (N := 17) hx hb hg inX8 hown hK hP 4 rfl rfl 4 (by decide) (hg _ q_4_74) (fun _ h9 => h9) rfl dX8_spreadOneNight_55 ?_
  refine lv_iload_n hx hb dX8_spreadOneNight_58 rfl (lv_at hl 0 rfl) ?_
  refine va_iald hx hb hK hP 1 0 rfl rfl (vin (by decide +kernel)) dX8_spreadOneNight_59 ?_
  refine tpi (y := 1) (rfl) ?_
  refine lv_iload_n hx hb dX8_spreadOneNight_60 rfl (lv_at hl 3 rfl) ?_
  refine lv_imul hx hb dX8_spreadOneNight_61 ?_
  refine tpi (y := 10) (by decide +kernel) ?_
  refine lv_iadd hx hb dX8_spreadOneNight_62 ?_
  refine tpi (y := 10) (by decide +kernel) ?_
  refine va_iast hx hb hK hP hD hS 2 0 rfl rfl (vin (by decide +kernel)) dX8_spreadOneNight_63 (fun H locs hP hD hS => ?_)
  have hP : va_P V.1 vwCl [(h7, aI V 1 (fun _ => 0)), (h9, aI V 1 (upd (fun _ => 0) 0 1)), (h2, aI V 1 (upd (fun _ => 0) 0 10)), (h5, aI V 4 (fun _ => 0)), (h0, .inr (8, [.int 0, .int 1, .ref h6, .ref h7, .ref h9, .int 1, .int 1, .ref (y 19), .ref h8, .ref h3, .ref h5, .ref h1, .ref h4, .ref h2, .int 0, .int 0, .int 1]))] H := hP
  have hD : va_D A [(h7, aI V 1 (fun _ => 0)), (h9, aI V 1 (upd (fun _ => 0) 0 1)), (h2, aI V 1 (upd (fun _ => 0) 0 10)), (h5, aI V 4 (fun _ => 0)), (h0, .inr (8, [.int 0, .int 1, .ref h6, .ref h7, .ref h9, .int 1, .int 1, .ref (y 19), .ref h8, .ref h3, .ref h5, .ref h1, .ref h4, .ref h2, .int 0, .int 0, .int 1]))] := hD
  refine lv_iconst (v := 1) hx hb dX8_spreadOneNight_64 (by decide) ?_
  refine lv_istore (lv' := [(4, .int 1), (3, .int 0), (0, .ref h0), (1, .int 0), (2, .int 10)]) hx hb dX8_spreadOneNight_65 hl (by decide) rfl (fun ls hl => ?_)
  refine lv_iload hx hb dX8_spreadOneNight_67 (lv_at hl 0 rfl) ?_
  refine lv_aload_n hx hb dX8_spreadOneNight_69 rfl (lv_at hl 2 rfl) ?_
  refine va_get (ci := 8) (v := .int 1) (C := RX8) (T := TX8) (N := 17) hx hb hg inX8 hown hK hP 4 rfl rfl 6 (by decide) (hg _ q_4_80) (fun _ h9 => h9) rfl dX8_spreadOneNight_70 ?_
  refine lv_icmp_ge (tgt := 103) hx hb dX8_spreadOneNight_73 (by decide) (fun _ => ?_) (fun c_5 => absurd c_5 (by decide))
  refine lv_iinc (v := 1) (lv' := [(3, .int 1), (4, .int 1), (0, .ref h0), (1, .int 0), (2, .int 10)]) hx hb dX8_spreadOneNight_103 hl (k := 1) rfl (by decide +kernel) (by decide) rfl (fun ls hl => ?_)
  refine lv_goto (tgt := 15) hx hb dX8_spreadOneNight_106 (by decide) ?_
  refine lv_iload_n hx hb dX8_spreadOneNight_15 rfl (lv_at hl 0 rfl) ?_
  refine lv_aload_n hx hb dX8_spreadOneNight_16 rfl (lv_at hl 2 rfl) ?_
  refine va_get (ci := 8) (v := .int 1) (C := RX8) (T := TX8) (N := 17) hx hb hg inX8 hown hK hP 4 rfl rfl 16 (by decide) (hg _ q_4_90) (fun _ h9 => h9) rfl dX8_spreadOneNight_17 ?_
  refine lv_icmp_ge (tgt := 109) hx hb dX8_spreadOneNight_20 (by decide) (fun _ => ?_) (fun c_6 => absurd c_6 (by decide))
  refine lv_aload_n hx hb dX8_spreadOneNight_109 rfl (lv_at hl 2 rfl) ?_
  refine va_get (ci := 8) (v := .ref h9) (C := RX8) (T := TX8) (N := 17) hx hb hg inX8 hown hK hP 4 rfl rfl 4 (by decide) (hg _ q_4_74) (fun _ h9 => h9) rfl dX8_spreadOneNight_110 ?_
  refine lv_astore_n (lv' := [(3, .ref h9), (4, .int 1), (0, .ref h0), (1, .int 0), (2, .int 10)]) hx hb dX8_spreadOneNight_113 rfl hl (by decide) rfl (fun ls hl => ?_)
  refine lv_aload_n hx hb dX8_spreadOneNight_114 rfl (lv_at hl 2 rfl) ?_
  refine lv_aload_n hx hb dX8_spreadOneNight_115 rfl (lv_at hl 2 rfl) ?_
  refine va_get (ci := 8) (v := .ref h2) (C := RX8) (T := TX8) (N := 17) hx hb hg inX8 hown hK hP 4 rfl rfl 13 (by decide) (hg _ q_4_87) (fun _ h9 => h9) rfl dX8_spreadOneNight_116 ?_
  refine va_put (ci := 8) (v := .ref h2) (ty := (.array .int)) (C := RX8) (T := TX8) (N := 17) hx hb hg inX8 tyX8 tyX8_ok nmX8 hown hK hP hD hS 4 rfl rfl 4 (by decide) (hg _ q_4_74) (fun _ h9 => h9) rfl (by decide +kernel) rfl rfl (Nat.le_of_ble_eq_true rfl) dX8_spreadOneNight_119 (fun H locs hP hD hS => ?_)
  have hP : va_P V.1 vwCl [(h7, aI V 1 (fun _ => 0)), (h9, aI V 1 (upd (fun _ => 0) 0 1)), (h2, aI V 1 (upd (fun _ => 0) 0 10)), (h5, aI V 4 (fun _ => 0)), (h0, .inr (8, [.int 0, .int 1, .ref h6, .ref h7, .ref h2, .int 1, .int 1, .ref (y 19), .ref h8, .ref h3, .ref h5, .ref h1, .ref h4, .ref h2, .int 0, .int 0, .int 1]))] H := hP
  have hD : va_D A [(h7, aI V 1 (fun _ => 0)), (h9, aI V 1 (upd (fun _ => 0) 0 1)), (h2, aI V 1 (upd (fun _ => 0) 0 10)), (h5, aI V 4 (fun _ => 0)), (h0, .inr (8, [.int 0, .int 1, .ref h6, .ref h7, .ref h2, .int 1, .int 1, .ref (y 19), .ref h8, .ref h3, .ref h5, .ref h1, .ref h4, .ref h2, .int 0, .int 0, .int 1]))] := hD
  refine lv_aload_n hx hb dX8_spreadOneNight_122 rfl (lv_at hl 2 rfl) ?_
  refine lv_aload_n hx hb dX8_spreadOneNight_123 rfl (lv_at hl 0 rfl) ?_
  refine va_put (ci := 8) (v := .ref h9) (ty := (.array .int)) (C := RX8) (T := TX8) (N := 17) hx hb hg inX8 tyX8 tyX8_ok nmX8 hown hK hP hD hS 4 rfl rfl 13 (by decide) (hg _ q_4_87) (fun _ h9 => h9) rfl (by decide +kernel) rfl rfl (Nat.le_of_ble_eq_true rfl) dX8_spreadOneNight_124 (fun H locs hP hD hS => ?_)
  have hP : va_P V.1 vwCl [(h7, aI V 1 (fun _ => 0)), (h9, aI V 1 (upd (fun _ => 0) 0 1)), (h2, aI V 1 (upd (fun _ => 0) 0 10)), (h5, aI V 4 (fun _ => 0)), (h0, .inr (8, [.int 0, .int 1, .ref h6, .ref h7, .ref h2, .int 1, .int 1, .ref (y 19), .ref h8, .ref h3, .ref h5, .ref h1, .ref h4, .ref h9, .int 0, .int 0, .int 1]))] H := hP
  have hD : va_D A [(h7, aI V 1 (fun _ => 0)), (h9, aI V 1 (upd (fun _ => 0) 0 1)), (h2, aI V 1 (upd (fun _ => 0) 0 10)), (h5, aI V 4 (fun _ => 0)), (h0, .inr (8, [.int 0, .int 1, .ref h6, .ref h7, .ref h2, .int 1, .int 1, .ref (y 19), .ref h8, .ref h3, .ref h5, .ref h1, .ref h4, .ref h9, .int 0, .int 0, .int 1]))] := hD
  have hP := subP (ws' := [(h2, aI V 1 (upd (fun _ => 0) 0 10)), (h5, aI V 4 (fun _ => 0)), (h7, aI V 1 (fun _ => 0)), (h9, aI V 1 (upd (fun _ => 0) 0 1)), (h0, .inr (8, [.int 0, .int 1, .ref h6, .ref h7, .ref h2, .int 1, .int 1, .ref (y 19), .ref h8, .ref h3, .ref h5, .ref h1, .ref h4, .ref h9, .int 0, .int 0, .int 1]))]) hP [2, 3, 0, 1, 4] rfl
  have hD := hD.sub (ws' := [(h2, aI V 1 (upd (fun _ => 0) 0 10)), (h5, aI V 4 (fun _ => 0)), (h7, aI V 1 (fun _ => 0)), (h9, aI V 1 (upd (fun _ => 0) 0 1)), (h0, .inr (8, [.int 0, .int 1, .ref h6, .ref h7, .ref h2, .int 1, .int 1, .ref (y 19), .ref h8, .ref h3, .ref h5, .ref h1, .ref h4, .ref h9, .int 0, .int 0, .int 1]))]) [2, 3, 0, 1, 4] rfl rfl
  exact fiV hx hb hr hlk hK hP hD hS dX8_spreadOneNight_127 (Nat.le_of_ble_eq_true rfl) (Nat.le_of_ble_eq_true rfl) (rfl)
set_option maxHeartbeats 4000000 in
set_option maxRecDepth 100000 in
theorem c_X8_beginSpread_3 (l : Launch) (V : GV) (y : Nat → Nat) (h0 : Nat) (h1 : Nat) (h2 : Nat) (h3 : Nat) (h4 : Nat) (h5 : Nat) (h6 : Nat) (h7 : Nat) (h8 : Nat) (h9 : Nat) : Ct l V yX8_beginSpread (.code yX8_beginSpread cX8_beginSpread 1 none) 3 [.ref h0] [(h1, aI V 1 (fun _ => 0)), (h0, .inr (8, [.int 0, .int 1, .ref h4, .ref h5, .ref h1, .int 1, .int 1, .ref (y 19), .ref h6, .ref h7, .ref h3, .ref h8, .ref h9, .ref h2, .int 0, .int 0, .int 1]))] 0 0 (QV V (fun (w : va_W) => (w = [(h1, aI V 1 (upd (fun _ => 0) 0 1)), (h0, .inr (8, [.int 0, .int 1, .ref h4, .ref h5, .ref h1, .int 1, .int 1, .ref (y 19), .ref h6, .ref h7, .ref h3, .ref h8, .ref h9, .ref h2, .int 0, .int 0, .int 1]))]))) := by
  refine Ct.of (by decide) (Nat.le_of_ble_eq_true rfl) (fun p e s m below meth c A ls hx hb hr hml hown hlk hnm hg hP hK hD hE hA hS hl => ?_)
  have hl : lv_has ls 1 [(0, .ref h0)] := hl
  refine lv_aload_n hx hb dX8_beginSpread_0 rfl (lv_at hl 0 rfl) ?_
  refine va_get (ci := 8) (v := .ref h1) (C := RX8) (T := TX8) (N := 17) hx hb hg inX8 hown hK hP 1 rfl rfl 4 (by decide) (hg _ q_4_74) (fun _ h9 => h9) rfl dX8_beginSpread_1 ?_
  refine lv_iconst (v := 0) hx hb dX8_beginSpread_4 (by decide) ?_
  refine lv_aload_n hx hb dX8_beginSpread_5 rfl (lv_at hl 0 rfl) ?_
  refine va_get (ci := 8) (v := .int 1) (C := RX8) (T := TX8) (N := 17) hx hb hg inX8 hown hK hP 1 rfl rfl 5 (by decide) (hg _ q_4_76) (fun _ h9 => h9) rfl dX8_beginSpread_6 ?_
  refine lv_iconst (v := 0) hx hb dX8_beginSpread_9 (by decide) ?_
  refine jnV (wr := [(h0, .inr (8, [.int 0, .int 1, .ref h4, .ref h5, .ref h1, .int 1, .int 1, .ref (y 19), .ref h6, .ref h7, .ref h3, .ref h8, .ref h9, .ref h2, .int 0, .int 0, .int 1]))]) (rnS (rest := []) ⟨hx, hb, hml, hown, hg⟩ (c_J7_fill_fda19_0 l V h1) mt_J7_fill_fda19 q_4_172 ⟨Nat.le_of_ble_eq_true rfl, Nat.le_of_ble_eq_true rfl⟩ hK hP hD hS hA hE [0] rfl rfl rfl hl.1 rfl (Nat.le_of_ble_eq_true rfl) dX8_beginSpread_10 ⟨Nat.le_of_ble_eq_true rfl, Nat.le_of_ble_eq_true rfl⟩) hP hD hS hA [0] [1] rfl rfl rfl (by decide) (fun  w H locs hw hP hD hS => ?_)
  subst hw
  have hP : va_P V.1 vwCl [(h0, .inr (8, [.int 0, .int 1, .ref h4, .ref h5, .ref h1, .int 1, .int 1, .ref (y 19), .ref h6, .ref h7, .ref h3, .ref h8, .ref h9, .ref h2, .int 0, .int 0, .int 1])), (h1, aI V 1 (fun _ => 0))] H := hP
  have hD : va_D A [(h0, .inr (8, [.int 0, .int 1, .ref h4, .ref h5, .ref h1, .int 1, .int 1, .ref (y 19), .ref h6, .ref h7, .ref h3, .ref h8, .ref h9, .ref h2, .int 0, .int 0, .int 1])), (h1, aI V 1 (fun _ => 0))] := hD
  refine lv_aload_n hx hb dX8_beginSpread_13 rfl (lv_at hl 0 rfl) ?_
  refine va_get (ci := 8) (v := .ref h1) (C := RX8) (T := TX8) (N := 17) hx hb hg inX8 hown hK hP 0 rfl rfl 4 (by decide) (hg _ q_4_74) (fun _ h9 => h9) rfl dX8_beginSpread_14 ?_
  refine lv_iconst (v := 0) hx hb dX8_beginSpread_17 (by decide) ?_
  refine lv_iconst (v := 1) hx hb dX8_beginSpread_18 (by decide) ?_
  refine va_iast hx hb hK hP hD hS 1 0 rfl rfl (vin (by decide +kernel)) dX8_beginSpread_19 (fun H locs hP hD hS => ?_)
  have hP : va_P V.1 vwCl [(h0, .inr (8, [.int 0, .int 1, .ref h4, .ref h5, .ref h1, .int 1, .int 1, .ref (y 19), .ref h6, .ref h7, .ref h3, .ref h8, .ref h9, .ref h2, .int 0, .int 0, .int 1])), (h1, aI V 1 (upd (fun _ => 0) 0 1))] H := hP
  have hD : va_D A [(h0, .inr (8, [.int 0, .int 1, .ref h4, .ref h5, .ref h1, .int 1, .int 1, .ref (y 19), .ref h6, .ref h7, .ref h3, .ref h8, .ref h9, .ref h2, .int 0, .int 0, .int 1])), (h1, aI V 1 (upd (fun _ => 0) 0 1))] := hD
  have hP := subP (ws' := [(h1, aI V 1 (upd (fun _ => 0) 0 1)), (h0, .inr (8, [.int 0, .int 1, .ref h4, .ref h5, .ref h1, .int 1, .int 1, .ref (y 19), .ref h6, .ref h7, .ref h3, .ref h8, .ref h9, .ref h2, .int 0, .int 0, .int 1]))]) hP [1, 0] rfl
  have hD := hD.sub (ws' := [(h1, aI V 1 (upd (fun _ => 0) 0 1)), (h0, .inr (8, [.int 0, .int 1, .ref h4, .ref h5, .ref h1, .int 1, .int 1, .ref (y 19), .ref h6, .ref h7, .ref h3, .ref h8, .ref h9, .ref h2, .int 0, .int 0, .int 1]))]) [1, 0] rfl rfl
  exact fiV hx hb hr hlk hK hP hD hS dX8_beginSpread_20 (Nat.le_of_ble_eq_true rfl) (Nat.le_of_ble_eq_true rfl) (rfl)
set_option maxHeartbeats 4000000 in
set_option maxRecDepth 100000 in
theorem c_X8_spreadOneNight_1 (l : Launch) (V : GV) (y : Nat → Nat) (h0 : Nat) (h1 : Nat) (h2 : Nat) (h3 : Nat) (h4 : Nat) (h5 : Nat) (h6 : Nat) (h7 : Nat) (h8 : Nat) (h9 : Nat) : Ct l V yX8_spreadOneNight (.code yX8_spreadOneNight cX8_spreadOneNight 5 none) 3 [.ref h0, .int 0, .int 10] [(h1, aI V 1 (fun _ => 0)), (h2, aI V 4 (fun _ => 0)), (h3, aI V 1 (fun _ => 0)), (h4, aI V 1 (upd (fun _ => 0) 0 1)), (h0, .inr (8, [.int 0, .int 1, .ref h5, .ref h3, .ref h4, .int 1, .int 1, .ref (y 19), .ref h6, .ref h7, .ref h2, .ref h8, .ref h9, .ref h1, .int 0, .int 0, .int 1]))] 0 0 (QV V (fun (w : va_W) => (w = [(h1, aI V 1 (upd (fun _ => 0) 0 10)), (h2, aI V 4 (fun _ => 0)), (h3, aI V 1 (fun _ => 0)), (h4, aI V 1 (upd (fun _ => 0) 0 1)), (h0, .inr (8, [.int 0, .int 1, .ref h5, .ref h3, .ref h1, .int 1, .int 1, .ref (y 19), .ref h6, .ref h7, .ref h2, .ref h8, .ref h9, .ref h4, .int 0, .int 0, .int 1]))]))) := by
  refine Ct.of (by decide) (Nat.le_of_ble_eq_true rfl) (fun p e s m below meth c A ls hx hb hr hml hown hlk hnm hg hP hK hD hE hA hS hl => ?_)
  have hl : lv_has ls 5 [(0, .ref h0), (1, .int 0), (2, .int 10)] := hl
  refine lv_aload_n hx hb dX8_spreadOneNight_0 rfl (lv_at hl 0 rfl) ?_
  refine va_get (ci := 8) (v := .ref h1) (C := RX8) (T := TX8) (N := 17) hx hb hg inX8 hown hK hP 4 rfl rfl 13 (by decide) (hg _ q_4_87) (fun _ h9 => h9) rfl dX8_spreadOneNight_1 ?_
  refine lv_iconst (v := 0) hx hb dX8_spreadOneNight_4 (by decide) ?_
  refine lv_aload_n hx hb dX8_spreadOneNight_5 rfl (lv_at hl 0 rfl) ?_
  refine va_get (ci := 8) (v := .int 1) (C := RX8) (T := TX8) (N := 17) hx hb hg inX8 hown hK hP 4 rfl rfl 5 (by decide) (hg _ q_4_76) (fun _ h9 => h9) rfl dX8_spreadOneNight_6 ?_
  refine lv_iconst (v := 0) hx hb dX8_spreadOneNight_9 (by decide) ?_
  refine jnV (wr := [(h2, aI V 4 (fun _ => 0)), (h3, aI V 1 (fun _ => 0)), (h4, aI V 1 (upd (fun _ => 0) 0 1)), (h0, .inr (8, [.int 0, .int 1, .ref h5, .ref h3, .ref h4, .int 1, .int 1, .ref (y 19), .ref h6, .ref h7, .ref h2, .ref h8, .ref h9, .ref h1, .int 0, .int 0, .int 1]))]) (rnS (rest := []) ⟨hx, hb, hml, hown, hg⟩ (c_J7_fill_fda19_0 l V h1) mt_J7_fill_fda19 q_4_172 ⟨Nat.le_of_ble_eq_true rfl, Nat.le_of_ble_eq_true rfl⟩ hK hP hD hS hA hE [0] rfl rfl rfl hl.1 rfl (Nat.le_of_ble_eq_true rfl) dX8_spreadOneNight_10 ⟨Nat.le_of_ble_eq_true rfl, Nat.le_of_ble_eq_true rfl⟩) hP hD hS hA [0] [1, 2, 3, 4] rfl rfl rfl (by decide) (fun  w H locs hw hP hD hS => ?_)
  subst hw
  have hP : va_P V.1 vwCl [(h2, aI V 4 (fun _ => 0)), (h3, aI V 1 (fun _ => 0)), (h4, aI V 1 (upd (fun _ => 0) 0 1)), (h0, .inr (8, [.int 0, .int 1, .ref h5, .ref h3, .ref h4, .int 1, .int 1, .ref (y 19), .ref h6, .ref h7, .ref h2, .ref h8, .ref h9, .ref h1, .int 0, .int 0, .int 1])), (h1, aI V 1 (fun _ => 0))] H := hP
  have hD : va_D A [(h2, aI V 4 (fun _ => 0)), (h3, aI V 1 (fun _ => 0)), (h4, aI V 1 (upd (fun _ => 0) 0 1)), (h0, .inr (8, [.int 0, .int 1, .ref h5, .ref h3, .ref h4, .int 1, .int 1, .ref (y 19), .ref h6, .ref h7, .ref h2, .ref h8, .ref h9, .ref h1, .int 0, .int 0, .int 1])), (h1, aI V 1 (fun _ => 0))] := hD
  refine lv_iconst (v := 0) hx hb dX8_spreadOneNight_13 (by decide) ?_
  refine lv_istore_n (lv' := [(3, .int 0), (0, .ref h0), (1, .int 0), (2, .int 10)]) hx hb dX8_spreadOneNight_14 rfl hl (by decide) rfl (fun ls hl => ?_)
  refine lv_iload_n hx hb dX8_spreadOneNight_15 rfl (lv_at hl 0 rfl) ?_
  refine lv_aload_n hx hb dX8_spreadOneNight_16 rfl (lv_at hl 1 rfl) ?_
  refine va_get (ci := 8) (v := .int 1) (C := RX8) (T := TX8) (N := 17) hx hb hg inX8 hown hK hP 3 rfl rfl 16 (by decide) (hg _ q_4_90) (fun _ h9 => h9) rfl dX8_spreadOneNight_17 ?_
  refine lv_icmp_ge (tgt := 109) hx hb dX8_spreadOneNight_20 (by decide) (fun c_1 => absurd c_1 (by decide)) (fun _ => ?_)
  refine lv_aload_n hx hb dX8_spreadOneNight_23 rfl (lv_at hl 1 rfl) ?_
  refine va_get (ci := 8) (v := .ref h3) (C := RX8) (T := TX8) (N := 17) hx hb hg inX8 hown hK hP 3 rfl rfl 3 (by decide) (hg _ q_4_72) (fun _ h9 => h9) rfl dX8_spreadOneNight_24 ?_
  refine lv_iload_n hx hb dX8_spreadOneNight_27 rfl (lv_at hl 0 rfl) ?_
  refine va_iald hx hb hK hP 1 0 rfl rfl (vin (by decide +kernel)) dX8_spreadOneNight_28 ?_
  refine tpi (y := 0) (rfl) ?_
  refine lv_iload_n hx hb dX8_spreadOneNight_29 rfl (lv_at hl 2 rfl) ?_
  refine lv_icmp_gt (tgt := 109) hx hb dX8_spreadOneNight_30 (by decide) (fun c_2 => absurd c_2 (by decide)) (fun _ => ?_)
  refine lv_aload_n hx hb dX8_spreadOneNight_33 rfl (lv_at hl 1 rfl) ?_
  refine va_get (ci := 8) (v := .ref h4) (C := RX8) (T := TX8) (N := 17) hx hb hg inX8 hown hK hP 3 rfl rfl 4 (by decide) (hg _ q_4_74) (fun _ h9 => h9) rfl dX8_spreadOneNight_34 ?_
  refine lv_iload_n hx hb dX8_spreadOneNight_37 rfl (lv_at hl 0 rfl) ?_
  refine va_iald hx hb hK hP 2 0 rfl rfl (vin (by decide +kernel)) dX8_spreadOneNight_38 ?_
  refine tpi (y := 1) (rfl) ?_
  refine lv_if_eq (tgt := 103) hx hb dX8_spreadOneNight_39 (by decide) (fun c_3 => absurd c_3 (by decide)) (fun _ => ?_)
  refine lv_aload_n hx hb dX8_spreadOneNight_42 rfl (lv_at hl 1 rfl) ?_
  refine va_get (ci := 8) (v := .ref h1) (C := RX8) (T := TX8) (N := 17) hx hb hg inX8 hown hK hP 3 rfl rfl 13 (by decide) (hg _ q_4_87) (fun _ h9 => h9) rfl dX8_spreadOneNight_43 ?_
  refine lv_aload_n hx hb dX8_spreadOneNight_46 rfl (lv_at hl 1 rfl) ?_
  refine lv_iload_n hx hb dX8_spreadOneNight_47 rfl (lv_at hl 0 rfl) ?_
  refine lv_iconst (v := 0) hx hb dX8_spreadOneNight_48 (by decide) ?_
  refine jnI (wr := [(h3, aI V 1 (fun _ => 0)), (h4, aI V 1 (upd (fun _ => 0) 0 1)), (h1, aI V 1 (fun _ => 0))]) (rnV (rest := [.ref h1]) ⟨hx, hb, hml, hown, hg⟩ (c_X8_behind_2 l V y h0 h2 h3 h4 h5 h6 h7 h8 h9 h1) mt_X8_behind q_4_182 ⟨Nat.le_of_ble_eq_true rfl, Nat.le_of_ble_eq_true rfl⟩ hK hP hD hS hA hE [0, 3] rfl rfl 3 rfl rfl rfl rfl hl.1 rfl (Nat.le_of_ble_eq_true rfl) dX8_spreadOneNight_49 ⟨Nat.le_of_ble_eq_true rfl, Nat.le_of_ble_eq_true rfl⟩) hP hD hS hA [0, 3] [1, 2, 4] rfl rfl rfl (by decide) (fun r_4 w H locs hw hP hD hS => ?_)
  obtain ⟨rfl, rfl⟩ := hw
  have hP : va_P V.1 vwCl [(h3, aI V 1 (fun _ => 0)), (h4, aI V 1 (upd (fun _ => 0) 0 1)), (h1, aI V 1 (fun _ => 0)), (h2, aI V 4 (fun _ => 0)), (h0, .inr (8, [.int 0, .int 1, .ref h5, .ref h3, .ref h4, .int 1, .int 1, .ref (y 19), .ref h6, .ref h7, .ref h2, .ref h8, .ref h9, .ref h1, .int 0, .int 0, .int 1]))] H := hP
  have hD : va_D A [(h3, aI V 1 (fun _ => 0)), (h4, aI V 1 (upd (fun _ => 0) 0 1)), (h1, aI V 1 (fun _ => 0)), (h2, aI V 4 (fun _ => 0)), (h0, .inr (8, [.int 0, .int 1, .ref h5, .ref h3, .ref h4, .int 1, .int 1, .ref (y 19), .ref h6, .ref h7, .ref h2, .ref h8, .ref h9, .ref h1, .int 0, .int 0, .int 1]))] := hD
  refine lv_dup2_11 hx hb dX8_spreadOneNight_52 rfl rfl ?_
  refine va_iald hx hb hK hP 2 0 rfl rfl (vin (by decide +kernel)) dX8_spreadOneNight_53 ?_
  refine tpi (y := 0) (rfl) ?_
  refine lv_aload_n hx hb dX8_spreadOneNight_54 rfl (lv_at hl 1 rfl) ?_
  refine va_get (ci := 8) (v := .ref h4) (C := RX8) (T := TX8) (N := 17) hx hb hg inX8 hown hK hP 4 rfl rfl 4 (by decide) (hg _ q_4_74) (fun _ h9 => h9) rfl dX8_spreadOneNight_55 ?_
  refine lv_iload_n hx hb dX8_spreadOneNight_58 rfl (lv_at hl 0 rfl) ?_
  refine va_iald hx hb hK hP 1 0 rfl rfl (vin (by decide +kernel)) dX8_spreadOneNight_59 ?_
  refine tpi (y := 1) (rfl) ?_
  refine lv_iload_n hx hb dX8_spreadOneNight_60 rfl (lv_at hl 3 rfl) ?_
  refine lv_imul hx hb dX8_spreadOneNight_61 ?_
  refine tpi (y := 10) (by decide +kernel) ?_
  refine lv_iadd hx hb dX8_spreadOneNight_62 ?_
  refine tpi (y := 10) (by decide +kernel) ?_
  refine va_iast hx hb hK hP hD hS 2 0 rfl rfl (vin (by decide +kernel)) dX8_spreadOneNight_63 (fun H locs hP hD hS => ?_)
  have hP : va_P V.1 vwCl [(h3, aI V 1 (fun _ => 0)), (h4, aI V 1 (upd (fun _ => 0) 0 1)), (h1, aI V 1 (upd (fun _ => 0) 0 10)), (h2, aI V 4 (fun _ => 0)), (h0, .inr (8, [.int 0, .int 1, .ref h5, .ref h3, .ref h4, .int 1, .int 1, .ref (y 19), .ref h6, .ref h7, .ref h2, .ref h8, .ref h9, .ref h1, .int 0, .int 0, .int 1]))] H := hP
  have hD : va_D A [(h3, aI V 1 (fun _ => 0)), (h4, aI V 1 (upd (fun _ => 0) 0 1)), (h1, aI V 1 (upd (fun _ => 0) 0 10)), (h2, aI V 4 (fun _ => 0)), (h0, .inr (8, [.int 0, .int 1, .ref h5, .ref h3, .ref h4, .int 1, .int 1, .ref (y 19), .ref h6, .ref h7, .ref h2, .ref h8, .ref h9, .ref h1, .int 0, .int 0, .int 1]))] := hD
  refine lv_iconst (v := 1) hx hb dX8_spreadOneNight_64 (by decide) ?_
  refine lv_istore (lv' := [(4, .int 1), (3, .int 0), (0, .ref h0), (1, .int 0), (2, .int 10)]) hx hb dX8_spreadOneNight_65 hl (by decide) rfl (fun ls hl => ?_)
  refine lv_iload hx hb dX8_spreadOneNight_67 (lv_at hl 0 rfl) ?_
  refine lv_aload_n hx hb dX8_spreadOneNight_69 rfl (lv_at hl 2 rfl) ?_
  refine va_get (ci := 8) (v := .int 1) (C := RX8) (T := TX8) (N := 17) hx hb hg inX8 hown hK hP 4 rfl rfl 6 (by decide) (hg _ q_4_80) (fun _ h9 => h9) rfl dX8_spreadOneNight_70 ?_
  refine lv_icmp_ge (tgt := 103) hx hb dX8_spreadOneNight_73 (by decide) (fun _ => ?_) (fun c_5 => absurd c_5 (by decide))
  refine lv_iinc (v := 1) (lv' := [(3, .int 1), (4, .int 1), (0, .ref h0), (1, .int 0), (2, .int 10)]) hx hb dX8_spreadOneNight_103 hl (k := 1) rfl (by decide +kernel) (by decide) rfl (fun ls hl => ?_)
  refine lv_goto (tgt := 15) hx hb dX8_spreadOneNight_106 (by decide) ?_
  refine lv_iload_n hx hb dX8_spreadOneNight_15 rfl (lv_at hl 0 rfl) ?_
  refine lv_aload_n hx hb dX8_spreadOneNight_16 rfl (lv_at hl 2 rfl) ?_
  refine va_get (ci := 8) (v := .int 1) (C := RX8) (T := TX8) (N := 17) hx hb hg inX8 hown hK hP 4 rfl rfl 16 (by decide) (hg _ q_4_90) (fun _ h9 => h9) rfl dX8_spreadOneNight_17 ?_
  refine lv_icmp_ge (tgt := 109) hx hb dX8_spreadOneNight_20 (by decide) (fun _ => ?_) (fun c_6 => absurd c_6 (by decide))
  refine lv_aload_n hx hb dX8_spreadOneNight_109 rfl (lv_at hl 2 rfl) ?_
  refine va_get (ci := 8) (v := .ref h4) (C := RX8) (T := TX8) (N := 17) hx hb hg inX8 hown hK hP 4 rfl rfl 4 (by decide) (hg _ q_4_74) (fun _ h9 => h9) rfl dX8_spreadOneNight_110 ?_
  refine lv_astore_n (lv' := [(3, .ref h4), (4, .int 1), (0, .ref h0), (1, .int 0), (2, .int 10)]) hx hb dX8_spreadOneNight_113 rfl hl (by decide) rfl (fun ls hl => ?_)
  refine lv_aload_n hx hb dX8_spreadOneNight_114 rfl (lv_at hl 2 rfl) ?_
  refine lv_aload_n hx hb dX8_spreadOneNight_115 rfl (lv_at hl 2 rfl) ?_
  refine va_get (ci := 8) (v := .ref h1) (C := RX8) (T := TX8) (N := 17) hx hb hg inX8 hown hK hP 4 rfl rfl 13 (by decide) (hg _ q_4_87) (fun _ h9 => h9) rfl dX8_spreadOneNight_116 ?_
  refine va_put (ci := 8) (v := .ref h1) (ty := (.array .int)) (C := RX8) (T := TX8) (N := 17) hx hb hg inX8 tyX8 tyX8_ok nmX8 hown hK hP hD hS 4 rfl rfl 4 (by decide) (hg _ q_4_74) (fun _ h9 => h9) rfl (by decide +kernel) rfl rfl (Nat.le_of_ble_eq_true rfl) dX8_spreadOneNight_119 (fun H locs hP hD hS => ?_)
  have hP : va_P V.1 vwCl [(h3, aI V 1 (fun _ => 0)), (h4, aI V 1 (upd (fun _ => 0) 0 1)), (h1, aI V 1 (upd (fun _ => 0) 0 10)), (h2, aI V 4 (fun _ => 0)), (h0, .inr (8, [.int 0, .int 1, .ref h5, .ref h3, .ref h1, .int 1, .int 1, .ref (y 19), .ref h6, .ref h7, .ref h2, .ref h8, .ref h9, .ref h1, .int 0, .int 0, .int 1]))] H := hP
  have hD : va_D A [(h3, aI V 1 (fun _ => 0)), (h4, aI V 1 (upd (fun _ => 0) 0 1)), (h1, aI V 1 (upd (fun _ => 0) 0 10)), (h2, aI V 4 (fun _ => 0)), (h0, .inr (8, [.int 0, .int 1, .ref h5, .ref h3, .ref h1, .int 1, .int 1, .ref (y 19), .ref h6, .ref h7, .ref h2, .ref h8, .ref h9, .ref h1, .int 0, .int 0, .int 1]))] := hD
  refine lv_aload_n hx hb dX8_spreadOneNight_122 rfl (lv_at hl 2 rfl) ?_
  refine lv_aload_n hx hb dX8_spreadOneNight_123 rfl (lv_at hl 0 rfl) ?_
  refine va_put (ci := 8) (v := .ref h4) (ty := (.array .int)) (C := RX8) (T := TX8) (N := 17) hx hb hg inX8 tyX8 tyX8_ok nmX8 hown hK hP hD hS 4 rfl rfl 13 (by decide) (hg _ q_4_87) (fun _ h9 => h9) rfl (by decide +kernel) rfl rfl (Nat.le_of_ble_eq_true rfl) dX8_spreadOneNight_124 (fun H locs hP hD hS => ?_)
  have hP : va_P V.1 vwCl [(h3, aI V 1 (fun _ => 0)), (h4, aI V 1 (upd (fun _ => 0) 0 1)), (h1, aI V 1 (upd (fun _ => 0) 0 10)), (h2, aI V 4 (fun _ => 0)), (h0, .inr (8, [.int 0, .int 1, .ref h5, .ref h3, .ref h1, .int 1, .int 1, .ref (y 19), .ref h6, .ref h7, .ref h2, .ref h8, .ref h9, .ref h4, .int 0, .int 0, .int 1]))] H := hP
  have hD : va_D A [(h3, aI V 1 (fun _ => 0)), (h4, aI V 1 (upd (fun _ => 0) 0 1)), (h1, aI V 1 (upd (fun _ => 0) 0 10)), (h2, aI V 4 (fun _ => 0)), (h0, .inr (8, [.int 0, .int 1, .ref h5, .ref h3, .ref h1, .int 1, .int 1, .ref (y 19), .ref h6, .ref h7, .ref h2, .ref h8, .ref h9, .ref h4, .int 0, .int 0, .int 1]))] := hD
  have hP := subP (ws' := [(h1, aI V 1 (upd (fun _ => 0) 0 10)), (h2, aI V 4 (fun _ => 0)), (h3, aI V 1 (fun _ => 0)), (h4, aI V 1 (upd (fun _ => 0) 0 1)), (h0, .inr (8, [.int 0, .int 1, .ref h5, .ref h3, .ref h1, .int 1, .int 1, .ref (y 19), .ref h6, .ref h7, .ref h2, .ref h8, .ref h9, .ref h4, .int 0, .int 0, .int 1]))]) hP [2, 3, 0, 1, 4] rfl
  have hD := hD.sub (ws' := [(h1, aI V 1 (upd (fun _ => 0) 0 10)), (h2, aI V 4 (fun _ => 0)), (h3, aI V 1 (fun _ => 0)), (h4, aI V 1 (upd (fun _ => 0) 0 1)), (h0, .inr (8, [.int 0, .int 1, .ref h5, .ref h3, .ref h1, .int 1, .int 1, .ref (y 19), .ref h6, .ref h7, .ref h2, .ref h8, .ref h9, .ref h4, .int 0, .int 0, .int 1]))]) [2, 3, 0, 1, 4] rfl rfl
  exact fiV hx hb hr hlk hK hP hD hS dX8_spreadOneNight_127 (Nat.le_of_ble_eq_true rfl) (Nat.le_of_ble_eq_true rfl) (rfl)
theorem dX8_spread_11 : decode cX8_spread 11 = .ok (.aload_n 0, 1) := by decide +kernel
theorem dX8_spread_12 : decode cX8_spread 12 = .ok (.iload_n 3, 1) := by decide +kernel
theorem dX8_spread_13 : decode cX8_spread 13 = .ok (.iload_n 2, 1) := by decide +kernel
theorem q_4_181 : Cond.code yX8_spreadOneNight prog_10_method_14_code 5 none ∈ gw := gw_4 (i := 181) (rfl) rfl
theorem q_4_180 : Cond.instanceMethod yX8_spreadOneNight ∈ gw := gw_4 (i := 180) (by decide +kernel) rfl
theorem q_s_36 : Cond.selects "BeaconDelay$Ways" yX8_spreadOneNight yX8_spreadOneNight ∈ gw := gw_s (i := 36) (by decide +kernel) rfl
theorem mt_X8_spreadOneNight : MtV yX8_spreadOneNight cX8_spreadOneNight 5 none 2 := ⟨⟨q_4_181, q_1_18, by decide +kernel, by decide +kernel, by decide +kernel⟩, q_4_180, q_s_36⟩
theorem q_4_178 : Cond.methodLink "BeaconDelay$Ways" 100 yX8_spreadOneNight ∈ gw := gw_4 (i := 178) (by decide +kernel) rfl
theorem dX8_spread_14 : decode cX8_spread 14 = .ok (.invokevirtual 100, 3) := by decide +kernel
theorem dX8_spread_17 : decode cX8_spread 17 = .ok (.iinc 3 1, 3) := by decide +kernel
theorem dX8_spread_20 : decode cX8_spread 20 = .ok (.goto (-14), 3) := by decide +kernel
set_option maxHeartbeats 4000000 in
set_option maxRecDepth 100000 in
theorem c_X8_spread_2 (l : Launch) (V : GV) (y : Nat → Nat) (h0 : Nat) (h1 : Nat) (h2 : Nat) (h3 : Nat) (h4 : Nat) (h5 : Nat) (h6 : Nat) (h7 : Nat) (h8 : Nat) (h9 : Nat) : Ct l V yX8_spread (.code yX8_spread cX8_spread 4 none) 4 [.ref h0, .int 1, .int 10] [(h2, aI V 1 (fun _ => 0)), (h3, aI V 1 (fun _ => 0)), (h6, aI V 4 (fun _ => 0)), (h0, .inr (8, [.int 0, .int 1, .ref h7, .ref h8, .ref h2, .int 1, .int 1, .ref (y 19), .ref h9, .ref h4, .ref h6, .ref h1, .ref h5, .ref h3, .int 0, .int 0, .int 1])), (h8, aI V 1 (fun _ => 0))] 0 0 (QV V (fun (w : va_W) => (w = [(h2, aI V 1 (upd (fun _ => 0) 0 1)), (h3, aI V 1 (upd (fun _ => 0) 0 10)), (h6, aI V 4 (fun _ => 0)), (h0, .inr (8, [.int 0, .int 1, .ref h7, .ref h8, .ref h3, .int 1, .int 1, .ref (y 19), .ref h9, .ref h4, .ref h6, .ref h1, .ref h5, .ref h2, .int 0, .int 0, .int 1])), (h8, aI V 1 (fun _ => 0))]))) := by
  refine Ct.of (by decide) (Nat.le_of_ble_eq_true rfl) (fun p e s m below meth c A ls hx hb hr hml hown hlk hnm hg hP hK hD hE hA hS hl => ?_)
  have hl : lv_has ls 4 [(0, .ref h0), (1, .int 1), (2, .int 10)] := hl
  refine lv_aload_n hx hb dX8_spread_0 rfl (lv_at hl 0 rfl) ?_
  refine jnV (wr := [(h3, aI V 1 (fun _ => 0)), (h6, aI V 4 (fun _ => 0)), (h8, aI V 1 (fun _ => 0))]) (rnV (rest := []) ⟨hx, hb, hml, hown, hg⟩ (c_X8_beginSpread_3 l V y h0 h2 h3 h6 h7 h8 h9 h4 h1 h5) mt_X8_beginSpread q_4_168 ⟨Nat.le_of_ble_eq_true rfl, Nat.le_of_ble_eq_true rfl⟩ hK hP hD hS hA hE [0, 3] rfl rfl 3 rfl rfl rfl rfl hl.1 rfl (Nat.le_of_ble_eq_true rfl) dX8_spread_1 ⟨Nat.le_of_ble_eq_true rfl, Nat.le_of_ble_eq_true rfl⟩) hP hD hS hA [0, 3] [1, 2, 4] rfl rfl rfl (by decide) (fun  w H locs hw hP hD hS => ?_)
  subst hw
  have hP : va_P V.1 vwCl [(h3, aI V 1 (fun _ => 0)), (h6, aI V 4 (fun _ => 0)), (h8, aI V 1 (fun _ => 0)), (h2, aI V 1 (upd (fun _ => 0) 0 1)), (h0, .inr (8, [.int 0, .int 1, .ref h7, .ref h8, .ref h2, .int 1, .int 1, .ref (y 19), .ref h9, .ref h4, .ref h6, .ref h1, .ref h5, .ref h3, .int 0, .int 0, .int 1]))] H := hP
  have hD : va_D A [(h3, aI V 1 (fun _ => 0)), (h6, aI V 4 (fun _ => 0)), (h8, aI V 1 (fun _ => 0)), (h2, aI V 1 (upd (fun _ => 0) 0 1)), (h0, .inr (8, [.int 0, .int 1, .ref h7, .ref h8, .ref h2, .int 1, .int 1, .ref (y 19), .ref h9, .ref h4, .ref h6, .ref h1, .ref h5, .ref h3, .int 0, .int 0, .int 1]))] := hD
  refine lv_iconst (v := 0) hx hb dX8_spread_4 (by decide) ?_
  refine lv_istore_n (lv' := [(3, .int 0), (0, .ref h0), (1, .int 1), (2, .int 10)]) hx hb dX8_spread_5 rfl hl (by decide) rfl (fun ls hl => ?_)
  refine lv_iload_n hx hb dX8_spread_6 rfl (lv_at hl 0 rfl) ?_
  refine lv_iload_n hx hb dX8_spread_7 rfl (lv_at hl 2 rfl) ?_
  refine lv_icmp_ge (tgt := 23) hx hb dX8_spread_8 (by decide) (fun c_1 => absurd c_1 (by decide)) (fun _ => ?_)
  refine lv_aload_n hx hb dX8_spread_11 rfl (lv_at hl 1 rfl) ?_
  refine lv_iload_n hx hb dX8_spread_12 rfl (lv_at hl 0 rfl) ?_
  refine lv_iload_n hx hb dX8_spread_13 rfl (lv_at hl 3 rfl) ?_
  refine jnV (wr := []) (rnV (rest := []) ⟨hx, hb, hml, hown, hg⟩ (c_X8_spreadOneNight_1 l V y h0 h3 h6 h8 h2 h7 h9 h4 h1 h5) mt_X8_spreadOneNight q_4_178 ⟨Nat.le_of_ble_eq_true rfl, Nat.le_of_ble_eq_true rfl⟩ hK hP hD hS hA hE [0, 1, 2, 3, 4] rfl rfl 4 rfl rfl rfl rfl hl.1 rfl (Nat.le_of_ble_eq_true rfl) dX8_spread_14 ⟨Nat.le_of_ble_eq_true rfl, Nat.le_of_ble_eq_true rfl⟩) hP hD hS hA [0, 1, 2, 3, 4] [] rfl rfl rfl (by decide) (fun  w H locs hw hP hD hS => ?_)
  subst hw
  have hP : va_P V.1 vwCl [(h3, aI V 1 (upd (fun _ => 0) 0 10)), (h6, aI V 4 (fun _ => 0)), (h8, aI V 1 (fun _ => 0)), (h2, aI V 1 (upd (fun _ => 0) 0 1)), (h0, .inr (8, [.int 0, .int 1, .ref h7, .ref h8, .ref h3, .int 1, .int 1, .ref (y 19), .ref h9, .ref h4, .ref h6, .ref h1, .ref h5, .ref h2, .int 0, .int 0, .int 1]))] H := hP
  have hD : va_D A [(h3, aI V 1 (upd (fun _ => 0) 0 10)), (h6, aI V 4 (fun _ => 0)), (h8, aI V 1 (fun _ => 0)), (h2, aI V 1 (upd (fun _ => 0) 0 1)), (h0, .inr (8, [.int 0, .int 1, .ref h7, .ref h8, .ref h3, .int 1, .int 1, .ref (y 19), .ref h9, .ref h4, .ref h6, .ref h1, .ref h5, .ref h2, .int 0, .int 0, .int 1]))] := hD
  refine lv_iinc (v := 1) (lv' := [(3, .int 1), (0, .ref h0), (1, .int 1), (2, .int 10)]) hx hb dX8_spread_17 hl (k := 0) rfl (by decide +kernel) (by decide) rfl (fun ls hl => ?_)
  refine lv_goto (tgt := 6) hx hb dX8_spread_20 (by decide) ?_
  refine lv_iload_n hx hb dX8_spread_6 rfl (lv_at hl 0 rfl) ?_
  refine lv_iload_n hx hb dX8_spread_7 rfl (lv_at hl 2 rfl) ?_
  refine lv_icmp_ge (tgt := 23) hx hb dX8_spread_8 (by decide) (fun _ => ?_) (fun c_2 => absurd c_2 (by decide))
  have hP := subP (ws' := [(h2, aI V 1 (upd (fun _ => 0) 0 1)), (h3, aI V 1 (upd (fun _ => 0) 0 10)), (h6, aI V 4 (fun _ => 0)), (h0, .inr (8, [.int 0, .int 1, .ref h7, .ref h8, .ref h3, .int 1, .int 1, .ref (y 19), .ref h9, .ref h4, .ref h6, .ref h1, .ref h5, .ref h2, .int 0, .int 0, .int 1])), (h8, aI V 1 (fun _ => 0))]) hP [3, 0, 1, 4, 2] rfl
  have hD := hD.sub (ws' := [(h2, aI V 1 (upd (fun _ => 0) 0 1)), (h3, aI V 1 (upd (fun _ => 0) 0 10)), (h6, aI V 4 (fun _ => 0)), (h0, .inr (8, [.int 0, .int 1, .ref h7, .ref h8, .ref h3, .int 1, .int 1, .ref (y 19), .ref h9, .ref h4, .ref h6, .ref h1, .ref h5, .ref h2, .int 0, .int 0, .int 1])), (h8, aI V 1 (fun _ => 0))]) [3, 0, 1, 4, 2] rfl rfl
  exact fiV hx hb hr hlk hK hP hD hS dX8_spread_23 (Nat.le_of_ble_eq_true rfl) (Nat.le_of_ble_eq_true rfl) (rfl)
set_option maxHeartbeats 4000000 in
set_option maxRecDepth 100000 in
theorem c_X8_spread_3 (l : Launch) (V : GV) (y : Nat → Nat) (h0 : Nat) (h1 : Nat) (h2 : Nat) (h3 : Nat) (h4 : Nat) (h5 : Nat) (h6 : Nat) (h7 : Nat) (h8 : Nat) (h9 : Nat) : Ct l V yX8_spread (.code yX8_spread cX8_spread 4 none) 4 [.ref h0, .int 1, .int 10] [(h1, aI V 1 (fun _ => 0)), (h2, aI V 1 (fun _ => 0)), (h3, aI V 4 (fun _ => 0)), (h0, .inr (8, [.int 0, .int 1, .ref h4, .ref h5, .ref h1, .int 1, .int 1, .ref (y 19), .ref h6, .ref h7, .ref h3, .ref h8, .ref h9, .ref h2, .int 0, .int 0, .int 1])), (h5, aI V 1 (fun _ => 0))] 0 0 (QV V (fun (w : va_W) => (w = [(h1, aI V 1 (upd (fun _ => 0) 0 1)), (h2, aI V 1 (upd (fun _ => 0) 0 10)), (h3, aI V 4 (fun _ => 0)), (h0, .inr (8, [.int 0, .int 1, .ref h4, .ref h5, .ref h2, .int 1, .int 1, .ref (y 19), .ref h6, .ref h7, .ref h3, .ref h8, .ref h9, .ref h1, .int 0, .int 0, .int 1])), (h5, aI V 1 (fun _ => 0))]))) := by
  refine Ct.of (by decide) (Nat.le_of_ble_eq_true rfl) (fun p e s m below meth c A ls hx hb hr hml hown hlk hnm hg hP hK hD hE hA hS hl => ?_)
  have hl : lv_has ls 4 [(0, .ref h0), (1, .int 1), (2, .int 10)] := hl
  refine lv_aload_n hx hb dX8_spread_0 rfl (lv_at hl 0 rfl) ?_
  refine jnV (wr := [(h2, aI V 1 (fun _ => 0)), (h3, aI V 4 (fun _ => 0)), (h5, aI V 1 (fun _ => 0))]) (rnV (rest := []) ⟨hx, hb, hml, hown, hg⟩ (c_X8_beginSpread_3 l V y h0 h1 h2 h3 h4 h5 h6 h7 h8 h9) mt_X8_beginSpread q_4_168 ⟨Nat.le_of_ble_eq_true rfl, Nat.le_of_ble_eq_true rfl⟩ hK hP hD hS hA hE [0, 3] rfl rfl 3 rfl rfl rfl rfl hl.1 rfl (Nat.le_of_ble_eq_true rfl) dX8_spread_1 ⟨Nat.le_of_ble_eq_true rfl, Nat.le_of_ble_eq_true rfl⟩) hP hD hS hA [0, 3] [1, 2, 4] rfl rfl rfl (by decide) (fun  w H locs hw hP hD hS => ?_)
  subst hw
  have hP : va_P V.1 vwCl [(h2, aI V 1 (fun _ => 0)), (h3, aI V 4 (fun _ => 0)), (h5, aI V 1 (fun _ => 0)), (h1, aI V 1 (upd (fun _ => 0) 0 1)), (h0, .inr (8, [.int 0, .int 1, .ref h4, .ref h5, .ref h1, .int 1, .int 1, .ref (y 19), .ref h6, .ref h7, .ref h3, .ref h8, .ref h9, .ref h2, .int 0, .int 0, .int 1]))] H := hP
  have hD : va_D A [(h2, aI V 1 (fun _ => 0)), (h3, aI V 4 (fun _ => 0)), (h5, aI V 1 (fun _ => 0)), (h1, aI V 1 (upd (fun _ => 0) 0 1)), (h0, .inr (8, [.int 0, .int 1, .ref h4, .ref h5, .ref h1, .int 1, .int 1, .ref (y 19), .ref h6, .ref h7, .ref h3, .ref h8, .ref h9, .ref h2, .int 0, .int 0, .int 1]))] := hD
  refine lv_iconst (v := 0) hx hb dX8_spread_4 (by decide) ?_
  refine lv_istore_n (lv' := [(3, .int 0), (0, .ref h0), (1, .int 1), (2, .int 10)]) hx hb dX8_spread_5 rfl hl (by decide) rfl (fun ls hl => ?_)
  refine lv_iload_n hx hb dX8_spread_6 rfl (lv_at hl 0 rfl) ?_
  refine lv_iload_n hx hb dX8_spread_7 rfl (lv_at hl 2 rfl) ?_
  refine lv_icmp_ge (tgt := 23) hx hb dX8_spread_8 (by decide) (fun c_1 => absurd c_1 (by decide)) (fun _ => ?_)
  refine lv_aload_n hx hb dX8_spread_11 rfl (lv_at hl 1 rfl) ?_
  refine lv_iload_n hx hb dX8_spread_12 rfl (lv_at hl 0 rfl) ?_
  refine lv_iload_n hx hb dX8_spread_13 rfl (lv_at hl 3 rfl) ?_
  refine jnV (wr := []) (rnV (rest := []) ⟨hx, hb, hml, hown, hg⟩ (c_X8_spreadOneNight_1 l V y h0 h2 h3 h5 h1 h4 h6 h7 h8 h9) mt_X8_spreadOneNight q_4_178 ⟨Nat.le_of_ble_eq_true rfl, Nat.le_of_ble_eq_true rfl⟩ hK hP hD hS hA hE [0, 1, 2, 3, 4] rfl rfl 4 rfl rfl rfl rfl hl.1 rfl (Nat.le_of_ble_eq_true rfl) dX8_spread_14 ⟨Nat.le_of_ble_eq_true rfl, Nat.le_of_ble_eq_true rfl⟩) hP hD hS hA [0, 1, 2, 3, 4] [] rfl rfl rfl (by decide) (fun  w H locs hw hP hD hS => ?_)
  subst hw
  have hP : va_P V.1 vwCl [(h2, aI V 1 (upd (fun _ => 0) 0 10)), (h3, aI V 4 (fun _ => 0)), (h5, aI V 1 (fun _ => 0)), (h1, aI V 1 (upd (fun _ => 0) 0 1)), (h0, .inr (8, [.int 0, .int 1, .ref h4, .ref h5, .ref h2, .int 1, .int 1, .ref (y 19), .ref h6, .ref h7, .ref h3, .ref h8, .ref h9, .ref h1, .int 0, .int 0, .int 1]))] H := hP
  have hD : va_D A [(h2, aI V 1 (upd (fun _ => 0) 0 10)), (h3, aI V 4 (fun _ => 0)), (h5, aI V 1 (fun _ => 0)), (h1, aI V 1 (upd (fun _ => 0) 0 1)), (h0, .inr (8, [.int 0, .int 1, .ref h4, .ref h5, .ref h2, .int 1, .int 1, .ref (y 19), .ref h6, .ref h7, .ref h3, .ref h8, .ref h9, .ref h1, .int 0, .int 0, .int 1]))] := hD
  refine lv_iinc (v := 1) (lv' := [(3, .int 1), (0, .ref h0), (1, .int 1), (2, .int 10)]) hx hb dX8_spread_17 hl (k := 0) rfl (by decide +kernel) (by decide) rfl (fun ls hl => ?_)
  refine lv_goto (tgt := 6) hx hb dX8_spread_20 (by decide) ?_
  refine lv_iload_n hx hb dX8_spread_6 rfl (lv_at hl 0 rfl) ?_
  refine lv_iload_n hx hb dX8_spread_7 rfl (lv_at hl 2 rfl) ?_
  refine lv_icmp_ge (tgt := 23) hx hb dX8_spread_8 (by decide) (fun _ => ?_) (fun c_2 => absurd c_2 (by decide))
  have hP := subP (ws' := [(h1, aI V 1 (upd (fun _ => 0) 0 1)), (h2, aI V 1 (upd (fun _ => 0) 0 10)), (h3, aI V 4 (fun _ => 0)), (h0, .inr (8, [.int 0, .int 1, .ref h4, .ref h5, .ref h2, .int 1, .int 1, .ref (y 19), .ref h6, .ref h7, .ref h3, .ref h8, .ref h9, .ref h1, .int 0, .int 0, .int 1])), (h5, aI V 1 (fun _ => 0))]) hP [3, 0, 1, 4, 2] rfl
  have hD := hD.sub (ws' := [(h1, aI V 1 (upd (fun _ => 0) 0 1)), (h2, aI V 1 (upd (fun _ => 0) 0 10)), (h3, aI V 4 (fun _ => 0)), (h0, .inr (8, [.int 0, .int 1, .ref h4, .ref h5, .ref h2, .int 1, .int 1, .ref (y 19), .ref h6, .ref h7, .ref h3, .ref h8, .ref h9, .ref h1, .int 0, .int 0, .int 1])), (h5, aI V 1 (fun _ => 0))]) [3, 0, 1, 4, 2] rfl rfl
  exact fiV hx hb hr hlk hK hP hD hS dX8_spread_23 (Nat.le_of_ble_eq_true rfl) (Nat.le_of_ble_eq_true rfl) (rfl)
set_option maxHeartbeats 4000000 in
set_option maxRecDepth 100000 in
theorem c_X8_spreadByLots_1 (l : Launch) (V : GV) (y : Nat → Nat) (h0 : Nat) (h1 : Nat) (h2 : Nat) (h3 : Nat) (h4 : Nat) (h5 : Nat) (h6 : Nat) (h7 : Nat) (h8 : Nat) (h9 : Nat) : Ct l V yX8_spreadByLots (.code yX8_spreadByLots cX8_spreadByLots 2 none) 5 [.ref h0, .int 1] [(h2, aI V 1 (fun _ => 0)), (h3, aI V 1 (fun _ => 0)), (h6, aI V 4 (fun _ => 0)), (h0, .inr (8, [.int 0, .int 1, .ref h7, .ref h8, .ref h2, .int 1, .int 1, .ref (y 19), .ref h9, .ref h4, .ref h6, .ref h1, .ref h5, .ref h3, .int 0, .int 0, .int 1])), (h8, aI V 1 (fun _ => 0))] 0 0 (QV V (fun (w : va_W) => (w = [(h2, aI V 1 (upd (fun _ => 0) 0 1)), (h3, aI V 1 (upd (fun _ => 0) 0 10)), (h6, aI V 4 (fun _ => 0)), (h0, .inr (8, [.int 0, .int 1, .ref h7, .ref h8, .ref h3, .int 1, .int 1, .ref (y 19), .ref h9, .ref h4, .ref h6, .ref h1, .ref h5, .ref h2, .int 0, .int 0, .int 1])), (h8, aI V 1 (fun _ => 0))]))) := by
  refine Ct.of (by decide) (Nat.le_of_ble_eq_true rfl) (fun p e s m below meth c A ls hx hb hr hml hown hlk hnm hg hP hK hD hE hA hS hl => ?_)
  have hl : lv_has ls 2 [(0, .ref h0), (1, .int 1)] := hl
  refine lv_aload_n hx hb dX8_spreadByLots_0 rfl (lv_at hl 0 rfl) ?_
  refine lv_iload_n hx hb dX8_spreadByLots_1 rfl (lv_at hl 1 rfl) ?_
  refine lv_bipush (v := 11) hx hb dX8_spreadByLots_2 (by decide) ?_
  refine lv_aload_n hx hb dX8_spreadByLots_4 rfl (lv_at hl 0 rfl) ?_
  refine va_get (ci := 8) (v := .int 1) (C := RX8) (T := TX8) (N := 17) hx hb hg inX8 hown hK hP 3 rfl rfl 6 (by decide) (hg _ q_4_80) (fun _ h9 => h9) rfl dX8_spreadByLots_5 ?_
  refine lv_isub hx hb dX8_spreadByLots_8 ?_
  refine tpi (y := 10) (by decide +kernel) ?_
  refine jnV (wr := []) (rnV (rest := []) ⟨hx, hb, hml, hown, hg⟩ (c_X8_spread_3 l V y h0 h2 h3 h6 h7 h8 h9 h4 h1 h5) mt_X8_spread q_5_162 ⟨Nat.le_of_ble_eq_true rfl, Nat.le_of_ble_eq_true rfl⟩ hK hP hD hS hA hE [0, 1, 2, 3, 4] rfl rfl 3 rfl rfl rfl rfl hl.1 rfl (Nat.le_of_ble_eq_true rfl) dX8_spreadByLots_9 ⟨Nat.le_of_ble_eq_true rfl, Nat.le_of_ble_eq_true rfl⟩) hP hD hS hA [0, 1, 2, 3, 4] [] rfl rfl rfl (by decide) (fun  w H locs hw hP hD hS => ?_)
  subst hw
  have hP : va_P V.1 vwCl [(h2, aI V 1 (upd (fun _ => 0) 0 1)), (h3, aI V 1 (upd (fun _ => 0) 0 10)), (h6, aI V 4 (fun _ => 0)), (h0, .inr (8, [.int 0, .int 1, .ref h7, .ref h8, .ref h3, .int 1, .int 1, .ref (y 19), .ref h9, .ref h4, .ref h6, .ref h1, .ref h5, .ref h2, .int 0, .int 0, .int 1])), (h8, aI V 1 (fun _ => 0))] H := hP
  have hD : va_D A [(h2, aI V 1 (upd (fun _ => 0) 0 1)), (h3, aI V 1 (upd (fun _ => 0) 0 10)), (h6, aI V 4 (fun _ => 0)), (h0, .inr (8, [.int 0, .int 1, .ref h7, .ref h8, .ref h3, .int 1, .int 1, .ref (y 19), .ref h9, .ref h4, .ref h6, .ref h1, .ref h5, .ref h2, .int 0, .int 0, .int 1])), (h8, aI V 1 (fun _ => 0))] := hD
  exact fiV hx hb hr hlk hK hP hD hS dX8_spreadByLots_12 (Nat.le_of_ble_eq_true rfl) (Nat.le_of_ble_eq_true rfl) (rfl)
set_option maxHeartbeats 4000000 in
set_option maxRecDepth 100000 in
theorem c_X9_greatestCommon_1 (l : Launch) (V : GV) : Ct l V yX9_greatestCommon (.code yX9_greatestCommon cX9_greatestCommon 6 (some .int)) 1 [.int 0, .int 10] [] 0 0 (QI V (fun (r : Int32) (w : va_W) => (r = 10 ∧ w = []))) := by
  refine Ct.of (by decide) (Nat.le_of_ble_eq_true rfl) (fun p e s m below meth c A ls hx hb hr hml hown hlk hnm hg hP hK hD hE hA hS hl => ?_)
  have hl : lv_has ls 6 [(0, .int 0), (1, .int 10)] := hl
  refine lv_iload_n hx hb dX9_greatestCommon_0 rfl (lv_at hl 0 rfl) ?_
  refine lv_istore_n (lv' := [(2, .int 0), (0, .int 0), (1, .int 10)]) hx hb dX9_greatestCommon_1 rfl hl (by decide) rfl (fun ls hl => ?_)
  refine lv_iload_n hx hb dX9_greatestCommon_2 rfl (lv_at hl 2 rfl) ?_
  refine lv_istore_n (lv' := [(3, .int 10), (2, .int 0), (0, .int 0), (1, .int 10)]) hx hb dX9_greatestCommon_3 rfl hl (by decide) rfl (fun ls hl => ?_)
  refine lv_iconst (v := 0) hx hb dX9_greatestCommon_4 (by decide) ?_
  refine lv_istore (lv' := [(4, .int 0), (3, .int 10), (2, .int 0), (0, .int 0), (1, .int 10)]) hx hb dX9_greatestCommon_5 hl (by decide) rfl (fun ls hl => ?_)
  refine lv_iload hx hb dX9_greatestCommon_7 (lv_at hl 0 rfl) ?_
  refine lv_bipush (v := 100) hx hb dX9_greatestCommon_9 (by decide) ?_
  refine lv_icmp_ge (tgt := 34) hx hb dX9_greatestCommon_11 (by decide) (fun c_1 => absurd c_1 (by decide)) (fun _ => ?_)
  refine lv_iload_n hx hb dX9_greatestCommon_14 rfl (lv_at hl 1 rfl) ?_
  refine lv_if_eq (tgt := 34) hx hb dX9_greatestCommon_15 (by decide) (fun c_2 => absurd c_2 (by decide)) (fun _ => ?_)
  refine lv_iload_n hx hb dX9_greatestCommon_18 rfl (lv_at hl 2 rfl) ?_
  refine lv_iload_n hx hb dX9_greatestCommon_19 rfl (lv_at hl 1 rfl) ?_
  refine lv_irem hx hb dX9_greatestCommon_20 (by decide) ?_
  refine tpi (y := 0) (by decide +kernel) ?_
  refine lv_istore (lv' := [(5, .int 0), (4, .int 0), (3, .int 10), (2, .int 0), (0, .int 0), (1, .int 10)]) hx hb dX9_greatestCommon_21 hl (by decide) rfl (fun ls hl => ?_)
  refine lv_iload_n hx hb dX9_greatestCommon_23 rfl (lv_at hl 2 rfl) ?_
  refine lv_istore_n (lv' := [(2, .int 10), (5, .int 0), (4, .int 0), (3, .int 10), (0, .int 0), (1, .int 10)]) hx hb dX9_greatestCommon_24 rfl hl (by decide) rfl (fun ls hl => ?_)
  refine lv_iload hx hb dX9_greatestCommon_25 (lv_at hl 1 rfl) ?_
  refine lv_istore_n (lv' := [(3, .int 0), (2, .int 10), (5, .int 0), (4, .int 0), (0, .int 0), (1, .int 10)]) hx hb dX9_greatestCommon_27 rfl hl (by decide) rfl (fun ls hl => ?_)
  refine lv_iinc (v := 1) (lv' := [(4, .int 1), (3, .int 0), (2, .int 10), (5, .int 0), (0, .int 0), (1, .int 10)]) hx hb dX9_greatestCommon_28 hl (k := 3) rfl (by decide +kernel) (by decide) rfl (fun ls hl => ?_)
  refine lv_goto (tgt := 7) hx hb dX9_greatestCommon_31 (by decide) ?_
  refine lv_iload hx hb dX9_greatestCommon_7 (lv_at hl 0 rfl) ?_
  refine lv_bipush (v := 100) hx hb dX9_greatestCommon_9 (by decide) ?_
  refine lv_icmp_ge (tgt := 34) hx hb dX9_greatestCommon_11 (by decide) (fun c_3 => absurd c_3 (by decide)) (fun _ => ?_)
  refine lv_iload_n hx hb dX9_greatestCommon_14 rfl (lv_at hl 1 rfl) ?_
  refine lv_if_eq (tgt := 34) hx hb dX9_greatestCommon_15 (by decide) (fun _ => ?_) (fun c_4 => absurd c_4 (by decide))
  refine lv_iload_n hx hb dX9_greatestCommon_34 rfl (lv_at hl 2 rfl) ?_
  exact fiI hx hb hr hlk hK hP hD hS dX9_greatestCommon_35 (Nat.le_of_ble_eq_true rfl) (Nat.le_of_ble_eq_true rfl) (⟨rfl, rfl⟩)
theorem dX9_inLowestTerms_11 : decode cX9_inLowestTerms 11 = .ok (.iload_n 3, 1) := by decide +kernel
theorem dX9_inLowestTerms_12 : decode cX9_inLowestTerms 12 = .ok (.bipush 10, 2) := by decide +kernel
theorem dX9_inLowestTerms_14 : decode cX9_inLowestTerms 14 = .ok (.imul, 1) := by decide +kernel
theorem dX9_inLowestTerms_15 : decode cX9_inLowestTerms 15 = .ok (.istore_n 3, 1) := by decide +kernel
theorem dX9_inLowestTerms_16 : decode cX9_inLowestTerms 16 = .ok (.iinc 4 1, 3) := by decide +kernel
theorem dX9_inLowestTerms_19 : decode cX9_inLowestTerms 19 = .ok (.goto (-14), 3) := by decide +kernel
set_option maxHeartbeats 4000000 in
set_option maxRecDepth 100000 in
theorem c_X9_inLowestTerms_1 (l : Launch) (V : GV) (p0 : Int32) : Ct l V yX9_inLowestTerms (.code yX9_inLowestTerms cX9_inLowestTerms 5 (some .int)) 2 [.int 0, .int 1, .int p0] [] 0 0 (QI V (fun (r : Int32) (w : va_W) => ((¬ p0 = 0) ∧ r = 1 ∧ w = []) ∨ (p0 = 0 ∧ r = 0 ∧ w = []))) := by
  refine Ct.of (by decide) (Nat.le_of_ble_eq_true rfl) (fun p e s m below meth c A ls hx hb hr hml hown hlk hnm hg hP hK hD hE hA hS hl => ?_)
  have hl : lv_has ls 5 [(0, .int 0), (1, .int 1), (2, .int p0)] := hl
  refine lv_iconst (v := 1) hx hb dX9_inLowestTerms_0 (by decide) ?_
  refine lv_istore_n (lv' := [(3, .int 1), (0, .int 0), (1, .int 1), (2, .int p0)]) hx hb dX9_inLowestTerms_1 rfl hl (by decide) rfl (fun ls hl => ?_)
  refine lv_iconst (v := 0) hx hb dX9_inLowestTerms_2 (by decide) ?_
  refine lv_istore (lv' := [(4, .int 0), (3, .int 1), (0, .int 0), (1, .int 1), (2, .int p0)]) hx hb dX9_inLowestTerms_3 hl (by decide) rfl (fun ls hl => ?_)
  refine lv_iload hx hb dX9_inLowestTerms_5 (lv_at hl 0 rfl) ?_
  refine lv_iload_n hx hb dX9_inLowestTerms_7 rfl (lv_at hl 3 rfl) ?_
  refine lv_icmp_ge (tgt := 22) hx hb dX9_inLowestTerms_8 (by decide) (fun c_1 => absurd c_1 (by decide)) (fun _ => ?_)
  refine lv_iload_n hx hb dX9_inLowestTerms_11 rfl (lv_at hl 1 rfl) ?_
  refine lv_bipush (v := 10) hx hb dX9_inLowestTerms_12 (by decide) ?_
  refine lv_imul hx hb dX9_inLowestTerms_14 ?_
  refine tpi (y := 10) (by decide +kernel) ?_
  refine lv_istore_n (lv' := [(3, .int 10), (4, .int 0), (0, .int 0), (1, .int 1), (2, .int p0)]) hx hb dX9_inLowestTerms_15 rfl hl (by decide) rfl (fun ls hl => ?_)
  refine lv_iinc (v := 1) (lv' := [(4, .int 1), (3, .int 10), (0, .int 0), (1, .int 1), (2, .int p0)]) hx hb dX9_inLowestTerms_16 hl (k := 1) rfl (by decide +kernel) (by decide) rfl (fun ls hl => ?_)
  refine lv_goto (tgt := 5) hx hb dX9_inLowestTerms_19 (by decide) ?_
  refine lv_iload hx hb dX9_inLowestTerms_5 (lv_at hl 0 rfl) ?_
  refine lv_iload_n hx hb dX9_inLowestTerms_7 rfl (lv_at hl 3 rfl) ?_
  refine lv_icmp_ge (tgt := 22) hx hb dX9_inLowestTerms_8 (by decide) (fun _ => ?_) (fun c_2 => absurd c_2 (by decide))
  refine lv_iload_n hx hb dX9_inLowestTerms_22 rfl (lv_at hl 2 rfl) ?_
  refine lv_iload_n hx hb dX9_inLowestTerms_23 rfl (lv_at hl 1 rfl) ?_
  refine jnI (wr := []) (rnS (rest := []) ⟨hx, hb, hml, hown, hg⟩ (c_X9_greatestCommon_1 l V) mt_X9_greatestCommon q_5_166 ⟨Nat.le_of_ble_eq_true rfl, Nat.le_of_ble_eq_true rfl⟩ hK hP hD hS hA hE [] rfl rfl rfl hl.1 rfl (Nat.le_of_ble_eq_true rfl) dX9_inLowestTerms_24 ⟨Nat.le_of_ble_eq_true rfl, Nat.le_of_ble_eq_true rfl⟩) hP hD hS hA [] [] rfl rfl rfl (by decide) (fun r_3 w H locs hw hP hD hS => ?_)
  obtain ⟨rfl, rfl⟩ := hw
  have hP : va_P V.1 vwCl [] H := hP
  have hD : va_D A [] := hD
  refine lv_istore (lv' := [(4, .int 10), (3, .int 10), (0, .int 0), (1, .int 1), (2, .int p0)]) hx hb dX9_inLowestTerms_27 hl (by decide) rfl (fun ls hl => ?_)
  refine lv_iload hx hb dX9_inLowestTerms_29 (lv_at hl 0 rfl) ?_
  refine lv_if_ne (tgt := 36) hx hb dX9_inLowestTerms_31 (by decide) (fun _ => ?_) (fun c_4 => absurd c_4 (by decide))
  refine lv_iload_n hx hb dX9_inLowestTerms_36 rfl (lv_at hl 4 rfl) ?_
  refine lv_if_ne (tgt := 47) hx hb dX9_inLowestTerms_37 (by decide) (fun c_5 => ?_) (fun c_5 => ?_)
  · refine lv_iload_n hx hb dX9_inLowestTerms_47 rfl (lv_at hl 1 rfl) ?_
    refine lv_iload hx hb dX9_inLowestTerms_48 (lv_at hl 0 rfl) ?_
    refine lv_idiv hx hb dX9_inLowestTerms_50 (by decide) ?_
    refine tpi (y := 1) (by decide +kernel) ?_
    exact fiI hx hb hr hlk hK hP hD hS dX9_inLowestTerms_51 (Nat.le_of_ble_eq_true rfl) (Nat.le_of_ble_eq_true rfl) (Or.inl ⟨c_5, rfl, rfl⟩)
  · refine lv_iload_n hx hb dX9_inLowestTerms_40 rfl (lv_at hl 2 rfl) ?_
    refine lv_iload hx hb dX9_inLowestTerms_41 (lv_at hl 0 rfl) ?_
    refine lv_idiv hx hb dX9_inLowestTerms_43 (by decide) ?_
    refine tpi (y := 0) (by decide +kernel) ?_
    refine lv_goto (tgt := 51) hx hb dX9_inLowestTerms_44 (by decide) ?_
    exact fiI hx hb hr hlk hK hP hD hS dX9_inLowestTerms_51 (Nat.le_of_ble_eq_true rfl) (Nat.le_of_ble_eq_true rfl) (Or.inr (⟨c_5, rfl, rfl⟩))
set_option maxHeartbeats 4000000 in
set_option maxRecDepth 100000 in
theorem c_X8_reachTo_5 (l : Launch) (V : GV) (y : Nat → Nat) (h0 : Nat) (h1 : Nat) (h2 : Nat) (h3 : Nat) (h4 : Nat) (h5 : Nat) (h6 : Nat) (h7 : Nat) (h8 : Nat) (h9 : Nat) : Ct l V yX8_reachTo (.code yX8_reachTo cX8_reachTo 3 none) 3 [.ref h0, .int 2] [(h1, aI V 4 (fun _ => 0)), (h2, aI V 4 (fun _ => 0)), (h0, .inr (8, [.int 0, .int 1, .ref h6, .ref h7, .ref h4, .int 1, .int 1, .ref (y 19), .ref h8, .ref h9, .ref h2, .ref h3, .ref h1, .ref h5, .int 0, .int 0, .int 0])), (h6, aI V 1 (fun _ => 0)), (h7, aI V 1 (fun _ => 0)), (h8, aI V 1 (upd (fun _ => 0) 0 1))] 0 0 (QV V (fun (w : va_W) => (w = [(h1, aI V 4 (fun _ => 0)), (h2, aI V 4 (fun _ => 0)), (h0, .inr (8, [.int 0, .int 1, .ref h6, .ref h7, .ref h4, .int 1, .int 1, .ref (y 19), .ref h8, .ref h9, .ref h2, .ref h3, .ref h1, .ref h5, .int 0, .int 0, .int 1])), (h6, aI V 1 (fun _ => 0)), (h7, aI V 1 (fun _ => 0)), (h8, aI V 1 (upd (fun _ => 0) 0 1))]))) := by
  refine Ct.of (by decide) (Nat.le_of_ble_eq_true rfl) (fun p e s m below meth c A ls hx hb hr hml hown hlk hnm hg hP hK hD hE hA hS hl => ?_)
  have hl : lv_has ls 3 [(0, .ref h0), (1, .int 2)] := hl
  refine lv_aload_n hx hb dX8_reachTo_0 rfl (lv_at hl 0 rfl) ?_
  refine va_get (ci := 8) (v := .int 0) (C := RX8) (T := TX8) (N := 17) hx hb hg inX8 hown hK hP 2 rfl rfl 16 (by decide) (hg _ q_4_90) (fun _ h9 => h9) rfl dX8_reachTo_1 ?_
  refine lv_istore_n (lv' := [(2, .int 0), (0, .ref h0), (1, .int 2)]) hx hb dX8_reachTo_4 rfl hl (by decide) rfl (fun ls hl => ?_)
  refine lv_iload_n hx hb dX8_reachTo_5 rfl (lv_at hl 0 rfl) ?_
  refine lv_aload_n hx hb dX8_reachTo_6 rfl (lv_at hl 1 rfl) ?_
  refine va_get (ci := 8) (v := .int 1) (C := RX8) (T := TX8) (N := 17) hx hb hg inX8 hown hK hP 2 rfl rfl 1 (by decide) (hg _ q_4_67) (fun _ h9 => h9) rfl dX8_reachTo_7 ?_
  refine lv_icmp_ge (tgt := 42) hx hb dX8_reachTo_10 (by decide) (fun c_1 => absurd c_1 (by decide)) (fun _ => ?_)
  refine lv_iload_n hx hb dX8_reachTo_13 rfl (lv_at hl 0 rfl) ?_
  refine lv_aload_n hx hb dX8_reachTo_14 rfl (lv_at hl 1 rfl) ?_
  refine va_get (ci := 8) (v := .int 1) (C := RX8) (T := TX8) (N := 17) hx hb hg inX8 hown hK hP 2 rfl rfl 5 (by decide) (hg _ q_4_76) (fun _ h9 => h9) rfl dX8_reachTo_15 ?_
  refine lv_icmp_ge (tgt := 42) hx hb dX8_reachTo_18 (by decide) (fun c_2 => absurd c_2 (by decide)) (fun _ => ?_)
  refine lv_aload_n hx hb dX8_reachTo_21 rfl (lv_at hl 1 rfl) ?_
  refine va_get (ci := 8) (v := .ref h7) (C := RX8) (T := TX8) (N := 17) hx hb hg inX8 hown hK hP 2 rfl rfl 3 (by decide) (hg _ q_4_72) (fun _ h9 => h9) rfl dX8_reachTo_22 ?_
  refine lv_iload_n hx hb dX8_reachTo_25 rfl (lv_at hl 0 rfl) ?_
  refine va_iald hx hb hK hP 4 0 rfl rfl (vin (by decide +kernel)) dX8_reachTo_26 ?_
  refine tpi (y := 0) (rfl) ?_
  refine lv_iload_n hx hb dX8_reachTo_27 rfl (lv_at hl 2 rfl) ?_
  refine lv_icmp_ge (tgt := 42) hx hb dX8_reachTo_28 (by decide) (fun c_3 => absurd c_3 (by decide)) (fun _ => ?_)
  refine lv_aload_n hx hb dX8_reachTo_31 rfl (lv_at hl 1 rfl) ?_
  refine lv_iload_n hx hb dX8_reachTo_32 rfl (lv_at hl 0 rfl) ?_
  refine jnV (wr := []) (rnV (rest := []) ⟨hx, hb, hml, hown, hg⟩ (c_X8_open_1 l V y h0 h1 h2 h6 h7 h4 h8 h9 h3 h5) mt_X8_open q_4_140 ⟨Nat.le_of_ble_eq_true rfl, Nat.le_of_ble_eq_true rfl⟩ hK hP hD hS hA hE [0, 1, 2, 3, 4, 5] rfl rfl 2 rfl rfl rfl rfl hl.1 rfl (Nat.le_of_ble_eq_true rfl) dX8_reachTo_33 ⟨Nat.le_of_ble_eq_true rfl, Nat.le_of_ble_eq_true rfl⟩) hP hD hS hA [0, 1, 2, 3, 4, 5] [] rfl rfl rfl (by decide) (fun  w H locs hw hP hD hS => ?_)
  subst hw
  have hP : va_P V.1 vwCl [(h1, aI V 4 (fun _ => 0)), (h2, aI V 4 (fun _ => 0)), (h0, .inr (8, [.int 0, .int 1, .ref h6, .ref h7, .ref h4, .int 1, .int 1, .ref (y 19), .ref h8, .ref h9, .ref h2, .ref h3, .ref h1, .ref h5, .int 0, .int 0, .int 1])), (h6, aI V 1 (fun _ => 0)), (h7, aI V 1 (fun _ => 0)), (h8, aI V 1 (upd (fun _ => 0) 0 1))] H := hP
  have hD : va_D A [(h1, aI V 4 (fun _ => 0)), (h2, aI V 4 (fun _ => 0)), (h0, .inr (8, [.int 0, .int 1, .ref h6, .ref h7, .ref h4, .int 1, .int 1, .ref (y 19), .ref h8, .ref h9, .ref h2, .ref h3, .ref h1, .ref h5, .int 0, .int 0, .int 1])), (h6, aI V 1 (fun _ => 0)), (h7, aI V 1 (fun _ => 0)), (h8, aI V 1 (upd (fun _ => 0) 0 1))] := hD
  refine lv_iinc (v := 1) (lv' := [(2, .int 1), (0, .ref h0), (1, .int 2)]) hx hb dX8_reachTo_36 hl (k := 0) rfl (by decide +kernel) (by decide) rfl (fun ls hl => ?_)
  refine lv_goto (tgt := 5) hx hb dX8_reachTo_39 (by decide) ?_
  refine lv_iload_n hx hb dX8_reachTo_5 rfl (lv_at hl 0 rfl) ?_
  refine lv_aload_n hx hb dX8_reachTo_6 rfl (lv_at hl 1 rfl) ?_
  refine va_get (ci := 8) (v := .int 1) (C := RX8) (T := TX8) (N := 17) hx hb hg inX8 hown hK hP 2 rfl rfl 1 (by decide) (hg _ q_4_67) (fun _ h9 => h9) rfl dX8_reachTo_7 ?_
  refine lv_icmp_ge (tgt := 42) hx hb dX8_reachTo_10 (by decide) (fun _ => ?_) (fun c_4 => absurd c_4 (by decide))
  exact fiV hx hb hr hlk hK hP hD hS dX8_reachTo_42 (Nat.le_of_ble_eq_true rfl) (Nat.le_of_ble_eq_true rfl) (rfl)
set_option maxHeartbeats 4000000 in
set_option maxRecDepth 100000 in
theorem c_X9_waysFromNow_3 (l : Launch) (V : GV) (y : Nat → Nat) : Ct l V yX9_waysFromNow (.code yX9_waysFromNow cX9_waysFromNow 2 (some (.object "BeaconDelay$Ways"))) 4 [.ref (y 0), .int 2] [(y 0, .inr (9, [.ref (y 1), .int 0, .ref (y 2), .ref (y 10), .ref (y 19), .ref (y 25), .ref (y 26), .ref (y 30), .ref (y 31), .ref (y 32), .null, .null, .int 0, .int 0, .int 0])), (y 2, .inr (1, [.int 0, .int 0, .int 0, .int 0, .int 0, .int 0, .ref (y 3), .ref (y 4), .ref (y 5), .ref (y 6), .ref (y 7), .ref (y 8), .ref (y 9), .int 0, .int 0, .int 0, .int 0, .int 0]))] 10 32 (QR V (fun (r : Nat) (w : va_W) => (∃ (q_1 : Nat) (q_2 : Nat) (q_3 : Nat) (q_4 : Nat) (q_5 : Nat) (q_6 : Nat) (q_7 : Nat) (q_8 : Nat) (q_9 : Nat) (q_10 : Nat), q_1 = r ∧ w = [(y 0, .inr (9, [.ref (y 1), .int 0, .ref (y 2), .ref (y 10), .ref (y 19), .ref (y 25), .ref (y 26), .ref (y 30), .ref (y 31), .ref (y 32), .ref q_1, .null, .int 0, .int 0, .int 0])), (y 2, .inr (1, [.int 0, .int 0, .int 0, .int 0, .int 0, .int 0, .ref (y 3), .ref (y 4), .ref (y 5), .ref (y 6), .ref (y 7), .ref (y 8), .ref (y 9), .int 0, .int 0, .int 0, .int 0, .int 0])), (q_8, aI V 1 (fun _ => 0)), (q_9, aI V 1 (fun _ => 0)), (q_10, aI V 1 (fun _ => 0)), (q_6, aI V 1 (fun _ => 0)), (q_2, aI V 4 (fun _ => 0)), (q_7, aI V 4 (fun _ => 0)), (q_1, .inr (8, [.int 0, .int 1, .ref q_3, .ref q_4, .ref q_9, .int 1, .int 1, .ref (y 19), .ref q_5, .ref q_6, .ref q_7, .ref q_8, .ref q_2, .ref q_10, .int 0, .int 0, .int 1])), (q_3, aI V 1 (fun _ => 0)), (q_4, aI V 1 (fun _ => 0)), (q_5, aI V 1 (upd (fun _ => 0) 0 1))]))) := by
  refine Ct.of (by decide) (Nat.le_of_ble_eq_true rfl) (fun p e s m below meth c A ls hx hb hr hml hown hlk hnm hg hP hK hD hE hA hS hl => ?_)
  have hl : lv_has ls 2 [(0, .ref (y 0)), (1, .int 2)] := hl
  refine lv_aload_n hx hb dX9_waysFromNow_0 rfl (lv_at hl 0 rfl) ?_
  refine va_get (ci := 9) (v := .null) (C := RX9) (T := TX9) (N := 15) hx hb hg inX9 hown hK hP 0 rfl rfl 10 (by decide) (hg _ q_2_46) (fun _ h9 => h9) rfl dX9_waysFromNow_1 ?_
  refine lv_ifnullN (tgt := 24) hx hb dX9_waysFromNow_4 (by decide) ?_
  refine lv_aload_n hx hb dX9_waysFromNow_24 rfl (lv_at hl 0 rfl) ?_
  refine va_new (ci := 8) (fs := [.int 0, .int 0, .null, .null, .null, .int 0, .int 0, .null, .null, .null, .null, .null, .null, .null, .int 0, .int 0, .int 0]) (C := RX8) (T := TX8) (N := 17) hx hb hg inX8 tyX8 tyX8_ok hown (hg _ q_4_56) (hg _ q_4_57) (hg _ q_1_18) hK hP hD hS hA rfl dfX8 (Nat.le_of_ble_eq_true rfl) (Nat.le_of_ble_eq_true rfl) dX9_waysFromNow_25 (fun q_1 H hP hD hS => ?_)
  refine W.widen (k := 1) (n := 17) (Nat.le_of_ble_eq_true rfl) (Nat.le_of_ble_eq_true rfl) ?_
  have hP : va_P V.1 vwCl [(y 0, .inr (9, [.ref (y 1), .int 0, .ref (y 2), .ref (y 10), .ref (y 19), .ref (y 25), .ref (y 26), .ref (y 30), .ref (y 31), .ref (y 32), .null, .null, .int 0, .int 0, .int 0])), (y 2, .inr (1, [.int 0, .int 0, .int 0, .int 0, .int 0, .int 0, .ref (y 3), .ref (y 4), .ref (y 5), .ref (y 6), .ref (y 7), .ref (y 8), .ref (y 9), .int 0, .int 0, .int 0, .int 0, .int 0])), (q_1, .inr (8, [.int 0, .int 0, .null, .null, .null, .int 0, .int 0, .null, .null, .null, .null, .null, .null, .null, .int 0, .int 0, .int 0]))] H := hP
  have hD : va_D A [(y 0, .inr (9, [.ref (y 1), .int 0, .ref (y 2), .ref (y 10), .ref (y 19), .ref (y 25), .ref (y 26), .ref (y 30), .ref (y 31), .ref (y 32), .null, .null, .int 0, .int 0, .int 0])), (y 2, .inr (1, [.int 0, .int 0, .int 0, .int 0, .int 0, .int 0, .ref (y 3), .ref (y 4), .ref (y 5), .ref (y 6), .ref (y 7), .ref (y 8), .ref (y 9), .int 0, .int 0, .int 0, .int 0, .int 0])), (q_1, .inr (8, [.int 0, .int 0, .null, .null, .null, .int 0, .int 0, .null, .null, .null, .null, .null, .null, .null, .int 0, .int 0, .int 0]))] := hD
  refine lv_dup hx hb dX9_waysFromNow_28 rfl ?_
  refine lv_aload_n hx hb dX9_waysFromNow_29 rfl (lv_at hl 0 rfl) ?_
  refine va_get (ci := 9) (v := .ref (y 19)) (C := RX9) (T := TX9) (N := 15) hx hb hg inX9 hown hK hP 0 rfl rfl 4 (by decide) (hg _ q_2_40) (fun _ h9 => h9) rfl dX9_waysFromNow_30 ?_
  refine lv_aload_n hx hb dX9_waysFromNow_33 rfl (lv_at hl 0 rfl) ?_
  refine va_get (ci := 9) (v := .ref (y 2)) (C := RX9) (T := TX9) (N := 15) hx hb hg inX9 hown hK hP 0 rfl rfl 2 (by decide) (hg _ q_2_38) (fun _ h9 => h9) rfl dX9_waysFromNow_34 ?_
  refine va_get (ci := 1) (v := .int 0) (C := RX1) (T := TX1) (N := 18) hx hb hg inX1 hown hK hP 1 rfl rfl 1 (by decide) (hg _ q_1_41) (fun _ h9 => h9) rfl dX9_waysFromNow_37 ?_
  refine jnV (wr := [(y 0, .inr (9, [.ref (y 1), .int 0, .ref (y 2), .ref (y 10), .ref (y 19), .ref (y 25), .ref (y 26), .ref (y 30), .ref (y 31), .ref (y 32), .null, .null, .int 0, .int 0, .int 0])), (y 2, .inr (1, [.int 0, .int 0, .int 0, .int 0, .int 0, .int 0, .ref (y 3), .ref (y 4), .ref (y 5), .ref (y 6), .ref (y 7), .ref (y 8), .ref (y 9), .int 0, .int 0, .int 0, .int 0, .int 0]))]) (rnI (rest := [.ref q_1, .ref (y 0)]) ⟨hx, hb, hml, hown, hg⟩ (c_X8_init_0 l V y q_1) mt_X8_init q_4_58 ⟨Nat.le_of_ble_eq_true rfl, Nat.le_of_ble_eq_true rfl⟩ hK hP hD hS hA hE [2] rfl rfl rfl hl.1 rfl (Nat.le_of_ble_eq_true rfl) dX9_waysFromNow_40 ⟨Nat.le_of_ble_eq_true rfl, Nat.le_of_ble_eq_true rfl⟩) hP hD hS hA [2] [0, 1] rfl rfl rfl (by decide) (fun  w H locs hw hP hD hS => ?_)
  refine W.widen (k := 10) (n := 32) (Nat.le_of_ble_eq_true rfl) (Nat.le_of_ble_eq_true rfl) ?_
  obtain ⟨q_2, q_3, q_4, q_5, q_6, q_7, q_8, q_9, q_10, rfl⟩ := hw
  have hP : va_P V.1 vwCl [(y 0, .inr (9, [.ref (y 1), .int 0, .ref (y 2), .ref (y 10), .ref (y 19), .ref (y 25), .ref (y 26), .ref (y 30), .ref (y 31), .ref (y 32), .null, .null, .int 0, .int 0, .int 0])), (y 2, .inr (1, [.int 0, .int 0, .int 0, .int 0, .int 0, .int 0, .ref (y 3), .ref (y 4), .ref (y 5), .ref (y 6), .ref (y 7), .ref (y 8), .ref (y 9), .int 0, .int 0, .int 0, .int 0, .int 0])), (q_1, .inr (8, [.int 0, .int 1, .ref q_3, .ref q_4, .ref q_9, .int 0, .int 0, .ref (y 19), .ref q_5, .ref q_6, .ref q_7, .ref q_8, .ref q_2, .ref q_10, .int 0, .int 0, .int 0])), (q_2, aI V 4 (fun _ => 0)), (q_3, aI V 1 (fun _ => 0)), (q_4, aI V 1 (fun _ => 0)), (q_5, aI V 1 (fun _ => 0)), (q_6, aI V 1 (fun _ => 0)), (q_7, aI V 4 (fun _ => 0)), (q_8, aI V 1 (fun _ => 0)), (q_9, aI V 1 (fun _ => 0)), (q_10, aI V 1 (fun _ => 0))] H := hP
  have hD : va_D A [(y 0, .inr (9, [.ref (y 1), .int 0, .ref (y 2), .ref (y 10), .ref (y 19), .ref (y 25), .ref (y 26), .ref (y 30), .ref (y 31), .ref (y 32), .null, .null, .int 0, .int 0, .int 0])), (y 2, .inr (1, [.int 0, .int 0, .int 0, .int 0, .int 0, .int 0, .ref (y 3), .ref (y 4), .ref (y 5), .ref (y 6), .ref (y 7), .ref (y 8), .ref (y 9), .int 0, .int 0, .int 0, .int 0, .int 0])), (q_1, .inr (8, [.int 0, .int 1, .ref q_3, .ref q_4, .ref q_9, .int 0, .int 0, .ref (y 19), .ref q_5, .ref q_6, .ref q_7, .ref q_8, .ref q_2, .ref q_10, .int 0, .int 0, .int 0])), (q_2, aI V 4 (fun _ => 0)), (q_3, aI V 1 (fun _ => 0)), (q_4, aI V 1 (fun _ => 0)), (q_5, aI V 1 (fun _ => 0)), (q_6, aI V 1 (fun _ => 0)), (q_7, aI V 4 (fun _ => 0)), (q_8, aI V 1 (fun _ => 0)), (q_9, aI V 1 (fun _ => 0)), (q_10, aI V 1 (fun _ => 0))] := hD
  refine va_put (ci := 9) (v := .ref q_1) (ty := (.object "BeaconDelay$Ways")) (C := RX9) (T := TX9) (N := 15) hx hb hg inX9 tyX9 tyX9_ok nmX9 hown hK hP hD hS 0 rfl rfl 10 (by decide) (hg _ q_2_46) (fun _ h9 => h9) rfl (by decide +kernel) rfl rfl (Nat.le_of_ble_eq_true rfl) dX9_waysFromNow_43 (fun H locs hP hD hS => ?_)
  have hP : va_P V.1 vwCl [(y 0, .inr (9, [.ref (y 1), .int 0, .ref (y 2), .ref (y 10), .ref (y 19), .ref (y 25), .ref (y 26), .ref (y 30), .ref (y 31), .ref (y 32), .ref q_1, .null, .int 0, .int 0, .int 0])), (y 2, .inr (1, [.int 0, .int 0, .int 0, .int 0, .int 0, .int 0, .ref (y 3), .ref (y 4), .ref (y 5), .ref (y 6), .ref (y 7), .ref (y 8), .ref (y 9), .int 0, .int 0, .int 0, .int 0, .int 0])), (q_1, .inr (8, [.int 0, .int 1, .ref q_3, .ref q_4, .ref q_9, .int 0, .int 0, .ref (y 19), .ref q_5, .ref q_6, .ref q_7, .ref q_8, .ref q_2, .ref q_10, .int 0, .int 0, .int 0])), (q_2, aI V 4 (fun _ => 0)), (q_3, aI V 1 (fun _ => 0)), (q_4, aI V 1 (fun _ => 0)), (q_5, aI V 1 (fun _ => 0)), (q_6, aI V 1 (fun _ => 0)), (q_7, aI V 4 (fun _ => 0)), (q_8, aI V 1 (fun _ => 0)), (q_9, aI V 1 (fun _ => 0)), (q_10, aI V 1 (fun _ => 0))] H := hP
  have hD : va_D A [(y 0, .inr (9, [.ref (y 1), .int 0, .ref (y 2), .ref (y 10), .ref (y 19), .ref (y 25), .ref (y 26), .ref (y 30), .ref (y 31), .ref (y 32), .ref q_1, .null, .int 0, .int 0, .int 0])), (y 2, .inr (1, [.int 0, .int 0, .int 0, .int 0, .int 0, .int 0, .ref (y 3), .ref (y 4), .ref (y 5), .ref (y 6), .ref (y 7), .ref (y 8), .ref (y 9), .int 0, .int 0, .int 0, .int 0, .int 0])), (q_1, .inr (8, [.int 0, .int 1, .ref q_3, .ref q_4, .ref q_9, .int 0, .int 0, .ref (y 19), .ref q_5, .ref q_6, .ref q_7, .ref q_8, .ref q_2, .ref q_10, .int 0, .int 0, .int 0])), (q_2, aI V 4 (fun _ => 0)), (q_3, aI V 1 (fun _ => 0)), (q_4, aI V 1 (fun _ => 0)), (q_5, aI V 1 (fun _ => 0)), (q_6, aI V 1 (fun _ => 0)), (q_7, aI V 4 (fun _ => 0)), (q_8, aI V 1 (fun _ => 0)), (q_9, aI V 1 (fun _ => 0)), (q_10, aI V 1 (fun _ => 0))] := hD
  refine lv_aload_n hx hb dX9_waysFromNow_46 rfl (lv_at hl 0 rfl) ?_
  refine va_get (ci := 9) (v := .ref q_1) (C := RX9) (T := TX9) (N := 15) hx hb hg inX9 hown hK hP 0 rfl rfl 10 (by decide) (hg _ q_2_46) (fun _ h9 => h9) rfl dX9_waysFromNow_47 ?_
  refine lv_aload_n hx hb dX9_waysFromNow_50 rfl (lv_at hl 0 rfl) ?_
  refine va_get (ci := 9) (v := .ref (y 2)) (C := RX9) (T := TX9) (N := 15) hx hb hg inX9 hown hK hP 0 rfl rfl 2 (by decide) (hg _ q_2_38) (fun _ h9 => h9) rfl dX9_waysFromNow_51 ?_
  refine va_get (ci := 1) (v := .int 0) (C := RX1) (T := TX1) (N := 18) hx hb hg inX1 hown hK hP 1 rfl rfl 1 (by decide) (hg _ q_1_41) (fun _ h9 => h9) rfl dX9_waysFromNow_54 ?_
  refine lv_aload_n hx hb dX9_waysFromNow_57 rfl (lv_at hl 0 rfl) ?_
  refine va_get (ci := 9) (v := .int 0) (C := RX9) (T := TX9) (N := 15) hx hb hg inX9 hown hK hP 0 rfl rfl 12 (by decide) (hg _ q_2_48) (fun _ h9 => h9) rfl dX9_waysFromNow_58 ?_
  refine lv_aload_n hx hb dX9_waysFromNow_61 rfl (lv_at hl 0 rfl) ?_
  refine va_get (ci := 9) (v := .int 0) (C := RX9) (T := TX9) (N := 15) hx hb hg inX9 hown hK hP 0 rfl rfl 13 (by decide) (hg _ q_2_49) (fun _ h9 => h9) rfl dX9_waysFromNow_62 ?_
  refine jnV (wr := [(y 0, .inr (9, [.ref (y 1), .int 0, .ref (y 2), .ref (y 10), .ref (y 19), .ref (y 25), .ref (y 26), .ref (y 30), .ref (y 31), .ref (y 32), .ref q_1, .null, .int 0, .int 0, .int 0])), (y 2, .inr (1, [.int 0, .int 0, .int 0, .int 0, .int 0, .int 0, .ref (y 3), .ref (y 4), .ref (y 5), .ref (y 6), .ref (y 7), .ref (y 8), .ref (y 9), .int 0, .int 0, .int 0, .int 0, .int 0])), (q_2, aI V 4 (fun _ => 0)), (q_7, aI V 4 (fun _ => 0)), (q_8, aI V 1 (fun _ => 0)), (q_9, aI V 1 (fun _ => 0)), (q_10, aI V 1 (fun _ => 0))]) (rnV (rest := []) ⟨hx, hb, hml, hown, hg⟩ (c_X8_begin_0 l V y q_1 q_3 q_4 q_9 q_5 q_6 q_7 q_8 q_2 q_10) mt_X8_begin q_4_126 ⟨Nat.le_of_ble_eq_true rfl, Nat.le_of_ble_eq_true rfl⟩ hK hP hD hS hA hE [2, 4, 5, 6, 7] rfl rfl 2 rfl rfl rfl rfl hl.1 rfl (Nat.le_of_ble_eq_true rfl) dX9_waysFromNow_65 ⟨Nat.le_of_ble_eq_true rfl, Nat.le_of_ble_eq_true rfl⟩) hP hD hS hA [2, 4, 5, 6, 7] [0, 1, 3, 8, 9, 10, 11] rfl rfl rfl (by decide) (fun  w H locs hw hP hD hS => ?_)
  subst hw
  have hP : va_P V.1 vwCl [(y 0, .inr (9, [.ref (y 1), .int 0, .ref (y 2), .ref (y 10), .ref (y 19), .ref (y 25), .ref (y 26), .ref (y 30), .ref (y 31), .ref (y 32), .ref q_1, .null, .int 0, .int 0, .int 0])), (y 2, .inr (1, [.int 0, .int 0, .int 0, .int 0, .int 0, .int 0, .ref (y 3), .ref (y 4), .ref (y 5), .ref (y 6), .ref (y 7), .ref (y 8), .ref (y 9), .int 0, .int 0, .int 0, .int 0, .int 0])), (q_2, aI V 4 (fun _ => 0)), (q_7, aI V 4 (fun _ => 0)), (q_8, aI V 1 (fun _ => 0)), (q_9, aI V 1 (fun _ => 0)), (q_10, aI V 1 (fun _ => 0)), (q_1, .inr (8, [.int 0, .int 1, .ref q_3, .ref q_4, .ref q_9, .int 1, .int 1, .ref (y 19), .ref q_5, .ref q_6, .ref q_7, .ref q_8, .ref q_2, .ref q_10, .int 0, .int 0, .int 0])), (q_3, aI V 1 (fun _ => 0)), (q_4, aI V 1 (fun _ => 0)), (q_5, aI V 1 (upd (fun _ => 0) 0 1)), (q_6, aI V 1 (fun _ => 0))] H := hP
  have hD : va_D A [(y 0, .inr (9, [.ref (y 1), .int 0, .ref (y 2), .ref (y 10), .ref (y 19), .ref (y 25), .ref (y 26), .ref (y 30), .ref (y 31), .ref (y 32), .ref q_1, .null, .int 0, .int 0, .int 0])), (y 2, .inr (1, [.int 0, .int 0, .int 0, .int 0, .int 0, .int 0, .ref (y 3), .ref (y 4), .ref (y 5), .ref (y 6), .ref (y 7), .ref (y 8), .ref (y 9), .int 0, .int 0, .int 0, .int 0, .int 0])), (q_2, aI V 4 (fun _ => 0)), (q_7, aI V 4 (fun _ => 0)), (q_8, aI V 1 (fun _ => 0)), (q_9, aI V 1 (fun _ => 0)), (q_10, aI V 1 (fun _ => 0)), (q_1, .inr (8, [.int 0, .int 1, .ref q_3, .ref q_4, .ref q_9, .int 1, .int 1, .ref (y 19), .ref q_5, .ref q_6, .ref q_7, .ref q_8, .ref q_2, .ref q_10, .int 0, .int 0, .int 0])), (q_3, aI V 1 (fun _ => 0)), (q_4, aI V 1 (fun _ => 0)), (q_5, aI V 1 (upd (fun _ => 0) 0 1)), (q_6, aI V 1 (fun _ => 0))] := hD
  refine lv_aload_n hx hb dX9_waysFromNow_68 rfl (lv_at hl 0 rfl) ?_
  refine va_get (ci := 9) (v := .ref q_1) (C := RX9) (T := TX9) (N := 15) hx hb hg inX9 hown hK hP 0 rfl rfl 10 (by decide) (hg _ q_2_46) (fun _ h9 => h9) rfl dX9_waysFromNow_69 ?_
  refine lv_iload_n hx hb dX9_waysFromNow_72 rfl (lv_at hl 1 rfl) ?_
  refine jnV (wr := [(y 0, .inr (9, [.ref (y 1), .int 0, .ref (y 2), .ref (y 10), .ref (y 19), .ref (y 25), .ref (y 26), .ref (y 30), .ref (y 31), .ref (y 32), .ref q_1, .null, .int 0, .int 0, .int 0])), (y 2, .inr (1, [.int 0, .int 0, .int 0, .int 0, .int 0, .int 0, .ref (y 3), .ref (y 4), .ref (y 5), .ref (y 6), .ref (y 7), .ref (y 8), .ref (y 9), .int 0, .int 0, .int 0, .int 0, .int 0])), (q_8, aI V 1 (fun _ => 0)), (q_9, aI V 1 (fun _ => 0)), (q_10, aI V 1 (fun _ => 0)), (q_6, aI V 1 (fun _ => 0))]) (rnV (rest := []) ⟨hx, hb, hml, hown, hg⟩ (c_X8_reachTo_5 l V y q_1 q_2 q_7 q_8 q_9 q_10 q_3 q_4 q_5 q_6) mt_X8_reachTo q_4_136 ⟨Nat.le_of_ble_eq_true rfl, Nat.le_of_ble_eq_true rfl⟩ hK hP hD hS hA hE [2, 3, 7, 8, 9, 10] rfl rfl 7 rfl rfl rfl rfl hl.1 rfl (Nat.le_of_ble_eq_true rfl) dX9_waysFromNow_73 ⟨Nat.le_of_ble_eq_true rfl, Nat.le_of_ble_eq_true rfl⟩) hP hD hS hA [2, 3, 7, 8, 9, 10] [0, 1, 4, 5, 6, 11] rfl rfl rfl (by decide) (fun  w H locs hw hP hD hS => ?_)
  subst hw
  have hP : va_P V.1 vwCl [(y 0, .inr (9, [.ref (y 1), .int 0, .ref (y 2), .ref (y 10), .ref (y 19), .ref (y 25), .ref (y 26), .ref (y 30), .ref (y 31), .ref (y 32), .ref q_1, .null, .int 0, .int 0, .int 0])), (y 2, .inr (1, [.int 0, .int 0, .int 0, .int 0, .int 0, .int 0, .ref (y 3), .ref (y 4), .ref (y 5), .ref (y 6), .ref (y 7), .ref (y 8), .ref (y 9), .int 0, .int 0, .int 0, .int 0, .int 0])), (q_8, aI V 1 (fun _ => 0)), (q_9, aI V 1 (fun _ => 0)), (q_10, aI V 1 (fun _ => 0)), (q_6, aI V 1 (fun _ => 0)), (q_2, aI V 4 (fun _ => 0)), (q_7, aI V 4 (fun _ => 0)), (q_1, .inr (8, [.int 0, .int 1, .ref q_3, .ref q_4, .ref q_9, .int 1, .int 1, .ref (y 19), .ref q_5, .ref q_6, .ref q_7, .ref q_8, .ref q_2, .ref q_10, .int 0, .int 0, .int 1])), (q_3, aI V 1 (fun _ => 0)), (q_4, aI V 1 (fun _ => 0)), (q_5, aI V 1 (upd (fun _ => 0) 0 1))] H := hP
  have hD : va_D A [(y 0, .inr (9, [.ref (y 1), .int 0, .ref (y 2), .ref (y 10), .ref (y 19), .ref (y 25), .ref (y 26), .ref (y 30), .ref (y 31), .ref (y 32), .ref q_1, .null, .int 0, .int 0, .int 0])), (y 2, .inr (1, [.int 0, .int 0, .int 0, .int 0, .int 0, .int 0, .ref (y 3), .ref (y 4), .ref (y 5), .ref (y 6), .ref (y 7), .ref (y 8), .ref (y 9), .int 0, .int 0, .int 0, .int 0, .int 0])), (q_8, aI V 1 (fun _ => 0)), (q_9, aI V 1 (fun _ => 0)), (q_10, aI V 1 (fun _ => 0)), (q_6, aI V 1 (fun _ => 0)), (q_2, aI V 4 (fun _ => 0)), (q_7, aI V 4 (fun _ => 0)), (q_1, .inr (8, [.int 0, .int 1, .ref q_3, .ref q_4, .ref q_9, .int 1, .int 1, .ref (y 19), .ref q_5, .ref q_6, .ref q_7, .ref q_8, .ref q_2, .ref q_10, .int 0, .int 0, .int 1])), (q_3, aI V 1 (fun _ => 0)), (q_4, aI V 1 (fun _ => 0)), (q_5, aI V 1 (upd (fun _ => 0) 0 1))] := hD
  refine lv_aload_n hx hb dX9_waysFromNow_76 rfl (lv_at hl 0 rfl) ?_
  refine va_get (ci := 9) (v := .ref q_1) (C := RX9) (T := TX9) (N := 15) hx hb hg inX9 hown hK hP 0 rfl rfl 10 (by decide) (hg _ q_2_46) (fun _ h9 => h9) rfl dX9_waysFromNow_77 ?_
  exact fiR (Or.inl ⟨_, rfl⟩) hx hb hr hlk hK hP hD hS dX9_waysFromNow_80 (Nat.le_of_ble_eq_true rfl) (Nat.le_of_ble_eq_true rfl) (⟨q_1, q_2, q_3, q_4, q_5, q_6, q_7, q_8, q_9, q_10, rfl, rfl⟩)
set_option maxHeartbeats 4000000 in
set_option maxRecDepth 100000 in
theorem c_J7_fill_fda19_1 (l : Launch) (V : GV) (h0 : Nat) : Ct l V yJ7_fill_fda19 (.code yJ7_fill_fda19 cJ7_fill_fda19 5 none) 2 [.ref h0, .int 0, .int 1, .int 0] [(h0, aI V 1 (upd (fun _ => 0) 0 1))] 0 0 (QV V (fun (w : va_W) => (w = [(h0, aI V 1 (fun _ => 0))]))) := by
  refine Ct.of (by decide) (Nat.le_of_ble_eq_true rfl) (fun p e s m below meth c A ls hx hb hr hml hown hlk hnm hg hP hK hD hE hA hS hl => ?_)
  have hl : lv_has ls 5 [(0, .ref h0), (1, .int 0), (2, .int 1), (3, .int 0)] := hl
  refine lv_aload_n hx hb dJ7_fill_fda19_0 rfl (lv_at hl 0 rfl) ?_
  refine va_alen (v := 1) hx hb hK hP 0 0 rfl rfl (by decide) dJ7_fill_fda19_1 ?_
  refine lv_iload_n hx hb dJ7_fill_fda19_2 rfl (lv_at hl 1 rfl) ?_
  refine lv_iload_n hx hb dJ7_fill_fda19_3 rfl (lv_at hl 2 rfl) ?_
  refine jnV (wr := [(h0, aI V 1 (upd (fun _ => 0) 0 1))]) (rnS (rest := []) ⟨hx, hb, hml, hown, hg⟩ (c_J7_rangeCheck_23922_0 l V) mt_J7_rangeCheck_23922 q_4_175 ⟨Nat.le_of_ble_eq_true rfl, Nat.le_of_ble_eq_true rfl⟩ hK hP hD hS hA hE [] rfl rfl rfl hl.1 rfl (Nat.le_of_ble_eq_true rfl) dJ7_fill_fda19_4 ⟨Nat.le_of_ble_eq_true rfl, Nat.le_of_ble_eq_true rfl⟩) hP hD hS hA [] [0] rfl rfl rfl (by decide) (fun  w H locs hw hP hD hS => ?_)
  subst hw
  have hP : va_P V.1 vwCl [(h0, aI V 1 (upd (fun _ => 0) 0 1))] H := hP
  have hD : va_D A [(h0, aI V 1 (upd (fun _ => 0) 0 1))] := hD
  refine lv_iload_n hx hb dJ7_fill_fda19_7 rfl (lv_at hl 1 rfl) ?_
  refine lv_istore (lv' := [(4, .int 0), (0, .ref h0), (1, .int 0), (2, .int 1), (3, .int 0)]) hx hb dJ7_fill_fda19_8 hl (by decide) rfl (fun ls hl => ?_)
  refine lv_iload hx hb dJ7_fill_fda19_10 (lv_at hl 0 rfl) ?_
  refine lv_iload_n hx hb dJ7_fill_fda19_12 rfl (lv_at hl 3 rfl) ?_
  refine lv_icmp_ge (tgt := 27) hx hb dJ7_fill_fda19_13 (by decide) (fun c_1 => absurd c_1 (by decide)) (fun _ => ?_)
  refine lv_aload_n hx hb dJ7_fill_fda19_16 rfl (lv_at hl 1 rfl) ?_
  refine lv_iload hx hb dJ7_fill_fda19_17 (lv_at hl 0 rfl) ?_
  refine lv_iload_n hx hb dJ7_fill_fda19_19 rfl (lv_at hl 4 rfl) ?_
  refine va_iast hx hb hK hP hD hS 0 0 rfl rfl (vin (by decide +kernel)) dJ7_fill_fda19_20 (fun H locs hP hD hS => ?_)
  have hP : va_P V.1 vwCl [(h0, aI V 1 (upd (upd (fun _ => 0) 0 1) 0 0))] H := hP
  have hD : va_D A [(h0, aI V 1 (upd (upd (fun _ => 0) 0 1) 0 0))] := hD
  have hP : va_P V.1 vwCl [(h0, aI V 1 (fun _ => 0))] H := by rw [updup, upd0] at hP; exact hP
  have hD : va_D A [(h0, aI V 1 (fun _ => 0))] := by rw [updup, upd0] at hD; exact hD
  refine lv_iinc (v := 1) (lv' := [(4, .int 1), (0, .ref h0), (1, .int 0), (2, .int 1), (3, .int 0)]) hx hb dJ7_fill_fda19_21 hl (k := 0) rfl (by decide +kernel) (by decide) rfl (fun ls hl => ?_)
  refine lv_goto (tgt := 10) hx hb dJ7_fill_fda19_24 (by decide) ?_
  refine lv_iload hx hb dJ7_fill_fda19_10 (lv_at hl 0 rfl) ?_
  refine lv_iload_n hx hb dJ7_fill_fda19_12 rfl (lv_at hl 3 rfl) ?_
  refine lv_icmp_ge (tgt := 27) hx hb dJ7_fill_fda19_13 (by decide) (fun _ => ?_) (fun c_2 => absurd c_2 (by decide))
  exact fiV hx hb hr hlk hK hP hD hS dJ7_fill_fda19_27 (Nat.le_of_ble_eq_true rfl) (Nat.le_of_ble_eq_true rfl) (rfl)
set_option maxHeartbeats 4000000 in
set_option maxRecDepth 100000 in
theorem c_X8_behind_3 (l : Launch) (V : GV) (y : Nat → Nat) (h0 : Nat) (h1 : Nat) (h2 : Nat) (h3 : Nat) (h4 : Nat) (h5 : Nat) (h6 : Nat) (h7 : Nat) (h8 : Nat) (h9 : Nat) : Ct l V yX8_behind (.code yX8_behind cX8_behind 3 (some .int)) 1 [.ref h0, .int 0, .int 0] [(h7, aI V 4 (fun _ => 0)), (h0, .inr (8, [.int 0, .int 1, .ref h4, .ref h8, .ref h6, .int 1, .int 1, .ref (y 19), .ref h5, .ref h2, .ref h7, .ref h1, .ref h3, .ref h9, .int 0, .int 0, .int 1]))] 0 0 (QI V (fun (r : Int32) (w : va_W) => (r = 0 ∧ w = [(h7, aI V 4 (fun _ => 0)), (h0, .inr (8, [.int 0, .int 1, .ref h4, .ref h8, .ref h6, .int 1, .int 1, .ref (y 19), .ref h5, .ref h2, .ref h7, .ref h1, .ref h3, .ref h9, .int 0, .int 0, .int 1]))]))) := by
  refine Ct.of (by decide) (Nat.le_of_ble_eq_true rfl) (fun p e s m below meth c A ls hx hb hr hml hown hlk hnm hg hP hK hD hE hA hS hl => ?_)
  have hl : lv_has ls 3 [(0, .ref h0), (1, .int 0), (2, .int 0)] := hl
  refine lv_aload_n hx hb dX8_behind_0 rfl (lv_at hl 0 rfl) ?_
  refine va_get (ci := 8) (v := .ref h7) (C := RX8) (T := TX8) (N := 17) hx hb hg inX8 hown hK hP 1 rfl rfl 10 (by decide) (hg _ q_4_84) (fun _ h9 => h9) rfl dX8_behind_1 ?_
  refine lv_iload_n hx hb dX8_behind_4 rfl (lv_at hl 1 rfl) ?_
  refine lv_iconst (v := 4) hx hb dX8_behind_5 (by decide) ?_
  refine lv_imul hx hb dX8_behind_6 ?_
  refine tpi (y := 0) (by decide +kernel) ?_
  refine lv_iload_n hx hb dX8_behind_7 rfl (lv_at hl 2 rfl) ?_
  refine lv_iadd hx hb dX8_behind_8 ?_
  refine tpi (y := 0) (by decide +kernel) ?_
  refine va_iald hx hb hK hP 0 0 rfl rfl (vin (by decide +kernel)) dX8_behind_9 ?_
  refine tpi (y := 0) (rfl) ?_
  exact fiI hx hb hr hlk hK hP hD hS dX8_behind_10 (Nat.le_of_ble_eq_true rfl) (Nat.le_of_ble_eq_true rfl) (⟨rfl, rfl⟩)
set_option maxHeartbeats 4000000 in
set_option maxRecDepth 100000 in
theorem c_X8_behind_4 (l : Launch) (V : GV) (y : Nat → Nat) (h0 : Nat) (h1 : Nat) (h2 : Nat) (h3 : Nat) (h4 : Nat) (h5 : Nat) (h6 : Nat) (h7 : Nat) (h8 : Nat) (h9 : Nat) : Ct l V yX8_behind (.code yX8_behind cX8_behind 3 (some .int)) 1 [.ref h0, .int 0, .int 0] [(h2, aI V 4 (fun _ => 0)), (h0, .inr (8, [.int 0, .int 1, .ref h4, .ref h3, .ref h1, .int 1, .int 1, .ref (y 19), .ref h5, .ref h6, .ref h2, .ref h7, .ref h8, .ref h9, .int 0, .int 0, .int 1]))] 0 0 (QI V (fun (r : Int32) (w : va_W) => (r = 0 ∧ w = [(h2, aI V 4 (fun _ => 0)), (h0, .inr (8, [.int 0, .int 1, .ref h4, .ref h3, .ref h1, .int 1, .int 1, .ref (y 19), .ref h5, .ref h6, .ref h2, .ref h7, .ref h8, .ref h9, .int 0, .int 0, .int 1]))]))) := by
  refine Ct.of (by decide) (Nat.le_of_ble_eq_true rfl) (fun p e s m below meth c A ls hx hb hr hml hown hlk hnm hg hP hK hD hE hA hS hl => ?_)
  have hl : lv_has ls 3 [(0, .ref h0), (1, .int 0), (2, .int 0)] := hl
  refine lv_aload_n hx hb dX8_behind_0 rfl (lv_at hl 0 rfl) ?_
  refine va_get (ci := 8) (v := .ref h2) (C := RX8) (T := TX8) (N := 17) hx hb hg inX8 hown hK hP 1 rfl rfl 10 (by decide) (hg _ q_4_84) (fun _ h9 => h9) rfl dX8_behind_1 ?_
  refine lv_iload_n hx hb dX8_behind_4 rfl (lv_at hl 1 rfl) ?_
  refine lv_iconst (v := 4) hx hb dX8_behind_5 (by decide) ?_
  refine lv_imul hx hb dX8_behind_6 ?_
  refine tpi (y := 0) (by decide +kernel) ?_
  refine lv_iload_n hx hb dX8_behind_7 rfl (lv_at hl 2 rfl) ?_
  refine lv_iadd hx hb dX8_behind_8 ?_
  refine tpi (y := 0) (by decide +kernel) ?_
  refine va_iald hx hb hK hP 0 0 rfl rfl (vin (by decide +kernel)) dX8_behind_9 ?_
  refine tpi (y := 0) (rfl) ?_
  exact fiI hx hb hr hlk hK hP hD hS dX8_behind_10 (Nat.le_of_ble_eq_true rfl) (Nat.le_of_ble_eq_true rfl) (⟨rfl, rfl⟩)
set_option maxHeartbeats 4000000 in
set_option maxRecDepth 100000 in
theorem c_X8_spreadOneNight_2 (l : Launch) (V : GV) (y : Nat → Nat) (h0 : Nat) (h1 : Nat) (h2 : Nat) (h3 : Nat) (h4 : Nat) (h5 : Nat) (h6 : Nat) (h7 : Nat) (h8 : Nat) (h9 : Nat) : Ct l V yX8_spreadOneNight (.code yX8_spreadOneNight cX8_spreadOneNight 5 none) 3 [.ref h0, .int 1, .int 10] [(h6, aI V 1 (upd (fun _ => 0) 0 10)), (h7, aI V 4 (fun _ => 0)), (h8, aI V 1 (fun _ => 0)), (h9, aI V 1 (upd (fun _ => 0) 0 1)), (h0, .inr (8, [.int 0, .int 1, .ref h4, .ref h8, .ref h6, .int 1, .int 1, .ref (y 19), .ref h5, .ref h2, .ref h7, .ref h1, .ref h3, .ref h9, .int 0, .int 0, .int 1]))] 0 0 (QV V (fun (w : va_W) => (w = [(h6, aI V 1 (upd (fun _ => 0) 0 10)), (h7, aI V 4 (fun _ => 0)), (h8, aI V 1 (fun _ => 0)), (h9, aI V 1 (upd (fun _ => 0) 0 100)), (h0, .inr (8, [.int 0, .int 1, .ref h4, .ref h8, .ref h9, .int 1, .int 1, .ref (y 19), .ref h5, .ref h2, .ref h7, .ref h1, .ref h3, .ref h6, .int 0, .int 0, .int 1]))]))) := by
  refine Ct.of (by decide) (Nat.le_of_ble_eq_true rfl) (fun p e s m below meth c A ls hx hb hr hml hown hlk hnm hg hP hK hD hE hA hS hl => ?_)
  have hl : lv_has ls 5 [(0, .ref h0), (1, .int 1), (2, .int 10)] := hl
  refine lv_aload_n hx hb dX8_spreadOneNight_0 rfl (lv_at hl 0 rfl) ?_
  refine va_get (ci := 8) (v := .ref h9) (C := RX8) (T := TX8) (N := 17) hx hb hg inX8 hown hK hP 4 rfl rfl 13 (by decide) (hg _ q_4_87) (fun _ h9 => h9) rfl dX8_spreadOneNight_1 ?_
  refine lv_iconst (v := 0) hx hb dX8_spreadOneNight_4 (by decide) ?_
  refine lv_aload_n hx hb dX8_spreadOneNight_5 rfl (lv_at hl 0 rfl) ?_
  refine va_get (ci := 8) (v := .int 1) (C := RX8) (T := TX8) (N := 17) hx hb hg inX8 hown hK hP 4 rfl rfl 5 (by decide) (hg _ q_4_76) (fun _ h9 => h9) rfl dX8_spreadOneNight_6 ?_
  refine lv_iconst (v := 0) hx hb dX8_spreadOneNight_9 (by decide) ?_
  refine jnV (wr := [(h6, aI V 1 (upd (fun _ => 0) 0 10)), (h7, aI V 4 (fun _ => 0)), (h8, aI V 1 (fun _ => 0)), (h0, .inr (8, [.int 0, .int 1, .ref h4, .ref h8, .ref h6, .int 1, .int 1, .ref (y 19), .ref h5, .ref h2, .ref h7, .ref h1, .ref h3, .ref h9, .int 0, .int 0, .int 1]))]) (rnS (rest := []) ⟨hx, hb, hml, hown, hg⟩ (c_J7_fill_fda19_1 l V h9) mt_J7_fill_fda19 q_4_172 ⟨Nat.le_of_ble_eq_true rfl, Nat.le_of_ble_eq_true rfl⟩ hK hP hD hS hA hE [3] rfl rfl rfl hl.1 rfl (Nat.le_of_ble_eq_true rfl) dX8_spreadOneNight_10 ⟨Nat.le_of_ble_eq_true rfl, Nat.le_of_ble_eq_true rfl⟩) hP hD hS hA [3] [0, 1, 2, 4] rfl rfl rfl (by decide) (fun  w H locs hw hP hD hS => ?_)
  subst hw
  have hP : va_P V.1 vwCl [(h6, aI V 1 (upd (fun _ => 0) 0 10)), (h7, aI V 4 (fun _ => 0)), (h8, aI V 1 (fun _ => 0)), (h0, .inr (8, [.int 0, .int 1, .ref h4, .ref h8, .ref h6, .int 1, .int 1, .ref (y 19), .ref h5, .ref h2, .ref h7, .ref h1, .ref h3, .ref h9, .int 0, .int 0, .int 1])), (h9, aI V 1 (fun _ => 0))] H := hP
  have hD : va_D A [(h6, aI V 1 (upd (fun _ => 0) 0 10)), (h7, aI V 4 (fun _ => 0)), (h8, aI V 1 (fun _ => 0)), (h0, .inr (8, [.int 0, .int 1, .ref h4, .ref h8, .ref h6, .int 1, .int 1, .ref (y 19), .ref h5, .ref h2, .ref h7, .ref h1, .ref h3, .ref h9, .int 0, .int 0, .int 1])), (h9, aI V 1 (fun _ => 0))] := hD
  refine lv_iconst (v := 0) hx hb dX8_spreadOneNight_13 (by decide) ?_
  refine lv_istore_n (lv' := [(3, .int 0), (0, .ref h0), (1, .int 1), (2, .int 10)]) hx hb dX8_spreadOneNight_14 rfl hl (by decide) rfl (fun ls hl => ?_)
  refine lv_iload_n hx hb dX8_spreadOneNight_15 rfl (lv_at hl 0 rfl) ?_
  refine lv_aload_n hx hb dX8_spreadOneNight_16 rfl (lv_at hl 1 rfl) ?_
  refine va_get (ci := 8) (v := .int 1) (C := RX8) (T := TX8) (N := 17) hx hb hg inX8 hown hK hP 3 rfl rfl 16 (by decide) (hg _ q_4_90) (fun _ h9 => h9) rfl dX8_spreadOneNight_17 ?_
  refine lv_icmp_ge (tgt := 109) hx hb dX8_spreadOneNight_20 (by decide) (fun c_1 => absurd c_1 (by decide)) (fun _ => ?_)
  refine lv_aload_n hx hb dX8_spreadOneNight_23 rfl (lv_at hl 1 rfl) ?_
  refine va_get (ci := 8) (v := .ref h8) (C := RX8) (T := TX8) (N := 17) hx hb hg inX8 hown hK hP 3 rfl rfl 3 (by decide) (hg _ q_4_72) (fun _ h9 => h9) rfl dX8_spreadOneNight_24 ?_
  refine lv_iload_n hx hb dX8_spreadOneNight_27 rfl (lv_at hl 0 rfl) ?_
  refine va_iald hx hb hK hP 2 0 rfl rfl (vin (by decide +kernel)) dX8_spreadOneNight_28 ?_
  refine tpi (y := 0) (rfl) ?_
  refine lv_iload_n hx hb dX8_spreadOneNight_29 rfl (lv_at hl 2 rfl) ?_
  refine lv_icmp_gt (tgt := 109) hx hb dX8_spreadOneNight_30 (by decide) (fun c_2 => absurd c_2 (by decide)) (fun _ => ?_)
  refine lv_aload_n hx hb dX8_spreadOneNight_33 rfl (lv_at hl 1 rfl) ?_
  refine va_get (ci := 8) (v := .ref h6) (C := RX8) (T := TX8) (N := 17) hx hb hg inX8 hown hK hP 3 rfl rfl 4 (by decide) (hg _ q_4_74) (fun _ h9 => h9) rfl dX8_spreadOneNight_34 ?_
  refine lv_iload_n hx hb dX8_spreadOneNight_37 rfl (lv_at hl 0 rfl) ?_
  refine va_iald hx hb hK hP 0 0 rfl rfl (vin (by decide +kernel)) dX8_spreadOneNight_38 ?_
  refine tpi (y := 10) (rfl) ?_
  refine lv_if_eq (tgt := 103) hx hb dX8_spreadOneNight_39 (by decide) (fun c_3 => absurd c_3 (by decide)) (fun _ => ?_)
  refine lv_aload_n hx hb dX8_spreadOneNight_42 rfl (lv_at hl 1 rfl) ?_
  refine va_get (ci := 8) (v := .ref h9) (C := RX8) (T := TX8) (N := 17) hx hb hg inX8 hown hK hP 3 rfl rfl 13 (by decide) (hg _ q_4_87) (fun _ h9 => h9) rfl dX8_spreadOneNight_43 ?_
  refine lv_aload_n hx hb dX8_spreadOneNight_46 rfl (lv_at hl 1 rfl) ?_
  refine lv_iload_n hx hb dX8_spreadOneNight_47 rfl (lv_at hl 0 rfl) ?_
  refine lv_iconst (v := 0) hx hb dX8_spreadOneNight_48 (by decide) ?_
  refine jnI (wr := [(h6, aI V 1 (upd (fun _ => 0) 0 10)), (h8, aI V 1 (fun _ => 0)), (h9, aI V 1 (fun _ => 0))]) (rnV (rest := [.ref h9]) ⟨hx, hb, hml, hown, hg⟩ (c_X8_behind_4 l V y h0 h6 h7 h8 h4 h5 h2 h1 h3 h9) mt_X8_behind q_4_182 ⟨Nat.le_of_ble_eq_true rfl, Nat.le_of_ble_eq_true rfl⟩ hK hP hD hS hA hE [1, 3] rfl rfl 3 rfl rfl rfl rfl hl.1 rfl (Nat.le_of_ble_eq_true rfl) dX8_spreadOneNight_49 ⟨Nat.le_of_ble_eq_true rfl, Nat.le_of_ble_eq_true rfl⟩) hP hD hS hA [1, 3] [0, 2, 4] rfl rfl rfl (by decide) (fun r_4 w H locs hw hP hD hS => ?_)
  obtain ⟨rfl, rfl⟩ := hw
  have hP : va_P V.1 vwCl [(h6, aI V 1 (upd (fun _ => 0) 0 10)), (h8, aI V 1 (fun _ => 0)), (h9, aI V 1 (fun _ => 0)), (h7, aI V 4 (fun _ => 0)), (h0, .inr (8, [.int 0, .int 1, .ref h4, .ref h8, .ref h6, .int 1, .int 1, .ref (y 19), .ref h5, .ref h2, .ref h7, .ref h1, .ref h3, .ref h9, .int 0, .int 0, .int 1]))] H := hP
  have hD : va_D A [(h6, aI V 1 (upd (fun _ => 0) 0 10)), (h8, aI V 1 (fun _ => 0)), (h9, aI V 1 (fun _ => 0)), (h7, aI V 4 (fun _ => 0)), (h0, .inr (8, [.int 0, .int 1, .ref h4, .ref h8, .ref h6, .int 1, .int 1, .ref (y 19), .ref h5, .ref h2, .ref h7, .ref h1, .ref h3, .ref h9, .int 0, .int 0, .int 1]))] := hD
  refine lv_dup2_11 hx hb dX8_spreadOneNight_52 rfl rfl ?_
  refine va_iald hx hb hK hP 2 0 rfl rfl (vin (by decide +kernel)) dX8_spreadOneNight_53 ?_
  refine tpi (y := 0) (rfl) ?_
  refine lv_aload_n hx hb dX8_spreadOneNight_54 rfl (lv_at hl 1 rfl) ?_
  refine va_get (ci := 8) (v := .ref h6) (C := RX8) (T := TX8) (N := 17) hx hb hg inX8 hown hK hP 4 rfl rfl 4 (by decide) (hg _ q_4_74) (fun _ h9 => h9) rfl dX8_spreadOneNight_55 ?_
  refine lv_iload_n hx hb dX8_spreadOneNight_58 rfl (lv_at hl 0 rfl) ?_
  refine va_iald hx hb hK hP 0 0 rfl rfl (vin (by decide +kernel)) dX8_spreadOneNight_59 ?_
  refine tpi (y := 10) (rfl) ?_
  refine lv_iload_n hx hb dX8_spreadOneNight_60 rfl (lv_at hl 3 rfl) ?_
  refine lv_imul hx hb dX8_spreadOneNight_61 ?_
  refine tpi (y := 100) (by decide +kernel) ?_
  refine lv_iadd hx hb dX8_spreadOneNight_62 ?_
  refine tpi (y := 100) (by decide +kernel) ?_
  refine va_iast hx hb hK hP hD hS 2 0 rfl rfl (vin (by decide +kernel)) dX8_spreadOneNight_63 (fun H locs hP hD hS => ?_)
  have hP : va_P V.1 vwCl [(h6, aI V 1 (upd (fun _ => 0) 0 10)), (h8, aI V 1 (fun _ => 0)), (h9, aI V 1 (upd (fun _ => 0) 0 100)), (h7, aI V 4 (fun _ => 0)), (h0, .inr (8, [.int 0, .int 1, .ref h4, .ref h8, .ref h6, .int 1, .int 1, .ref (y 19), .ref h5, .ref h2, .ref h7, .ref h1, .ref h3, .ref h9, .int 0, .int 0, .int 1]))] H := hP
  have hD : va_D A [(h6, aI V 1 (upd (fun _ => 0) 0 10)), (h8, aI V 1 (fun _ => 0)), (h9, aI V 1 (upd (fun _ => 0) 0 100)), (h7, aI V 4 (fun _ => 0)), (h0, .inr (8, [.int 0, .int 1, .ref h4, .ref h8, .ref h6, .int 1, .int 1, .ref (y 19), .ref h5, .ref h2, .ref h7, .ref h1, .ref h3, .ref h9, .int 0, .int 0, .int 1]))] := hD
  refine lv_iconst (v := 1) hx hb dX8_spreadOneNight_64 (by decide) ?_
  refine lv_istore (lv' := [(4, .int 1), (3, .int 0), (0, .ref h0), (1, .int 1), (2, .int 10)]) hx hb dX8_spreadOneNight_65 hl (by decide) rfl (fun ls hl => ?_)
  refine lv_iload hx hb dX8_spreadOneNight_67 (lv_at hl 0 rfl) ?_
  refine lv_aload_n hx hb dX8_spreadOneNight_69 rfl (lv_at hl 2 rfl) ?_
  refine va_get (ci := 8) (v := .int 1) (C := RX8) (T := TX8) (N := 17) hx hb hg inX8 hown hK hP 4 rfl rfl 6 (by decide) (hg _ q_4_80) (fun _ h9 => h9) rfl dX8_spreadOneNight_70 ?_
  refine lv_icmp_ge (tgt := 103) hx hb dX8_spreadOneNight_73 (by decide) (fun _ => ?_) (fun c_5 => absurd c_5 (by decide))
  refine lv_iinc (v := 1) (lv' := [(3, .int 1), (4, .int 1), (0, .ref h0), (1, .int 1), (2, .int 10)]) hx hb dX8_spreadOneNight_103 hl (k := 1) rfl (by decide +kernel) (by decide) rfl (fun ls hl => ?_)
  refine lv_goto (tgt := 15) hx hb dX8_spreadOneNight_106 (by decide) ?_
  refine lv_iload_n hx hb dX8_spreadOneNight_15 rfl (lv_at hl 0 rfl) ?_
  refine lv_aload_n hx hb dX8_spreadOneNight_16 rfl (lv_at hl 2 rfl) ?_
  refine va_get (ci := 8) (v := .int 1) (C := RX8) (T := TX8) (N := 17) hx hb hg inX8 hown hK hP 4 rfl rfl 16 (by decide) (hg _ q_4_90) (fun _ h9 => h9) rfl dX8_spreadOneNight_17 ?_
  refine lv_icmp_ge (tgt := 109) hx hb dX8_spreadOneNight_20 (by decide) (fun _ => ?_) (fun c_6 => absurd c_6 (by decide))
  refine lv_aload_n hx hb dX8_spreadOneNight_109 rfl (lv_at hl 2 rfl) ?_
  refine va_get (ci := 8) (v := .ref h6) (C := RX8) (T := TX8) (N := 17) hx hb hg inX8 hown hK hP 4 rfl rfl 4 (by decide) (hg _ q_4_74) (fun _ h9 => h9) rfl dX8_spreadOneNight_110 ?_
  refine lv_astore_n (lv' := [(3, .ref h6), (4, .int 1), (0, .ref h0), (1, .int 1), (2, .int 10)]) hx hb dX8_spreadOneNight_113 rfl hl (by decide) rfl (fun ls hl => ?_)
  refine lv_aload_n hx hb dX8_spreadOneNight_114 rfl (lv_at hl 2 rfl) ?_
  refine lv_aload_n hx hb dX8_spreadOneNight_115 rfl (lv_at hl 2 rfl) ?_
  refine va_get (ci := 8) (v := .ref h9) (C := RX8) (T := TX8) (N := 17) hx hb hg inX8 hown hK hP 4 rfl rfl 13 (by decide) (hg _ q_4_87) (fun _ h9 => h9) rfl dX8_spreadOneNight_116 ?_
  refine va_put (ci := 8) (v := .ref h9) (ty := (.array .int)) (C := RX8) (T := TX8) (N := 17) hx hb hg inX8 tyX8 tyX8_ok nmX8 hown hK hP hD hS 4 rfl rfl 4 (by decide) (hg _ q_4_74) (fun _ h9 => h9) rfl (by decide +kernel) rfl rfl (Nat.le_of_ble_eq_true rfl) dX8_spreadOneNight_119 (fun H locs hP hD hS => ?_)
  have hP : va_P V.1 vwCl [(h6, aI V 1 (upd (fun _ => 0) 0 10)), (h8, aI V 1 (fun _ => 0)), (h9, aI V 1 (upd (fun _ => 0) 0 100)), (h7, aI V 4 (fun _ => 0)), (h0, .inr (8, [.int 0, .int 1, .ref h4, .ref h8, .ref h9, .int 1, .int 1, .ref (y 19), .ref h5, .ref h2, .ref h7, .ref h1, .ref h3, .ref h9, .int 0, .int 0, .int 1]))] H := hP
  have hD : va_D A [(h6, aI V 1 (upd (fun _ => 0) 0 10)), (h8, aI V 1 (fun _ => 0)), (h9, aI V 1 (upd (fun _ => 0) 0 100)), (h7, aI V 4 (fun _ => 0)), (h0, .inr (8, [.int 0, .int 1, .ref h4, .ref h8, .ref h9, .int 1, .int 1, .ref (y 19), .ref h5, .ref h2, .ref h7, .ref h1, .ref h3, .ref h9, .int 0, .int 0, .int 1]))] := hD
  refine lv_aload_n hx hb dX8_spreadOneNight_122 rfl (lv_at hl 2 rfl) ?_
  refine lv_aload_n hx hb dX8_spreadOneNight_123 rfl (lv_at hl 0 rfl) ?_
  refine va_put (ci := 8) (v := .ref h6) (ty := (.array .int)) (C := RX8) (T := TX8) (N := 17) hx hb hg inX8 tyX8 tyX8_ok nmX8 hown hK hP hD hS 4 rfl rfl 13 (by decide) (hg _ q_4_87) (fun _ h9 => h9) rfl (by decide +kernel) rfl rfl (Nat.le_of_ble_eq_true rfl) dX8_spreadOneNight_124 (fun H locs hP hD hS => ?_)
  have hP : va_P V.1 vwCl [(h6, aI V 1 (upd (fun _ => 0) 0 10)), (h8, aI V 1 (fun _ => 0)), (h9, aI V 1 (upd (fun _ => 0) 0 100)), (h7, aI V 4 (fun _ => 0)), (h0, .inr (8, [.int 0, .int 1, .ref h4, .ref h8, .ref h9, .int 1, .int 1, .ref (y 19), .ref h5, .ref h2, .ref h7, .ref h1, .ref h3, .ref h6, .int 0, .int 0, .int 1]))] H := hP
  have hD : va_D A [(h6, aI V 1 (upd (fun _ => 0) 0 10)), (h8, aI V 1 (fun _ => 0)), (h9, aI V 1 (upd (fun _ => 0) 0 100)), (h7, aI V 4 (fun _ => 0)), (h0, .inr (8, [.int 0, .int 1, .ref h4, .ref h8, .ref h9, .int 1, .int 1, .ref (y 19), .ref h5, .ref h2, .ref h7, .ref h1, .ref h3, .ref h6, .int 0, .int 0, .int 1]))] := hD
  have hP := subP (ws' := [(h6, aI V 1 (upd (fun _ => 0) 0 10)), (h7, aI V 4 (fun _ => 0)), (h8, aI V 1 (fun _ => 0)), (h9, aI V 1 (upd (fun _ => 0) 0 100)), (h0, .inr (8, [.int 0, .int 1, .ref h4, .ref h8, .ref h9, .int 1, .int 1, .ref (y 19), .ref h5, .ref h2, .ref h7, .ref h1, .ref h3, .ref h6, .int 0, .int 0, .int 1]))]) hP [0, 3, 1, 2, 4] rfl
  have hD := hD.sub (ws' := [(h6, aI V 1 (upd (fun _ => 0) 0 10)), (h7, aI V 4 (fun _ => 0)), (h8, aI V 1 (fun _ => 0)), (h9, aI V 1 (upd (fun _ => 0) 0 100)), (h0, .inr (8, [.int 0, .int 1, .ref h4, .ref h8, .ref h9, .int 1, .int 1, .ref (y 19), .ref h5, .ref h2, .ref h7, .ref h1, .ref h3, .ref h6, .int 0, .int 0, .int 1]))]) [0, 3, 1, 2, 4] rfl rfl
  exact fiV hx hb hr hlk hK hP hD hS dX8_spreadOneNight_127 (Nat.le_of_ble_eq_true rfl) (Nat.le_of_ble_eq_true rfl) (rfl)
set_option maxHeartbeats 4000000 in
set_option maxRecDepth 100000 in
theorem c_X8_spreadOneNight_3 (l : Launch) (V : GV) (y : Nat → Nat) (h0 : Nat) (h1 : Nat) (h2 : Nat) (h3 : Nat) (h4 : Nat) (h5 : Nat) (h6 : Nat) (h7 : Nat) (h8 : Nat) (h9 : Nat) : Ct l V yX8_spreadOneNight (.code yX8_spreadOneNight cX8_spreadOneNight 5 none) 3 [.ref h0, .int 1, .int 10] [(h1, aI V 1 (upd (fun _ => 0) 0 10)), (h2, aI V 4 (fun _ => 0)), (h3, aI V 1 (fun _ => 0)), (h4, aI V 1 (upd (fun _ => 0) 0 1)), (h0, .inr (8, [.int 0, .int 1, .ref h5, .ref h3, .ref h1, .int 1, .int 1, .ref (y 19), .ref h6, .ref h7, .ref h2, .ref h8, .ref h9, .ref h4, .int 0, .int 0, .int 1]))] 0 0 (QV V (fun (w : va_W) => (w = [(h1, aI V 1 (upd (fun _ => 0) 0 10)), (h2, aI V 4 (fun _ => 0)), (h3, aI V 1 (fun _ => 0)), (h4, aI V 1 (upd (fun _ => 0) 0 100)), (h0, .inr (8, [.int 0, .int 1, .ref h5, .ref h3, .ref h4, .int 1, .int 1, .ref (y 19), .ref h6, .ref h7, .ref h2, .ref h8, .ref h9, .ref h1, .int 0, .int 0, .int 1]))]))) := by
  refine Ct.of (by decide) (Nat.le_of_ble_eq_true rfl) (fun p e s m below meth c A ls hx hb hr hml hown hlk hnm hg hP hK hD hE hA hS hl => ?_)
  have hl : lv_has ls 5 [(0, .ref h0), (1, .int 1), (2, .int 10)] := hl
  refine lv_aload_n hx hb dX8_spreadOneNight_0 rfl (lv_at hl 0 rfl) ?_
  refine va_get (ci := 8) (v := .ref h4) (C := RX8) (T := TX8) (N := 17) hx hb hg inX8 hown hK hP 4 rfl rfl 13 (by decide) (hg _ q_4_87) (fun _ h9 => h9) rfl dX8_spreadOneNight_1 ?_
  refine lv_iconst (v := 0) hx hb dX8_spreadOneNight_4 (by decide) ?_
  refine lv_aload_n hx hb dX8_spreadOneNight_5 rfl (lv_at hl 0 rfl) ?_
  refine va_get (ci := 8) (v := .int 1) (C := RX8) (T := TX8) (N := 17) hx hb hg inX8 hown hK hP 4 rfl rfl 5 (by decide) (hg _ q_4_76) (fun _ h9 => h9) rfl dX8_spreadOneNight_6 ?_
  refine lv_iconst (v := 0) hx hb dX8_spreadOneNight_9 (by decide) ?_
  refine jnV (wr := [(h1, aI V 1 (upd (fun _ => 0) 0 10)), (h2, aI V 4 (fun _ => 0)), (h3, aI V 1 (fun _ => 0)), (h0, .inr (8, [.int 0, .int 1, .ref h5, .ref h3, .ref h1, .int 1, .int 1, .ref (y 19), .ref h6, .ref h7, .ref h2, .ref h8, .ref h9, .ref h4, .int 0, .int 0, .int 1]))]) (rnS (rest := []) ⟨hx, hb, hml, hown, hg⟩ (c_J7_fill_fda19_1 l V h4) mt_J7_fill_fda19 q_4_172 ⟨Nat.le_of_ble_eq_true rfl, Nat.le_of_ble_eq_true rfl⟩ hK hP hD hS hA hE [3] rfl rfl rfl hl.1 rfl (Nat.le_of_ble_eq_true rfl) dX8_spreadOneNight_10 ⟨Nat.le_of_ble_eq_true rfl, Nat.le_of_ble_eq_true rfl⟩) hP hD hS hA [3] [0, 1, 2, 4] rfl rfl rfl (by decide) (fun  w H locs hw hP hD hS => ?_)
  subst hw
  have hP : va_P V.1 vwCl [(h1, aI V 1 (upd (fun _ => 0) 0 10)), (h2, aI V 4 (fun _ => 0)), (h3, aI V 1 (fun _ => 0)), (h0, .inr (8, [.int 0, .int 1, .ref h5, .ref h3, .ref h1, .int 1, .int 1, .ref (y 19), .ref h6, .ref h7, .ref h2, .ref h8, .ref h9, .ref h4, .int 0, .int 0, .int 1])), (h4, aI V 1 (fun _ => 0))] H := hP
  have hD : va_D A [(h1, aI V 1 (upd (fun _ => 0) 0 10)), (h2, aI V 4 (fun _ => 0)), (h3, aI V 1 (fun _ => 0)), (h0, .inr (8, [.int 0, .int 1, .ref h5, .ref h3, .ref h1, .int 1, .int 1, .ref (y 19), .ref h6, .ref h7, .ref h2, .ref h8, .ref h9, .ref h4, .int 0, .int 0, .int 1])), (h4, aI V 1 (fun _ => 0))] := hD
  refine lv_iconst (v := 0) hx hb dX8_spreadOneNight_13 (by decide) ?_
  refine lv_istore_n (lv' := [(3, .int 0), (0, .ref h0), (1, .int 1), (2, .int 10)]) hx hb dX8_spreadOneNight_14 rfl hl (by decide) rfl (fun ls hl => ?_)
  refine lv_iload_n hx hb dX8_spreadOneNight_15 rfl (lv_at hl 0 rfl) ?_
  refine lv_aload_n hx hb dX8_spreadOneNight_16 rfl (lv_at hl 1 rfl) ?_
  refine va_get (ci := 8) (v := .int 1) (C := RX8) (T := TX8) (N := 17) hx hb hg inX8 hown hK hP 3 rfl rfl 16 (by decide) (hg _ q_4_90) (fun _ h9 => h9) rfl dX8_spreadOneNight_17 ?_
  refine lv_icmp_ge (tgt := 109) hx hb dX8_spreadOneNight_20 (by decide) (fun c_1 => absurd c_1 (by decide)) (fun _ => ?_)
  refine lv_aload_n hx hb dX8_spreadOneNight_23 rfl (lv_at hl 1 rfl) ?_
  refine va_get (ci := 8) (v := .ref h3) (C := RX8) (T := TX8) (N := 17) hx hb hg inX8 hown hK hP 3 rfl rfl 3 (by decide) (hg _ q_4_72) (fun _ h9 => h9) rfl dX8_spreadOneNight_24 ?_
  refine lv_iload_n hx hb dX8_spreadOneNight_27 rfl (lv_at hl 0 rfl) ?_
  refine va_iald hx hb hK hP 2 0 rfl rfl (vin (by decide +kernel)) dX8_spreadOneNight_28 ?_
  refine tpi (y := 0) (rfl) ?_
  refine lv_iload_n hx hb dX8_spreadOneNight_29 rfl (lv_at hl 2 rfl) ?_
  refine lv_icmp_gt (tgt := 109) hx hb dX8_spreadOneNight_30 (by decide) (fun c_2 => absurd c_2 (by decide)) (fun _ => ?_)
  refine lv_aload_n hx hb dX8_spreadOneNight_33 rfl (lv_at hl 1 rfl) ?_
  refine va_get (ci := 8) (v := .ref h1) (C := RX8) (T := TX8) (N := 17) hx hb hg inX8 hown hK hP 3 rfl rfl 4 (by decide) (hg _ q_4_74) (fun _ h9 => h9) rfl dX8_spreadOneNight_34 ?_
  refine lv_iload_n hx hb dX8_spreadOneNight_37 rfl (lv_at hl 0 rfl) ?_
  refine va_iald hx hb hK hP 0 0 rfl rfl (vin (by decide +kernel)) dX8_spreadOneNight_38 ?_
  refine tpi (y := 10) (rfl) ?_
  refine lv_if_eq (tgt := 103) hx hb dX8_spreadOneNight_39 (by decide) (fun c_3 => absurd c_3 (by decide)) (fun _ => ?_)
  refine lv_aload_n hx hb dX8_spreadOneNight_42 rfl (lv_at hl 1 rfl) ?_
  refine va_get (ci := 8) (v := .ref h4) (C := RX8) (T := TX8) (N := 17) hx hb hg inX8 hown hK hP 3 rfl rfl 13 (by decide) (hg _ q_4_87) (fun _ h9 => h9) rfl dX8_spreadOneNight_43 ?_
  refine lv_aload_n hx hb dX8_spreadOneNight_46 rfl (lv_at hl 1 rfl) ?_
  refine lv_iload_n hx hb dX8_spreadOneNight_47 rfl (lv_at hl 0 rfl) ?_
  refine lv_iconst (v := 0) hx hb dX8_spreadOneNight_48 (by decide) ?_
  refine jnI (wr := [(h1, aI V 1 (upd (fun _ => 0) 0 10)), (h3, aI V 1 (fun _ => 0)), (h4, aI V 1 (fun _ => 0))]) (rnV (rest := [.ref h4]) ⟨hx, hb, hml, hown, hg⟩ (c_X8_behind_4 l V y h0 h1 h2 h3 h5 h6 h7 h8 h9 h4) mt_X8_behind q_4_182 ⟨Nat.le_of_ble_eq_true rfl, Nat.le_of_ble_eq_true rfl⟩ hK hP hD hS hA hE [1, 3] rfl rfl 3 rfl rfl rfl rfl hl.1 rfl (Nat.le_of_ble_eq_true rfl) dX8_spreadOneNight_49 ⟨Nat.le_of_ble_eq_true rfl, Nat.le_of_ble_eq_true rfl⟩) hP hD hS hA [1, 3] [0, 2, 4] rfl rfl rfl (by decide) (fun r_4 w H locs hw hP hD hS => ?_)
  obtain ⟨rfl, rfl⟩ := hw
  have hP : va_P V.1 vwCl [(h1, aI V 1 (upd (fun _ => 0) 0 10)), (h3, aI V 1 (fun _ => 0)), (h4, aI V 1 (fun _ => 0)), (h2, aI V 4 (fun _ => 0)), (h0, .inr (8, [.int 0, .int 1, .ref h5, .ref h3, .ref h1, .int 1, .int 1, .ref (y 19), .ref h6, .ref h7, .ref h2, .ref h8, .ref h9, .ref h4, .int 0, .int 0, .int 1]))] H := hP
  have hD : va_D A [(h1, aI V 1 (upd (fun _ => 0) 0 10)), (h3, aI V 1 (fun _ => 0)), (h4, aI V 1 (fun _ => 0)), (h2, aI V 4 (fun _ => 0)), (h0, .inr (8, [.int 0, .int 1, .ref h5, .ref h3, .ref h1, .int 1, .int 1, .ref (y 19), .ref h6, .ref h7, .ref h2, .ref h8, .ref h9, .ref h4, .int 0, .int 0, .int 1]))] := hD
  refine lv_dup2_11 hx hb dX8_spreadOneNight_52 rfl rfl ?_
  refine va_iald hx hb hK hP 2 0 rfl rfl (vin (by decide +kernel)) dX8_spreadOneNight_53 ?_
  refine tpi (y := 0) (rfl) ?_
  refine lv_aload_n hx hb dX8_spreadOneNight_54 rfl (lv_at hl 1 rfl) ?_
  refine va_get (ci := 8) (v := .ref h1) (C := RX8) (T := TX8) (N := 17) hx hb hg inX8 hown hK hP 4 rfl rfl 4 (by decide) (hg _ q_4_74) (fun _ h9 => h9) rfl dX8_spreadOneNight_55 ?_
  refine lv_iload_n hx hb dX8_spreadOneNight_58 rfl (lv_at hl 0 rfl) ?_
  refine va_iald hx hb hK hP 0 0 rfl rfl (vin (by decide +kernel)) dX8_spreadOneNight_59 ?_
  refine tpi (y := 10) (rfl) ?_
  refine lv_iload_n hx hb dX8_spreadOneNight_60 rfl (lv_at hl 3 rfl) ?_
  refine lv_imul hx hb dX8_spreadOneNight_61 ?_
  refine tpi (y := 100) (by decide +kernel) ?_
  refine lv_iadd hx hb dX8_spreadOneNight_62 ?_
  refine tpi (y := 100) (by decide +kernel) ?_
  refine va_iast hx hb hK hP hD hS 2 0 rfl rfl (vin (by decide +kernel)) dX8_spreadOneNight_63 (fun H locs hP hD hS => ?_)
  have hP : va_P V.1 vwCl [(h1, aI V 1 (upd (fun _ => 0) 0 10)), (h3, aI V 1 (fun _ => 0)), (h4, aI V 1 (upd (fun _ => 0) 0 100)), (h2, aI V 4 (fun _ => 0)), (h0, .inr (8, [.int 0, .int 1, .ref h5, .ref h3, .ref h1, .int 1, .int 1, .ref (y 19), .ref h6, .ref h7, .ref h2, .ref h8, .ref h9, .ref h4, .int 0, .int 0, .int 1]))] H := hP
  have hD : va_D A [(h1, aI V 1 (upd (fun _ => 0) 0 10)), (h3, aI V 1 (fun _ => 0)), (h4, aI V 1 (upd (fun _ => 0) 0 100)), (h2, aI V 4 (fun _ => 0)), (h0, .inr (8, [.int 0, .int 1, .ref h5, .ref h3, .ref h1, .int 1, .int 1, .ref (y 19), .ref h6, .ref h7, .ref h2, .ref h8, .ref h9, .ref h4, .int 0, .int 0, .int 1]))] := hD
  refine lv_iconst (v := 1) hx hb dX8_spreadOneNight_64 (by decide) ?_
  refine lv_istore (lv' := [(4, .int 1), (3, .int 0), (0, .ref h0), (1, .int 1), (2, .int 10)]) hx hb dX8_spreadOneNight_65 hl (by decide) rfl (fun ls hl => ?_)
  refine lv_iload hx hb dX8_spreadOneNight_67 (lv_at hl 0 rfl) ?_
  refine lv_aload_n hx hb dX8_spreadOneNight_69 rfl (lv_at hl 2 rfl) ?_
  refine va_get (ci := 8) (v := .int 1) (C := RX8) (T := TX8) (N := 17) hx hb hg inX8 hown hK hP 4 rfl rfl 6 (by decide) (hg _ q_4_80) (fun _ h9 => h9) rfl dX8_spreadOneNight_70 ?_
  refine lv_icmp_ge (tgt := 103) hx hb dX8_spreadOneNight_73 (by decide) (fun _ => ?_) (fun c_5 => absurd c_5 (by decide))
  refine lv_iinc (v := 1) (lv' := [(3, .int 1), (4, .int 1), (0, .ref h0), (1, .int 1), (2, .int 10)]) hx hb dX8_spreadOneNight_103 hl (k := 1) rfl (by decide +kernel) (by decide) rfl (fun ls hl => ?_)
  refine lv_goto (tgt := 15) hx hb dX8_spreadOneNight_106 (by decide) ?_
  refine lv_iload_n hx hb dX8_spreadOneNight_15 rfl (lv_at hl 0 rfl) ?_
  refine lv_aload_n hx hb dX8_spreadOneNight_16 rfl (lv_at hl 2 rfl) ?_
  refine va_get (ci := 8) (v := .int 1) (C := RX8) (T := TX8) (N := 17) hx hb hg inX8 hown hK hP 4 rfl rfl 16 (by decide) (hg _ q_4_90) (fun _ h9 => h9) rfl dX8_spreadOneNight_17 ?_
  refine lv_icmp_ge (tgt := 109) hx hb dX8_spreadOneNight_20 (by decide) (fun _ => ?_) (fun c_6 => absurd c_6 (by decide))
  refine lv_aload_n hx hb dX8_spreadOneNight_109 rfl (lv_at hl 2 rfl) ?_
  refine va_get (ci := 8) (v := .ref h1) (C := RX8) (T := TX8) (N := 17) hx hb hg inX8 hown hK hP 4 rfl rfl 4 (by decide) (hg _ q_4_74) (fun _ h9 => h9) rfl dX8_spreadOneNight_110 ?_
  refine lv_astore_n (lv' := [(3, .ref h1), (4, .int 1), (0, .ref h0), (1, .int 1), (2, .int 10)]) hx hb dX8_spreadOneNight_113 rfl hl (by decide) rfl (fun ls hl => ?_)
  refine lv_aload_n hx hb dX8_spreadOneNight_114 rfl (lv_at hl 2 rfl) ?_
  refine lv_aload_n hx hb dX8_spreadOneNight_115 rfl (lv_at hl 2 rfl) ?_
  refine va_get (ci := 8) (v := .ref h4) (C := RX8) (T := TX8) (N := 17) hx hb hg inX8 hown hK hP 4 rfl rfl 13 (by decide) (hg _ q_4_87) (fun _ h9 => h9) rfl dX8_spreadOneNight_116 ?_
  refine va_put (ci := 8) (v := .ref h4) (ty := (.array .int)) (C := RX8) (T := TX8) (N := 17) hx hb hg inX8 tyX8 tyX8_ok nmX8 hown hK hP hD hS 4 rfl rfl 4 (by decide) (hg _ q_4_74) (fun _ h9 => h9) rfl (by decide +kernel) rfl rfl (Nat.le_of_ble_eq_true rfl) dX8_spreadOneNight_119 (fun H locs hP hD hS => ?_)
  have hP : va_P V.1 vwCl [(h1, aI V 1 (upd (fun _ => 0) 0 10)), (h3, aI V 1 (fun _ => 0)), (h4, aI V 1 (upd (fun _ => 0) 0 100)), (h2, aI V 4 (fun _ => 0)), (h0, .inr (8, [.int 0, .int 1, .ref h5, .ref h3, .ref h4, .int 1, .int 1, .ref (y 19), .ref h6, .ref h7, .ref h2, .ref h8, .ref h9, .ref h4, .int 0, .int 0, .int 1]))] H := hP
  have hD : va_D A [(h1, aI V 1 (upd (fun _ => 0) 0 10)), (h3, aI V 1 (fun _ => 0)), (h4, aI V 1 (upd (fun _ => 0) 0 100)), (h2, aI V 4 (fun _ => 0)), (h0, .inr (8, [.int 0, .int 1, .ref h5, .ref h3, .ref h4, .int 1, .int 1, .ref (y 19), .ref h6, .ref h7, .ref h2, .ref h8, .ref h9, .ref h4, .int 0, .int 0, .int 1]))] := hD
  refine lv_aload_n hx hb dX8_spreadOneNight_122 rfl (lv_at hl 2 rfl) ?_
  refine lv_aload_n hx hb dX8_spreadOneNight_123 rfl (lv_at hl 0 rfl) ?_
  refine va_put (ci := 8) (v := .ref h1) (ty := (.array .int)) (C := RX8) (T := TX8) (N := 17) hx hb hg inX8 tyX8 tyX8_ok nmX8 hown hK hP hD hS 4 rfl rfl 13 (by decide) (hg _ q_4_87) (fun _ h9 => h9) rfl (by decide +kernel) rfl rfl (Nat.le_of_ble_eq_true rfl) dX8_spreadOneNight_124 (fun H locs hP hD hS => ?_)
  have hP : va_P V.1 vwCl [(h1, aI V 1 (upd (fun _ => 0) 0 10)), (h3, aI V 1 (fun _ => 0)), (h4, aI V 1 (upd (fun _ => 0) 0 100)), (h2, aI V 4 (fun _ => 0)), (h0, .inr (8, [.int 0, .int 1, .ref h5, .ref h3, .ref h4, .int 1, .int 1, .ref (y 19), .ref h6, .ref h7, .ref h2, .ref h8, .ref h9, .ref h1, .int 0, .int 0, .int 1]))] H := hP
  have hD : va_D A [(h1, aI V 1 (upd (fun _ => 0) 0 10)), (h3, aI V 1 (fun _ => 0)), (h4, aI V 1 (upd (fun _ => 0) 0 100)), (h2, aI V 4 (fun _ => 0)), (h0, .inr (8, [.int 0, .int 1, .ref h5, .ref h3, .ref h4, .int 1, .int 1, .ref (y 19), .ref h6, .ref h7, .ref h2, .ref h8, .ref h9, .ref h1, .int 0, .int 0, .int 1]))] := hD
  have hP := subP (ws' := [(h1, aI V 1 (upd (fun _ => 0) 0 10)), (h2, aI V 4 (fun _ => 0)), (h3, aI V 1 (fun _ => 0)), (h4, aI V 1 (upd (fun _ => 0) 0 100)), (h0, .inr (8, [.int 0, .int 1, .ref h5, .ref h3, .ref h4, .int 1, .int 1, .ref (y 19), .ref h6, .ref h7, .ref h2, .ref h8, .ref h9, .ref h1, .int 0, .int 0, .int 1]))]) hP [0, 3, 1, 2, 4] rfl
  have hD := hD.sub (ws' := [(h1, aI V 1 (upd (fun _ => 0) 0 10)), (h2, aI V 4 (fun _ => 0)), (h3, aI V 1 (fun _ => 0)), (h4, aI V 1 (upd (fun _ => 0) 0 100)), (h0, .inr (8, [.int 0, .int 1, .ref h5, .ref h3, .ref h4, .int 1, .int 1, .ref (y 19), .ref h6, .ref h7, .ref h2, .ref h8, .ref h9, .ref h1, .int 0, .int 0, .int 1]))]) [0, 3, 1, 2, 4] rfl rfl
  exact fiV hx hb hr hlk hK hP hD hS dX8_spreadOneNight_127 (Nat.le_of_ble_eq_true rfl) (Nat.le_of_ble_eq_true rfl) (rfl)
set_option maxHeartbeats 4000000 in
set_option maxRecDepth 100000 in
theorem c_X8_spread_4 (l : Launch) (V : GV) (y : Nat → Nat) (h0 : Nat) (h1 : Nat) (h2 : Nat) (h3 : Nat) (h4 : Nat) (h5 : Nat) (h6 : Nat) (h7 : Nat) (h8 : Nat) (h9 : Nat) : Ct l V yX8_spread (.code yX8_spread cX8_spread 4 none) 4 [.ref h0, .int 2, .int 10] [(h2, aI V 1 (fun _ => 0)), (h3, aI V 1 (fun _ => 0)), (h6, aI V 4 (fun _ => 0)), (h0, .inr (8, [.int 0, .int 1, .ref h7, .ref h8, .ref h2, .int 1, .int 1, .ref (y 19), .ref h9, .ref h4, .ref h6, .ref h1, .ref h5, .ref h3, .int 0, .int 0, .int 1])), (h8, aI V 1 (fun _ => 0))] 0 0 (QV V (fun (w : va_W) => (w = [(h2, aI V 1 (upd (fun _ => 0) 0 100)), (h3, aI V 1 (upd (fun _ => 0) 0 10)), (h6, aI V 4 (fun _ => 0)), (h0, .inr (8, [.int 0, .int 1, .ref h7, .ref h8, .ref h2, .int 1, .int 1, .ref (y 19), .ref h9, .ref h4, .ref h6, .ref h1, .ref h5, .ref h3, .int 0, .int 0, .int 1])), (h8, aI V 1 (fun _ => 0))]))) := by
  refine Ct.of (by decide) (Nat.le_of_ble_eq_true rfl) (fun p e s m below meth c A ls hx hb hr hml hown hlk hnm hg hP hK hD hE hA hS hl => ?_)
  have hl : lv_has ls 4 [(0, .ref h0), (1, .int 2), (2, .int 10)] := hl
  refine lv_aload_n hx hb dX8_spread_0 rfl (lv_at hl 0 rfl) ?_
  refine jnV (wr := [(h3, aI V 1 (fun _ => 0)), (h6, aI V 4 (fun _ => 0)), (h8, aI V 1 (fun _ => 0))]) (rnV (rest := []) ⟨hx, hb, hml, hown, hg⟩ (c_X8_beginSpread_3 l V y h0 h2 h3 h6 h7 h8 h9 h4 h1 h5) mt_X8_beginSpread q_4_168 ⟨Nat.le_of_ble_eq_true rfl, Nat.le_of_ble_eq_true rfl⟩ hK hP hD hS hA hE [0, 3] rfl rfl 3 rfl rfl rfl rfl hl.1 rfl (Nat.le_of_ble_eq_true rfl) dX8_spread_1 ⟨Nat.le_of_ble_eq_true rfl, Nat.le_of_ble_eq_true rfl⟩) hP hD hS hA [0, 3] [1, 2, 4] rfl rfl rfl (by decide) (fun  w H locs hw hP hD hS => ?_)
  subst hw
  have hP : va_P V.1 vwCl [(h3, aI V 1 (fun _ => 0)), (h6, aI V 4 (fun _ => 0)), (h8, aI V 1 (fun _ => 0)), (h2, aI V 1 (upd (fun _ => 0) 0 1)), (h0, .inr (8, [.int 0, .int 1, .ref h7, .ref h8, .ref h2, .int 1, .int 1, .ref (y 19), .ref h9, .ref h4, .ref h6, .ref h1, .ref h5, .ref h3, .int 0, .int 0, .int 1]))] H := hP
  have hD : va_D A [(h3, aI V 1 (fun _ => 0)), (h6, aI V 4 (fun _ => 0)), (h8, aI V 1 (fun _ => 0)), (h2, aI V 1 (upd (fun _ => 0) 0 1)), (h0, .inr (8, [.int 0, .int 1, .ref h7, .ref h8, .ref h2, .int 1, .int 1, .ref (y 19), .ref h9, .ref h4, .ref h6, .ref h1, .ref h5, .ref h3, .int 0, .int 0, .int 1]))] := hD
  refine lv_iconst (v := 0) hx hb dX8_spread_4 (by decide) ?_
  refine lv_istore_n (lv' := [(3, .int 0), (0, .ref h0), (1, .int 2), (2, .int 10)]) hx hb dX8_spread_5 rfl hl (by decide) rfl (fun ls hl => ?_)
  refine lv_iload_n hx hb dX8_spread_6 rfl (lv_at hl 0 rfl) ?_
  refine lv_iload_n hx hb dX8_spread_7 rfl (lv_at hl 2 rfl) ?_
  refine lv_icmp_ge (tgt := 23) hx hb dX8_spread_8 (by decide) (fun c_1 => absurd c_1 (by decide)) (fun _ => ?_)
  refine lv_aload_n hx hb dX8_spread_11 rfl (lv_at hl 1 rfl) ?_
  refine lv_iload_n hx hb dX8_spread_12 rfl (lv_at hl 0 rfl) ?_
  refine lv_iload_n hx hb dX8_spread_13 rfl (lv_at hl 3 rfl) ?_
  refine jnV (wr := []) (rnV (rest := []) ⟨hx, hb, hml, hown, hg⟩ (c_X8_spreadOneNight_1 l V y h0 h3 h6 h8 h2 h7 h9 h4 h1 h5) mt_X8_spreadOneNight q_4_178 ⟨Nat.le_of_ble_eq_true rfl, Nat.le_of_ble_eq_true rfl⟩ hK hP hD hS hA hE [0, 1, 2, 3, 4] rfl rfl 4 rfl rfl rfl rfl hl.1 rfl (Nat.le_of_ble_eq_true rfl) dX8_spread_14 ⟨Nat.le_of_ble_eq_true rfl, Nat.le_of_ble_eq_true rfl⟩) hP hD hS hA [0, 1, 2, 3, 4] [] rfl rfl rfl (by decide) (fun  w H locs hw hP hD hS => ?_)
  subst hw
  have hP : va_P V.1 vwCl [(h3, aI V 1 (upd (fun _ => 0) 0 10)), (h6, aI V 4 (fun _ => 0)), (h8, aI V 1 (fun _ => 0)), (h2, aI V 1 (upd (fun _ => 0) 0 1)), (h0, .inr (8, [.int 0, .int 1, .ref h7, .ref h8, .ref h3, .int 1, .int 1, .ref (y 19), .ref h9, .ref h4, .ref h6, .ref h1, .ref h5, .ref h2, .int 0, .int 0, .int 1]))] H := hP
  have hD : va_D A [(h3, aI V 1 (upd (fun _ => 0) 0 10)), (h6, aI V 4 (fun _ => 0)), (h8, aI V 1 (fun _ => 0)), (h2, aI V 1 (upd (fun _ => 0) 0 1)), (h0, .inr (8, [.int 0, .int 1, .ref h7, .ref h8, .ref h3, .int 1, .int 1, .ref (y 19), .ref h9, .ref h4, .ref h6, .ref h1, .ref h5, .ref h2, .int 0, .int 0, .int 1]))] := hD
  refine lv_iinc (v := 1) (lv' := [(3, .int 1), (0, .ref h0), (1, .int 2), (2, .int 10)]) hx hb dX8_spread_17 hl (k := 0) rfl (by decide +kernel) (by decide) rfl (fun ls hl => ?_)
  refine lv_goto (tgt := 6) hx hb dX8_spread_20 (by decide) ?_
  refine lv_iload_n hx hb dX8_spread_6 rfl (lv_at hl 0 rfl) ?_
  refine lv_iload_n hx hb dX8_spread_7 rfl (lv_at hl 2 rfl) ?_
  refine lv_icmp_ge (tgt := 23) hx hb dX8_spread_8 (by decide) (fun c_2 => absurd c_2 (by decide)) (fun _ => ?_)
  refine lv_aload_n hx hb dX8_spread_11 rfl (lv_at hl 1 rfl) ?_
  refine lv_iload_n hx hb dX8_spread_12 rfl (lv_at hl 0 rfl) ?_
  refine lv_iload_n hx hb dX8_spread_13 rfl (lv_at hl 3 rfl) ?_
  refine jnV (wr := []) (rnV (rest := []) ⟨hx, hb, hml, hown, hg⟩ (c_X8_spreadOneNight_3 l V y h0 h3 h6 h8 h2 h7 h9 h4 h1 h5) mt_X8_spreadOneNight q_4_178 ⟨Nat.le_of_ble_eq_true rfl, Nat.le_of_ble_eq_true rfl⟩ hK hP hD hS hA hE [0, 1, 2, 3, 4] rfl rfl 4 rfl rfl rfl rfl hl.1 rfl (Nat.le_of_ble_eq_true rfl) dX8_spread_14 ⟨Nat.le_of_ble_eq_true rfl, Nat.le_of_ble_eq_true rfl⟩) hP hD hS hA [0, 1, 2, 3, 4] [] rfl rfl rfl (by decide) (fun  w H locs hw hP hD hS => ?_)
  subst hw
  have hP : va_P V.1 vwCl [(h3, aI V 1 (upd (fun _ => 0) 0 10)), (h6, aI V 4 (fun _ => 0)), (h8, aI V 1 (fun _ => 0)), (h2, aI V 1 (upd (fun _ => 0) 0 100)), (h0, .inr (8, [.int 0, .int 1, .ref h7, .ref h8, .ref h2, .int 1, .int 1, .ref (y 19), .ref h9, .ref h4, .ref h6, .ref h1, .ref h5, .ref h3, .int 0, .int 0, .int 1]))] H := hP
  have hD : va_D A [(h3, aI V 1 (upd (fun _ => 0) 0 10)), (h6, aI V 4 (fun _ => 0)), (h8, aI V 1 (fun _ => 0)), (h2, aI V 1 (upd (fun _ => 0) 0 100)), (h0, .inr (8, [.int 0, .int 1, .ref h7, .ref h8, .ref h2, .int 1, .int 1, .ref (y 19), .ref h9, .ref h4, .ref h6, .ref h1, .ref h5, .ref h3, .int 0, .int 0, .int 1]))] := hD
  refine lv_iinc (v := 2) (lv' := [(3, .int 2), (0, .ref h0), (1, .int 2), (2, .int 10)]) hx hb dX8_spread_17 hl (k := 0) rfl (by decide +kernel) (by decide) rfl (fun ls hl => ?_)
  refine lv_goto (tgt := 6) hx hb dX8_spread_20 (by decide) ?_
  refine lv_iload_n hx hb dX8_spread_6 rfl (lv_at hl 0 rfl) ?_
  refine lv_iload_n hx hb dX8_spread_7 rfl (lv_at hl 2 rfl) ?_
  refine lv_icmp_ge (tgt := 23) hx hb dX8_spread_8 (by decide) (fun _ => ?_) (fun c_3 => absurd c_3 (by decide))
  have hP := subP (ws' := [(h2, aI V 1 (upd (fun _ => 0) 0 100)), (h3, aI V 1 (upd (fun _ => 0) 0 10)), (h6, aI V 4 (fun _ => 0)), (h0, .inr (8, [.int 0, .int 1, .ref h7, .ref h8, .ref h2, .int 1, .int 1, .ref (y 19), .ref h9, .ref h4, .ref h6, .ref h1, .ref h5, .ref h3, .int 0, .int 0, .int 1])), (h8, aI V 1 (fun _ => 0))]) hP [3, 0, 1, 4, 2] rfl
  have hD := hD.sub (ws' := [(h2, aI V 1 (upd (fun _ => 0) 0 100)), (h3, aI V 1 (upd (fun _ => 0) 0 10)), (h6, aI V 4 (fun _ => 0)), (h0, .inr (8, [.int 0, .int 1, .ref h7, .ref h8, .ref h2, .int 1, .int 1, .ref (y 19), .ref h9, .ref h4, .ref h6, .ref h1, .ref h5, .ref h3, .int 0, .int 0, .int 1])), (h8, aI V 1 (fun _ => 0))]) [3, 0, 1, 4, 2] rfl rfl
  exact fiV hx hb hr hlk hK hP hD hS dX8_spread_23 (Nat.le_of_ble_eq_true rfl) (Nat.le_of_ble_eq_true rfl) (rfl)
set_option maxHeartbeats 4000000 in
set_option maxRecDepth 100000 in
theorem c_X8_spread_5 (l : Launch) (V : GV) (y : Nat → Nat) (h0 : Nat) (h1 : Nat) (h2 : Nat) (h3 : Nat) (h4 : Nat) (h5 : Nat) (h6 : Nat) (h7 : Nat) (h8 : Nat) (h9 : Nat) : Ct l V yX8_spread (.code yX8_spread cX8_spread 4 none) 4 [.ref h0, .int 2, .int 10] [(h1, aI V 1 (fun _ => 0)), (h2, aI V 1 (fun _ => 0)), (h3, aI V 4 (fun _ => 0)), (h0, .inr (8, [.int 0, .int 1, .ref h4, .ref h5, .ref h1, .int 1, .int 1, .ref (y 19), .ref h6, .ref h7, .ref h3, .ref h8, .ref h9, .ref h2, .int 0, .int 0, .int 1])), (h5, aI V 1 (fun _ => 0))] 0 0 (QV V (fun (w : va_W) => (w = [(h1, aI V 1 (upd (fun _ => 0) 0 100)), (h2, aI V 1 (upd (fun _ => 0) 0 10)), (h3, aI V 4 (fun _ => 0)), (h0, .inr (8, [.int 0, .int 1, .ref h4, .ref h5, .ref h1, .int 1, .int 1, .ref (y 19), .ref h6, .ref h7, .ref h3, .ref h8, .ref h9, .ref h2, .int 0, .int 0, .int 1])), (h5, aI V 1 (fun _ => 0))]))) := by
  refine Ct.of (by decide) (Nat.le_of_ble_eq_true rfl) (fun p e s m below meth c A ls hx hb hr hml hown hlk hnm hg hP hK hD hE hA hS hl => ?_)
  have hl : lv_has ls 4 [(0, .ref h0), (1, .int 2), (2, .int 10)] := hl
  refine lv_aload_n hx hb dX8_spread_0 rfl (lv_at hl 0 rfl) ?_
  refine jnV (wr := [(h2, aI V 1 (fun _ => 0)), (h3, aI V 4 (fun _ => 0)), (h5, aI V 1 (fun _ => 0))]) (rnV (rest := []) ⟨hx, hb, hml, hown, hg⟩ (c_X8_beginSpread_3 l V y h0 h1 h2 h3 h4 h5 h6 h7 h8 h9) mt_X8_beginSpread q_4_168 ⟨Nat.le_of_ble_eq_true rfl, Nat.le_of_ble_eq_true rfl⟩ hK hP hD hS hA hE [0, 3] rfl rfl 3 rfl rfl rfl rfl hl.1 rfl (Nat.le_of_ble_eq_true rfl) dX8_spread_1 ⟨Nat.le_of_ble_eq_true rfl, Nat.le_of_ble_eq_true rfl⟩) hP hD hS hA [0, 3] [1, 2, 4] rfl rfl rfl (by decide) (fun  w H locs hw hP hD hS => ?_)
  subst hw
  have hP : va_P V.1 vwCl [(h2, aI V 1 (fun _ => 0)), (h3, aI V 4 (fun _ => 0)), (h5, aI V 1 (fun _ => 0)), (h1, aI V 1 (upd (fun _ => 0) 0 1)), (h0, .inr (8, [.int 0, .int 1, .ref h4, .ref h5, .ref h1, .int 1, .int 1, .ref (y 19), .ref h6, .ref h7, .ref h3, .ref h8, .ref h9, .ref h2, .int 0, .int 0, .int 1]))] H := hP
  have hD : va_D A [(h2, aI V 1 (fun _ => 0)), (h3, aI V 4 (fun _ => 0)), (h5, aI V 1 (fun _ => 0)), (h1, aI V 1 (upd (fun _ => 0) 0 1)), (h0, .inr (8, [.int 0, .int 1, .ref h4, .ref h5, .ref h1, .int 1, .int 1, .ref (y 19), .ref h6, .ref h7, .ref h3, .ref h8, .ref h9, .ref h2, .int 0, .int 0, .int 1]))] := hD
  refine lv_iconst (v := 0) hx hb dX8_spread_4 (by decide) ?_
  refine lv_istore_n (lv' := [(3, .int 0), (0, .ref h0), (1, .int 2), (2, .int 10)]) hx hb dX8_spread_5 rfl hl (by decide) rfl (fun ls hl => ?_)
  refine lv_iload_n hx hb dX8_spread_6 rfl (lv_at hl 0 rfl) ?_
  refine lv_iload_n hx hb dX8_spread_7 rfl (lv_at hl 2 rfl) ?_
  refine lv_icmp_ge (tgt := 23) hx hb dX8_spread_8 (by decide) (fun c_1 => absurd c_1 (by decide)) (fun _ => ?_)
  refine lv_aload_n hx hb dX8_spread_11 rfl (lv_at hl 1 rfl) ?_
  refine lv_iload_n hx hb dX8_spread_12 rfl (lv_at hl 0 rfl) ?_
  refine lv_iload_n hx hb dX8_spread_13 rfl (lv_at hl 3 rfl) ?_
  refine jnV (wr := []) (rnV (rest := []) ⟨hx, hb, hml, hown, hg⟩ (c_X8_spreadOneNight_1 l V y h0 h2 h3 h5 h1 h4 h6 h7 h8 h9) mt_X8_spreadOneNight q_4_178 ⟨Nat.le_of_ble_eq_true rfl, Nat.le_of_ble_eq_true rfl⟩ hK hP hD hS hA hE [0, 1, 2, 3, 4] rfl rfl 4 rfl rfl rfl rfl hl.1 rfl (Nat.le_of_ble_eq_true rfl) dX8_spread_14 ⟨Nat.le_of_ble_eq_true rfl, Nat.le_of_ble_eq_true rfl⟩) hP hD hS hA [0, 1, 2, 3, 4] [] rfl rfl rfl (by decide) (fun  w H locs hw hP hD hS => ?_)
  subst hw
  have hP : va_P V.1 vwCl [(h2, aI V 1 (upd (fun _ => 0) 0 10)), (h3, aI V 4 (fun _ => 0)), (h5, aI V 1 (fun _ => 0)), (h1, aI V 1 (upd (fun _ => 0) 0 1)), (h0, .inr (8, [.int 0, .int 1, .ref h4, .ref h5, .ref h2, .int 1, .int 1, .ref (y 19), .ref h6, .ref h7, .ref h3, .ref h8, .ref h9, .ref h1, .int 0, .int 0, .int 1]))] H := hP
  have hD : va_D A [(h2, aI V 1 (upd (fun _ => 0) 0 10)), (h3, aI V 4 (fun _ => 0)), (h5, aI V 1 (fun _ => 0)), (h1, aI V 1 (upd (fun _ => 0) 0 1)), (h0, .inr (8, [.int 0, .int 1, .ref h4, .ref h5, .ref h2, .int 1, .int 1, .ref (y 19), .ref h6, .ref h7, .ref h3, .ref h8, .ref h9, .ref h1, .int 0, .int 0, .int 1]))] := hD
  refine lv_iinc (v := 1) (lv' := [(3, .int 1), (0, .ref h0), (1, .int 2), (2, .int 10)]) hx hb dX8_spread_17 hl (k := 0) rfl (by decide +kernel) (by decide) rfl (fun ls hl => ?_)
  refine lv_goto (tgt := 6) hx hb dX8_spread_20 (by decide) ?_
  refine lv_iload_n hx hb dX8_spread_6 rfl (lv_at hl 0 rfl) ?_
  refine lv_iload_n hx hb dX8_spread_7 rfl (lv_at hl 2 rfl) ?_
  refine lv_icmp_ge (tgt := 23) hx hb dX8_spread_8 (by decide) (fun c_2 => absurd c_2 (by decide)) (fun _ => ?_)
  refine lv_aload_n hx hb dX8_spread_11 rfl (lv_at hl 1 rfl) ?_
  refine lv_iload_n hx hb dX8_spread_12 rfl (lv_at hl 0 rfl) ?_
  refine lv_iload_n hx hb dX8_spread_13 rfl (lv_at hl 3 rfl) ?_
  refine jnV (wr := []) (rnV (rest := []) ⟨hx, hb, hml, hown, hg⟩ (c_X8_spreadOneNight_3 l V y h0 h2 h3 h5 h1 h4 h6 h7 h8 h9) mt_X8_spreadOneNight q_4_178 ⟨Nat.le_of_ble_eq_true rfl, Nat.le_of_ble_eq_true rfl⟩ hK hP hD hS hA hE [0, 1, 2, 3, 4] rfl rfl 4 rfl rfl rfl rfl hl.1 rfl (Nat.le_of_ble_eq_true rfl) dX8_spread_14 ⟨Nat.le_of_ble_eq_true rfl, Nat.le_of_ble_eq_true rfl⟩) hP hD hS hA [0, 1, 2, 3, 4] [] rfl rfl rfl (by decide) (fun  w H locs hw hP hD hS => ?_)
  subst hw
  have hP : va_P V.1 vwCl [(h2, aI V 1 (upd (fun _ => 0) 0 10)), (h3, aI V 4 (fun _ => 0)), (h5, aI V 1 (fun _ => 0)), (h1, aI V 1 (upd (fun _ => 0) 0 100)), (h0, .inr (8, [.int 0, .int 1, .ref h4, .ref h5, .ref h1, .int 1, .int 1, .ref (y 19), .ref h6, .ref h7, .ref h3, .ref h8, .ref h9, .ref h2, .int 0, .int 0, .int 1]))] H := hP
  have hD : va_D A [(h2, aI V 1 (upd (fun _ => 0) 0 10)), (h3, aI V 4 (fun _ => 0)), (h5, aI V 1 (fun _ => 0)), (h1, aI V 1 (upd (fun _ => 0) 0 100)), (h0, .inr (8, [.int 0, .int 1, .ref h4, .ref h5, .ref h1, .int 1, .int 1, .ref (y 19), .ref h6, .ref h7, .ref h3, .ref h8, .ref h9, .ref h2, .int 0, .int 0, .int 1]))] := hD
  refine lv_iinc (v := 2) (lv' := [(3, .int 2), (0, .ref h0), (1, .int 2), (2, .int 10)]) hx hb dX8_spread_17 hl (k := 0) rfl (by decide +kernel) (by decide) rfl (fun ls hl => ?_)
  refine lv_goto (tgt := 6) hx hb dX8_spread_20 (by decide) ?_
  refine lv_iload_n hx hb dX8_spread_6 rfl (lv_at hl 0 rfl) ?_
  refine lv_iload_n hx hb dX8_spread_7 rfl (lv_at hl 2 rfl) ?_
  refine lv_icmp_ge (tgt := 23) hx hb dX8_spread_8 (by decide) (fun _ => ?_) (fun c_3 => absurd c_3 (by decide))
  have hP := subP (ws' := [(h1, aI V 1 (upd (fun _ => 0) 0 100)), (h2, aI V 1 (upd (fun _ => 0) 0 10)), (h3, aI V 4 (fun _ => 0)), (h0, .inr (8, [.int 0, .int 1, .ref h4, .ref h5, .ref h1, .int 1, .int 1, .ref (y 19), .ref h6, .ref h7, .ref h3, .ref h8, .ref h9, .ref h2, .int 0, .int 0, .int 1])), (h5, aI V 1 (fun _ => 0))]) hP [3, 0, 1, 4, 2] rfl
  have hD := hD.sub (ws' := [(h1, aI V 1 (upd (fun _ => 0) 0 100)), (h2, aI V 1 (upd (fun _ => 0) 0 10)), (h3, aI V 4 (fun _ => 0)), (h0, .inr (8, [.int 0, .int 1, .ref h4, .ref h5, .ref h1, .int 1, .int 1, .ref (y 19), .ref h6, .ref h7, .ref h3, .ref h8, .ref h9, .ref h2, .int 0, .int 0, .int 1])), (h5, aI V 1 (fun _ => 0))]) [3, 0, 1, 4, 2] rfl rfl
  exact fiV hx hb hr hlk hK hP hD hS dX8_spread_23 (Nat.le_of_ble_eq_true rfl) (Nat.le_of_ble_eq_true rfl) (rfl)
set_option maxHeartbeats 4000000 in
set_option maxRecDepth 100000 in
theorem c_X8_spreadByLots_2 (l : Launch) (V : GV) (y : Nat → Nat) (h0 : Nat) (h1 : Nat) (h2 : Nat) (h3 : Nat) (h4 : Nat) (h5 : Nat) (h6 : Nat) (h7 : Nat) (h8 : Nat) (h9 : Nat) : Ct l V yX8_spreadByLots (.code yX8_spreadByLots cX8_spreadByLots 2 none) 5 [.ref h0, .int 2] [(h2, aI V 1 (fun _ => 0)), (h3, aI V 1 (fun _ => 0)), (h6, aI V 4 (fun _ => 0)), (h0, .inr (8, [.int 0, .int 1, .ref h7, .ref h8, .ref h2, .int 1, .int 1, .ref (y 19), .ref h9, .ref h4, .ref h6, .ref h1, .ref h5, .ref h3, .int 0, .int 0, .int 1])), (h8, aI V 1 (fun _ => 0))] 0 0 (QV V (fun (w : va_W) => (w = [(h2, aI V 1 (upd (fun _ => 0) 0 100)), (h3, aI V 1 (upd (fun _ => 0) 0 10)), (h6, aI V 4 (fun _ => 0)), (h0, .inr (8, [.int 0, .int 1, .ref h7, .ref h8, .ref h2, .int 1, .int 1, .ref (y 19), .ref h9, .ref h4, .ref h6, .ref h1, .ref h5, .ref h3, .int 0, .int 0, .int 1])), (h8, aI V 1 (fun _ => 0))]))) := by
  refine Ct.of (by decide) (Nat.le_of_ble_eq_true rfl) (fun p e s m below meth c A ls hx hb hr hml hown hlk hnm hg hP hK hD hE hA hS hl => ?_)
  have hl : lv_has ls 2 [(0, .ref h0), (1, .int 2)] := hl
  refine lv_aload_n hx hb dX8_spreadByLots_0 rfl (lv_at hl 0 rfl) ?_
  refine lv_iload_n hx hb dX8_spreadByLots_1 rfl (lv_at hl 1 rfl) ?_
  refine lv_bipush (v := 11) hx hb dX8_spreadByLots_2 (by decide) ?_
  refine lv_aload_n hx hb dX8_spreadByLots_4 rfl (lv_at hl 0 rfl) ?_
  refine va_get (ci := 8) (v := .int 1) (C := RX8) (T := TX8) (N := 17) hx hb hg inX8 hown hK hP 3 rfl rfl 6 (by decide) (hg _ q_4_80) (fun _ h9 => h9) rfl dX8_spreadByLots_5 ?_
  refine lv_isub hx hb dX8_spreadByLots_8 ?_
  refine tpi (y := 10) (by decide +kernel) ?_
  refine jnV (wr := []) (rnV (rest := []) ⟨hx, hb, hml, hown, hg⟩ (c_X8_spread_5 l V y h0 h2 h3 h6 h7 h8 h9 h4 h1 h5) mt_X8_spread q_5_162 ⟨Nat.le_of_ble_eq_true rfl, Nat.le_of_ble_eq_true rfl⟩ hK hP hD hS hA hE [0, 1, 2, 3, 4] rfl rfl 3 rfl rfl rfl rfl hl.1 rfl (Nat.le_of_ble_eq_true rfl) dX8_spreadByLots_9 ⟨Nat.le_of_ble_eq_true rfl, Nat.le_of_ble_eq_true rfl⟩) hP hD hS hA [0, 1, 2, 3, 4] [] rfl rfl rfl (by decide) (fun  w H locs hw hP hD hS => ?_)
  subst hw
  have hP : va_P V.1 vwCl [(h2, aI V 1 (upd (fun _ => 0) 0 100)), (h3, aI V 1 (upd (fun _ => 0) 0 10)), (h6, aI V 4 (fun _ => 0)), (h0, .inr (8, [.int 0, .int 1, .ref h7, .ref h8, .ref h2, .int 1, .int 1, .ref (y 19), .ref h9, .ref h4, .ref h6, .ref h1, .ref h5, .ref h3, .int 0, .int 0, .int 1])), (h8, aI V 1 (fun _ => 0))] H := hP
  have hD : va_D A [(h2, aI V 1 (upd (fun _ => 0) 0 100)), (h3, aI V 1 (upd (fun _ => 0) 0 10)), (h6, aI V 4 (fun _ => 0)), (h0, .inr (8, [.int 0, .int 1, .ref h7, .ref h8, .ref h2, .int 1, .int 1, .ref (y 19), .ref h9, .ref h4, .ref h6, .ref h1, .ref h5, .ref h3, .int 0, .int 0, .int 1])), (h8, aI V 1 (fun _ => 0))] := hD
  exact fiV hx hb hr hlk hK hP hD hS dX8_spreadByLots_12 (Nat.le_of_ble_eq_true rfl) (Nat.le_of_ble_eq_true rfl) (rfl)
set_option maxHeartbeats 4000000 in
set_option maxRecDepth 100000 in
theorem c_X9_greatestCommon_2 (l : Launch) (V : GV) : Ct l V yX9_greatestCommon (.code yX9_greatestCommon cX9_greatestCommon 6 (some .int)) 1 [.int 0, .int 100] [] 0 0 (QI V (fun (r : Int32) (w : va_W) => (r = 100 ∧ w = []))) := by
  refine Ct.of (by decide) (Nat.le_of_ble_eq_true rfl) (fun p e s m below meth c A ls hx hb hr hml hown hlk hnm hg hP hK hD hE hA hS hl => ?_)
  have hl : lv_has ls 6 [(0, .int 0), (1, .int 100)] := hl
  refine lv_iload_n hx hb dX9_greatestCommon_0 rfl (lv_at hl 0 rfl) ?_
  refine lv_istore_n (lv' := [(2, .int 0), (0, .int 0), (1, .int 100)]) hx hb dX9_greatestCommon_1 rfl hl (by decide) rfl (fun ls hl => ?_)
  refine lv_iload_n hx hb dX9_greatestCommon_2 rfl (lv_at hl 2 rfl) ?_
  refine lv_istore_n (lv' := [(3, .int 100), (2, .int 0), (0, .int 0), (1, .int 100)]) hx hb dX9_greatestCommon_3 rfl hl (by decide) rfl (fun ls hl => ?_)
  refine lv_iconst (v := 0) hx hb dX9_greatestCommon_4 (by decide) ?_
  refine lv_istore (lv' := [(4, .int 0), (3, .int 100), (2, .int 0), (0, .int 0), (1, .int 100)]) hx hb dX9_greatestCommon_5 hl (by decide) rfl (fun ls hl => ?_)
  refine lv_iload hx hb dX9_greatestCommon_7 (lv_at hl 0 rfl) ?_
  refine lv_bipush (v := 100) hx hb dX9_greatestCommon_9 (by decide) ?_
  refine lv_icmp_ge (tgt := 34) hx hb dX9_greatestCommon_11 (by decide) (fun c_1 => absurd c_1 (by decide)) (fun _ => ?_)
  refine lv_iload_n hx hb dX9_greatestCommon_14 rfl (lv_at hl 1 rfl) ?_
  refine lv_if_eq (tgt := 34) hx hb dX9_greatestCommon_15 (by decide) (fun c_2 => absurd c_2 (by decide)) (fun _ => ?_)
  refine lv_iload_n hx hb dX9_greatestCommon_18 rfl (lv_at hl 2 rfl) ?_
  refine lv_iload_n hx hb dX9_greatestCommon_19 rfl (lv_at hl 1 rfl) ?_
  refine lv_irem hx hb dX9_greatestCommon_20 (by decide) ?_
  refine tpi (y := 0) (by decide +kernel) ?_
  refine lv_istore (lv' := [(5, .int 0), (4, .int 0), (3, .int 100), (2, .int 0), (0, .int 0), (1, .int 100)]) hx hb dX9_greatestCommon_21 hl (by decide) rfl (fun ls hl => ?_)
  refine lv_iload_n hx hb dX9_greatestCommon_23 rfl (lv_at hl 2 rfl) ?_
  refine lv_istore_n (lv' := [(2, .int 100), (5, .int 0), (4, .int 0), (3, .int 100), (0, .int 0), (1, .int 100)]) hx hb dX9_greatestCommon_24 rfl hl (by decide) rfl (fun ls hl => ?_)
  refine lv_iload hx hb dX9_greatestCommon_25 (lv_at hl 1 rfl) ?_
  refine lv_istore_n (lv' := [(3, .int 0), (2, .int 100), (5, .int 0), (4, .int 0), (0, .int 0), (1, .int 100)]) hx hb dX9_greatestCommon_27 rfl hl (by decide) rfl (fun ls hl => ?_)
  refine lv_iinc (v := 1) (lv' := [(4, .int 1), (3, .int 0), (2, .int 100), (5, .int 0), (0, .int 0), (1, .int 100)]) hx hb dX9_greatestCommon_28 hl (k := 3) rfl (by decide +kernel) (by decide) rfl (fun ls hl => ?_)
  refine lv_goto (tgt := 7) hx hb dX9_greatestCommon_31 (by decide) ?_
  refine lv_iload hx hb dX9_greatestCommon_7 (lv_at hl 0 rfl) ?_
  refine lv_bipush (v := 100) hx hb dX9_greatestCommon_9 (by decide) ?_
  refine lv_icmp_ge (tgt := 34) hx hb dX9_greatestCommon_11 (by decide) (fun c_3 => absurd c_3 (by decide)) (fun _ => ?_)
  refine lv_iload_n hx hb dX9_greatestCommon_14 rfl (lv_at hl 1 rfl) ?_
  refine lv_if_eq (tgt := 34) hx hb dX9_greatestCommon_15 (by decide) (fun _ => ?_) (fun c_4 => absurd c_4 (by decide))
  refine lv_iload_n hx hb dX9_greatestCommon_34 rfl (lv_at hl 2 rfl) ?_
  exact fiI hx hb hr hlk hK hP hD hS dX9_greatestCommon_35 (Nat.le_of_ble_eq_true rfl) (Nat.le_of_ble_eq_true rfl) (⟨rfl, rfl⟩)
set_option maxHeartbeats 4000000 in
set_option maxRecDepth 100000 in
theorem c_X9_inLowestTerms_2 (l : Launch) (V : GV) (p0 : Int32) : Ct l V yX9_inLowestTerms (.code yX9_inLowestTerms cX9_inLowestTerms 5 (some .int)) 2 [.int 0, .int 2, .int p0] [] 0 0 (QI V (fun (r : Int32) (w : va_W) => ((¬ p0 = 0) ∧ r = 1 ∧ w = []) ∨ (p0 = 0 ∧ r = 0 ∧ w = []))) := by
  refine Ct.of (by decide) (Nat.le_of_ble_eq_true rfl) (fun p e s m below meth c A ls hx hb hr hml hown hlk hnm hg hP hK hD hE hA hS hl => ?_)
  have hl : lv_has ls 5 [(0, .int 0), (1, .int 2), (2, .int p0)] := hl
  refine lv_iconst (v := 1) hx hb dX9_inLowestTerms_0 (by decide) ?_
  refine lv_istore_n (lv' := [(3, .int 1), (0, .int 0), (1, .int 2), (2, .int p0)]) hx hb dX9_inLowestTerms_1 rfl hl (by decide) rfl (fun ls hl => ?_)
  refine lv_iconst (v := 0) hx hb dX9_inLowestTerms_2 (by decide) ?_
  refine lv_istore (lv' := [(4, .int 0), (3, .int 1), (0, .int 0), (1, .int 2), (2, .int p0)]) hx hb dX9_inLowestTerms_3 hl (by decide) rfl (fun ls hl => ?_)
  refine lv_iload hx hb dX9_inLowestTerms_5 (lv_at hl 0 rfl) ?_
  refine lv_iload_n hx hb dX9_inLowestTerms_7 rfl (lv_at hl 3 rfl) ?_
  refine lv_icmp_ge (tgt := 22) hx hb dX9_inLowestTerms_8 (by decide) (fun c_1 => absurd c_1 (by decide)) (fun _ => ?_)
  refine lv_iload_n hx hb dX9_inLowestTerms_11 rfl (lv_at hl 1 rfl) ?_
  refine lv_bipush (v := 10) hx hb dX9_inLowestTerms_12 (by decide) ?_
  refine lv_imul hx hb dX9_inLowestTerms_14 ?_
  refine tpi (y := 10) (by decide +kernel) ?_
  refine lv_istore_n (lv' := [(3, .int 10), (4, .int 0), (0, .int 0), (1, .int 2), (2, .int p0)]) hx hb dX9_inLowestTerms_15 rfl hl (by decide) rfl (fun ls hl => ?_)
  refine lv_iinc (v := 1) (lv' := [(4, .int 1), (3, .int 10), (0, .int 0), (1, .int 2), (2, .int p0)]) hx hb dX9_inLowestTerms_16 hl (k := 1) rfl (by decide +kernel) (by decide) rfl (fun ls hl => ?_)
  refine lv_goto (tgt := 5) hx hb dX9_inLowestTerms_19 (by decide) ?_
  refine lv_iload hx hb dX9_inLowestTerms_5 (lv_at hl 0 rfl) ?_
  refine lv_iload_n hx hb dX9_inLowestTerms_7 rfl (lv_at hl 3 rfl) ?_
  refine lv_icmp_ge (tgt := 22) hx hb dX9_inLowestTerms_8 (by decide) (fun c_2 => absurd c_2 (by decide)) (fun _ => ?_)
  refine lv_iload_n hx hb dX9_inLowestTerms_11 rfl (lv_at hl 1 rfl) ?_
  refine lv_bipush (v := 10) hx hb dX9_inLowestTerms_12 (by decide) ?_
  refine lv_imul hx hb dX9_inLowestTerms_14 ?_
  refine tpi (y := 100) (by decide +kernel) ?_
  refine lv_istore_n (lv' := [(3, .int 100), (4, .int 1), (0, .int 0), (1, .int 2), (2, .int p0)]) hx hb dX9_inLowestTerms_15 rfl hl (by decide) rfl (fun ls hl => ?_)
  refine lv_iinc (v := 2) (lv' := [(4, .int 2), (3, .int 100), (0, .int 0), (1, .int 2), (2, .int p0)]) hx hb dX9_inLowestTerms_16 hl (k := 1) rfl (by decide +kernel) (by decide) rfl (fun ls hl => ?_)
  refine lv_goto (tgt := 5) hx hb dX9_inLowestTerms_19 (by decide) ?_
  refine lv_iload hx hb dX9_inLowestTerms_5 (lv_at hl 0 rfl) ?_
  refine lv_iload_n hx hb dX9_inLowestTerms_7 rfl (lv_at hl 3 rfl) ?_
  refine lv_icmp_ge (tgt := 22) hx hb dX9_inLowestTerms_8 (by decide) (fun _ => ?_) (fun c_3 => absurd c_3 (by decide))
  refine lv_iload_n hx hb dX9_inLowestTerms_22 rfl (lv_at hl 2 rfl) ?_
  refine lv_iload_n hx hb dX9_inLowestTerms_23 rfl (lv_at hl 1 rfl) ?_
  refine jnI (wr := []) (rnS (rest := []) ⟨hx, hb, hml, hown, hg⟩ (c_X9_greatestCommon_2 l V) mt_X9_greatestCommon q_5_166 ⟨Nat.le_of_ble_eq_true rfl, Nat.le_of_ble_eq_true rfl⟩ hK hP hD hS hA hE [] rfl rfl rfl hl.1 rfl (Nat.le_of_ble_eq_true rfl) dX9_inLowestTerms_24 ⟨Nat.le_of_ble_eq_true rfl, Nat.le_of_ble_eq_true rfl⟩) hP hD hS hA [] [] rfl rfl rfl (by decide) (fun r_4 w H locs hw hP hD hS => ?_)
  obtain ⟨rfl, rfl⟩ := hw
  have hP : va_P V.1 vwCl [] H := hP
  have hD : va_D A [] := hD
  refine lv_istore (lv' := [(4, .int 100), (3, .int 100), (0, .int 0), (1, .int 2), (2, .int p0)]) hx hb dX9_inLowestTerms_27 hl (by decide) rfl (fun ls hl => ?_)
  refine lv_iload hx hb dX9_inLowestTerms_29 (lv_at hl 0 rfl) ?_
  refine lv_if_ne (tgt := 36) hx hb dX9_inLowestTerms_31 (by decide) (fun _ => ?_) (fun c_5 => absurd c_5 (by decide))
  refine lv_iload_n hx hb dX9_inLowestTerms_36 rfl (lv_at hl 4 rfl) ?_
  refine lv_if_ne (tgt := 47) hx hb dX9_inLowestTerms_37 (by decide) (fun c_6 => ?_) (fun c_6 => ?_)
  · refine lv_iload_n hx hb dX9_inLowestTerms_47 rfl (lv_at hl 1 rfl) ?_
    refine lv_iload hx hb dX9_inLowestTerms_48 (lv_at hl 0 rfl) ?_
    refine lv_idiv hx hb dX9_inLowestTerms_50 (by decide) ?_
    refine tpi (y := 1) (by decide +kernel) ?_
    exact fiI hx hb hr hlk hK hP hD hS dX9_inLowestTerms_51 (Nat.le_of_ble_eq_true rfl) (Nat.le_of_ble_eq_true rfl) (Or.inl ⟨c_6, rfl, rfl⟩)
  · refine lv_iload_n hx hb dX9_inLowestTerms_40 rfl (lv_at hl 2 rfl) ?_
    refine lv_iload hx hb dX9_inLowestTerms_41 (lv_at hl 0 rfl) ?_
    refine lv_idiv hx hb dX9_inLowestTerms_43 (by decide) ?_
    refine tpi (y := 0) (by decide +kernel) ?_
    refine lv_goto (tgt := 51) hx hb dX9_inLowestTerms_44 (by decide) ?_
    exact fiI hx hb hr hlk hK hP hD hS dX9_inLowestTerms_51 (Nat.le_of_ble_eq_true rfl) (Nat.le_of_ble_eq_true rfl) (Or.inr (⟨c_6, rfl, rfl⟩))
